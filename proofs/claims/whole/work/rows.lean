section
-- ===== PART A: goes FIRST, ahead of the names: the tables' words, and 'selects' of the private methods out of them =====
/-- a private method of a class that the tables say can be made, by its rows of tables_1 -/
def lw_okq (q : MethodName × Nat) : Prop := (q.1.cls ≠ "java/lang/invoke/MethodHandle" ∧ q.1.cls ≠ "java/lang/invoke/VarHandle") ∧ Cond.instantiable q.1.cls q.2 ∈ tables_1 ∧ Cond.privateMethod q.1 ∈ tables_1 ∧ Cond.instanceMethod q.1 ∈ tables_1
theorem lw_p0 : lw_okq (⟨"GrainLeg", "recorded", "(I)I"⟩, 9) := ⟨⟨by decide +kernel, by decide +kernel⟩, List.mem_of_getElem? (i := 12) (by decide +kernel), List.mem_of_getElem? (i := 267) (by decide +kernel), List.mem_of_getElem? (i := 268) (by decide +kernel)⟩
theorem lw_p1 : lw_okq (⟨"GrainLeg$History", "indexOf", "(I)I"⟩, 3) := ⟨⟨by decide +kernel, by decide +kernel⟩, List.mem_of_getElem? (i := 155) (by decide +kernel), List.mem_of_getElem? (i := 278) (by decide +kernel), List.mem_of_getElem? (i := 279) (by decide +kernel)⟩
theorem lw_p2 : lw_okq (⟨"GrainLeg$Leg", "mayBeReset", "()Z"⟩, 13) := ⟨⟨by decide +kernel, by decide +kernel⟩, List.mem_of_getElem? (i := 20) (by decide +kernel), List.mem_of_getElem? (i := 333) (by decide +kernel), List.mem_of_getElem? (i := 334) (by decide +kernel)⟩
theorem lw_p3 : lw_okq (⟨"GrainLeg$Leg", "tick", "()V"⟩, 13) := ⟨⟨by decide +kernel, by decide +kernel⟩, List.mem_of_getElem? (i := 20) (by decide +kernel), List.mem_of_getElem? (i := 354) (by decide +kernel), List.mem_of_getElem? (i := 355) (by decide +kernel)⟩
theorem lw_p4 : lw_okq (⟨"GrainLeg$Grain", "pourIntoBoot", "(I)V"⟩, 6) := ⟨⟨by decide +kernel, by decide +kernel⟩, List.mem_of_getElem? (i := 49) (by decide +kernel), List.mem_of_getElem? (i := 362) (by decide +kernel), List.mem_of_getElem? (i := 363) (by decide +kernel)⟩
theorem lw_p5 : lw_okq (⟨"GrainLeg$Leg", "slipOf", "(I)I"⟩, 13) := ⟨⟨by decide +kernel, by decide +kernel⟩, List.mem_of_getElem? (i := 20) (by decide +kernel), List.mem_of_getElem? (i := 369) (by decide +kernel), List.mem_of_getElem? (i := 370) (by decide +kernel)⟩
theorem lw_p6 : lw_okq (⟨"GrainLeg$Leg", "moveOneCell", "()V"⟩, 13) := ⟨⟨by decide +kernel, by decide +kernel⟩, List.mem_of_getElem? (i := 20) (by decide +kernel), List.mem_of_getElem? (i := 374) (by decide +kernel), List.mem_of_getElem? (i := 375) (by decide +kernel)⟩
theorem lw_p7 : lw_okq (⟨"GrainLeg$Leg", "rub", "()V"⟩, 13) := ⟨⟨by decide +kernel, by decide +kernel⟩, List.mem_of_getElem? (i := 20) (by decide +kernel), List.mem_of_getElem? (i := 396) (by decide +kernel), List.mem_of_getElem? (i := 397) (by decide +kernel)⟩
theorem lw_p8 : lw_okq (⟨"GrainLeg$Leg", "watch", "()V"⟩, 13) := ⟨⟨by decide +kernel, by decide +kernel⟩, List.mem_of_getElem? (i := 20) (by decide +kernel), List.mem_of_getElem? (i := 403) (by decide +kernel), List.mem_of_getElem? (i := 404) (by decide +kernel)⟩
theorem lw_p9 : lw_okq (⟨"GrainLeg$Leg", "tripBy", "(I)V"⟩, 13) := ⟨⟨by decide +kernel, by decide +kernel⟩, List.mem_of_getElem? (i := 20) (by decide +kernel), List.mem_of_getElem? (i := 415) (by decide +kernel), List.mem_of_getElem? (i := 416) (by decide +kernel)⟩
theorem lw_p10 : lw_okq (⟨"GrainLeg$Text", "readCommand", "()Z"⟩, 6) := ⟨⟨by decide +kernel, by decide +kernel⟩, List.mem_of_getElem? (i := 175) (by decide +kernel), List.mem_of_getElem? (i := 449) (by decide +kernel), List.mem_of_getElem? (i := 450) (by decide +kernel)⟩
theorem lw_p11 : lw_okq (⟨"GrainLeg$Text", "next", "()I"⟩, 6) := ⟨⟨by decide +kernel, by decide +kernel⟩, List.mem_of_getElem? (i := 175) (by decide +kernel), List.mem_of_getElem? (i := 453) (by decide +kernel), List.mem_of_getElem? (i := 454) (by decide +kernel)⟩
theorem lw_p12 : lw_okq (⟨"GrainLeg$Text", "readValue", "(I)Z"⟩, 6) := ⟨⟨by decide +kernel, by decide +kernel⟩, List.mem_of_getElem? (i := 175) (by decide +kernel), List.mem_of_getElem? (i := 461) (by decide +kernel), List.mem_of_getElem? (i := 462) (by decide +kernel)⟩
theorem lw_p13 : lw_okq (⟨"GrainLeg$Text", "readNumber", "(II)Z"⟩, 6) := ⟨⟨by decide +kernel, by decide +kernel⟩, List.mem_of_getElem? (i := 175) (by decide +kernel), List.mem_of_getElem? (i := 467) (by decide +kernel), List.mem_of_getElem? (i := 468) (by decide +kernel)⟩
theorem lw_p14 : lw_okq (⟨"GrainLeg$Text", "nextDigit", "()I"⟩, 6) := ⟨⟨by decide +kernel, by decide +kernel⟩, List.mem_of_getElem? (i := 175) (by decide +kernel), List.mem_of_getElem? (i := 471) (by decide +kernel), List.mem_of_getElem? (i := 472) (by decide +kernel)⟩
theorem lw_p15 : lw_okq (⟨"GrainLeg$Text", "readAlignment", "()Z"⟩, 6) := ⟨⟨by decide +kernel, by decide +kernel⟩, List.mem_of_getElem? (i := 175) (by decide +kernel), List.mem_of_getElem? (i := 475) (by decide +kernel), List.mem_of_getElem? (i := 476) (by decide +kernel)⟩
def lw_privs_1 : List (MethodName × Nat) := [(⟨"GrainLeg", "recorded", "(I)I"⟩, 9), (⟨"GrainLeg$History", "indexOf", "(I)I"⟩, 3), (⟨"GrainLeg$Leg", "mayBeReset", "()Z"⟩, 13), (⟨"GrainLeg$Leg", "tick", "()V"⟩, 13), (⟨"GrainLeg$Grain", "pourIntoBoot", "(I)V"⟩, 6), (⟨"GrainLeg$Leg", "slipOf", "(I)I"⟩, 13), (⟨"GrainLeg$Leg", "moveOneCell", "()V"⟩, 13), (⟨"GrainLeg$Leg", "rub", "()V"⟩, 13), (⟨"GrainLeg$Leg", "watch", "()V"⟩, 13), (⟨"GrainLeg$Leg", "tripBy", "(I)V"⟩, 13), (⟨"GrainLeg$Text", "readCommand", "()Z"⟩, 6), (⟨"GrainLeg$Text", "next", "()I"⟩, 6), (⟨"GrainLeg$Text", "readValue", "(I)Z"⟩, 6), (⟨"GrainLeg$Text", "readNumber", "(II)Z"⟩, 6), (⟨"GrainLeg$Text", "nextDigit", "()I"⟩, 6), (⟨"GrainLeg$Text", "readAlignment", "()Z"⟩, 6)]
theorem lw_r1 : ∀ q ∈ lw_privs_1, lw_okq q := List.forall_mem_cons.mpr ⟨lw_p0, List.forall_mem_cons.mpr ⟨lw_p1, List.forall_mem_cons.mpr ⟨lw_p2, List.forall_mem_cons.mpr ⟨lw_p3, List.forall_mem_cons.mpr ⟨lw_p4, List.forall_mem_cons.mpr ⟨lw_p5, List.forall_mem_cons.mpr ⟨lw_p6, List.forall_mem_cons.mpr ⟨lw_p7, List.forall_mem_cons.mpr ⟨lw_p8, List.forall_mem_cons.mpr ⟨lw_p9, List.forall_mem_cons.mpr ⟨lw_p10, List.forall_mem_cons.mpr ⟨lw_p11, List.forall_mem_cons.mpr ⟨lw_p12, List.forall_mem_cons.mpr ⟨lw_p13, List.forall_mem_cons.mpr ⟨lw_p14, List.forall_mem_cons.mpr ⟨lw_p15, fun _ h => absurd h List.not_mem_nil⟩⟩⟩⟩⟩⟩⟩⟩⟩⟩⟩⟩⟩⟩⟩⟩
theorem lw_p16 : lw_okq (⟨"GrainLeg$Text", "readComma", "()Z"⟩, 6) := ⟨⟨by decide +kernel, by decide +kernel⟩, List.mem_of_getElem? (i := 175) (by decide +kernel), List.mem_of_getElem? (i := 479) (by decide +kernel), List.mem_of_getElem? (i := 480) (by decide +kernel)⟩
theorem lw_p17 : lw_okq (⟨"GrainLeg", "carryOut", "(CI)I"⟩, 9) := ⟨⟨by decide +kernel, by decide +kernel⟩, List.mem_of_getElem? (i := 12) (by decide +kernel), List.mem_of_getElem? (i := 491) (by decide +kernel), List.mem_of_getElem? (i := 492) (by decide +kernel)⟩
theorem lw_p18 : lw_okq (⟨"GrainLeg$Trips", "told", "([II)I"⟩, 4) := ⟨⟨by decide +kernel, by decide +kernel⟩, List.mem_of_getElem? (i := 83) (by decide +kernel), List.mem_of_getElem? (i := 557) (by decide +kernel), List.mem_of_getElem? (i := 558) (by decide +kernel)⟩
theorem lw_p19 : lw_okq (⟨"GrainLegModel", "refusesSet", "(II)I"⟩, 15) := ⟨⟨by decide +kernel, by decide +kernel⟩, List.mem_of_getElem? (i := 576) (by decide +kernel), List.mem_of_getElem? (i := 632) (by decide +kernel), List.mem_of_getElem? (i := 633) (by decide +kernel)⟩
theorem lw_p20 : lw_okq (⟨"GrainLegModel", "records", "()V"⟩, 15) := ⟨⟨by decide +kernel, by decide +kernel⟩, List.mem_of_getElem? (i := 576) (by decide +kernel), List.mem_of_getElem? (i := 642) (by decide +kernel), List.mem_of_getElem? (i := 643) (by decide +kernel)⟩
theorem lw_p21 : lw_okq (⟨"GrainLegModel", "refusesGate", "(Z)I"⟩, 15) := ⟨⟨by decide +kernel, by decide +kernel⟩, List.mem_of_getElem? (i := 576) (by decide +kernel), List.mem_of_getElem? (i := 650) (by decide +kernel), List.mem_of_getElem? (i := 651) (by decide +kernel)⟩
theorem lw_p22 : lw_okq (⟨"GrainLegModel", "refusesStart", "()I"⟩, 15) := ⟨⟨by decide +kernel, by decide +kernel⟩, List.mem_of_getElem? (i := 576) (by decide +kernel), List.mem_of_getElem? (i := 658) (by decide +kernel), List.mem_of_getElem? (i := 659) (by decide +kernel)⟩
theorem lw_p23 : lw_okq (⟨"GrainLegModel", "load", "()I"⟩, 15) := ⟨⟨by decide +kernel, by decide +kernel⟩, List.mem_of_getElem? (i := 576) (by decide +kernel), List.mem_of_getElem? (i := 662) (by decide +kernel), List.mem_of_getElem? (i := 663) (by decide +kernel)⟩
theorem lw_p24 : lw_okq (⟨"GrainLegModel", "inBuckets", "()I"⟩, 15) := ⟨⟨by decide +kernel, by decide +kernel⟩, List.mem_of_getElem? (i := 576) (by decide +kernel), List.mem_of_getElem? (i := 670) (by decide +kernel), List.mem_of_getElem? (i := 671) (by decide +kernel)⟩
theorem lw_p25 : lw_okq (⟨"GrainLegModel", "refusesReset", "()I"⟩, 15) := ⟨⟨by decide +kernel, by decide +kernel⟩, List.mem_of_getElem? (i := 576) (by decide +kernel), List.mem_of_getElem? (i := 678) (by decide +kernel), List.mem_of_getElem? (i := 679) (by decide +kernel)⟩
theorem lw_p26 : lw_okq (⟨"GrainLegModel", "refusesRun", "(I)I"⟩, 15) := ⟨⟨by decide +kernel, by decide +kernel⟩, List.mem_of_getElem? (i := 576) (by decide +kernel), List.mem_of_getElem? (i := 690) (by decide +kernel), List.mem_of_getElem? (i := 691) (by decide +kernel)⟩
theorem lw_p27 : lw_okq (⟨"GrainLegModel", "ticks", "(I)I"⟩, 15) := ⟨⟨by decide +kernel, by decide +kernel⟩, List.mem_of_getElem? (i := 576) (by decide +kernel), List.mem_of_getElem? (i := 695) (by decide +kernel), List.mem_of_getElem? (i := 696) (by decide +kernel)⟩
theorem lw_p28 : lw_okq (⟨"GrainLegModel", "tick", "()V"⟩, 15) := ⟨⟨by decide +kernel, by decide +kernel⟩, List.mem_of_getElem? (i := 576) (by decide +kernel), List.mem_of_getElem? (i := 699) (by decide +kernel), List.mem_of_getElem? (i := 700) (by decide +kernel)⟩
theorem lw_p29 : lw_okq (⟨"GrainLegModel", "comes", "(I)V"⟩, 15) := ⟨⟨by decide +kernel, by decide +kernel⟩, List.mem_of_getElem? (i := 576) (by decide +kernel), List.mem_of_getElem? (i := 703) (by decide +kernel), List.mem_of_getElem? (i := 704) (by decide +kernel)⟩
theorem lw_p30 : lw_okq (⟨"GrainLegModel", "moves", "()V"⟩, 15) := ⟨⟨by decide +kernel, by decide +kernel⟩, List.mem_of_getElem? (i := 576) (by decide +kernel), List.mem_of_getElem? (i := 707) (by decide +kernel), List.mem_of_getElem? (i := 708) (by decide +kernel)⟩
theorem lw_p31 : lw_okq (⟨"GrainLegModel", "beyond", "()I"⟩, 15) := ⟨⟨by decide +kernel, by decide +kernel⟩, List.mem_of_getElem? (i := 576) (by decide +kernel), List.mem_of_getElem? (i := 711) (by decide +kernel), List.mem_of_getElem? (i := 712) (by decide +kernel)⟩
def lw_privs_2 : List (MethodName × Nat) := [(⟨"GrainLeg$Text", "readComma", "()Z"⟩, 6), (⟨"GrainLeg", "carryOut", "(CI)I"⟩, 9), (⟨"GrainLeg$Trips", "told", "([II)I"⟩, 4), (⟨"GrainLegModel", "refusesSet", "(II)I"⟩, 15), (⟨"GrainLegModel", "records", "()V"⟩, 15), (⟨"GrainLegModel", "refusesGate", "(Z)I"⟩, 15), (⟨"GrainLegModel", "refusesStart", "()I"⟩, 15), (⟨"GrainLegModel", "load", "()I"⟩, 15), (⟨"GrainLegModel", "inBuckets", "()I"⟩, 15), (⟨"GrainLegModel", "refusesReset", "()I"⟩, 15), (⟨"GrainLegModel", "refusesRun", "(I)I"⟩, 15), (⟨"GrainLegModel", "ticks", "(I)I"⟩, 15), (⟨"GrainLegModel", "tick", "()V"⟩, 15), (⟨"GrainLegModel", "comes", "(I)V"⟩, 15), (⟨"GrainLegModel", "moves", "()V"⟩, 15), (⟨"GrainLegModel", "beyond", "()I"⟩, 15)]
theorem lw_r2 : ∀ q ∈ lw_privs_2, lw_okq q := List.forall_mem_cons.mpr ⟨lw_p16, List.forall_mem_cons.mpr ⟨lw_p17, List.forall_mem_cons.mpr ⟨lw_p18, List.forall_mem_cons.mpr ⟨lw_p19, List.forall_mem_cons.mpr ⟨lw_p20, List.forall_mem_cons.mpr ⟨lw_p21, List.forall_mem_cons.mpr ⟨lw_p22, List.forall_mem_cons.mpr ⟨lw_p23, List.forall_mem_cons.mpr ⟨lw_p24, List.forall_mem_cons.mpr ⟨lw_p25, List.forall_mem_cons.mpr ⟨lw_p26, List.forall_mem_cons.mpr ⟨lw_p27, List.forall_mem_cons.mpr ⟨lw_p28, List.forall_mem_cons.mpr ⟨lw_p29, List.forall_mem_cons.mpr ⟨lw_p30, List.forall_mem_cons.mpr ⟨lw_p31, fun _ h => absurd h List.not_mem_nil⟩⟩⟩⟩⟩⟩⟩⟩⟩⟩⟩⟩⟩⟩⟩⟩
theorem lw_p32 : lw_okq (⟨"GrainLegModel", "watches", "()V"⟩, 15) := ⟨⟨by decide +kernel, by decide +kernel⟩, List.mem_of_getElem? (i := 576) (by decide +kernel), List.mem_of_getElem? (i := 715) (by decide +kernel), List.mem_of_getElem? (i := 716) (by decide +kernel)⟩
theorem lw_p33 : lw_okq (⟨"GrainLegModel", "seesTooMuch", "(I)Z"⟩, 15) := ⟨⟨by decide +kernel, by decide +kernel⟩, List.mem_of_getElem? (i := 576) (by decide +kernel), List.mem_of_getElem? (i := 719) (by decide +kernel), List.mem_of_getElem? (i := 720) (by decide +kernel)⟩
theorem lw_p34 : lw_okq (⟨"GrainLegModel", "trips", "(I)V"⟩, 15) := ⟨⟨by decide +kernel, by decide +kernel⟩, List.mem_of_getElem? (i := 576) (by decide +kernel), List.mem_of_getElem? (i := 723) (by decide +kernel), List.mem_of_getElem? (i := 724) (by decide +kernel)⟩
theorem lw_p35 : lw_okq (⟨"GrainLegModel", "reads", "()I"⟩, 15) := ⟨⟨by decide +kernel, by decide +kernel⟩, List.mem_of_getElem? (i := 576) (by decide +kernel), List.mem_of_getElem? (i := 739) (by decide +kernel), List.mem_of_getElem? (i := 740) (by decide +kernel)⟩
theorem lw_p36 : lw_okq (⟨"GrainLegModel", "readsCommand", "()V"⟩, 15) := ⟨⟨by decide +kernel, by decide +kernel⟩, List.mem_of_getElem? (i := 576) (by decide +kernel), List.mem_of_getElem? (i := 743) (by decide +kernel), List.mem_of_getElem? (i := 744) (by decide +kernel)⟩
theorem lw_p37 : lw_okq (⟨"GrainLegModel", "sign", "()I"⟩, 15) := ⟨⟨by decide +kernel, by decide +kernel⟩, List.mem_of_getElem? (i := 576) (by decide +kernel), List.mem_of_getElem? (i := 747) (by decide +kernel), List.mem_of_getElem? (i := 748) (by decide +kernel)⟩
theorem lw_p38 : lw_okq (⟨"GrainLegModel", "valueOf", "(I)I"⟩, 15) := ⟨⟨by decide +kernel, by decide +kernel⟩, List.mem_of_getElem? (i := 576) (by decide +kernel), List.mem_of_getElem? (i := 754) (by decide +kernel), List.mem_of_getElem? (i := 755) (by decide +kernel)⟩
theorem lw_p39 : lw_okq (⟨"GrainLegModel", "number", "(II)I"⟩, 15) := ⟨⟨by decide +kernel, by decide +kernel⟩, List.mem_of_getElem? (i := 576) (by decide +kernel), List.mem_of_getElem? (i := 758) (by decide +kernel), List.mem_of_getElem? (i := 759) (by decide +kernel)⟩
theorem lw_p40 : lw_okq (⟨"GrainLegModel", "alignment", "()I"⟩, 15) := ⟨⟨by decide +kernel, by decide +kernel⟩, List.mem_of_getElem? (i := 576) (by decide +kernel), List.mem_of_getElem? (i := 762) (by decide +kernel), List.mem_of_getElem? (i := 763) (by decide +kernel)⟩
theorem lw_p41 : lw_okq (⟨"GrainLegModel", "putAside", "()V"⟩, 15) := ⟨⟨by decide +kernel, by decide +kernel⟩, List.mem_of_getElem? (i := 576) (by decide +kernel), List.mem_of_getElem? (i := 766) (by decide +kernel), List.mem_of_getElem? (i := 767) (by decide +kernel)⟩
theorem lw_p42 : lw_okq (⟨"GrainLegModel", "does", "(II)I"⟩, 15) := ⟨⟨by decide +kernel, by decide +kernel⟩, List.mem_of_getElem? (i := 576) (by decide +kernel), List.mem_of_getElem? (i := 770) (by decide +kernel), List.mem_of_getElem? (i := 771) (by decide +kernel)⟩
theorem lw_p43 : lw_okq (⟨"GrainLegModel", "takeBack", "()V"⟩, 15) := ⟨⟨by decide +kernel, by decide +kernel⟩, List.mem_of_getElem? (i := 576) (by decide +kernel), List.mem_of_getElem? (i := 777) (by decide +kernel), List.mem_of_getElem? (i := 778) (by decide +kernel)⟩
theorem lw_p44 : lw_okq (⟨"GrainLegModel", "swapsAside", "()V"⟩, 15) := ⟨⟨by decide +kernel, by decide +kernel⟩, List.mem_of_getElem? (i := 576) (by decide +kernel), List.mem_of_getElem? (i := 781) (by decide +kernel), List.mem_of_getElem? (i := 782) (by decide +kernel)⟩
theorem lw_p45 : lw_okq (⟨"GrainLegModel", "untilTrip", "(I)I"⟩, 15) := ⟨⟨by decide +kernel, by decide +kernel⟩, List.mem_of_getElem? (i := 576) (by decide +kernel), List.mem_of_getElem? (i := 813) (by decide +kernel), List.mem_of_getElem? (i := 814) (by decide +kernel)⟩
def lw_privs_3 : List (MethodName × Nat) := [(⟨"GrainLegModel", "watches", "()V"⟩, 15), (⟨"GrainLegModel", "seesTooMuch", "(I)Z"⟩, 15), (⟨"GrainLegModel", "trips", "(I)V"⟩, 15), (⟨"GrainLegModel", "reads", "()I"⟩, 15), (⟨"GrainLegModel", "readsCommand", "()V"⟩, 15), (⟨"GrainLegModel", "sign", "()I"⟩, 15), (⟨"GrainLegModel", "valueOf", "(I)I"⟩, 15), (⟨"GrainLegModel", "number", "(II)I"⟩, 15), (⟨"GrainLegModel", "alignment", "()I"⟩, 15), (⟨"GrainLegModel", "putAside", "()V"⟩, 15), (⟨"GrainLegModel", "does", "(II)I"⟩, 15), (⟨"GrainLegModel", "takeBack", "()V"⟩, 15), (⟨"GrainLegModel", "swapsAside", "()V"⟩, 15), (⟨"GrainLegModel", "untilTrip", "(I)I"⟩, 15)]
theorem lw_r3 : ∀ q ∈ lw_privs_3, lw_okq q := List.forall_mem_cons.mpr ⟨lw_p32, List.forall_mem_cons.mpr ⟨lw_p33, List.forall_mem_cons.mpr ⟨lw_p34, List.forall_mem_cons.mpr ⟨lw_p35, List.forall_mem_cons.mpr ⟨lw_p36, List.forall_mem_cons.mpr ⟨lw_p37, List.forall_mem_cons.mpr ⟨lw_p38, List.forall_mem_cons.mpr ⟨lw_p39, List.forall_mem_cons.mpr ⟨lw_p40, List.forall_mem_cons.mpr ⟨lw_p41, List.forall_mem_cons.mpr ⟨lw_p42, List.forall_mem_cons.mpr ⟨lw_p43, List.forall_mem_cons.mpr ⟨lw_p44, List.forall_mem_cons.mpr ⟨lw_p45, fun _ h => absurd h List.not_mem_nil⟩⟩⟩⟩⟩⟩⟩⟩⟩⟩⟩⟩⟩⟩
def lw_privs : List (MethodName × Nat) := lw_privs_1 ++ (lw_privs_2 ++ (lw_privs_3))
def lw_tbl : List Cond := k2_sels lw_privs ++ tables_1
theorem lw_privs_ok : ∀ q ∈ lw_privs, lw_okq q := by
  show ∀ q ∈ lw_privs_1 ++ (lw_privs_2 ++ (lw_privs_3)), lw_okq q
  exact List.forall_mem_append.mpr ⟨lw_r1, List.forall_mem_append.mpr ⟨lw_r2, lw_r3⟩⟩
def RX0 : String := "GrainLeg$Belt"
def TX0 : u_T := fun k => match k with
  | 0 => ("GrainLeg$Belt", "row", "[I", true)
  | _ => ("GrainLeg$Belt", "inBoot", "I", false)
def tyX0 : Nat → FieldType := fun k => match k with
  | 0 => .array .int
  | _ => .int
theorem nmX0 : ∀ a, a < 2 → ∀ b, b < 2 → a ≠ b → (TX0 a).2.1 ≠ (TX0 b).2.1 := by decide +kernel
theorem tyX0_ok : ∀ k, k < 2 → parseFieldDescriptor (TX0 k).2.2.1 = some (tyX0 k) := by decide +kernel
abbrev cX0_init : ByteArray := prog_2_method_1_code
def yX0_init : MethodName := ⟨RX0, "<init>", "()V"⟩
abbrev cX0_become : ByteArray := prog_2_method_2_code
def yX0_become : MethodName := ⟨RX0, "become", "(LGrainLeg$Belt;)V"⟩
abbrev cX0_at : ByteArray := prog_2_method_3_code
def yX0_at : MethodName := ⟨RX0, "at", "(I)I"⟩
abbrev cX0_moveOn : ByteArray := prog_2_method_4_code
def yX0_moveOn : MethodName := ⟨RX0, "moveOn", "()V"⟩
abbrev cX0_emptyAtHead : ByteArray := prog_2_method_5_code
def yX0_emptyAtHead : MethodName := ⟨RX0, "emptyAtHead", "()I"⟩
abbrev cX0_fillInBoot : ByteArray := prog_2_method_6_code
def yX0_fillInBoot : MethodName := ⟨RX0, "fillInBoot", "(II)I"⟩
abbrev cX0_onTheWayUp : ByteArray := prog_2_method_7_code
def yX0_onTheWayUp : MethodName := ⟨RX0, "onTheWayUp", "()I"⟩
abbrev cX0_onAll : ByteArray := prog_2_method_8_code
def yX0_onAll : MethodName := ⟨RX0, "onAll", "()I"⟩
def RX1 : String := "GrainLeg$Grain"
def TX1 : u_T := fun k => match k with
  | 0 => ("GrainLeg$Grain", "boot", "I", false)
  | 1 => ("GrainLeg$Grain", "given", "I", false)
  | 2 => ("GrainLeg$Grain", "spilt", "I", false)
  | 3 => ("GrainLeg$Grain", "fed", "I", false)
  | 4 => ("GrainLeg$Grain", "takenByHand", "I", false)
  | _ => ("GrainLeg$Grain", "fallenBack", "I", false)
def tyX1 : Nat → FieldType := fun k => match k with
  | 0 => .int
  | 1 => .int
  | 2 => .int
  | 3 => .int
  | 4 => .int
  | _ => .int
theorem nmX1 : ∀ a, a < 6 → ∀ b, b < 6 → a ≠ b → (TX1 a).2.1 ≠ (TX1 b).2.1 := by decide +kernel
theorem tyX1_ok : ∀ k, k < 6 → parseFieldDescriptor (TX1 k).2.2.1 = some (tyX1 k) := by decide +kernel
abbrev cX1_init : ByteArray := prog_3_method_1_code
def yX1_init : MethodName := ⟨RX1, "<init>", "()V"⟩
abbrev cX1_become : ByteArray := prog_3_method_2_code
def yX1_become : MethodName := ⟨RX1, "become", "(LGrainLeg$Grain;)V"⟩
abbrev cX1_feedIn : ByteArray := prog_3_method_3_code
def yX1_feedIn : MethodName := ⟨RX1, "feedIn", "(I)V"⟩
abbrev cX1_fallBack : ByteArray := prog_3_method_4_code
def yX1_fallBack : MethodName := ⟨RX1, "fallBack", "(I)V"⟩
abbrev cX1_pourIntoBoot : ByteArray := prog_3_method_5_code
def yX1_pourIntoBoot : MethodName := ⟨RX1, "pourIntoBoot", "(I)V"⟩
def RX2 : String := "GrainLeg$History"
def TX2 : u_T := fun k => match k with
  | 0 => ("GrainLeg$History", "states", "[LGrainLeg$Leg;", true)
  | 1 => ("GrainLeg$History", "oldest", "I", false)
  | _ => ("GrainLeg$History", "size", "I", false)
def tyX2 : Nat → FieldType := fun k => match k with
  | 0 => .array (.object "GrainLeg$Leg")
  | 1 => .int
  | _ => .int
theorem nmX2 : ∀ a, a < 3 → ∀ b, b < 3 → a ≠ b → (TX2 a).2.1 ≠ (TX2 b).2.1 := by decide +kernel
theorem tyX2_ok : ∀ k, k < 3 → parseFieldDescriptor (TX2 k).2.2.1 = some (tyX2 k) := by decide +kernel
abbrev cX2_init : ByteArray := prog_4_method_1_code
def yX2_init : MethodName := ⟨RX2, "<init>", "()V"⟩
abbrev cX2_indexOf : ByteArray := prog_4_method_2_code
def yX2_indexOf : MethodName := ⟨RX2, "indexOf", "(I)I"⟩
abbrev cX2_remember : ByteArray := prog_4_method_3_code
def yX2_remember : MethodName := ⟨RX2, "remember", "(LGrainLeg$Leg;)V"⟩
abbrev cX2_takeBack : ByteArray := prog_4_method_4_code
def yX2_takeBack : MethodName := ⟨RX2, "takeBack", "(LGrainLeg$Leg;)Z"⟩
def RX3 : String := "GrainLeg$Leg"
def TX3 : u_T := fun k => match k with
  | 0 => ("GrainLeg$Leg", "numbers", "[I", true)
  | 1 => ("GrainLeg$Leg", "belt", "LGrainLeg$Belt;", true)
  | 2 => ("GrainLeg$Leg", "grain", "LGrainLeg$Grain;", true)
  | 3 => ("GrainLeg$Leg", "trips", "LGrainLeg$Trips;", true)
  | 4 => ("GrainLeg$Leg", "tooLong", "[I", true)
  | 5 => ("GrainLeg$Leg", "tripsOf", "[I", true)
  | 6 => ("GrainLeg$Leg", "runs", "Z", false)
  | 7 => ("GrainLeg$Leg", "gateOpen", "Z", false)
  | 8 => ("GrainLeg$Leg", "slip", "I", false)
  | 9 => ("GrainLeg$Leg", "cells", "I", false)
  | 10 => ("GrainLeg$Leg", "warmth", "I", false)
  | 11 => ("GrainLeg$Leg", "reason", "I", false)
  | _ => ("GrainLeg$Leg", "ticks", "I", false)
def tyX3 : Nat → FieldType := fun k => match k with
  | 0 => .array .int
  | 1 => .object "GrainLeg$Belt"
  | 2 => .object "GrainLeg$Grain"
  | 3 => .object "GrainLeg$Trips"
  | 4 => .array .int
  | 5 => .array .int
  | 6 => .boolean
  | 7 => .boolean
  | 8 => .int
  | 9 => .int
  | 10 => .int
  | 11 => .int
  | _ => .int
theorem nmX3 : ∀ a, a < 13 → ∀ b, b < 13 → a ≠ b → (TX3 a).2.1 ≠ (TX3 b).2.1 := by decide +kernel
theorem tyX3_ok : ∀ k, k < 13 → parseFieldDescriptor (TX3 k).2.2.1 = some (tyX3 k) := by decide +kernel
abbrev cX3_init : ByteArray := prog_5_method_1_code
def yX3_init : MethodName := ⟨RX3, "<init>", "()V"⟩
abbrev cX3_become : ByteArray := prog_5_method_2_code
def yX3_become : MethodName := ⟨RX3, "become", "(LGrainLeg$Leg;)V"⟩
abbrev cX3_setNumber : ByteArray := prog_5_method_3_code
def yX3_setNumber : MethodName := ⟨RX3, "setNumber", "(II)I"⟩
abbrev cX3_moveGate : ByteArray := prog_5_method_4_code
def yX3_moveGate : MethodName := ⟨RX3, "moveGate", "(Z)I"⟩
abbrev cX3_switchOn : ByteArray := prog_5_method_5_code
def yX3_switchOn : MethodName := ⟨RX3, "switchOn", "()I"⟩
abbrev cX3_switchOff : ByteArray := prog_5_method_6_code
def yX3_switchOff : MethodName := ⟨RX3, "switchOff", "()I"⟩
abbrev cX3_forgetReason : ByteArray := prog_5_method_7_code
def yX3_forgetReason : MethodName := ⟨RX3, "forgetReason", "()I"⟩
abbrev cX3_mayBeReset : ByteArray := prog_5_method_8_code
def yX3_mayBeReset : MethodName := ⟨RX3, "mayBeReset", "()Z"⟩
abbrev cX3_takeByHand : ByteArray := prog_5_method_9_code
def yX3_takeByHand : MethodName := ⟨RX3, "takeByHand", "(I)I"⟩
abbrev cX3_passTicks : ByteArray := prog_5_method_10_code
def yX3_passTicks : MethodName := ⟨RX3, "passTicks", "(I)I"⟩
abbrev cX3_ticksUntilTrip : ByteArray := prog_5_method_11_code
def yX3_ticksUntilTrip : MethodName := ⟨RX3, "ticksUntilTrip", "(I)I"⟩
abbrev cX3_load : ByteArray := prog_5_method_12_code
def yX3_load : MethodName := ⟨RX3, "load", "()I"⟩
abbrev cX3_seenBy : ByteArray := prog_5_method_13_code
def yX3_seenBy : MethodName := ⟨RX3, "seenBy", "(I)I"⟩
abbrev cX3_tick : ByteArray := prog_5_method_14_code
def yX3_tick : MethodName := ⟨RX3, "tick", "()V"⟩
abbrev cX3_slipOf : ByteArray := prog_5_method_15_code
def yX3_slipOf : MethodName := ⟨RX3, "slipOf", "(I)I"⟩
abbrev cX3_moveOneCell : ByteArray := prog_5_method_16_code
def yX3_moveOneCell : MethodName := ⟨RX3, "moveOneCell", "()V"⟩
abbrev cX3_rub : ByteArray := prog_5_method_17_code
def yX3_rub : MethodName := ⟨RX3, "rub", "()V"⟩
abbrev cX3_watch : ByteArray := prog_5_method_18_code
def yX3_watch : MethodName := ⟨RX3, "watch", "()V"⟩
abbrev cX3_tripBy : ByteArray := prog_5_method_19_code
def yX3_tripBy : MethodName := ⟨RX3, "tripBy", "(I)V"⟩
def RX4 : String := "GrainLeg$Text"
def TX4 : u_T := fun k => match k with
  | 0 => ("GrainLeg$Text", "characters", "[C", true)
  | 1 => ("GrainLeg$Text", "length", "I", false)
  | 2 => ("GrainLeg$Text", "letters", "[C", true)
  | 3 => ("GrainLeg$Text", "values", "[I", true)
  | 4 => ("GrainLeg$Text", "commands", "I", false)
  | _ => ("GrainLeg$Text", "reading", "I", false)
def tyX4 : Nat → FieldType := fun k => match k with
  | 0 => .array .char
  | 1 => .int
  | 2 => .array .char
  | 3 => .array .int
  | 4 => .int
  | _ => .int
theorem nmX4 : ∀ a, a < 6 → ∀ b, b < 6 → a ≠ b → (TX4 a).2.1 ≠ (TX4 b).2.1 := by decide +kernel
theorem tyX4_ok : ∀ k, k < 6 → parseFieldDescriptor (TX4 k).2.2.1 = some (tyX4 k) := by decide +kernel
abbrev cX4_init : ByteArray := prog_6_method_1_code
def yX4_init : MethodName := ⟨RX4, "<init>", "()V"⟩
abbrev cX4_append : ByteArray := prog_6_method_2_code
def yX4_append : MethodName := ⟨RX4, "append", "(C)I"⟩
abbrev cX4_empty : ByteArray := prog_6_method_3_code
def yX4_empty : MethodName := ⟨RX4, "empty", "()I"⟩
abbrev cX4_letterOf : ByteArray := prog_6_method_4_code
def yX4_letterOf : MethodName := ⟨RX4, "letterOf", "(I)C"⟩
abbrev cX4_valueOf : ByteArray := prog_6_method_5_code
def yX4_valueOf : MethodName := ⟨RX4, "valueOf", "(I)I"⟩
abbrev cX4_read : ByteArray := prog_6_method_6_code
def yX4_read : MethodName := ⟨RX4, "read", "()I"⟩
abbrev cX4_next : ByteArray := prog_6_method_7_code
def yX4_next : MethodName := ⟨RX4, "next", "()I"⟩
abbrev cX4_nextDigit : ByteArray := prog_6_method_8_code
def yX4_nextDigit : MethodName := ⟨RX4, "nextDigit", "()I"⟩
abbrev cX4_readComma : ByteArray := prog_6_method_9_code
def yX4_readComma : MethodName := ⟨RX4, "readComma", "()Z"⟩
abbrev cX4_readCommand : ByteArray := prog_6_method_10_code
def yX4_readCommand : MethodName := ⟨RX4, "readCommand", "()Z"⟩
abbrev cX4_isLetterOfCommand : ByteArray := prog_6_method_11_code
def yX4_isLetterOfCommand : MethodName := ⟨RX4, "isLetterOfCommand", "(I)Z"⟩
abbrev cX4_readValue : ByteArray := prog_6_method_12_code
def yX4_readValue : MethodName := ⟨RX4, "readValue", "(I)Z"⟩
abbrev cX4_readNumber : ByteArray := prog_6_method_13_code
def yX4_readNumber : MethodName := ⟨RX4, "readNumber", "(II)Z"⟩
abbrev cX4_readAlignment : ByteArray := prog_6_method_14_code
def yX4_readAlignment : MethodName := ⟨RX4, "readAlignment", "()Z"⟩
def RX5 : String := "GrainLeg$Trips"
def TX5 : u_T := fun k => match k with
  | 0 => ("GrainLeg$Trips", "ticks", "[I", true)
  | 1 => ("GrainLeg$Trips", "sensors", "[I", true)
  | 2 => ("GrainLeg$Trips", "loads", "[I", true)
  | _ => ("GrainLeg$Trips", "size", "I", false)
def tyX5 : Nat → FieldType := fun k => match k with
  | 0 => .array .int
  | 1 => .array .int
  | 2 => .array .int
  | _ => .int
theorem nmX5 : ∀ a, a < 4 → ∀ b, b < 4 → a ≠ b → (TX5 a).2.1 ≠ (TX5 b).2.1 := by decide +kernel
theorem tyX5_ok : ∀ k, k < 4 → parseFieldDescriptor (TX5 k).2.2.1 = some (tyX5 k) := by decide +kernel
abbrev cX5_init : ByteArray := prog_7_method_1_code
def yX5_init : MethodName := ⟨RX5, "<init>", "()V"⟩
abbrev cX5_become : ByteArray := prog_7_method_2_code
def yX5_become : MethodName := ⟨RX5, "become", "(LGrainLeg$Trips;)V"⟩
abbrev cX5_note : ByteArray := prog_7_method_3_code
def yX5_note : MethodName := ⟨RX5, "note", "(III)V"⟩
abbrev cX5_tickOf : ByteArray := prog_7_method_4_code
def yX5_tickOf : MethodName := ⟨RX5, "tickOf", "(I)I"⟩
abbrev cX5_sensorOf : ByteArray := prog_7_method_5_code
def yX5_sensorOf : MethodName := ⟨RX5, "sensorOf", "(I)I"⟩
abbrev cX5_loadOf : ByteArray := prog_7_method_6_code
def yX5_loadOf : MethodName := ⟨RX5, "loadOf", "(I)I"⟩
abbrev cX5_told : ByteArray := prog_7_method_7_code
def yX5_told : MethodName := ⟨RX5, "told", "([II)I"⟩
def RX6 : String := "GrainLeg"
def TX6 : u_T := fun k => match k with
  | 0 => ("GrainLeg", "leg", "LGrainLeg$Leg;", true)
  | 1 => ("GrainLeg", "before", "LGrainLeg$Leg;", true)
  | 2 => ("GrainLeg", "trial", "LGrainLeg$Leg;", true)
  | 3 => ("GrainLeg", "history", "LGrainLeg$History;", true)
  | 4 => ("GrainLeg", "snapshot", "LGrainLeg$Leg;", true)
  | 5 => ("GrainLeg", "hasSnapshot", "Z", false)
  | 6 => ("GrainLeg", "text", "LGrainLeg$Text;", true)
  | 7 => ("GrainLeg", "stopCommand", "I", false)
  | _ => ("GrainLeg", "stopError", "I", false)
def tyX6 : Nat → FieldType := fun k => match k with
  | 0 => .object "GrainLeg$Leg"
  | 1 => .object "GrainLeg$Leg"
  | 2 => .object "GrainLeg$Leg"
  | 3 => .object "GrainLeg$History"
  | 4 => .object "GrainLeg$Leg"
  | 5 => .boolean
  | 6 => .object "GrainLeg$Text"
  | 7 => .int
  | _ => .int
theorem nmX6 : ∀ a, a < 9 → ∀ b, b < 9 → a ≠ b → (TX6 a).2.1 ≠ (TX6 b).2.1 := by decide +kernel
theorem tyX6_ok : ∀ k, k < 9 → parseFieldDescriptor (TX6 k).2.2.1 = some (tyX6 k) := by decide +kernel
abbrev cX6_init : ByteArray := prog_1_method_1_code
def yX6_init : MethodName := ⟨RX6, "<init>", "()V"⟩
abbrev cX6_set : ByteArray := prog_1_method_2_code
def yX6_set : MethodName := ⟨RX6, "set", "(II)I"⟩
abbrev cX6_gate : ByteArray := prog_1_method_3_code
def yX6_gate : MethodName := ⟨RX6, "gate", "(Z)I"⟩
abbrev cX6_start : ByteArray := prog_1_method_4_code
def yX6_start : MethodName := ⟨RX6, "start", "()I"⟩
abbrev cX6_stop : ByteArray := prog_1_method_5_code
def yX6_stop : MethodName := ⟨RX6, "stop", "()I"⟩
abbrev cX6_reset : ByteArray := prog_1_method_6_code
def yX6_reset : MethodName := ⟨RX6, "reset", "()I"⟩
abbrev cX6_clean : ByteArray := prog_1_method_7_code
def yX6_clean : MethodName := ⟨RX6, "clean", "(I)I"⟩
abbrev cX6_run : ByteArray := prog_1_method_8_code
def yX6_run : MethodName := ⟨RX6, "run", "(I)I"⟩
abbrev cX6_type : ByteArray := prog_1_method_9_code
def yX6_type : MethodName := ⟨RX6, "type", "(C)I"⟩
abbrev cX6_clearText : ByteArray := prog_1_method_10_code
def yX6_clearText : MethodName := ⟨RX6, "clearText", "()I"⟩
abbrev cX6_perform : ByteArray := prog_1_method_11_code
def yX6_perform : MethodName := ⟨RX6, "perform", "()I"⟩
abbrev cX6_stopped : ByteArray := prog_1_method_12_code
def yX6_stopped : MethodName := ⟨RX6, "stopped", "(I)I"⟩
abbrev cX6_undo : ByteArray := prog_1_method_13_code
def yX6_undo : MethodName := ⟨RX6, "undo", "()I"⟩
abbrev cX6_keep : ByteArray := prog_1_method_14_code
def yX6_keep : MethodName := ⟨RX6, "keep", "()I"⟩
abbrev cX6_restore : ByteArray := prog_1_method_15_code
def yX6_restore : MethodName := ⟨RX6, "restore", "()I"⟩
abbrev cX6_bucket : ByteArray := prog_1_method_16_code
def yX6_bucket : MethodName := ⟨RX6, "bucket", "(I)I"⟩
abbrev cX6_sensor : ByteArray := prog_1_method_17_code
def yX6_sensor : MethodName := ⟨RX6, "sensor", "(II)I"⟩
abbrev cX6_tripsIn : ByteArray := prog_1_method_18_code
def yX6_tripsIn : MethodName := ⟨RX6, "tripsIn", "()I"⟩
abbrev cX6_ifTension : ByteArray := prog_1_method_19_code
def yX6_ifTension : MethodName := ⟨RX6, "ifTension", "(II)I"⟩
abbrev cX6_leastTension : ByteArray := prog_1_method_20_code
def yX6_leastTension : MethodName := ⟨RX6, "leastTension", "(I)I"⟩
abbrev cX6_trip : ByteArray := prog_1_method_21_code
def yX6_trip : MethodName := ⟨RX6, "trip", "(II)I"⟩
abbrev cX6_count : ByteArray := prog_1_method_22_code
def yX6_count : MethodName := ⟨RX6, "count", "(I)I"⟩
abbrev cX6_recorded : ByteArray := prog_1_method_23_code
def yX6_recorded : MethodName := ⟨RX6, "recorded", "(I)I"⟩
abbrev cX6_carryOut : ByteArray := prog_1_method_24_code
def yX6_carryOut : MethodName := ⟨RX6, "carryOut", "(CI)I"⟩
abbrev cX6_isError : ByteArray := prog_1_method_25_code
def yX6_isError : MethodName := ⟨RX6, "isError", "(I)Z"⟩
abbrev cX6_isWithin : ByteArray := prog_1_method_26_code
def yX6_isWithin : MethodName := ⟨RX6, "isWithin", "(III)Z"⟩
def RX7 : String := "GrainLegModel"
def TX7 : u_T := fun k => match k with
  | 0 => ("GrainLegModel", "thrown", "I", false)
  | 1 => ("GrainLegModel", "s", "[I", true)
  | 2 => ("GrainLegModel", "aside", "[I", true)
  | 3 => ("GrainLegModel", "saved", "[I", true)
  | 4 => ("GrainLegModel", "savedMany", "I", false)
  | 5 => ("GrainLegModel", "snapshot", "[I", true)
  | 6 => ("GrainLegModel", "hasSnapshot", "Z", false)
  | 7 => ("GrainLegModel", "text", "[I", true)
  | 8 => ("GrainLegModel", "length", "I", false)
  | 9 => ("GrainLegModel", "stoppedAt", "I", false)
  | 10 => ("GrainLegModel", "stoppedBy", "I", false)
  | 11 => ("GrainLegModel", "at", "I", false)
  | 12 => ("GrainLegModel", "isWell", "Z", false)
  | 13 => ("GrainLegModel", "commands", "[I", true)
  | _ => ("GrainLegModel", "commandMany", "I", false)
def tyX7 : Nat → FieldType := fun k => match k with
  | 0 => .int
  | 1 => .array .int
  | 2 => .array .int
  | 3 => .array .int
  | 4 => .int
  | 5 => .array .int
  | 6 => .boolean
  | 7 => .array .int
  | 8 => .int
  | 9 => .int
  | 10 => .int
  | 11 => .int
  | 12 => .boolean
  | 13 => .array .int
  | _ => .int
theorem nmX7 : ∀ a, a < 15 → ∀ b, b < 15 → a ≠ b → (TX7 a).2.1 ≠ (TX7 b).2.1 := by decide +kernel
theorem tyX7_ok : ∀ k, k < 15 → parseFieldDescriptor (TX7 k).2.2.1 = some (tyX7 k) := by decide +kernel
abbrev cX7_init : ByteArray := prog_9_method_1_code
def yX7_init : MethodName := ⟨RX7, "<init>", "()V"⟩
abbrev cX7_in : ByteArray := prog_9_method_3_code
def yX7_in : MethodName := ⟨RX7, "in", "(III)Z"⟩
abbrev cX7_records : ByteArray := prog_9_method_4_code
def yX7_records : MethodName := ⟨RX7, "records", "()V"⟩
abbrev cX7_putAside : ByteArray := prog_9_method_5_code
def yX7_putAside : MethodName := ⟨RX7, "putAside", "()V"⟩
abbrev cX7_takeBack : ByteArray := prog_9_method_6_code
def yX7_takeBack : MethodName := ⟨RX7, "takeBack", "()V"⟩
abbrev cX7_load : ByteArray := prog_9_method_7_code
def yX7_load : MethodName := ⟨RX7, "load", "()I"⟩
abbrev cX7_comes : ByteArray := prog_9_method_8_code
def yX7_comes : MethodName := ⟨RX7, "comes", "(I)V"⟩
abbrev cX7_moves : ByteArray := prog_9_method_9_code
def yX7_moves : MethodName := ⟨RX7, "moves", "()V"⟩
abbrev cX7_beyond : ByteArray := prog_9_method_10_code
def yX7_beyond : MethodName := ⟨RX7, "beyond", "()I"⟩
abbrev cX7_seesTooMuch : ByteArray := prog_9_method_11_code
def yX7_seesTooMuch : MethodName := ⟨RX7, "seesTooMuch", "(I)Z"⟩
abbrev cX7_trips : ByteArray := prog_9_method_12_code
def yX7_trips : MethodName := ⟨RX7, "trips", "(I)V"⟩
abbrev cX7_watches : ByteArray := prog_9_method_13_code
def yX7_watches : MethodName := ⟨RX7, "watches", "()V"⟩
abbrev cX7_tick : ByteArray := prog_9_method_14_code
def yX7_tick : MethodName := ⟨RX7, "tick", "()V"⟩
abbrev cX7_ticks : ByteArray := prog_9_method_15_code
def yX7_ticks : MethodName := ⟨RX7, "ticks", "(I)I"⟩
abbrev cX7_isNumber : ByteArray := prog_9_method_16_code
def yX7_isNumber : MethodName := ⟨RX7, "isNumber", "(II)Z"⟩
abbrev cX7_refusesSet : ByteArray := prog_9_method_17_code
def yX7_refusesSet : MethodName := ⟨RX7, "refusesSet", "(II)I"⟩
abbrev cX7_refusesGate : ByteArray := prog_9_method_18_code
def yX7_refusesGate : MethodName := ⟨RX7, "refusesGate", "(Z)I"⟩
abbrev cX7_refusesStart : ByteArray := prog_9_method_19_code
def yX7_refusesStart : MethodName := ⟨RX7, "refusesStart", "()I"⟩
abbrev cX7_refusesReset : ByteArray := prog_9_method_20_code
def yX7_refusesReset : MethodName := ⟨RX7, "refusesReset", "()I"⟩
abbrev cX7_refusesRun : ByteArray := prog_9_method_21_code
def yX7_refusesRun : MethodName := ⟨RX7, "refusesRun", "(I)I"⟩
abbrev cX7_inBuckets : ByteArray := prog_9_method_22_code
def yX7_inBuckets : MethodName := ⟨RX7, "inBuckets", "()I"⟩
abbrev cX7_set : ByteArray := prog_9_method_23_code
def yX7_set : MethodName := ⟨RX7, "set", "(II)I"⟩
abbrev cX7_gate : ByteArray := prog_9_method_24_code
def yX7_gate : MethodName := ⟨RX7, "gate", "(Z)I"⟩
abbrev cX7_start : ByteArray := prog_9_method_25_code
def yX7_start : MethodName := ⟨RX7, "start", "()I"⟩
abbrev cX7_stop : ByteArray := prog_9_method_26_code
def yX7_stop : MethodName := ⟨RX7, "stop", "()I"⟩
abbrev cX7_reset : ByteArray := prog_9_method_27_code
def yX7_reset : MethodName := ⟨RX7, "reset", "()I"⟩
abbrev cX7_clean : ByteArray := prog_9_method_28_code
def yX7_clean : MethodName := ⟨RX7, "clean", "(I)I"⟩
abbrev cX7_run : ByteArray := prog_9_method_29_code
def yX7_run : MethodName := ⟨RX7, "run", "(I)I"⟩
abbrev cX7_type : ByteArray := prog_9_method_30_code
def yX7_type : MethodName := ⟨RX7, "type", "(C)I"⟩
abbrev cX7_clearText : ByteArray := prog_9_method_31_code
def yX7_clearText : MethodName := ⟨RX7, "clearText", "()I"⟩
abbrev cX7_sign : ByteArray := prog_9_method_32_code
def yX7_sign : MethodName := ⟨RX7, "sign", "()I"⟩
abbrev cX7_number : ByteArray := prog_9_method_33_code
def yX7_number : MethodName := ⟨RX7, "number", "(II)I"⟩
abbrev cX7_alignment : ByteArray := prog_9_method_34_code
def yX7_alignment : MethodName := ⟨RX7, "alignment", "()I"⟩
abbrev cX7_valueOf : ByteArray := prog_9_method_35_code
def yX7_valueOf : MethodName := ⟨RX7, "valueOf", "(I)I"⟩
abbrev cX7_isLetter : ByteArray := prog_9_method_36_code
def yX7_isLetter : MethodName := ⟨RX7, "isLetter", "(I)Z"⟩
abbrev cX7_readsCommand : ByteArray := prog_9_method_37_code
def yX7_readsCommand : MethodName := ⟨RX7, "readsCommand", "()V"⟩
abbrev cX7_reads : ByteArray := prog_9_method_38_code
def yX7_reads : MethodName := ⟨RX7, "reads", "()I"⟩
abbrev cX7_whichOf : ByteArray := prog_9_method_39_code
def yX7_whichOf : MethodName := ⟨RX7, "whichOf", "(I)I"⟩
abbrev cX7_does : ByteArray := prog_9_method_40_code
def yX7_does : MethodName := ⟨RX7, "does", "(II)I"⟩
abbrev cX7_perform : ByteArray := prog_9_method_41_code
def yX7_perform : MethodName := ⟨RX7, "perform", "()I"⟩
abbrev cX7_swapsAside : ByteArray := prog_9_method_42_code
def yX7_swapsAside : MethodName := ⟨RX7, "swapsAside", "()V"⟩
abbrev cX7_stopped : ByteArray := prog_9_method_43_code
def yX7_stopped : MethodName := ⟨RX7, "stopped", "(I)I"⟩
abbrev cX7_undo : ByteArray := prog_9_method_44_code
def yX7_undo : MethodName := ⟨RX7, "undo", "()I"⟩
abbrev cX7_keep : ByteArray := prog_9_method_45_code
def yX7_keep : MethodName := ⟨RX7, "keep", "()I"⟩
abbrev cX7_restore : ByteArray := prog_9_method_46_code
def yX7_restore : MethodName := ⟨RX7, "restore", "()I"⟩
abbrev cX7_bucket : ByteArray := prog_9_method_47_code
def yX7_bucket : MethodName := ⟨RX7, "bucket", "(I)I"⟩
abbrev cX7_sensor : ByteArray := prog_9_method_48_code
def yX7_sensor : MethodName := ⟨RX7, "sensor", "(II)I"⟩
abbrev cX7_untilTrip : ByteArray := prog_9_method_49_code
def yX7_untilTrip : MethodName := ⟨RX7, "untilTrip", "(I)I"⟩
abbrev cX7_tripsIn : ByteArray := prog_9_method_50_code
def yX7_tripsIn : MethodName := ⟨RX7, "tripsIn", "()I"⟩
abbrev cX7_ifTension : ByteArray := prog_9_method_51_code
def yX7_ifTension : MethodName := ⟨RX7, "ifTension", "(II)I"⟩
abbrev cX7_leastTension : ByteArray := prog_9_method_52_code
def yX7_leastTension : MethodName := ⟨RX7, "leastTension", "(I)I"⟩
abbrev cX7_trip : ByteArray := prog_9_method_53_code
def yX7_trip : MethodName := ⟨RX7, "trip", "(II)I"⟩
abbrev cX7_count : ByteArray := prog_9_method_54_code
def yX7_count : MethodName := ⟨RX7, "count", "(I)I"⟩
def RJx8e188 : String := "java/lang/Cloneable"
def TJx8e188 : u_T := fun k => match k with
  | _ => ("", "", "", false)
def tyJx8e188 : Nat → FieldType := fun k => match k with
  | _ => .int
theorem nmJx8e188 : ∀ a, a < 0 → ∀ b, b < 0 → a ≠ b → (TJx8e188 a).2.1 ≠ (TJx8e188 b).2.1 := by decide +kernel
theorem tyJx8e188_ok : ∀ k, k < 0 → parseFieldDescriptor (TJx8e188 k).2.2.1 = some (tyJx8e188 k) := by decide +kernel
def RJ9 : String := "java/lang/Math"
def TJ9 : u_T := fun k => match k with
  | _ => ("", "", "", false)
def tyJ9 : Nat → FieldType := fun k => match k with
  | _ => .int
theorem nmJ9 : ∀ a, a < 0 → ∀ b, b < 0 → a ≠ b → (TJ9 a).2.1 ≠ (TJ9 b).2.1 := by decide +kernel
theorem tyJ9_ok : ∀ k, k < 0 → parseFieldDescriptor (TJ9 k).2.2.1 = some (tyJ9 k) := by decide +kernel
abbrev cJ9_floorMod_7cf53 : ByteArray := prog_11_method_50_code
def yJ9_floorMod_7cf53 : MethodName := ⟨RJ9, "floorMod", "(II)I"⟩
abbrev cJ9_abs_0f7a4 : ByteArray := prog_11_method_59_code
def yJ9_abs_0f7a4 : MethodName := ⟨RJ9, "abs", "(I)I"⟩
abbrev cJ9_max_7cf53 : ByteArray := prog_11_method_65_code
def yJ9_max_7cf53 : MethodName := ⟨RJ9, "max", "(II)I"⟩
abbrev cJ9_min_7cf53 : ByteArray := prog_11_method_69_code
def yJ9_min_7cf53 : MethodName := ⟨RJ9, "min", "(II)I"⟩
def RJ10 : String := "java/lang/System"
def TJ10 : u_T := fun k => match k with
  | _ => ("", "", "", false)
def tyJ10 : Nat → FieldType := fun k => match k with
  | _ => .int
theorem nmJ10 : ∀ a, a < 0 → ∀ b, b < 0 → a ≠ b → (TJ10 a).2.1 ≠ (TJ10 b).2.1 := by decide +kernel
theorem tyJ10_ok : ∀ k, k < 0 → parseFieldDescriptor (TJ10 k).2.2.1 = some (tyJ10 k) := by decide +kernel
def RL : String := "GrainLegLaw"
abbrev cL_law : ByteArray := code
def yL_law : MethodName := ⟨RL, "law", "([I)Z"⟩
abbrev vwCl : List vw_C := [(RX0, TX0, 2), (RX1, TX1, 6), (RX2, TX2, 3), (RX3, TX3, 13), (RX4, TX4, 6), (RX5, TX5, 4), (RX6, TX6, 9), (RX7, TX7, 15)]
end
section
theorem dX0_init_0 : decode cX0_init 0 = .ok (.aload_n 0, 1) := by decide +kernel
theorem dX0_init_1 : decode cX0_init 1 = .ok (.invokespecial 3, 3) := by decide +kernel
theorem dX0_init_4 : decode cX0_init 4 = .ok (.aload_n 0, 1) := by decide +kernel
theorem dX0_init_5 : decode cX0_init 5 = .ok (.bipush 12, 2) := by decide +kernel
theorem dX0_init_7 : decode cX0_init 7 = .ok (.newarray .int, 2) := by decide +kernel
theorem dX0_init_9 : decode cX0_init 9 = .ok (.putfield 9, 3) := by decide +kernel
theorem dX0_init_12 : decode cX0_init 12 = .ok (.return_, 1) := by decide +kernel
theorem dX0_become_0 : decode cX0_become 0 = .ok (.aload_n 1, 1) := by decide +kernel
theorem dX0_become_1 : decode cX0_become 1 = .ok (.getfield 9, 3) := by decide +kernel
theorem dX0_become_4 : decode cX0_become 4 = .ok (.iconst 0, 1) := by decide +kernel
theorem dX0_become_5 : decode cX0_become 5 = .ok (.aload_n 0, 1) := by decide +kernel
theorem dX0_become_6 : decode cX0_become 6 = .ok (.getfield 9, 3) := by decide +kernel
theorem dX0_become_9 : decode cX0_become 9 = .ok (.iconst 0, 1) := by decide +kernel
theorem dX0_become_10 : decode cX0_become 10 = .ok (.bipush 12, 2) := by decide +kernel
theorem dX0_become_12 : decode cX0_become 12 = .ok (.invokestatic 15, 3) := by decide +kernel
theorem dX0_become_15 : decode cX0_become 15 = .ok (.aload_n 0, 1) := by decide +kernel
theorem dX0_become_16 : decode cX0_become 16 = .ok (.aload_n 1, 1) := by decide +kernel
theorem dX0_become_17 : decode cX0_become 17 = .ok (.getfield 21, 3) := by decide +kernel
theorem dX0_become_20 : decode cX0_become 20 = .ok (.putfield 21, 3) := by decide +kernel
theorem dX0_become_23 : decode cX0_become 23 = .ok (.return_, 1) := by decide +kernel
theorem dX0_at_0 : decode cX0_at 0 = .ok (.iload_n 1, 1) := by decide +kernel
theorem dX0_at_1 : decode cX0_at 1 = .ok (.iconst 0, 1) := by decide +kernel
theorem dX0_at_2 : decode cX0_at 2 = .ok (.bipush 11, 2) := by decide +kernel
theorem dX0_at_4 : decode cX0_at 4 = .ok (.invokestatic 25, 3) := by decide +kernel
theorem dX0_at_7 : decode cX0_at 7 = .ok (.ifCond .eq 20, 3) := by decide +kernel
theorem dX0_at_10 : decode cX0_at 10 = .ok (.aload_n 0, 1) := by decide +kernel
theorem dX0_at_11 : decode cX0_at 11 = .ok (.getfield 9, 3) := by decide +kernel
theorem dX0_at_14 : decode cX0_at 14 = .ok (.aload_n 0, 1) := by decide +kernel
theorem dX0_at_15 : decode cX0_at 15 = .ok (.getfield 21, 3) := by decide +kernel
theorem dX0_at_18 : decode cX0_at 18 = .ok (.iload_n 1, 1) := by decide +kernel
theorem dX0_at_19 : decode cX0_at 19 = .ok (.iadd, 1) := by decide +kernel
theorem dX0_at_20 : decode cX0_at 20 = .ok (.bipush 12, 2) := by decide +kernel
theorem dX0_at_22 : decode cX0_at 22 = .ok (.irem, 1) := by decide +kernel
theorem dX0_at_23 : decode cX0_at 23 = .ok (.iaload, 1) := by decide +kernel
theorem dX0_at_24 : decode cX0_at 24 = .ok (.goto 5, 3) := by decide +kernel
theorem dX0_at_27 : decode cX0_at 27 = .ok (.bipush (-101), 2) := by decide +kernel
theorem dX0_at_29 : decode cX0_at 29 = .ok (.ireturn, 1) := by decide +kernel
theorem dX0_moveOn_0 : decode cX0_moveOn 0 = .ok (.aload_n 0, 1) := by decide +kernel
theorem dX0_moveOn_1 : decode cX0_moveOn 1 = .ok (.aload_n 0, 1) := by decide +kernel
theorem dX0_moveOn_2 : decode cX0_moveOn 2 = .ok (.getfield 21, 3) := by decide +kernel
theorem dX0_moveOn_5 : decode cX0_moveOn 5 = .ok (.bipush 12, 2) := by decide +kernel
theorem dX0_moveOn_7 : decode cX0_moveOn 7 = .ok (.iadd, 1) := by decide +kernel
theorem dX0_moveOn_8 : decode cX0_moveOn 8 = .ok (.iconst 1, 1) := by decide +kernel
theorem dX0_moveOn_9 : decode cX0_moveOn 9 = .ok (.isub, 1) := by decide +kernel
theorem dX0_moveOn_10 : decode cX0_moveOn 10 = .ok (.bipush 12, 2) := by decide +kernel
theorem dX0_moveOn_12 : decode cX0_moveOn 12 = .ok (.irem, 1) := by decide +kernel
theorem dX0_moveOn_13 : decode cX0_moveOn 13 = .ok (.putfield 21, 3) := by decide +kernel
theorem dX0_moveOn_16 : decode cX0_moveOn 16 = .ok (.return_, 1) := by decide +kernel
theorem dX0_emptyAtHead_0 : decode cX0_emptyAtHead 0 = .ok (.aload_n 0, 1) := by decide +kernel
theorem dX0_emptyAtHead_1 : decode cX0_emptyAtHead 1 = .ok (.getfield 21, 3) := by decide +kernel
theorem dX0_emptyAtHead_4 : decode cX0_emptyAtHead 4 = .ok (.bipush 6, 2) := by decide +kernel
theorem dX0_emptyAtHead_6 : decode cX0_emptyAtHead 6 = .ok (.iadd, 1) := by decide +kernel
theorem dX0_emptyAtHead_7 : decode cX0_emptyAtHead 7 = .ok (.bipush 12, 2) := by decide +kernel
theorem dX0_emptyAtHead_9 : decode cX0_emptyAtHead 9 = .ok (.irem, 1) := by decide +kernel
theorem dX0_emptyAtHead_10 : decode cX0_emptyAtHead 10 = .ok (.istore_n 1, 1) := by decide +kernel
theorem dX0_emptyAtHead_11 : decode cX0_emptyAtHead 11 = .ok (.aload_n 0, 1) := by decide +kernel
theorem dX0_emptyAtHead_12 : decode cX0_emptyAtHead 12 = .ok (.getfield 9, 3) := by decide +kernel
theorem dX0_emptyAtHead_15 : decode cX0_emptyAtHead 15 = .ok (.iload_n 1, 1) := by decide +kernel
theorem dX0_emptyAtHead_16 : decode cX0_emptyAtHead 16 = .ok (.iaload, 1) := by decide +kernel
theorem dX0_emptyAtHead_17 : decode cX0_emptyAtHead 17 = .ok (.istore_n 2, 1) := by decide +kernel
theorem dX0_emptyAtHead_18 : decode cX0_emptyAtHead 18 = .ok (.aload_n 0, 1) := by decide +kernel
theorem dX0_emptyAtHead_19 : decode cX0_emptyAtHead 19 = .ok (.getfield 9, 3) := by decide +kernel
theorem dX0_emptyAtHead_22 : decode cX0_emptyAtHead 22 = .ok (.iload_n 1, 1) := by decide +kernel
theorem dX0_emptyAtHead_23 : decode cX0_emptyAtHead 23 = .ok (.iconst 0, 1) := by decide +kernel
theorem dX0_emptyAtHead_24 : decode cX0_emptyAtHead 24 = .ok (.iastore, 1) := by decide +kernel
theorem dX0_emptyAtHead_25 : decode cX0_emptyAtHead 25 = .ok (.iload_n 2, 1) := by decide +kernel
theorem dX0_emptyAtHead_26 : decode cX0_emptyAtHead 26 = .ok (.ireturn, 1) := by decide +kernel
theorem dX0_fillInBoot_0 : decode cX0_fillInBoot 0 = .ok (.iload_n 1, 1) := by decide +kernel
theorem dX0_fillInBoot_1 : decode cX0_fillInBoot 1 = .ok (.iconst 0, 1) := by decide +kernel
theorem dX0_fillInBoot_2 : decode cX0_fillInBoot 2 = .ok (.iload_n 2, 1) := by decide +kernel
theorem dX0_fillInBoot_3 : decode cX0_fillInBoot 3 = .ok (.aload_n 0, 1) := by decide +kernel
theorem dX0_fillInBoot_4 : decode cX0_fillInBoot 4 = .ok (.getfield 9, 3) := by decide +kernel
theorem dX0_fillInBoot_7 : decode cX0_fillInBoot 7 = .ok (.aload_n 0, 1) := by decide +kernel
theorem dX0_fillInBoot_8 : decode cX0_fillInBoot 8 = .ok (.getfield 21, 3) := by decide +kernel
theorem dX0_fillInBoot_11 : decode cX0_fillInBoot 11 = .ok (.iaload, 1) := by decide +kernel
theorem dX0_fillInBoot_12 : decode cX0_fillInBoot 12 = .ok (.isub, 1) := by decide +kernel
theorem dX0_fillInBoot_13 : decode cX0_fillInBoot 13 = .ok (.invokestatic 29, 3) := by decide +kernel
theorem dX0_fillInBoot_16 : decode cX0_fillInBoot 16 = .ok (.invokestatic 35, 3) := by decide +kernel
theorem dX0_fillInBoot_19 : decode cX0_fillInBoot 19 = .ok (.istore_n 3, 1) := by decide +kernel
theorem dX0_fillInBoot_20 : decode cX0_fillInBoot 20 = .ok (.aload_n 0, 1) := by decide +kernel
theorem dX0_fillInBoot_21 : decode cX0_fillInBoot 21 = .ok (.getfield 9, 3) := by decide +kernel
theorem dX0_fillInBoot_24 : decode cX0_fillInBoot 24 = .ok (.aload_n 0, 1) := by decide +kernel
theorem dX0_fillInBoot_25 : decode cX0_fillInBoot 25 = .ok (.getfield 21, 3) := by decide +kernel
theorem dX0_fillInBoot_28 : decode cX0_fillInBoot 28 = .ok (.dup2, 1) := by decide +kernel
theorem dX0_fillInBoot_29 : decode cX0_fillInBoot 29 = .ok (.iaload, 1) := by decide +kernel
theorem dX0_fillInBoot_30 : decode cX0_fillInBoot 30 = .ok (.iload_n 3, 1) := by decide +kernel
theorem dX0_fillInBoot_31 : decode cX0_fillInBoot 31 = .ok (.iadd, 1) := by decide +kernel
theorem dX0_fillInBoot_32 : decode cX0_fillInBoot 32 = .ok (.iastore, 1) := by decide +kernel
theorem dX0_fillInBoot_33 : decode cX0_fillInBoot 33 = .ok (.iload_n 3, 1) := by decide +kernel
theorem dX0_fillInBoot_34 : decode cX0_fillInBoot 34 = .ok (.ireturn, 1) := by decide +kernel
theorem dX0_onTheWayUp_0 : decode cX0_onTheWayUp 0 = .ok (.iconst 0, 1) := by decide +kernel
theorem dX0_onTheWayUp_1 : decode cX0_onTheWayUp 1 = .ok (.istore_n 1, 1) := by decide +kernel
theorem dX0_onTheWayUp_2 : decode cX0_onTheWayUp 2 = .ok (.iconst 1, 1) := by decide +kernel
theorem dX0_onTheWayUp_3 : decode cX0_onTheWayUp 3 = .ok (.istore_n 2, 1) := by decide +kernel
theorem dX0_onTheWayUp_4 : decode cX0_onTheWayUp 4 = .ok (.iload_n 2, 1) := by decide +kernel
theorem dX0_onTheWayUp_5 : decode cX0_onTheWayUp 5 = .ok (.bipush 6, 2) := by decide +kernel
theorem dX0_onTheWayUp_7 : decode cX0_onTheWayUp 7 = .ok (.if_icmp .gt 26, 3) := by decide +kernel
theorem dX0_onTheWayUp_10 : decode cX0_onTheWayUp 10 = .ok (.iload_n 1, 1) := by decide +kernel
theorem dX0_onTheWayUp_11 : decode cX0_onTheWayUp 11 = .ok (.aload_n 0, 1) := by decide +kernel
theorem dX0_onTheWayUp_12 : decode cX0_onTheWayUp 12 = .ok (.getfield 9, 3) := by decide +kernel
theorem dX0_onTheWayUp_15 : decode cX0_onTheWayUp 15 = .ok (.aload_n 0, 1) := by decide +kernel
theorem dX0_onTheWayUp_16 : decode cX0_onTheWayUp 16 = .ok (.getfield 21, 3) := by decide +kernel
theorem dX0_onTheWayUp_19 : decode cX0_onTheWayUp 19 = .ok (.iload_n 2, 1) := by decide +kernel
theorem dX0_onTheWayUp_20 : decode cX0_onTheWayUp 20 = .ok (.iadd, 1) := by decide +kernel
theorem dX0_onTheWayUp_21 : decode cX0_onTheWayUp 21 = .ok (.bipush 12, 2) := by decide +kernel
theorem dX0_onTheWayUp_23 : decode cX0_onTheWayUp 23 = .ok (.irem, 1) := by decide +kernel
theorem dX0_onTheWayUp_24 : decode cX0_onTheWayUp 24 = .ok (.iaload, 1) := by decide +kernel
theorem dX0_onTheWayUp_25 : decode cX0_onTheWayUp 25 = .ok (.iadd, 1) := by decide +kernel
theorem dX0_onTheWayUp_26 : decode cX0_onTheWayUp 26 = .ok (.istore_n 1, 1) := by decide +kernel
theorem dX0_onTheWayUp_27 : decode cX0_onTheWayUp 27 = .ok (.iinc 2 1, 3) := by decide +kernel
theorem dX0_onTheWayUp_30 : decode cX0_onTheWayUp 30 = .ok (.goto (-26), 3) := by decide +kernel
theorem dX0_onTheWayUp_33 : decode cX0_onTheWayUp 33 = .ok (.iload_n 1, 1) := by decide +kernel
theorem dX0_onTheWayUp_34 : decode cX0_onTheWayUp 34 = .ok (.ireturn, 1) := by decide +kernel
theorem dX0_onAll_0 : decode cX0_onAll 0 = .ok (.iconst 0, 1) := by decide +kernel
theorem dX0_onAll_1 : decode cX0_onAll 1 = .ok (.istore_n 1, 1) := by decide +kernel
theorem dX0_onAll_2 : decode cX0_onAll 2 = .ok (.iconst 0, 1) := by decide +kernel
theorem dX0_onAll_3 : decode cX0_onAll 3 = .ok (.istore_n 2, 1) := by decide +kernel
theorem dX0_onAll_4 : decode cX0_onAll 4 = .ok (.iload_n 2, 1) := by decide +kernel
theorem dX0_onAll_5 : decode cX0_onAll 5 = .ok (.bipush 12, 2) := by decide +kernel
theorem dX0_onAll_7 : decode cX0_onAll 7 = .ok (.if_icmp .ge 18, 3) := by decide +kernel
theorem dX0_onAll_10 : decode cX0_onAll 10 = .ok (.iload_n 1, 1) := by decide +kernel
theorem dX0_onAll_11 : decode cX0_onAll 11 = .ok (.aload_n 0, 1) := by decide +kernel
theorem dX0_onAll_12 : decode cX0_onAll 12 = .ok (.getfield 9, 3) := by decide +kernel
theorem dX0_onAll_15 : decode cX0_onAll 15 = .ok (.iload_n 2, 1) := by decide +kernel
theorem dX0_onAll_16 : decode cX0_onAll 16 = .ok (.iaload, 1) := by decide +kernel
theorem dX0_onAll_17 : decode cX0_onAll 17 = .ok (.iadd, 1) := by decide +kernel
theorem dX0_onAll_18 : decode cX0_onAll 18 = .ok (.istore_n 1, 1) := by decide +kernel
theorem dX0_onAll_19 : decode cX0_onAll 19 = .ok (.iinc 2 1, 3) := by decide +kernel
theorem dX0_onAll_22 : decode cX0_onAll 22 = .ok (.goto (-18), 3) := by decide +kernel
theorem dX0_onAll_25 : decode cX0_onAll 25 = .ok (.iload_n 1, 1) := by decide +kernel
theorem dX0_onAll_26 : decode cX0_onAll 26 = .ok (.ireturn, 1) := by decide +kernel
theorem dX1_init_0 : decode cX1_init 0 = .ok (.aload_n 0, 1) := by decide +kernel
theorem dX1_init_1 : decode cX1_init 1 = .ok (.invokespecial 3, 3) := by decide +kernel
theorem dX1_init_4 : decode cX1_init 4 = .ok (.return_, 1) := by decide +kernel
theorem dX1_become_0 : decode cX1_become 0 = .ok (.aload_n 0, 1) := by decide +kernel
theorem dX1_become_1 : decode cX1_become 1 = .ok (.aload_n 1, 1) := by decide +kernel
theorem dX1_become_2 : decode cX1_become 2 = .ok (.getfield 9, 3) := by decide +kernel
theorem dX1_become_5 : decode cX1_become 5 = .ok (.putfield 9, 3) := by decide +kernel
theorem dX1_become_8 : decode cX1_become 8 = .ok (.aload_n 0, 1) := by decide +kernel
theorem dX1_become_9 : decode cX1_become 9 = .ok (.aload_n 1, 1) := by decide +kernel
theorem dX1_become_10 : decode cX1_become 10 = .ok (.getfield 15, 3) := by decide +kernel
theorem dX1_become_13 : decode cX1_become 13 = .ok (.putfield 15, 3) := by decide +kernel
theorem dX1_become_16 : decode cX1_become 16 = .ok (.aload_n 0, 1) := by decide +kernel
theorem dX1_become_17 : decode cX1_become 17 = .ok (.aload_n 1, 1) := by decide +kernel
theorem dX1_become_18 : decode cX1_become 18 = .ok (.getfield 18, 3) := by decide +kernel
theorem dX1_become_21 : decode cX1_become 21 = .ok (.putfield 18, 3) := by decide +kernel
theorem dX1_become_24 : decode cX1_become 24 = .ok (.aload_n 0, 1) := by decide +kernel
theorem dX1_become_25 : decode cX1_become 25 = .ok (.aload_n 1, 1) := by decide +kernel
theorem dX1_become_26 : decode cX1_become 26 = .ok (.getfield 21, 3) := by decide +kernel
theorem dX1_become_29 : decode cX1_become 29 = .ok (.putfield 21, 3) := by decide +kernel
theorem dX1_become_32 : decode cX1_become 32 = .ok (.aload_n 0, 1) := by decide +kernel
theorem dX1_become_33 : decode cX1_become 33 = .ok (.aload_n 1, 1) := by decide +kernel
theorem dX1_become_34 : decode cX1_become 34 = .ok (.getfield 24, 3) := by decide +kernel
theorem dX1_become_37 : decode cX1_become 37 = .ok (.putfield 24, 3) := by decide +kernel
theorem dX1_become_40 : decode cX1_become 40 = .ok (.aload_n 0, 1) := by decide +kernel
theorem dX1_become_41 : decode cX1_become 41 = .ok (.aload_n 1, 1) := by decide +kernel
theorem dX1_become_42 : decode cX1_become 42 = .ok (.getfield 27, 3) := by decide +kernel
theorem dX1_become_45 : decode cX1_become 45 = .ok (.putfield 27, 3) := by decide +kernel
theorem dX1_become_48 : decode cX1_become 48 = .ok (.return_, 1) := by decide +kernel
theorem dX1_feedIn_0 : decode cX1_feedIn 0 = .ok (.aload_n 0, 1) := by decide +kernel
theorem dX1_feedIn_1 : decode cX1_feedIn 1 = .ok (.dup, 1) := by decide +kernel
theorem dX1_feedIn_2 : decode cX1_feedIn 2 = .ok (.getfield 21, 3) := by decide +kernel
theorem dX1_feedIn_5 : decode cX1_feedIn 5 = .ok (.iload_n 1, 1) := by decide +kernel
theorem dX1_feedIn_6 : decode cX1_feedIn 6 = .ok (.iadd, 1) := by decide +kernel
theorem dX1_feedIn_7 : decode cX1_feedIn 7 = .ok (.putfield 21, 3) := by decide +kernel
theorem dX1_feedIn_10 : decode cX1_feedIn 10 = .ok (.aload_n 0, 1) := by decide +kernel
theorem dX1_feedIn_11 : decode cX1_feedIn 11 = .ok (.iload_n 1, 1) := by decide +kernel
theorem dX1_feedIn_12 : decode cX1_feedIn 12 = .ok (.invokevirtual 30, 3) := by decide +kernel
theorem dX1_feedIn_15 : decode cX1_feedIn 15 = .ok (.return_, 1) := by decide +kernel
theorem dX1_fallBack_0 : decode cX1_fallBack 0 = .ok (.aload_n 0, 1) := by decide +kernel
theorem dX1_fallBack_1 : decode cX1_fallBack 1 = .ok (.dup, 1) := by decide +kernel
theorem dX1_fallBack_2 : decode cX1_fallBack 2 = .ok (.getfield 27, 3) := by decide +kernel
theorem dX1_fallBack_5 : decode cX1_fallBack 5 = .ok (.iload_n 1, 1) := by decide +kernel
theorem dX1_fallBack_6 : decode cX1_fallBack 6 = .ok (.iadd, 1) := by decide +kernel
theorem dX1_fallBack_7 : decode cX1_fallBack 7 = .ok (.putfield 27, 3) := by decide +kernel
theorem dX1_fallBack_10 : decode cX1_fallBack 10 = .ok (.aload_n 0, 1) := by decide +kernel
theorem dX1_fallBack_11 : decode cX1_fallBack 11 = .ok (.iload_n 1, 1) := by decide +kernel
theorem dX1_fallBack_12 : decode cX1_fallBack 12 = .ok (.invokevirtual 30, 3) := by decide +kernel
theorem dX1_fallBack_15 : decode cX1_fallBack 15 = .ok (.return_, 1) := by decide +kernel
theorem dX1_pourIntoBoot_0 : decode cX1_pourIntoBoot 0 = .ok (.iload_n 1, 1) := by decide +kernel
theorem dX1_pourIntoBoot_1 : decode cX1_pourIntoBoot 1 = .ok (.sipush 300, 3) := by decide +kernel
theorem dX1_pourIntoBoot_4 : decode cX1_pourIntoBoot 4 = .ok (.aload_n 0, 1) := by decide +kernel
theorem dX1_pourIntoBoot_5 : decode cX1_pourIntoBoot 5 = .ok (.getfield 9, 3) := by decide +kernel
theorem dX1_pourIntoBoot_8 : decode cX1_pourIntoBoot 8 = .ok (.isub, 1) := by decide +kernel
theorem dX1_pourIntoBoot_9 : decode cX1_pourIntoBoot 9 = .ok (.invokestatic 34, 3) := by decide +kernel
theorem dX1_pourIntoBoot_12 : decode cX1_pourIntoBoot 12 = .ok (.istore_n 2, 1) := by decide +kernel
theorem dX1_pourIntoBoot_13 : decode cX1_pourIntoBoot 13 = .ok (.aload_n 0, 1) := by decide +kernel
theorem dX1_pourIntoBoot_14 : decode cX1_pourIntoBoot 14 = .ok (.dup, 1) := by decide +kernel
theorem dX1_pourIntoBoot_15 : decode cX1_pourIntoBoot 15 = .ok (.getfield 9, 3) := by decide +kernel
theorem dX1_pourIntoBoot_18 : decode cX1_pourIntoBoot 18 = .ok (.iload_n 2, 1) := by decide +kernel
theorem dX1_pourIntoBoot_19 : decode cX1_pourIntoBoot 19 = .ok (.iadd, 1) := by decide +kernel
theorem dX1_pourIntoBoot_20 : decode cX1_pourIntoBoot 20 = .ok (.putfield 9, 3) := by decide +kernel
theorem dX1_pourIntoBoot_23 : decode cX1_pourIntoBoot 23 = .ok (.aload_n 0, 1) := by decide +kernel
theorem dX1_pourIntoBoot_24 : decode cX1_pourIntoBoot 24 = .ok (.dup, 1) := by decide +kernel
theorem dX1_pourIntoBoot_25 : decode cX1_pourIntoBoot 25 = .ok (.getfield 18, 3) := by decide +kernel
theorem dX1_pourIntoBoot_28 : decode cX1_pourIntoBoot 28 = .ok (.iload_n 1, 1) := by decide +kernel
theorem dX1_pourIntoBoot_29 : decode cX1_pourIntoBoot 29 = .ok (.iload_n 2, 1) := by decide +kernel
theorem dX1_pourIntoBoot_30 : decode cX1_pourIntoBoot 30 = .ok (.isub, 1) := by decide +kernel
theorem dX1_pourIntoBoot_31 : decode cX1_pourIntoBoot 31 = .ok (.iadd, 1) := by decide +kernel
theorem dX1_pourIntoBoot_32 : decode cX1_pourIntoBoot 32 = .ok (.putfield 18, 3) := by decide +kernel
theorem dX1_pourIntoBoot_35 : decode cX1_pourIntoBoot 35 = .ok (.return_, 1) := by decide +kernel
theorem dX2_init_0 : decode cX2_init 0 = .ok (.aload_n 0, 1) := by decide +kernel
theorem dX2_init_1 : decode cX2_init 1 = .ok (.invokespecial 3, 3) := by decide +kernel
theorem dX2_init_4 : decode cX2_init 4 = .ok (.aload_n 0, 1) := by decide +kernel
theorem dX2_init_5 : decode cX2_init 5 = .ok (.iconst 4, 1) := by decide +kernel
theorem dX2_init_6 : decode cX2_init 6 = .ok (.anewarray 9, 3) := by decide +kernel
theorem dX2_init_9 : decode cX2_init 9 = .ok (.putfield 11, 3) := by decide +kernel
theorem dX2_init_12 : decode cX2_init 12 = .ok (.iconst 0, 1) := by decide +kernel
theorem dX2_init_13 : decode cX2_init 13 = .ok (.istore_n 1, 1) := by decide +kernel
theorem dX2_init_14 : decode cX2_init 14 = .ok (.iload_n 1, 1) := by decide +kernel
theorem dX2_init_15 : decode cX2_init 15 = .ok (.iconst 4, 1) := by decide +kernel
theorem dX2_init_16 : decode cX2_init 16 = .ok (.if_icmp .ge 22, 3) := by decide +kernel
theorem dX2_init_19 : decode cX2_init 19 = .ok (.aload_n 0, 1) := by decide +kernel
theorem dX2_init_20 : decode cX2_init 20 = .ok (.getfield 11, 3) := by decide +kernel
theorem dX2_init_23 : decode cX2_init 23 = .ok (.iload_n 1, 1) := by decide +kernel
theorem dX2_init_24 : decode cX2_init 24 = .ok (.new 9, 3) := by decide +kernel
theorem dX2_init_27 : decode cX2_init 27 = .ok (.dup, 1) := by decide +kernel
theorem dX2_init_28 : decode cX2_init 28 = .ok (.invokespecial 17, 3) := by decide +kernel
theorem dX2_init_31 : decode cX2_init 31 = .ok (.aastore, 1) := by decide +kernel
theorem dX2_init_32 : decode cX2_init 32 = .ok (.iinc 1 1, 3) := by decide +kernel
theorem dX2_init_35 : decode cX2_init 35 = .ok (.goto (-21), 3) := by decide +kernel
theorem dX2_init_38 : decode cX2_init 38 = .ok (.return_, 1) := by decide +kernel
theorem dX2_indexOf_0 : decode cX2_indexOf 0 = .ok (.aload_n 0, 1) := by decide +kernel
theorem dX2_indexOf_1 : decode cX2_indexOf 1 = .ok (.getfield 18, 3) := by decide +kernel
theorem dX2_indexOf_4 : decode cX2_indexOf 4 = .ok (.iload_n 1, 1) := by decide +kernel
theorem dX2_indexOf_5 : decode cX2_indexOf 5 = .ok (.iadd, 1) := by decide +kernel
theorem dX2_indexOf_6 : decode cX2_indexOf 6 = .ok (.iconst 4, 1) := by decide +kernel
theorem dX2_indexOf_7 : decode cX2_indexOf 7 = .ok (.invokestatic 22, 3) := by decide +kernel
theorem dX2_indexOf_10 : decode cX2_indexOf 10 = .ok (.ireturn, 1) := by decide +kernel
theorem dX2_remember_0 : decode cX2_remember 0 = .ok (.aload_n 0, 1) := by decide +kernel
theorem dX2_remember_1 : decode cX2_remember 1 = .ok (.getfield 11, 3) := by decide +kernel
theorem dX2_remember_4 : decode cX2_remember 4 = .ok (.aload_n 0, 1) := by decide +kernel
theorem dX2_remember_5 : decode cX2_remember 5 = .ok (.aload_n 0, 1) := by decide +kernel
theorem dX2_remember_6 : decode cX2_remember 6 = .ok (.getfield 28, 3) := by decide +kernel
theorem dX2_remember_9 : decode cX2_remember 9 = .ok (.invokevirtual 31, 3) := by decide +kernel
theorem dX2_remember_12 : decode cX2_remember 12 = .ok (.aaload, 1) := by decide +kernel
theorem dX2_remember_13 : decode cX2_remember 13 = .ok (.astore_n 2, 1) := by decide +kernel
theorem dX2_remember_14 : decode cX2_remember 14 = .ok (.aload_n 2, 1) := by decide +kernel
theorem dX2_remember_15 : decode cX2_remember 15 = .ok (.ifnonnull 4, 3) := by decide +kernel
theorem dX2_remember_18 : decode cX2_remember 18 = .ok (.return_, 1) := by decide +kernel
theorem dX2_remember_19 : decode cX2_remember 19 = .ok (.aload_n 2, 1) := by decide +kernel
theorem dX2_remember_20 : decode cX2_remember 20 = .ok (.aload_n 1, 1) := by decide +kernel
theorem dX2_remember_21 : decode cX2_remember 21 = .ok (.invokevirtual 35, 3) := by decide +kernel
theorem dX2_remember_24 : decode cX2_remember 24 = .ok (.aload_n 0, 1) := by decide +kernel
theorem dX2_remember_25 : decode cX2_remember 25 = .ok (.getfield 28, 3) := by decide +kernel
theorem dX2_remember_28 : decode cX2_remember 28 = .ok (.iconst 4, 1) := by decide +kernel
theorem dX2_remember_29 : decode cX2_remember 29 = .ok (.if_icmp .ge 16, 3) := by decide +kernel
theorem dX2_remember_32 : decode cX2_remember 32 = .ok (.aload_n 0, 1) := by decide +kernel
theorem dX2_remember_33 : decode cX2_remember 33 = .ok (.dup, 1) := by decide +kernel
theorem dX2_remember_34 : decode cX2_remember 34 = .ok (.getfield 28, 3) := by decide +kernel
theorem dX2_remember_37 : decode cX2_remember 37 = .ok (.iconst 1, 1) := by decide +kernel
theorem dX2_remember_38 : decode cX2_remember 38 = .ok (.iadd, 1) := by decide +kernel
theorem dX2_remember_39 : decode cX2_remember 39 = .ok (.putfield 28, 3) := by decide +kernel
theorem dX2_remember_42 : decode cX2_remember 42 = .ok (.goto 12, 3) := by decide +kernel
theorem dX2_remember_45 : decode cX2_remember 45 = .ok (.aload_n 0, 1) := by decide +kernel
theorem dX2_remember_46 : decode cX2_remember 46 = .ok (.aload_n 0, 1) := by decide +kernel
theorem dX2_remember_47 : decode cX2_remember 47 = .ok (.iconst 1, 1) := by decide +kernel
theorem dX2_remember_48 : decode cX2_remember 48 = .ok (.invokevirtual 31, 3) := by decide +kernel
theorem dX2_remember_51 : decode cX2_remember 51 = .ok (.putfield 18, 3) := by decide +kernel
theorem dX2_remember_54 : decode cX2_remember 54 = .ok (.return_, 1) := by decide +kernel
theorem dX2_takeBack_0 : decode cX2_takeBack 0 = .ok (.aload_n 0, 1) := by decide +kernel
theorem dX2_takeBack_1 : decode cX2_takeBack 1 = .ok (.getfield 11, 3) := by decide +kernel
theorem dX2_takeBack_4 : decode cX2_takeBack 4 = .ok (.aload_n 0, 1) := by decide +kernel
theorem dX2_takeBack_5 : decode cX2_takeBack 5 = .ok (.aload_n 0, 1) := by decide +kernel
theorem dX2_takeBack_6 : decode cX2_takeBack 6 = .ok (.getfield 28, 3) := by decide +kernel
theorem dX2_takeBack_9 : decode cX2_takeBack 9 = .ok (.iconst 1, 1) := by decide +kernel
theorem dX2_takeBack_10 : decode cX2_takeBack 10 = .ok (.isub, 1) := by decide +kernel
theorem dX2_takeBack_11 : decode cX2_takeBack 11 = .ok (.invokevirtual 31, 3) := by decide +kernel
theorem dX2_takeBack_14 : decode cX2_takeBack 14 = .ok (.aaload, 1) := by decide +kernel
theorem dX2_takeBack_15 : decode cX2_takeBack 15 = .ok (.astore_n 2, 1) := by decide +kernel
theorem dX2_takeBack_16 : decode cX2_takeBack 16 = .ok (.aload_n 0, 1) := by decide +kernel
theorem dX2_takeBack_17 : decode cX2_takeBack 17 = .ok (.getfield 28, 3) := by decide +kernel
theorem dX2_takeBack_20 : decode cX2_takeBack 20 = .ok (.ifCond .eq 7, 3) := by decide +kernel
theorem dX2_takeBack_23 : decode cX2_takeBack 23 = .ok (.aload_n 2, 1) := by decide +kernel
theorem dX2_takeBack_24 : decode cX2_takeBack 24 = .ok (.ifnonnull 5, 3) := by decide +kernel
theorem dX2_takeBack_27 : decode cX2_takeBack 27 = .ok (.iconst 0, 1) := by decide +kernel
theorem dX2_takeBack_28 : decode cX2_takeBack 28 = .ok (.ireturn, 1) := by decide +kernel
theorem dX2_takeBack_29 : decode cX2_takeBack 29 = .ok (.aload_n 1, 1) := by decide +kernel
theorem dX2_takeBack_30 : decode cX2_takeBack 30 = .ok (.aload_n 2, 1) := by decide +kernel
theorem dX2_takeBack_31 : decode cX2_takeBack 31 = .ok (.invokevirtual 35, 3) := by decide +kernel
theorem dX2_takeBack_34 : decode cX2_takeBack 34 = .ok (.aload_n 0, 1) := by decide +kernel
theorem dX2_takeBack_35 : decode cX2_takeBack 35 = .ok (.dup, 1) := by decide +kernel
theorem dX2_takeBack_36 : decode cX2_takeBack 36 = .ok (.getfield 28, 3) := by decide +kernel
theorem dX2_takeBack_39 : decode cX2_takeBack 39 = .ok (.iconst 1, 1) := by decide +kernel
theorem dX2_takeBack_40 : decode cX2_takeBack 40 = .ok (.isub, 1) := by decide +kernel
theorem dX2_takeBack_41 : decode cX2_takeBack 41 = .ok (.putfield 28, 3) := by decide +kernel
theorem dX2_takeBack_44 : decode cX2_takeBack 44 = .ok (.iconst 1, 1) := by decide +kernel
theorem dX2_takeBack_45 : decode cX2_takeBack 45 = .ok (.ireturn, 1) := by decide +kernel
theorem dX3_init_0 : decode cX3_init 0 = .ok (.aload_n 0, 1) := by decide +kernel
theorem dX3_init_1 : decode cX3_init 1 = .ok (.invokespecial 3, 3) := by decide +kernel
theorem dX3_init_4 : decode cX3_init 4 = .ok (.aload_n 0, 1) := by decide +kernel
theorem dX3_init_5 : decode cX3_init 5 = .ok (.getstatic 9, 3) := by decide +kernel
theorem dX3_init_8 : decode cX3_init 8 = .ok (.invokevirtual 13, 3) := by decide +kernel
theorem dX3_init_11 : decode cX3_init 11 = .ok (.checkcast 14, 3) := by decide +kernel
theorem dX3_init_14 : decode cX3_init 14 = .ok (.putfield 18, 3) := by decide +kernel
theorem dX3_init_17 : decode cX3_init 17 = .ok (.aload_n 0, 1) := by decide +kernel
theorem dX3_init_18 : decode cX3_init 18 = .ok (.new 23, 3) := by decide +kernel
theorem dX3_init_21 : decode cX3_init 21 = .ok (.dup, 1) := by decide +kernel
theorem dX3_init_22 : decode cX3_init 22 = .ok (.invokespecial 25, 3) := by decide +kernel
theorem dX3_init_25 : decode cX3_init 25 = .ok (.putfield 26, 3) := by decide +kernel
theorem dX3_init_28 : decode cX3_init 28 = .ok (.aload_n 0, 1) := by decide +kernel
theorem dX3_init_29 : decode cX3_init 29 = .ok (.new 30, 3) := by decide +kernel
theorem dX3_init_32 : decode cX3_init 32 = .ok (.dup, 1) := by decide +kernel
theorem dX3_init_33 : decode cX3_init 33 = .ok (.invokespecial 32, 3) := by decide +kernel
theorem dX3_init_36 : decode cX3_init 36 = .ok (.putfield 33, 3) := by decide +kernel
theorem dX3_init_39 : decode cX3_init 39 = .ok (.aload_n 0, 1) := by decide +kernel
theorem dX3_init_40 : decode cX3_init 40 = .ok (.new 37, 3) := by decide +kernel
theorem dX3_init_43 : decode cX3_init 43 = .ok (.dup, 1) := by decide +kernel
theorem dX3_init_44 : decode cX3_init 44 = .ok (.invokespecial 39, 3) := by decide +kernel
theorem dX3_init_47 : decode cX3_init 47 = .ok (.putfield 40, 3) := by decide +kernel
theorem dX3_init_50 : decode cX3_init 50 = .ok (.aload_n 0, 1) := by decide +kernel
theorem dX3_init_51 : decode cX3_init 51 = .ok (.iconst 3, 1) := by decide +kernel
theorem dX3_init_52 : decode cX3_init 52 = .ok (.newarray .int, 2) := by decide +kernel
theorem dX3_init_54 : decode cX3_init 54 = .ok (.putfield 44, 3) := by decide +kernel
theorem dX3_init_57 : decode cX3_init 57 = .ok (.aload_n 0, 1) := by decide +kernel
theorem dX3_init_58 : decode cX3_init 58 = .ok (.iconst 3, 1) := by decide +kernel
theorem dX3_init_59 : decode cX3_init 59 = .ok (.newarray .int, 2) := by decide +kernel
theorem dX3_init_61 : decode cX3_init 61 = .ok (.putfield 47, 3) := by decide +kernel
theorem dX3_init_64 : decode cX3_init 64 = .ok (.aload_n 0, 1) := by decide +kernel
theorem dX3_init_65 : decode cX3_init 65 = .ok (.bipush (-105), 2) := by decide +kernel
theorem dX3_init_67 : decode cX3_init 67 = .ok (.putfield 50, 3) := by decide +kernel
theorem dX3_init_70 : decode cX3_init 70 = .ok (.return_, 1) := by decide +kernel
theorem dX3_become_0 : decode cX3_become 0 = .ok (.aload_n 1, 1) := by decide +kernel
theorem dX3_become_1 : decode cX3_become 1 = .ok (.getfield 18, 3) := by decide +kernel
theorem dX3_become_4 : decode cX3_become 4 = .ok (.iconst 0, 1) := by decide +kernel
theorem dX3_become_5 : decode cX3_become 5 = .ok (.aload_n 0, 1) := by decide +kernel
theorem dX3_become_6 : decode cX3_become 6 = .ok (.getfield 18, 3) := by decide +kernel
theorem dX3_become_9 : decode cX3_become 9 = .ok (.iconst 0, 1) := by decide +kernel
theorem dX3_become_10 : decode cX3_become 10 = .ok (.iconst 5, 1) := by decide +kernel
theorem dX3_become_11 : decode cX3_become 11 = .ok (.invokestatic 54, 3) := by decide +kernel
theorem dX3_become_14 : decode cX3_become 14 = .ok (.aload_n 0, 1) := by decide +kernel
theorem dX3_become_15 : decode cX3_become 15 = .ok (.getfield 26, 3) := by decide +kernel
theorem dX3_become_18 : decode cX3_become 18 = .ok (.aload_n 1, 1) := by decide +kernel
theorem dX3_become_19 : decode cX3_become 19 = .ok (.getfield 26, 3) := by decide +kernel
theorem dX3_become_22 : decode cX3_become 22 = .ok (.invokevirtual 60, 3) := by decide +kernel
theorem dX3_become_25 : decode cX3_become 25 = .ok (.aload_n 0, 1) := by decide +kernel
theorem dX3_become_26 : decode cX3_become 26 = .ok (.getfield 33, 3) := by decide +kernel
theorem dX3_become_29 : decode cX3_become 29 = .ok (.aload_n 1, 1) := by decide +kernel
theorem dX3_become_30 : decode cX3_become 30 = .ok (.getfield 33, 3) := by decide +kernel
theorem dX3_become_33 : decode cX3_become 33 = .ok (.invokevirtual 64, 3) := by decide +kernel
theorem dX3_become_36 : decode cX3_become 36 = .ok (.aload_n 0, 1) := by decide +kernel
theorem dX3_become_37 : decode cX3_become 37 = .ok (.getfield 40, 3) := by decide +kernel
theorem dX3_become_40 : decode cX3_become 40 = .ok (.aload_n 1, 1) := by decide +kernel
theorem dX3_become_41 : decode cX3_become 41 = .ok (.getfield 40, 3) := by decide +kernel
theorem dX3_become_44 : decode cX3_become 44 = .ok (.invokevirtual 67, 3) := by decide +kernel
theorem dX3_become_47 : decode cX3_become 47 = .ok (.aload_n 1, 1) := by decide +kernel
theorem dX3_become_48 : decode cX3_become 48 = .ok (.getfield 44, 3) := by decide +kernel
theorem dX3_become_51 : decode cX3_become 51 = .ok (.iconst 0, 1) := by decide +kernel
theorem dX3_become_52 : decode cX3_become 52 = .ok (.aload_n 0, 1) := by decide +kernel
theorem dX3_become_53 : decode cX3_become 53 = .ok (.getfield 44, 3) := by decide +kernel
theorem dX3_become_56 : decode cX3_become 56 = .ok (.iconst 0, 1) := by decide +kernel
theorem dX3_become_57 : decode cX3_become 57 = .ok (.iconst 3, 1) := by decide +kernel
theorem dX3_become_58 : decode cX3_become 58 = .ok (.invokestatic 54, 3) := by decide +kernel
theorem dX3_become_61 : decode cX3_become 61 = .ok (.aload_n 1, 1) := by decide +kernel
theorem dX3_become_62 : decode cX3_become 62 = .ok (.getfield 47, 3) := by decide +kernel
theorem dX3_become_65 : decode cX3_become 65 = .ok (.iconst 0, 1) := by decide +kernel
theorem dX3_become_66 : decode cX3_become 66 = .ok (.aload_n 0, 1) := by decide +kernel
theorem dX3_become_67 : decode cX3_become 67 = .ok (.getfield 47, 3) := by decide +kernel
theorem dX3_become_70 : decode cX3_become 70 = .ok (.iconst 0, 1) := by decide +kernel
theorem dX3_become_71 : decode cX3_become 71 = .ok (.iconst 3, 1) := by decide +kernel
theorem dX3_become_72 : decode cX3_become 72 = .ok (.invokestatic 54, 3) := by decide +kernel
theorem dX3_become_75 : decode cX3_become 75 = .ok (.aload_n 0, 1) := by decide +kernel
theorem dX3_become_76 : decode cX3_become 76 = .ok (.aload_n 1, 1) := by decide +kernel
theorem dX3_become_77 : decode cX3_become 77 = .ok (.getfield 70, 3) := by decide +kernel
theorem dX3_become_80 : decode cX3_become 80 = .ok (.putfield 70, 3) := by decide +kernel
theorem dX3_become_83 : decode cX3_become 83 = .ok (.aload_n 0, 1) := by decide +kernel
theorem dX3_become_84 : decode cX3_become 84 = .ok (.aload_n 1, 1) := by decide +kernel
theorem dX3_become_85 : decode cX3_become 85 = .ok (.getfield 74, 3) := by decide +kernel
theorem dX3_become_88 : decode cX3_become 88 = .ok (.putfield 74, 3) := by decide +kernel
theorem dX3_become_91 : decode cX3_become 91 = .ok (.aload_n 0, 1) := by decide +kernel
theorem dX3_become_92 : decode cX3_become 92 = .ok (.aload_n 1, 1) := by decide +kernel
theorem dX3_become_93 : decode cX3_become 93 = .ok (.getfield 77, 3) := by decide +kernel
theorem dX3_become_96 : decode cX3_become 96 = .ok (.putfield 77, 3) := by decide +kernel
theorem dX3_become_99 : decode cX3_become 99 = .ok (.aload_n 0, 1) := by decide +kernel
theorem dX3_become_100 : decode cX3_become 100 = .ok (.aload_n 1, 1) := by decide +kernel
theorem dX3_become_101 : decode cX3_become 101 = .ok (.getfield 80, 3) := by decide +kernel
theorem dX3_become_104 : decode cX3_become 104 = .ok (.putfield 80, 3) := by decide +kernel
theorem dX3_become_107 : decode cX3_become 107 = .ok (.aload_n 0, 1) := by decide +kernel
theorem dX3_become_108 : decode cX3_become 108 = .ok (.aload_n 1, 1) := by decide +kernel
theorem dX3_become_109 : decode cX3_become 109 = .ok (.getfield 83, 3) := by decide +kernel
theorem dX3_become_112 : decode cX3_become 112 = .ok (.putfield 83, 3) := by decide +kernel
theorem dX3_become_115 : decode cX3_become 115 = .ok (.aload_n 0, 1) := by decide +kernel
theorem dX3_become_116 : decode cX3_become 116 = .ok (.aload_n 1, 1) := by decide +kernel
theorem dX3_become_117 : decode cX3_become 117 = .ok (.getfield 50, 3) := by decide +kernel
theorem dX3_become_120 : decode cX3_become 120 = .ok (.putfield 50, 3) := by decide +kernel
theorem dX3_become_123 : decode cX3_become 123 = .ok (.aload_n 0, 1) := by decide +kernel
theorem dX3_become_124 : decode cX3_become 124 = .ok (.aload_n 1, 1) := by decide +kernel
theorem dX3_become_125 : decode cX3_become 125 = .ok (.getfield 86, 3) := by decide +kernel
theorem dX3_become_128 : decode cX3_become 128 = .ok (.putfield 86, 3) := by decide +kernel
theorem dX3_become_131 : decode cX3_become 131 = .ok (.return_, 1) := by decide +kernel
theorem dX3_setNumber_0 : decode cX3_setNumber 0 = .ok (.iload_n 1, 1) := by decide +kernel
theorem dX3_setNumber_1 : decode cX3_setNumber 1 = .ok (.iconst 0, 1) := by decide +kernel
theorem dX3_setNumber_2 : decode cX3_setNumber 2 = .ok (.iconst 4, 1) := by decide +kernel
theorem dX3_setNumber_3 : decode cX3_setNumber 3 = .ok (.invokestatic 89, 3) := by decide +kernel
theorem dX3_setNumber_6 : decode cX3_setNumber 6 = .ok (.ifCond .ne 6, 3) := by decide +kernel
theorem dX3_setNumber_9 : decode cX3_setNumber 9 = .ok (.bipush (-101), 2) := by decide +kernel
theorem dX3_setNumber_11 : decode cX3_setNumber 11 = .ok (.ireturn, 1) := by decide +kernel
theorem dX3_setNumber_12 : decode cX3_setNumber 12 = .ok (.iload_n 2, 1) := by decide +kernel
theorem dX3_setNumber_13 : decode cX3_setNumber 13 = .ok (.getstatic 93, 3) := by decide +kernel
theorem dX3_setNumber_16 : decode cX3_setNumber 16 = .ok (.iload_n 1, 1) := by decide +kernel
theorem dX3_setNumber_17 : decode cX3_setNumber 17 = .ok (.iaload, 1) := by decide +kernel
theorem dX3_setNumber_18 : decode cX3_setNumber 18 = .ok (.getstatic 96, 3) := by decide +kernel
theorem dX3_setNumber_21 : decode cX3_setNumber 21 = .ok (.iload_n 1, 1) := by decide +kernel
theorem dX3_setNumber_22 : decode cX3_setNumber 22 = .ok (.iaload, 1) := by decide +kernel
theorem dX3_setNumber_23 : decode cX3_setNumber 23 = .ok (.invokestatic 89, 3) := by decide +kernel
theorem dX3_setNumber_26 : decode cX3_setNumber 26 = .ok (.ifCond .ne 6, 3) := by decide +kernel
theorem dX3_setNumber_29 : decode cX3_setNumber 29 = .ok (.bipush (-102), 2) := by decide +kernel
theorem dX3_setNumber_31 : decode cX3_setNumber 31 = .ok (.ireturn, 1) := by decide +kernel
theorem dX3_setNumber_32 : decode cX3_setNumber 32 = .ok (.aload_n 0, 1) := by decide +kernel
theorem dX3_setNumber_33 : decode cX3_setNumber 33 = .ok (.getfield 18, 3) := by decide +kernel
theorem dX3_setNumber_36 : decode cX3_setNumber 36 = .ok (.iload_n 1, 1) := by decide +kernel
theorem dX3_setNumber_37 : decode cX3_setNumber 37 = .ok (.iaload, 1) := by decide +kernel
theorem dX3_setNumber_38 : decode cX3_setNumber 38 = .ok (.istore_n 3, 1) := by decide +kernel
theorem dX3_setNumber_39 : decode cX3_setNumber 39 = .ok (.iload_n 3, 1) := by decide +kernel
theorem dX3_setNumber_40 : decode cX3_setNumber 40 = .ok (.iload_n 2, 1) := by decide +kernel
theorem dX3_setNumber_41 : decode cX3_setNumber 41 = .ok (.if_icmp .ne 6, 3) := by decide +kernel
theorem dX3_setNumber_44 : decode cX3_setNumber 44 = .ok (.bipush (-105), 2) := by decide +kernel
theorem dX3_setNumber_46 : decode cX3_setNumber 46 = .ok (.ireturn, 1) := by decide +kernel
theorem dX3_setNumber_47 : decode cX3_setNumber 47 = .ok (.aload_n 0, 1) := by decide +kernel
theorem dX3_setNumber_48 : decode cX3_setNumber 48 = .ok (.getfield 18, 3) := by decide +kernel
theorem dX3_setNumber_51 : decode cX3_setNumber 51 = .ok (.iload_n 1, 1) := by decide +kernel
theorem dX3_setNumber_52 : decode cX3_setNumber 52 = .ok (.iload_n 2, 1) := by decide +kernel
theorem dX3_setNumber_53 : decode cX3_setNumber 53 = .ok (.iastore, 1) := by decide +kernel
theorem dX3_setNumber_54 : decode cX3_setNumber 54 = .ok (.iload_n 3, 1) := by decide +kernel
theorem dX3_setNumber_55 : decode cX3_setNumber 55 = .ok (.ireturn, 1) := by decide +kernel
theorem dX3_moveGate_0 : decode cX3_moveGate 0 = .ok (.iload_n 1, 1) := by decide +kernel
theorem dX3_moveGate_1 : decode cX3_moveGate 1 = .ok (.ifCond .eq 15, 3) := by decide +kernel
theorem dX3_moveGate_4 : decode cX3_moveGate 4 = .ok (.aload_n 0, 1) := by decide +kernel
theorem dX3_moveGate_5 : decode cX3_moveGate 5 = .ok (.getfield 50, 3) := by decide +kernel
theorem dX3_moveGate_8 : decode cX3_moveGate 8 = .ok (.bipush (-105), 2) := by decide +kernel
theorem dX3_moveGate_10 : decode cX3_moveGate 10 = .ok (.if_icmp .eq 6, 3) := by decide +kernel
theorem dX3_moveGate_13 : decode cX3_moveGate 13 = .ok (.bipush (-104), 2) := by decide +kernel
theorem dX3_moveGate_15 : decode cX3_moveGate 15 = .ok (.ireturn, 1) := by decide +kernel
theorem dX3_moveGate_16 : decode cX3_moveGate 16 = .ok (.aload_n 0, 1) := by decide +kernel
theorem dX3_moveGate_17 : decode cX3_moveGate 17 = .ok (.getfield 74, 3) := by decide +kernel
theorem dX3_moveGate_20 : decode cX3_moveGate 20 = .ok (.iload_n 1, 1) := by decide +kernel
theorem dX3_moveGate_21 : decode cX3_moveGate 21 = .ok (.if_icmp .ne 6, 3) := by decide +kernel
theorem dX3_moveGate_24 : decode cX3_moveGate 24 = .ok (.bipush (-105), 2) := by decide +kernel
theorem dX3_moveGate_26 : decode cX3_moveGate 26 = .ok (.ireturn, 1) := by decide +kernel
theorem dX3_moveGate_27 : decode cX3_moveGate 27 = .ok (.aload_n 0, 1) := by decide +kernel
theorem dX3_moveGate_28 : decode cX3_moveGate 28 = .ok (.iload_n 1, 1) := by decide +kernel
theorem dX3_moveGate_29 : decode cX3_moveGate 29 = .ok (.putfield 74, 3) := by decide +kernel
theorem dX3_moveGate_32 : decode cX3_moveGate 32 = .ok (.aload_n 0, 1) := by decide +kernel
theorem dX3_moveGate_33 : decode cX3_moveGate 33 = .ok (.getfield 33, 3) := by decide +kernel
theorem dX3_moveGate_36 : decode cX3_moveGate 36 = .ok (.getfield 99, 3) := by decide +kernel
theorem dX3_moveGate_39 : decode cX3_moveGate 39 = .ok (.ireturn, 1) := by decide +kernel
theorem dX3_switchOn_0 : decode cX3_switchOn 0 = .ok (.aload_n 0, 1) := by decide +kernel
theorem dX3_switchOn_1 : decode cX3_switchOn 1 = .ok (.getfield 50, 3) := by decide +kernel
theorem dX3_switchOn_4 : decode cX3_switchOn 4 = .ok (.bipush (-105), 2) := by decide +kernel
theorem dX3_switchOn_6 : decode cX3_switchOn 6 = .ok (.if_icmp .eq 6, 3) := by decide +kernel
theorem dX3_switchOn_9 : decode cX3_switchOn 9 = .ok (.bipush (-104), 2) := by decide +kernel
theorem dX3_switchOn_11 : decode cX3_switchOn 11 = .ok (.ireturn, 1) := by decide +kernel
theorem dX3_switchOn_12 : decode cX3_switchOn 12 = .ok (.aload_n 0, 1) := by decide +kernel
theorem dX3_switchOn_13 : decode cX3_switchOn 13 = .ok (.getfield 70, 3) := by decide +kernel
theorem dX3_switchOn_16 : decode cX3_switchOn 16 = .ok (.ifCond .eq 6, 3) := by decide +kernel
theorem dX3_switchOn_19 : decode cX3_switchOn 19 = .ok (.bipush (-105), 2) := by decide +kernel
theorem dX3_switchOn_21 : decode cX3_switchOn 21 = .ok (.ireturn, 1) := by decide +kernel
theorem dX3_switchOn_22 : decode cX3_switchOn 22 = .ok (.aload_n 0, 1) := by decide +kernel
theorem dX3_switchOn_23 : decode cX3_switchOn 23 = .ok (.iconst 1, 1) := by decide +kernel
theorem dX3_switchOn_24 : decode cX3_switchOn 24 = .ok (.putfield 70, 3) := by decide +kernel
theorem dX3_switchOn_27 : decode cX3_switchOn 27 = .ok (.aload_n 0, 1) := by decide +kernel
theorem dX3_switchOn_28 : decode cX3_switchOn 28 = .ok (.invokevirtual 102, 3) := by decide +kernel
theorem dX3_switchOn_31 : decode cX3_switchOn 31 = .ok (.ireturn, 1) := by decide +kernel
theorem dX3_switchOff_0 : decode cX3_switchOff 0 = .ok (.aload_n 0, 1) := by decide +kernel
theorem dX3_switchOff_1 : decode cX3_switchOff 1 = .ok (.getfield 70, 3) := by decide +kernel
theorem dX3_switchOff_4 : decode cX3_switchOff 4 = .ok (.ifCond .ne 6, 3) := by decide +kernel
theorem dX3_switchOff_7 : decode cX3_switchOff 7 = .ok (.bipush (-105), 2) := by decide +kernel
theorem dX3_switchOff_9 : decode cX3_switchOff 9 = .ok (.ireturn, 1) := by decide +kernel
theorem dX3_switchOff_10 : decode cX3_switchOff 10 = .ok (.aload_n 0, 1) := by decide +kernel
theorem dX3_switchOff_11 : decode cX3_switchOff 11 = .ok (.iconst 0, 1) := by decide +kernel
theorem dX3_switchOff_12 : decode cX3_switchOff 12 = .ok (.putfield 70, 3) := by decide +kernel
theorem dX3_switchOff_15 : decode cX3_switchOff 15 = .ok (.aload_n 0, 1) := by decide +kernel
theorem dX3_switchOff_16 : decode cX3_switchOff 16 = .ok (.getfield 26, 3) := by decide +kernel
theorem dX3_switchOff_19 : decode cX3_switchOff 19 = .ok (.invokevirtual 106, 3) := by decide +kernel
theorem dX3_switchOff_22 : decode cX3_switchOff 22 = .ok (.ireturn, 1) := by decide +kernel
theorem dX3_forgetReason_0 : decode cX3_forgetReason 0 = .ok (.aload_n 0, 1) := by decide +kernel
theorem dX3_forgetReason_1 : decode cX3_forgetReason 1 = .ok (.getfield 50, 3) := by decide +kernel
theorem dX3_forgetReason_4 : decode cX3_forgetReason 4 = .ok (.bipush (-105), 2) := by decide +kernel
theorem dX3_forgetReason_6 : decode cX3_forgetReason 6 = .ok (.if_icmp .ne 6, 3) := by decide +kernel
theorem dX3_forgetReason_9 : decode cX3_forgetReason 9 = .ok (.bipush (-105), 2) := by decide +kernel
theorem dX3_forgetReason_11 : decode cX3_forgetReason 11 = .ok (.ireturn, 1) := by decide +kernel
theorem dX3_forgetReason_12 : decode cX3_forgetReason 12 = .ok (.aload_n 0, 1) := by decide +kernel
theorem dX3_forgetReason_13 : decode cX3_forgetReason 13 = .ok (.invokevirtual 109, 3) := by decide +kernel
theorem dX3_forgetReason_16 : decode cX3_forgetReason 16 = .ok (.ifCond .ne 6, 3) := by decide +kernel
theorem dX3_forgetReason_19 : decode cX3_forgetReason 19 = .ok (.bipush (-104), 2) := by decide +kernel
theorem dX3_forgetReason_21 : decode cX3_forgetReason 21 = .ok (.ireturn, 1) := by decide +kernel
theorem dX3_forgetReason_22 : decode cX3_forgetReason 22 = .ok (.aload_n 0, 1) := by decide +kernel
theorem dX3_forgetReason_23 : decode cX3_forgetReason 23 = .ok (.getfield 50, 3) := by decide +kernel
theorem dX3_forgetReason_26 : decode cX3_forgetReason 26 = .ok (.istore_n 1, 1) := by decide +kernel
theorem dX3_forgetReason_27 : decode cX3_forgetReason 27 = .ok (.aload_n 0, 1) := by decide +kernel
theorem dX3_forgetReason_28 : decode cX3_forgetReason 28 = .ok (.bipush (-105), 2) := by decide +kernel
theorem dX3_forgetReason_30 : decode cX3_forgetReason 30 = .ok (.putfield 50, 3) := by decide +kernel
theorem dX3_forgetReason_33 : decode cX3_forgetReason 33 = .ok (.iload_n 1, 1) := by decide +kernel
theorem dX3_forgetReason_34 : decode cX3_forgetReason 34 = .ok (.ireturn, 1) := by decide +kernel
theorem dX3_mayBeReset_0 : decode cX3_mayBeReset 0 = .ok (.aload_n 0, 1) := by decide +kernel
theorem dX3_mayBeReset_1 : decode cX3_mayBeReset 1 = .ok (.getfield 50, 3) := by decide +kernel
theorem dX3_mayBeReset_4 : decode cX3_mayBeReset 4 = .ok (.lookupswitch 66 #[(0, 28), (1, 47)], 28) := by decide +kernel
theorem dX3_mayBeReset_32 : decode cX3_mayBeReset 32 = .ok (.aload_n 0, 1) := by decide +kernel
theorem dX3_mayBeReset_33 : decode cX3_mayBeReset 33 = .ok (.invokevirtual 102, 3) := by decide +kernel
theorem dX3_mayBeReset_36 : decode cX3_mayBeReset 36 = .ok (.aload_n 0, 1) := by decide +kernel
theorem dX3_mayBeReset_37 : decode cX3_mayBeReset 37 = .ok (.getfield 18, 3) := by decide +kernel
theorem dX3_mayBeReset_40 : decode cX3_mayBeReset 40 = .ok (.iconst 1, 1) := by decide +kernel
theorem dX3_mayBeReset_41 : decode cX3_mayBeReset 41 = .ok (.iaload, 1) := by decide +kernel
theorem dX3_mayBeReset_42 : decode cX3_mayBeReset 42 = .ok (.if_icmp .gt 7, 3) := by decide +kernel
theorem dX3_mayBeReset_45 : decode cX3_mayBeReset 45 = .ok (.iconst 1, 1) := by decide +kernel
theorem dX3_mayBeReset_46 : decode cX3_mayBeReset 46 = .ok (.goto 4, 3) := by decide +kernel
theorem dX3_mayBeReset_49 : decode cX3_mayBeReset 49 = .ok (.iconst 0, 1) := by decide +kernel
theorem dX3_mayBeReset_50 : decode cX3_mayBeReset 50 = .ok (.ireturn, 1) := by decide +kernel
theorem dX3_mayBeReset_51 : decode cX3_mayBeReset 51 = .ok (.aload_n 0, 1) := by decide +kernel
theorem dX3_mayBeReset_52 : decode cX3_mayBeReset 52 = .ok (.getfield 33, 3) := by decide +kernel
theorem dX3_mayBeReset_55 : decode cX3_mayBeReset 55 = .ok (.getfield 99, 3) := by decide +kernel
theorem dX3_mayBeReset_58 : decode cX3_mayBeReset 58 = .ok (.sipush 150, 3) := by decide +kernel
theorem dX3_mayBeReset_61 : decode cX3_mayBeReset 61 = .ok (.if_icmp .ge 7, 3) := by decide +kernel
theorem dX3_mayBeReset_64 : decode cX3_mayBeReset 64 = .ok (.iconst 1, 1) := by decide +kernel
theorem dX3_mayBeReset_65 : decode cX3_mayBeReset 65 = .ok (.goto 4, 3) := by decide +kernel
theorem dX3_mayBeReset_68 : decode cX3_mayBeReset 68 = .ok (.iconst 0, 1) := by decide +kernel
theorem dX3_mayBeReset_69 : decode cX3_mayBeReset 69 = .ok (.ireturn, 1) := by decide +kernel
theorem dX3_mayBeReset_70 : decode cX3_mayBeReset 70 = .ok (.aload_n 0, 1) := by decide +kernel
theorem dX3_mayBeReset_71 : decode cX3_mayBeReset 71 = .ok (.getfield 83, 3) := by decide +kernel
theorem dX3_mayBeReset_74 : decode cX3_mayBeReset 74 = .ok (.bipush 50, 2) := by decide +kernel
theorem dX3_mayBeReset_76 : decode cX3_mayBeReset 76 = .ok (.if_icmp .ge 7, 3) := by decide +kernel
theorem dX3_mayBeReset_79 : decode cX3_mayBeReset 79 = .ok (.iconst 1, 1) := by decide +kernel
theorem dX3_mayBeReset_80 : decode cX3_mayBeReset 80 = .ok (.goto 4, 3) := by decide +kernel
theorem dX3_mayBeReset_83 : decode cX3_mayBeReset 83 = .ok (.iconst 0, 1) := by decide +kernel
theorem dX3_mayBeReset_84 : decode cX3_mayBeReset 84 = .ok (.ireturn, 1) := by decide +kernel
theorem dX3_takeByHand_0 : decode cX3_takeByHand 0 = .ok (.iload_n 1, 1) := by decide +kernel
theorem dX3_takeByHand_1 : decode cX3_takeByHand 1 = .ok (.iconst 1, 1) := by decide +kernel
theorem dX3_takeByHand_2 : decode cX3_takeByHand 2 = .ok (.sipush 300, 3) := by decide +kernel
theorem dX3_takeByHand_5 : decode cX3_takeByHand 5 = .ok (.invokestatic 89, 3) := by decide +kernel
theorem dX3_takeByHand_8 : decode cX3_takeByHand 8 = .ok (.ifCond .ne 6, 3) := by decide +kernel
theorem dX3_takeByHand_11 : decode cX3_takeByHand 11 = .ok (.bipush (-102), 2) := by decide +kernel
theorem dX3_takeByHand_13 : decode cX3_takeByHand 13 = .ok (.ireturn, 1) := by decide +kernel
theorem dX3_takeByHand_14 : decode cX3_takeByHand 14 = .ok (.aload_n 0, 1) := by decide +kernel
theorem dX3_takeByHand_15 : decode cX3_takeByHand 15 = .ok (.getfield 70, 3) := by decide +kernel
theorem dX3_takeByHand_18 : decode cX3_takeByHand 18 = .ok (.ifCond .ne 14, 3) := by decide +kernel
theorem dX3_takeByHand_21 : decode cX3_takeByHand 21 = .ok (.iload_n 1, 1) := by decide +kernel
theorem dX3_takeByHand_22 : decode cX3_takeByHand 22 = .ok (.aload_n 0, 1) := by decide +kernel
theorem dX3_takeByHand_23 : decode cX3_takeByHand 23 = .ok (.getfield 33, 3) := by decide +kernel
theorem dX3_takeByHand_26 : decode cX3_takeByHand 26 = .ok (.getfield 99, 3) := by decide +kernel
theorem dX3_takeByHand_29 : decode cX3_takeByHand 29 = .ok (.if_icmp .le 6, 3) := by decide +kernel
theorem dX3_takeByHand_32 : decode cX3_takeByHand 32 = .ok (.bipush (-104), 2) := by decide +kernel
theorem dX3_takeByHand_34 : decode cX3_takeByHand 34 = .ok (.ireturn, 1) := by decide +kernel
theorem dX3_takeByHand_35 : decode cX3_takeByHand 35 = .ok (.aload_n 0, 1) := by decide +kernel
theorem dX3_takeByHand_36 : decode cX3_takeByHand 36 = .ok (.getfield 33, 3) := by decide +kernel
theorem dX3_takeByHand_39 : decode cX3_takeByHand 39 = .ok (.dup, 1) := by decide +kernel
theorem dX3_takeByHand_40 : decode cX3_takeByHand 40 = .ok (.getfield 99, 3) := by decide +kernel
theorem dX3_takeByHand_43 : decode cX3_takeByHand 43 = .ok (.iload_n 1, 1) := by decide +kernel
theorem dX3_takeByHand_44 : decode cX3_takeByHand 44 = .ok (.isub, 1) := by decide +kernel
theorem dX3_takeByHand_45 : decode cX3_takeByHand 45 = .ok (.putfield 99, 3) := by decide +kernel
theorem dX3_takeByHand_48 : decode cX3_takeByHand 48 = .ok (.aload_n 0, 1) := by decide +kernel
theorem dX3_takeByHand_49 : decode cX3_takeByHand 49 = .ok (.getfield 33, 3) := by decide +kernel
theorem dX3_takeByHand_52 : decode cX3_takeByHand 52 = .ok (.dup, 1) := by decide +kernel
theorem dX3_takeByHand_53 : decode cX3_takeByHand 53 = .ok (.getfield 113, 3) := by decide +kernel
theorem dX3_takeByHand_56 : decode cX3_takeByHand 56 = .ok (.iload_n 1, 1) := by decide +kernel
theorem dX3_takeByHand_57 : decode cX3_takeByHand 57 = .ok (.iadd, 1) := by decide +kernel
theorem dX3_takeByHand_58 : decode cX3_takeByHand 58 = .ok (.putfield 113, 3) := by decide +kernel
theorem dX3_takeByHand_61 : decode cX3_takeByHand 61 = .ok (.aload_n 0, 1) := by decide +kernel
theorem dX3_takeByHand_62 : decode cX3_takeByHand 62 = .ok (.getfield 33, 3) := by decide +kernel
theorem dX3_takeByHand_65 : decode cX3_takeByHand 65 = .ok (.getfield 99, 3) := by decide +kernel
theorem dX3_takeByHand_68 : decode cX3_takeByHand 68 = .ok (.ireturn, 1) := by decide +kernel
theorem dX3_passTicks_0 : decode cX3_passTicks 0 = .ok (.iload_n 1, 1) := by decide +kernel
theorem dX3_passTicks_1 : decode cX3_passTicks 1 = .ok (.iconst 1, 1) := by decide +kernel
theorem dX3_passTicks_2 : decode cX3_passTicks 2 = .ok (.sipush 200, 3) := by decide +kernel
theorem dX3_passTicks_5 : decode cX3_passTicks 5 = .ok (.invokestatic 89, 3) := by decide +kernel
theorem dX3_passTicks_8 : decode cX3_passTicks 8 = .ok (.ifCond .ne 6, 3) := by decide +kernel
theorem dX3_passTicks_11 : decode cX3_passTicks 11 = .ok (.bipush (-102), 2) := by decide +kernel
theorem dX3_passTicks_13 : decode cX3_passTicks 13 = .ok (.ireturn, 1) := by decide +kernel
theorem dX3_passTicks_14 : decode cX3_passTicks 14 = .ok (.aload_n 0, 1) := by decide +kernel
theorem dX3_passTicks_15 : decode cX3_passTicks 15 = .ok (.getfield 86, 3) := by decide +kernel
theorem dX3_passTicks_18 : decode cX3_passTicks 18 = .ok (.iload_n 1, 1) := by decide +kernel
theorem dX3_passTicks_19 : decode cX3_passTicks 19 = .ok (.iadd, 1) := by decide +kernel
theorem dX3_passTicks_20 : decode cX3_passTicks 20 = .ok (.ldc 116, 2) := by decide +kernel
theorem dX3_passTicks_22 : decode cX3_passTicks 22 = .ok (.if_icmp .le 6, 3) := by decide +kernel
theorem dX3_passTicks_25 : decode cX3_passTicks 25 = .ok (.bipush (-103), 2) := by decide +kernel
theorem dX3_passTicks_27 : decode cX3_passTicks 27 = .ok (.ireturn, 1) := by decide +kernel
theorem dX3_passTicks_28 : decode cX3_passTicks 28 = .ok (.aload_n 0, 1) := by decide +kernel
theorem dX3_passTicks_29 : decode cX3_passTicks 29 = .ok (.getfield 33, 3) := by decide +kernel
theorem dX3_passTicks_32 : decode cX3_passTicks 32 = .ok (.getfield 117, 3) := by decide +kernel
theorem dX3_passTicks_35 : decode cX3_passTicks 35 = .ok (.istore_n 2, 1) := by decide +kernel
theorem dX3_passTicks_36 : decode cX3_passTicks 36 = .ok (.iconst 0, 1) := by decide +kernel
theorem dX3_passTicks_37 : decode cX3_passTicks 37 = .ok (.istore_n 3, 1) := by decide +kernel
theorem dX3_passTicks_38 : decode cX3_passTicks 38 = .ok (.iload_n 3, 1) := by decide +kernel
theorem dX3_passTicks_39 : decode cX3_passTicks 39 = .ok (.iload_n 1, 1) := by decide +kernel
theorem dX3_passTicks_40 : decode cX3_passTicks 40 = .ok (.if_icmp .ge 13, 3) := by decide +kernel
theorem dX3_passTicks_43 : decode cX3_passTicks 43 = .ok (.aload_n 0, 1) := by decide +kernel
theorem dX3_passTicks_44 : decode cX3_passTicks 44 = .ok (.invokevirtual 120, 3) := by decide +kernel
theorem dX3_passTicks_47 : decode cX3_passTicks 47 = .ok (.iinc 3 1, 3) := by decide +kernel
theorem dX3_passTicks_50 : decode cX3_passTicks 50 = .ok (.goto (-12), 3) := by decide +kernel
theorem dX3_passTicks_53 : decode cX3_passTicks 53 = .ok (.aload_n 0, 1) := by decide +kernel
theorem dX3_passTicks_54 : decode cX3_passTicks 54 = .ok (.getfield 33, 3) := by decide +kernel
theorem dX3_passTicks_57 : decode cX3_passTicks 57 = .ok (.getfield 117, 3) := by decide +kernel
theorem dX3_passTicks_60 : decode cX3_passTicks 60 = .ok (.iload_n 2, 1) := by decide +kernel
theorem dX3_passTicks_61 : decode cX3_passTicks 61 = .ok (.isub, 1) := by decide +kernel
theorem dX3_passTicks_62 : decode cX3_passTicks 62 = .ok (.ireturn, 1) := by decide +kernel
theorem dX3_ticksUntilTrip_0 : decode cX3_ticksUntilTrip 0 = .ok (.iconst 1, 1) := by decide +kernel
theorem dX3_ticksUntilTrip_1 : decode cX3_ticksUntilTrip 1 = .ok (.istore_n 2, 1) := by decide +kernel
theorem dX3_ticksUntilTrip_2 : decode cX3_ticksUntilTrip 2 = .ok (.iload_n 2, 1) := by decide +kernel
theorem dX3_ticksUntilTrip_3 : decode cX3_ticksUntilTrip 3 = .ok (.iload_n 1, 1) := by decide +kernel
theorem dX3_ticksUntilTrip_4 : decode cX3_ticksUntilTrip 4 = .ok (.if_icmp .gt 22, 3) := by decide +kernel
theorem dX3_ticksUntilTrip_7 : decode cX3_ticksUntilTrip 7 = .ok (.aload_n 0, 1) := by decide +kernel
theorem dX3_ticksUntilTrip_8 : decode cX3_ticksUntilTrip 8 = .ok (.invokevirtual 120, 3) := by decide +kernel
theorem dX3_ticksUntilTrip_11 : decode cX3_ticksUntilTrip 11 = .ok (.aload_n 0, 1) := by decide +kernel
theorem dX3_ticksUntilTrip_12 : decode cX3_ticksUntilTrip 12 = .ok (.getfield 70, 3) := by decide +kernel
theorem dX3_ticksUntilTrip_15 : decode cX3_ticksUntilTrip 15 = .ok (.ifCond .ne 5, 3) := by decide +kernel
theorem dX3_ticksUntilTrip_18 : decode cX3_ticksUntilTrip 18 = .ok (.iload_n 2, 1) := by decide +kernel
theorem dX3_ticksUntilTrip_19 : decode cX3_ticksUntilTrip 19 = .ok (.ireturn, 1) := by decide +kernel
theorem dX3_ticksUntilTrip_20 : decode cX3_ticksUntilTrip 20 = .ok (.iinc 2 1, 3) := by decide +kernel
theorem dX3_ticksUntilTrip_23 : decode cX3_ticksUntilTrip 23 = .ok (.goto (-21), 3) := by decide +kernel
theorem dX3_ticksUntilTrip_26 : decode cX3_ticksUntilTrip 26 = .ok (.bipush (-105), 2) := by decide +kernel
theorem dX3_ticksUntilTrip_28 : decode cX3_ticksUntilTrip 28 = .ok (.ireturn, 1) := by decide +kernel
theorem dX3_load_0 : decode cX3_load 0 = .ok (.aload_n 0, 1) := by decide +kernel
theorem dX3_load_1 : decode cX3_load 1 = .ok (.getfield 26, 3) := by decide +kernel
theorem dX3_load_4 : decode cX3_load 4 = .ok (.invokevirtual 123, 3) := by decide +kernel
theorem dX3_load_7 : decode cX3_load 7 = .ok (.iconst 0, 1) := by decide +kernel
theorem dX3_load_8 : decode cX3_load 8 = .ok (.aload_n 0, 1) := by decide +kernel
theorem dX3_load_9 : decode cX3_load 9 = .ok (.getfield 33, 3) := by decide +kernel
theorem dX3_load_12 : decode cX3_load 12 = .ok (.getfield 99, 3) := by decide +kernel
theorem dX3_load_15 : decode cX3_load 15 = .ok (.bipush 100, 2) := by decide +kernel
theorem dX3_load_17 : decode cX3_load 17 = .ok (.isub, 1) := by decide +kernel
theorem dX3_load_18 : decode cX3_load 18 = .ok (.invokestatic 126, 3) := by decide +kernel
theorem dX3_load_21 : decode cX3_load 21 = .ok (.iconst 2, 1) := by decide +kernel
theorem dX3_load_22 : decode cX3_load 22 = .ok (.idiv, 1) := by decide +kernel
theorem dX3_load_23 : decode cX3_load 23 = .ok (.iadd, 1) := by decide +kernel
theorem dX3_load_24 : decode cX3_load 24 = .ok (.ireturn, 1) := by decide +kernel
theorem dX3_seenBy_0 : decode cX3_seenBy 0 = .ok (.iload_n 1, 1) := by decide +kernel
theorem dX3_seenBy_1 : decode cX3_seenBy 1 = .ok (.lookupswitch 40 #[(0, 27), (1, 32)], 27) := by decide +kernel
theorem dX3_seenBy_28 : decode cX3_seenBy 28 = .ok (.aload_n 0, 1) := by decide +kernel
theorem dX3_seenBy_29 : decode cX3_seenBy 29 = .ok (.getfield 77, 3) := by decide +kernel
theorem dX3_seenBy_32 : decode cX3_seenBy 32 = .ok (.ireturn, 1) := by decide +kernel
theorem dX3_seenBy_33 : decode cX3_seenBy 33 = .ok (.aload_n 0, 1) := by decide +kernel
theorem dX3_seenBy_34 : decode cX3_seenBy 34 = .ok (.getfield 33, 3) := by decide +kernel
theorem dX3_seenBy_37 : decode cX3_seenBy 37 = .ok (.getfield 99, 3) := by decide +kernel
theorem dX3_seenBy_40 : decode cX3_seenBy 40 = .ok (.ireturn, 1) := by decide +kernel
theorem dX3_seenBy_41 : decode cX3_seenBy 41 = .ok (.aload_n 0, 1) := by decide +kernel
theorem dX3_seenBy_42 : decode cX3_seenBy 42 = .ok (.getfield 83, 3) := by decide +kernel
theorem dX3_seenBy_45 : decode cX3_seenBy 45 = .ok (.ireturn, 1) := by decide +kernel
theorem dX3_tick_0 : decode cX3_tick 0 = .ok (.aload_n 0, 1) := by decide +kernel
theorem dX3_tick_1 : decode cX3_tick 1 = .ok (.dup, 1) := by decide +kernel
theorem dX3_tick_2 : decode cX3_tick 2 = .ok (.getfield 86, 3) := by decide +kernel
theorem dX3_tick_5 : decode cX3_tick 5 = .ok (.iconst 1, 1) := by decide +kernel
theorem dX3_tick_6 : decode cX3_tick 6 = .ok (.iadd, 1) := by decide +kernel
theorem dX3_tick_7 : decode cX3_tick 7 = .ok (.putfield 86, 3) := by decide +kernel
theorem dX3_tick_10 : decode cX3_tick 10 = .ok (.aload_n 0, 1) := by decide +kernel
theorem dX3_tick_11 : decode cX3_tick 11 = .ok (.getfield 74, 3) := by decide +kernel
theorem dX3_tick_14 : decode cX3_tick 14 = .ok (.ifCond .eq 16, 3) := by decide +kernel
theorem dX3_tick_17 : decode cX3_tick 17 = .ok (.aload_n 0, 1) := by decide +kernel
theorem dX3_tick_18 : decode cX3_tick 18 = .ok (.getfield 33, 3) := by decide +kernel
theorem dX3_tick_21 : decode cX3_tick 21 = .ok (.aload_n 0, 1) := by decide +kernel
theorem dX3_tick_22 : decode cX3_tick 22 = .ok (.getfield 18, 3) := by decide +kernel
theorem dX3_tick_25 : decode cX3_tick 25 = .ok (.iconst 2, 1) := by decide +kernel
theorem dX3_tick_26 : decode cX3_tick 26 = .ok (.iaload, 1) := by decide +kernel
theorem dX3_tick_27 : decode cX3_tick 27 = .ok (.invokevirtual 132, 3) := by decide +kernel
theorem dX3_tick_30 : decode cX3_tick 30 = .ok (.aload_n 0, 1) := by decide +kernel
theorem dX3_tick_31 : decode cX3_tick 31 = .ok (.aload_n 0, 1) := by decide +kernel
theorem dX3_tick_32 : decode cX3_tick 32 = .ok (.getfield 70, 3) := by decide +kernel
theorem dX3_tick_35 : decode cX3_tick 35 = .ok (.ifCond .eq 14, 3) := by decide +kernel
theorem dX3_tick_38 : decode cX3_tick 38 = .ok (.aload_n 0, 1) := by decide +kernel
theorem dX3_tick_39 : decode cX3_tick 39 = .ok (.aload_n 0, 1) := by decide +kernel
theorem dX3_tick_40 : decode cX3_tick 40 = .ok (.invokevirtual 102, 3) := by decide +kernel
theorem dX3_tick_43 : decode cX3_tick 43 = .ok (.invokevirtual 136, 3) := by decide +kernel
theorem dX3_tick_46 : decode cX3_tick 46 = .ok (.goto 4, 3) := by decide +kernel
theorem dX3_tick_49 : decode cX3_tick 49 = .ok (.iconst 0, 1) := by decide +kernel
theorem dX3_tick_50 : decode cX3_tick 50 = .ok (.putfield 77, 3) := by decide +kernel
theorem dX3_tick_53 : decode cX3_tick 53 = .ok (.aload_n 0, 1) := by decide +kernel
theorem dX3_tick_54 : decode cX3_tick 54 = .ok (.aload_n 0, 1) := by decide +kernel
theorem dX3_tick_55 : decode cX3_tick 55 = .ok (.getfield 70, 3) := by decide +kernel
theorem dX3_tick_58 : decode cX3_tick 58 = .ok (.ifCond .eq 23, 3) := by decide +kernel
theorem dX3_tick_61 : decode cX3_tick 61 = .ok (.aload_n 0, 1) := by decide +kernel
theorem dX3_tick_62 : decode cX3_tick 62 = .ok (.getfield 18, 3) := by decide +kernel
theorem dX3_tick_65 : decode cX3_tick 65 = .ok (.iconst 0, 1) := by decide +kernel
theorem dX3_tick_66 : decode cX3_tick 66 = .ok (.iaload, 1) := by decide +kernel
theorem dX3_tick_67 : decode cX3_tick 67 = .ok (.bipush 100, 2) := by decide +kernel
theorem dX3_tick_69 : decode cX3_tick 69 = .ok (.aload_n 0, 1) := by decide +kernel
theorem dX3_tick_70 : decode cX3_tick 70 = .ok (.getfield 77, 3) := by decide +kernel
theorem dX3_tick_73 : decode cX3_tick 73 = .ok (.isub, 1) := by decide +kernel
theorem dX3_tick_74 : decode cX3_tick 74 = .ok (.imul, 1) := by decide +kernel
theorem dX3_tick_75 : decode cX3_tick 75 = .ok (.bipush 100, 2) := by decide +kernel
theorem dX3_tick_77 : decode cX3_tick 77 = .ok (.idiv, 1) := by decide +kernel
theorem dX3_tick_78 : decode cX3_tick 78 = .ok (.goto 4, 3) := by decide +kernel
theorem dX3_tick_81 : decode cX3_tick 81 = .ok (.iconst 0, 1) := by decide +kernel
theorem dX3_tick_82 : decode cX3_tick 82 = .ok (.putfield 80, 3) := by decide +kernel
theorem dX3_tick_85 : decode cX3_tick 85 = .ok (.iconst 0, 1) := by decide +kernel
theorem dX3_tick_86 : decode cX3_tick 86 = .ok (.istore_n 1, 1) := by decide +kernel
theorem dX3_tick_87 : decode cX3_tick 87 = .ok (.iload_n 1, 1) := by decide +kernel
theorem dX3_tick_88 : decode cX3_tick 88 = .ok (.aload_n 0, 1) := by decide +kernel
theorem dX3_tick_89 : decode cX3_tick 89 = .ok (.getfield 80, 3) := by decide +kernel
theorem dX3_tick_92 : decode cX3_tick 92 = .ok (.if_icmp .ge 13, 3) := by decide +kernel
theorem dX3_tick_95 : decode cX3_tick 95 = .ok (.aload_n 0, 1) := by decide +kernel
theorem dX3_tick_96 : decode cX3_tick 96 = .ok (.invokevirtual 140, 3) := by decide +kernel
theorem dX3_tick_99 : decode cX3_tick 99 = .ok (.iinc 1 1, 3) := by decide +kernel
theorem dX3_tick_102 : decode cX3_tick 102 = .ok (.goto (-15), 3) := by decide +kernel
theorem dX3_tick_105 : decode cX3_tick 105 = .ok (.aload_n 0, 1) := by decide +kernel
theorem dX3_tick_106 : decode cX3_tick 106 = .ok (.invokevirtual 143, 3) := by decide +kernel
theorem dX3_tick_109 : decode cX3_tick 109 = .ok (.aload_n 0, 1) := by decide +kernel
theorem dX3_tick_110 : decode cX3_tick 110 = .ok (.invokevirtual 146, 3) := by decide +kernel
theorem dX3_tick_113 : decode cX3_tick 113 = .ok (.return_, 1) := by decide +kernel
theorem dX3_slipOf_0 : decode cX3_slipOf 0 = .ok (.iconst 0, 1) := by decide +kernel
theorem dX3_slipOf_1 : decode cX3_slipOf 1 = .ok (.iload_n 1, 1) := by decide +kernel
theorem dX3_slipOf_2 : decode cX3_slipOf 2 = .ok (.aload_n 0, 1) := by decide +kernel
theorem dX3_slipOf_3 : decode cX3_slipOf 3 = .ok (.getfield 18, 3) := by decide +kernel
theorem dX3_slipOf_6 : decode cX3_slipOf 6 = .ok (.iconst 1, 1) := by decide +kernel
theorem dX3_slipOf_7 : decode cX3_slipOf 7 = .ok (.iaload, 1) := by decide +kernel
theorem dX3_slipOf_8 : decode cX3_slipOf 8 = .ok (.isub, 1) := by decide +kernel
theorem dX3_slipOf_9 : decode cX3_slipOf 9 = .ok (.invokestatic 126, 3) := by decide +kernel
theorem dX3_slipOf_12 : decode cX3_slipOf 12 = .ok (.istore_n 2, 1) := by decide +kernel
theorem dX3_slipOf_13 : decode cX3_slipOf 13 = .ok (.bipush 100, 2) := by decide +kernel
theorem dX3_slipOf_15 : decode cX3_slipOf 15 = .ok (.iconst 2, 1) := by decide +kernel
theorem dX3_slipOf_16 : decode cX3_slipOf 16 = .ok (.iload_n 2, 1) := by decide +kernel
theorem dX3_slipOf_17 : decode cX3_slipOf 17 = .ok (.imul, 1) := by decide +kernel
theorem dX3_slipOf_18 : decode cX3_slipOf 18 = .ok (.invokestatic 149, 3) := by decide +kernel
theorem dX3_slipOf_21 : decode cX3_slipOf 21 = .ok (.ireturn, 1) := by decide +kernel
theorem dX3_moveOneCell_0 : decode cX3_moveOneCell 0 = .ok (.aload_n 0, 1) := by decide +kernel
theorem dX3_moveOneCell_1 : decode cX3_moveOneCell 1 = .ok (.getfield 26, 3) := by decide +kernel
theorem dX3_moveOneCell_4 : decode cX3_moveOneCell 4 = .ok (.invokevirtual 152, 3) := by decide +kernel
theorem dX3_moveOneCell_7 : decode cX3_moveOneCell 7 = .ok (.aload_n 0, 1) := by decide +kernel
theorem dX3_moveOneCell_8 : decode cX3_moveOneCell 8 = .ok (.getfield 26, 3) := by decide +kernel
theorem dX3_moveOneCell_11 : decode cX3_moveOneCell 11 = .ok (.invokevirtual 155, 3) := by decide +kernel
theorem dX3_moveOneCell_14 : decode cX3_moveOneCell 14 = .ok (.istore_n 1, 1) := by decide +kernel
theorem dX3_moveOneCell_15 : decode cX3_moveOneCell 15 = .ok (.aload_n 0, 1) := by decide +kernel
theorem dX3_moveOneCell_16 : decode cX3_moveOneCell 16 = .ok (.getfield 80, 3) := by decide +kernel
theorem dX3_moveOneCell_19 : decode cX3_moveOneCell 19 = .ok (.iconst 2, 1) := by decide +kernel
theorem dX3_moveOneCell_20 : decode cX3_moveOneCell 20 = .ok (.if_icmp .lt 7, 3) := by decide +kernel
theorem dX3_moveOneCell_23 : decode cX3_moveOneCell 23 = .ok (.iconst 0, 1) := by decide +kernel
theorem dX3_moveOneCell_24 : decode cX3_moveOneCell 24 = .ok (.goto 6, 3) := by decide +kernel
theorem dX3_moveOneCell_27 : decode cX3_moveOneCell 27 = .ok (.iload_n 1, 1) := by decide +kernel
theorem dX3_moveOneCell_28 : decode cX3_moveOneCell 28 = .ok (.iconst 2, 1) := by decide +kernel
theorem dX3_moveOneCell_29 : decode cX3_moveOneCell 29 = .ok (.idiv, 1) := by decide +kernel
theorem dX3_moveOneCell_30 : decode cX3_moveOneCell 30 = .ok (.istore_n 2, 1) := by decide +kernel
theorem dX3_moveOneCell_31 : decode cX3_moveOneCell 31 = .ok (.aload_n 0, 1) := by decide +kernel
theorem dX3_moveOneCell_32 : decode cX3_moveOneCell 32 = .ok (.getfield 33, 3) := by decide +kernel
theorem dX3_moveOneCell_35 : decode cX3_moveOneCell 35 = .ok (.dup, 1) := by decide +kernel
theorem dX3_moveOneCell_36 : decode cX3_moveOneCell 36 = .ok (.getfield 117, 3) := by decide +kernel
theorem dX3_moveOneCell_39 : decode cX3_moveOneCell 39 = .ok (.iload_n 1, 1) := by decide +kernel
theorem dX3_moveOneCell_40 : decode cX3_moveOneCell 40 = .ok (.iload_n 2, 1) := by decide +kernel
theorem dX3_moveOneCell_41 : decode cX3_moveOneCell 41 = .ok (.isub, 1) := by decide +kernel
theorem dX3_moveOneCell_42 : decode cX3_moveOneCell 42 = .ok (.iadd, 1) := by decide +kernel
theorem dX3_moveOneCell_43 : decode cX3_moveOneCell 43 = .ok (.putfield 117, 3) := by decide +kernel
theorem dX3_moveOneCell_46 : decode cX3_moveOneCell 46 = .ok (.aload_n 0, 1) := by decide +kernel
theorem dX3_moveOneCell_47 : decode cX3_moveOneCell 47 = .ok (.getfield 33, 3) := by decide +kernel
theorem dX3_moveOneCell_50 : decode cX3_moveOneCell 50 = .ok (.iload_n 2, 1) := by decide +kernel
theorem dX3_moveOneCell_51 : decode cX3_moveOneCell 51 = .ok (.invokevirtual 158, 3) := by decide +kernel
theorem dX3_moveOneCell_54 : decode cX3_moveOneCell 54 = .ok (.aload_n 0, 1) := by decide +kernel
theorem dX3_moveOneCell_55 : decode cX3_moveOneCell 55 = .ok (.getfield 33, 3) := by decide +kernel
theorem dX3_moveOneCell_58 : decode cX3_moveOneCell 58 = .ok (.dup, 1) := by decide +kernel
theorem dX3_moveOneCell_59 : decode cX3_moveOneCell 59 = .ok (.getfield 99, 3) := by decide +kernel
theorem dX3_moveOneCell_62 : decode cX3_moveOneCell 62 = .ok (.aload_n 0, 1) := by decide +kernel
theorem dX3_moveOneCell_63 : decode cX3_moveOneCell 63 = .ok (.getfield 26, 3) := by decide +kernel
theorem dX3_moveOneCell_66 : decode cX3_moveOneCell 66 = .ok (.aload_n 0, 1) := by decide +kernel
theorem dX3_moveOneCell_67 : decode cX3_moveOneCell 67 = .ok (.getfield 33, 3) := by decide +kernel
theorem dX3_moveOneCell_70 : decode cX3_moveOneCell 70 = .ok (.getfield 99, 3) := by decide +kernel
theorem dX3_moveOneCell_73 : decode cX3_moveOneCell 73 = .ok (.aload_n 0, 1) := by decide +kernel
theorem dX3_moveOneCell_74 : decode cX3_moveOneCell 74 = .ok (.getfield 18, 3) := by decide +kernel
theorem dX3_moveOneCell_77 : decode cX3_moveOneCell 77 = .ok (.iconst 3, 1) := by decide +kernel
theorem dX3_moveOneCell_78 : decode cX3_moveOneCell 78 = .ok (.iaload, 1) := by decide +kernel
theorem dX3_moveOneCell_79 : decode cX3_moveOneCell 79 = .ok (.invokevirtual 161, 3) := by decide +kernel
theorem dX3_moveOneCell_82 : decode cX3_moveOneCell 82 = .ok (.isub, 1) := by decide +kernel
theorem dX3_moveOneCell_83 : decode cX3_moveOneCell 83 = .ok (.putfield 99, 3) := by decide +kernel
theorem dX3_moveOneCell_86 : decode cX3_moveOneCell 86 = .ok (.return_, 1) := by decide +kernel
theorem dX3_rub_0 : decode cX3_rub 0 = .ok (.iconst 0, 1) := by decide +kernel
theorem dX3_rub_1 : decode cX3_rub 1 = .ok (.aload_n 0, 1) := by decide +kernel
theorem dX3_rub_2 : decode cX3_rub 2 = .ok (.getfield 18, 3) := by decide +kernel
theorem dX3_rub_5 : decode cX3_rub 5 = .ok (.iconst 4, 1) := by decide +kernel
theorem dX3_rub_6 : decode cX3_rub 6 = .ok (.iaload, 1) := by decide +kernel
theorem dX3_rub_7 : decode cX3_rub 7 = .ok (.invokestatic 164, 3) := by decide +kernel
theorem dX3_rub_10 : decode cX3_rub 10 = .ok (.iconst 3, 1) := by decide +kernel
theorem dX3_rub_11 : decode cX3_rub 11 = .ok (.isub, 1) := by decide +kernel
theorem dX3_rub_12 : decode cX3_rub 12 = .ok (.invokestatic 126, 3) := by decide +kernel
theorem dX3_rub_15 : decode cX3_rub 15 = .ok (.istore_n 1, 1) := by decide +kernel
theorem dX3_rub_16 : decode cX3_rub 16 = .ok (.aload_n 0, 1) := by decide +kernel
theorem dX3_rub_17 : decode cX3_rub 17 = .ok (.iconst 0, 1) := by decide +kernel
theorem dX3_rub_18 : decode cX3_rub 18 = .ok (.aload_n 0, 1) := by decide +kernel
theorem dX3_rub_19 : decode cX3_rub 19 = .ok (.getfield 83, 3) := by decide +kernel
theorem dX3_rub_22 : decode cX3_rub 22 = .ok (.aload_n 0, 1) := by decide +kernel
theorem dX3_rub_23 : decode cX3_rub 23 = .ok (.getfield 80, 3) := by decide +kernel
theorem dX3_rub_26 : decode cX3_rub 26 = .ok (.iload_n 1, 1) := by decide +kernel
theorem dX3_rub_27 : decode cX3_rub 27 = .ok (.imul, 1) := by decide +kernel
theorem dX3_rub_28 : decode cX3_rub 28 = .ok (.iadd, 1) := by decide +kernel
theorem dX3_rub_29 : decode cX3_rub 29 = .ok (.iconst 2, 1) := by decide +kernel
theorem dX3_rub_30 : decode cX3_rub 30 = .ok (.isub, 1) := by decide +kernel
theorem dX3_rub_31 : decode cX3_rub 31 = .ok (.invokestatic 126, 3) := by decide +kernel
theorem dX3_rub_34 : decode cX3_rub 34 = .ok (.putfield 83, 3) := by decide +kernel
theorem dX3_rub_37 : decode cX3_rub 37 = .ok (.return_, 1) := by decide +kernel
theorem dX3_watch_0 : decode cX3_watch 0 = .ok (.iconst 0, 1) := by decide +kernel
theorem dX3_watch_1 : decode cX3_watch 1 = .ok (.istore_n 1, 1) := by decide +kernel
theorem dX3_watch_2 : decode cX3_watch 2 = .ok (.iload_n 1, 1) := by decide +kernel
theorem dX3_watch_3 : decode cX3_watch 3 = .ok (.iconst 3, 1) := by decide +kernel
theorem dX3_watch_4 : decode cX3_watch 4 = .ok (.if_icmp .ge 76, 3) := by decide +kernel
theorem dX3_watch_7 : decode cX3_watch 7 = .ok (.aload_n 0, 1) := by decide +kernel
theorem dX3_watch_8 : decode cX3_watch 8 = .ok (.getfield 44, 3) := by decide +kernel
theorem dX3_watch_11 : decode cX3_watch 11 = .ok (.iload_n 1, 1) := by decide +kernel
theorem dX3_watch_12 : decode cX3_watch 12 = .ok (.aload_n 0, 1) := by decide +kernel
theorem dX3_watch_13 : decode cX3_watch 13 = .ok (.iload_n 1, 1) := by decide +kernel
theorem dX3_watch_14 : decode cX3_watch 14 = .ok (.invokevirtual 167, 3) := by decide +kernel
theorem dX3_watch_17 : decode cX3_watch 17 = .ok (.getstatic 170, 3) := by decide +kernel
theorem dX3_watch_20 : decode cX3_watch 20 = .ok (.iload_n 1, 1) := by decide +kernel
theorem dX3_watch_21 : decode cX3_watch 21 = .ok (.iaload, 1) := by decide +kernel
theorem dX3_watch_22 : decode cX3_watch 22 = .ok (.if_icmp .lt 14, 3) := by decide +kernel
theorem dX3_watch_25 : decode cX3_watch 25 = .ok (.aload_n 0, 1) := by decide +kernel
theorem dX3_watch_26 : decode cX3_watch 26 = .ok (.getfield 44, 3) := by decide +kernel
theorem dX3_watch_29 : decode cX3_watch 29 = .ok (.iload_n 1, 1) := by decide +kernel
theorem dX3_watch_30 : decode cX3_watch 30 = .ok (.iaload, 1) := by decide +kernel
theorem dX3_watch_31 : decode cX3_watch 31 = .ok (.iconst 1, 1) := by decide +kernel
theorem dX3_watch_32 : decode cX3_watch 32 = .ok (.iadd, 1) := by decide +kernel
theorem dX3_watch_33 : decode cX3_watch 33 = .ok (.goto 4, 3) := by decide +kernel
theorem dX3_watch_36 : decode cX3_watch 36 = .ok (.iconst 0, 1) := by decide +kernel
theorem dX3_watch_37 : decode cX3_watch 37 = .ok (.iastore, 1) := by decide +kernel
theorem dX3_watch_38 : decode cX3_watch 38 = .ok (.aload_n 0, 1) := by decide +kernel
theorem dX3_watch_39 : decode cX3_watch 39 = .ok (.getfield 70, 3) := by decide +kernel
theorem dX3_watch_42 : decode cX3_watch 42 = .ok (.ifCond .eq 32, 3) := by decide +kernel
theorem dX3_watch_45 : decode cX3_watch 45 = .ok (.aload_n 0, 1) := by decide +kernel
theorem dX3_watch_46 : decode cX3_watch 46 = .ok (.getfield 44, 3) := by decide +kernel
theorem dX3_watch_49 : decode cX3_watch 49 = .ok (.iload_n 1, 1) := by decide +kernel
theorem dX3_watch_50 : decode cX3_watch 50 = .ok (.iaload, 1) := by decide +kernel
theorem dX3_watch_51 : decode cX3_watch 51 = .ok (.getstatic 173, 3) := by decide +kernel
theorem dX3_watch_54 : decode cX3_watch 54 = .ok (.iload_n 1, 1) := by decide +kernel
theorem dX3_watch_55 : decode cX3_watch 55 = .ok (.iaload, 1) := by decide +kernel
theorem dX3_watch_56 : decode cX3_watch 56 = .ok (.if_icmp .lt 18, 3) := by decide +kernel
theorem dX3_watch_59 : decode cX3_watch 59 = .ok (.aload_n 0, 1) := by decide +kernel
theorem dX3_watch_60 : decode cX3_watch 60 = .ok (.getfield 47, 3) := by decide +kernel
theorem dX3_watch_63 : decode cX3_watch 63 = .ok (.iload_n 1, 1) := by decide +kernel
theorem dX3_watch_64 : decode cX3_watch 64 = .ok (.dup2, 1) := by decide +kernel
theorem dX3_watch_65 : decode cX3_watch 65 = .ok (.iaload, 1) := by decide +kernel
theorem dX3_watch_66 : decode cX3_watch 66 = .ok (.iconst 1, 1) := by decide +kernel
theorem dX3_watch_67 : decode cX3_watch 67 = .ok (.iadd, 1) := by decide +kernel
theorem dX3_watch_68 : decode cX3_watch 68 = .ok (.iastore, 1) := by decide +kernel
theorem dX3_watch_69 : decode cX3_watch 69 = .ok (.aload_n 0, 1) := by decide +kernel
theorem dX3_watch_70 : decode cX3_watch 70 = .ok (.iload_n 1, 1) := by decide +kernel
theorem dX3_watch_71 : decode cX3_watch 71 = .ok (.invokevirtual 176, 3) := by decide +kernel
theorem dX3_watch_74 : decode cX3_watch 74 = .ok (.iinc 1 1, 3) := by decide +kernel
theorem dX3_watch_77 : decode cX3_watch 77 = .ok (.goto (-75), 3) := by decide +kernel
theorem dX3_watch_80 : decode cX3_watch 80 = .ok (.return_, 1) := by decide +kernel
theorem dX3_tripBy_0 : decode cX3_tripBy 0 = .ok (.aload_n 0, 1) := by decide +kernel
theorem dX3_tripBy_1 : decode cX3_tripBy 1 = .ok (.iconst 0, 1) := by decide +kernel
theorem dX3_tripBy_2 : decode cX3_tripBy 2 = .ok (.putfield 70, 3) := by decide +kernel
theorem dX3_tripBy_5 : decode cX3_tripBy 5 = .ok (.aload_n 0, 1) := by decide +kernel
theorem dX3_tripBy_6 : decode cX3_tripBy 6 = .ok (.iconst 0, 1) := by decide +kernel
theorem dX3_tripBy_7 : decode cX3_tripBy 7 = .ok (.putfield 74, 3) := by decide +kernel
theorem dX3_tripBy_10 : decode cX3_tripBy 10 = .ok (.aload_n 0, 1) := by decide +kernel
theorem dX3_tripBy_11 : decode cX3_tripBy 11 = .ok (.iload_n 1, 1) := by decide +kernel
theorem dX3_tripBy_12 : decode cX3_tripBy 12 = .ok (.putfield 50, 3) := by decide +kernel
theorem dX3_tripBy_15 : decode cX3_tripBy 15 = .ok (.aload_n 0, 1) := by decide +kernel
theorem dX3_tripBy_16 : decode cX3_tripBy 16 = .ok (.getfield 40, 3) := by decide +kernel
theorem dX3_tripBy_19 : decode cX3_tripBy 19 = .ok (.aload_n 0, 1) := by decide +kernel
theorem dX3_tripBy_20 : decode cX3_tripBy 20 = .ok (.getfield 86, 3) := by decide +kernel
theorem dX3_tripBy_23 : decode cX3_tripBy 23 = .ok (.iload_n 1, 1) := by decide +kernel
theorem dX3_tripBy_24 : decode cX3_tripBy 24 = .ok (.aload_n 0, 1) := by decide +kernel
theorem dX3_tripBy_25 : decode cX3_tripBy 25 = .ok (.invokevirtual 102, 3) := by decide +kernel
theorem dX3_tripBy_28 : decode cX3_tripBy 28 = .ok (.invokevirtual 179, 3) := by decide +kernel
theorem dX3_tripBy_31 : decode cX3_tripBy 31 = .ok (.return_, 1) := by decide +kernel
theorem dX4_init_0 : decode cX4_init 0 = .ok (.aload_n 0, 1) := by decide +kernel
theorem dX4_init_1 : decode cX4_init 1 = .ok (.invokespecial 3, 3) := by decide +kernel
theorem dX4_init_4 : decode cX4_init 4 = .ok (.aload_n 0, 1) := by decide +kernel
theorem dX4_init_5 : decode cX4_init 5 = .ok (.bipush 60, 2) := by decide +kernel
theorem dX4_init_7 : decode cX4_init 7 = .ok (.newarray .char, 2) := by decide +kernel
theorem dX4_init_9 : decode cX4_init 9 = .ok (.putfield 9, 3) := by decide +kernel
theorem dX4_init_12 : decode cX4_init 12 = .ok (.aload_n 0, 1) := by decide +kernel
theorem dX4_init_13 : decode cX4_init 13 = .ok (.bipush 60, 2) := by decide +kernel
theorem dX4_init_15 : decode cX4_init 15 = .ok (.newarray .char, 2) := by decide +kernel
theorem dX4_init_17 : decode cX4_init 17 = .ok (.putfield 15, 3) := by decide +kernel
theorem dX4_init_20 : decode cX4_init 20 = .ok (.aload_n 0, 1) := by decide +kernel
theorem dX4_init_21 : decode cX4_init 21 = .ok (.bipush 60, 2) := by decide +kernel
theorem dX4_init_23 : decode cX4_init 23 = .ok (.newarray .int, 2) := by decide +kernel
theorem dX4_init_25 : decode cX4_init 25 = .ok (.putfield 18, 3) := by decide +kernel
theorem dX4_init_28 : decode cX4_init 28 = .ok (.return_, 1) := by decide +kernel
theorem dX4_append_0 : decode cX4_append 0 = .ok (.aload_n 0, 1) := by decide +kernel
theorem dX4_append_1 : decode cX4_append 1 = .ok (.getfield 22, 3) := by decide +kernel
theorem dX4_append_4 : decode cX4_append 4 = .ok (.iconst 0, 1) := by decide +kernel
theorem dX4_append_5 : decode cX4_append 5 = .ok (.bipush 59, 2) := by decide +kernel
theorem dX4_append_7 : decode cX4_append 7 = .ok (.invokestatic 26, 3) := by decide +kernel
theorem dX4_append_10 : decode cX4_append 10 = .ok (.ifCond .ne 6, 3) := by decide +kernel
theorem dX4_append_13 : decode cX4_append 13 = .ok (.bipush (-103), 2) := by decide +kernel
theorem dX4_append_15 : decode cX4_append 15 = .ok (.ireturn, 1) := by decide +kernel
theorem dX4_append_16 : decode cX4_append 16 = .ok (.aload_n 0, 1) := by decide +kernel
theorem dX4_append_17 : decode cX4_append 17 = .ok (.getfield 9, 3) := by decide +kernel
theorem dX4_append_20 : decode cX4_append 20 = .ok (.aload_n 0, 1) := by decide +kernel
theorem dX4_append_21 : decode cX4_append 21 = .ok (.getfield 22, 3) := by decide +kernel
theorem dX4_append_24 : decode cX4_append 24 = .ok (.iload_n 1, 1) := by decide +kernel
theorem dX4_append_25 : decode cX4_append 25 = .ok (.castore, 1) := by decide +kernel
theorem dX4_append_26 : decode cX4_append 26 = .ok (.aload_n 0, 1) := by decide +kernel
theorem dX4_append_27 : decode cX4_append 27 = .ok (.dup, 1) := by decide +kernel
theorem dX4_append_28 : decode cX4_append 28 = .ok (.getfield 22, 3) := by decide +kernel
theorem dX4_append_31 : decode cX4_append 31 = .ok (.iconst 1, 1) := by decide +kernel
theorem dX4_append_32 : decode cX4_append 32 = .ok (.iadd, 1) := by decide +kernel
theorem dX4_append_33 : decode cX4_append 33 = .ok (.putfield 22, 3) := by decide +kernel
theorem dX4_append_36 : decode cX4_append 36 = .ok (.aload_n 0, 1) := by decide +kernel
theorem dX4_append_37 : decode cX4_append 37 = .ok (.getfield 22, 3) := by decide +kernel
theorem dX4_append_40 : decode cX4_append 40 = .ok (.ireturn, 1) := by decide +kernel
theorem dX4_empty_0 : decode cX4_empty 0 = .ok (.aload_n 0, 1) := by decide +kernel
theorem dX4_empty_1 : decode cX4_empty 1 = .ok (.getfield 22, 3) := by decide +kernel
theorem dX4_empty_4 : decode cX4_empty 4 = .ok (.istore_n 1, 1) := by decide +kernel
theorem dX4_empty_5 : decode cX4_empty 5 = .ok (.aload_n 0, 1) := by decide +kernel
theorem dX4_empty_6 : decode cX4_empty 6 = .ok (.iconst 0, 1) := by decide +kernel
theorem dX4_empty_7 : decode cX4_empty 7 = .ok (.putfield 22, 3) := by decide +kernel
theorem dX4_empty_10 : decode cX4_empty 10 = .ok (.iload_n 1, 1) := by decide +kernel
theorem dX4_empty_11 : decode cX4_empty 11 = .ok (.ireturn, 1) := by decide +kernel
theorem dX4_letterOf_0 : decode cX4_letterOf 0 = .ok (.iload_n 1, 1) := by decide +kernel
theorem dX4_letterOf_1 : decode cX4_letterOf 1 = .ok (.iconst 0, 1) := by decide +kernel
theorem dX4_letterOf_2 : decode cX4_letterOf 2 = .ok (.aload_n 0, 1) := by decide +kernel
theorem dX4_letterOf_3 : decode cX4_letterOf 3 = .ok (.getfield 30, 3) := by decide +kernel
theorem dX4_letterOf_6 : decode cX4_letterOf 6 = .ok (.iconst 1, 1) := by decide +kernel
theorem dX4_letterOf_7 : decode cX4_letterOf 7 = .ok (.isub, 1) := by decide +kernel
theorem dX4_letterOf_8 : decode cX4_letterOf 8 = .ok (.invokestatic 26, 3) := by decide +kernel
theorem dX4_letterOf_11 : decode cX4_letterOf 11 = .ok (.ifCond .eq 12, 3) := by decide +kernel
theorem dX4_letterOf_14 : decode cX4_letterOf 14 = .ok (.aload_n 0, 1) := by decide +kernel
theorem dX4_letterOf_15 : decode cX4_letterOf 15 = .ok (.getfield 15, 3) := by decide +kernel
theorem dX4_letterOf_18 : decode cX4_letterOf 18 = .ok (.iload_n 1, 1) := by decide +kernel
theorem dX4_letterOf_19 : decode cX4_letterOf 19 = .ok (.caload, 1) := by decide +kernel
theorem dX4_letterOf_20 : decode cX4_letterOf 20 = .ok (.goto 4, 3) := by decide +kernel
theorem dX4_letterOf_23 : decode cX4_letterOf 23 = .ok (.iconst 0, 1) := by decide +kernel
theorem dX4_letterOf_24 : decode cX4_letterOf 24 = .ok (.ireturn, 1) := by decide +kernel
theorem dX4_valueOf_0 : decode cX4_valueOf 0 = .ok (.iload_n 1, 1) := by decide +kernel
theorem dX4_valueOf_1 : decode cX4_valueOf 1 = .ok (.iconst 0, 1) := by decide +kernel
theorem dX4_valueOf_2 : decode cX4_valueOf 2 = .ok (.aload_n 0, 1) := by decide +kernel
theorem dX4_valueOf_3 : decode cX4_valueOf 3 = .ok (.getfield 30, 3) := by decide +kernel
theorem dX4_valueOf_6 : decode cX4_valueOf 6 = .ok (.iconst 1, 1) := by decide +kernel
theorem dX4_valueOf_7 : decode cX4_valueOf 7 = .ok (.isub, 1) := by decide +kernel
theorem dX4_valueOf_8 : decode cX4_valueOf 8 = .ok (.invokestatic 26, 3) := by decide +kernel
theorem dX4_valueOf_11 : decode cX4_valueOf 11 = .ok (.ifCond .eq 12, 3) := by decide +kernel
theorem dX4_valueOf_14 : decode cX4_valueOf 14 = .ok (.aload_n 0, 1) := by decide +kernel
theorem dX4_valueOf_15 : decode cX4_valueOf 15 = .ok (.getfield 18, 3) := by decide +kernel
theorem dX4_valueOf_18 : decode cX4_valueOf 18 = .ok (.iload_n 1, 1) := by decide +kernel
theorem dX4_valueOf_19 : decode cX4_valueOf 19 = .ok (.iaload, 1) := by decide +kernel
theorem dX4_valueOf_20 : decode cX4_valueOf 20 = .ok (.goto 4, 3) := by decide +kernel
theorem dX4_valueOf_23 : decode cX4_valueOf 23 = .ok (.iconst 0, 1) := by decide +kernel
theorem dX4_valueOf_24 : decode cX4_valueOf 24 = .ok (.ireturn, 1) := by decide +kernel
theorem dX4_read_0 : decode cX4_read 0 = .ok (.aload_n 0, 1) := by decide +kernel
theorem dX4_read_1 : decode cX4_read 1 = .ok (.iconst 0, 1) := by decide +kernel
theorem dX4_read_2 : decode cX4_read 2 = .ok (.putfield 33, 3) := by decide +kernel
theorem dX4_read_5 : decode cX4_read 5 = .ok (.aload_n 0, 1) := by decide +kernel
theorem dX4_read_6 : decode cX4_read 6 = .ok (.iconst 0, 1) := by decide +kernel
theorem dX4_read_7 : decode cX4_read 7 = .ok (.putfield 30, 3) := by decide +kernel
theorem dX4_read_10 : decode cX4_read 10 = .ok (.aload_n 0, 1) := by decide +kernel
theorem dX4_read_11 : decode cX4_read 11 = .ok (.invokevirtual 36, 3) := by decide +kernel
theorem dX4_read_14 : decode cX4_read 14 = .ok (.istore_n 1, 1) := by decide +kernel
theorem dX4_read_15 : decode cX4_read 15 = .ok (.iconst 0, 1) := by decide +kernel
theorem dX4_read_16 : decode cX4_read 16 = .ok (.istore_n 2, 1) := by decide +kernel
theorem dX4_read_17 : decode cX4_read 17 = .ok (.iload_n 2, 1) := by decide +kernel
theorem dX4_read_18 : decode cX4_read 18 = .ok (.bipush 60, 2) := by decide +kernel
theorem dX4_read_20 : decode cX4_read 20 = .ok (.if_icmp .ge 44, 3) := by decide +kernel
theorem dX4_read_23 : decode cX4_read 23 = .ok (.iload_n 1, 1) := by decide +kernel
theorem dX4_read_24 : decode cX4_read 24 = .ok (.ifCond .eq 40, 3) := by decide +kernel
theorem dX4_read_27 : decode cX4_read 27 = .ok (.aload_n 0, 1) := by decide +kernel
theorem dX4_read_28 : decode cX4_read 28 = .ok (.getfield 33, 3) := by decide +kernel
theorem dX4_read_31 : decode cX4_read 31 = .ok (.aload_n 0, 1) := by decide +kernel
theorem dX4_read_32 : decode cX4_read 32 = .ok (.getfield 22, 3) := by decide +kernel
theorem dX4_read_35 : decode cX4_read 35 = .ok (.if_icmp .ge 29, 3) := by decide +kernel
theorem dX4_read_38 : decode cX4_read 38 = .ok (.aload_n 0, 1) := by decide +kernel
theorem dX4_read_39 : decode cX4_read 39 = .ok (.invokevirtual 40, 3) := by decide +kernel
theorem dX4_read_42 : decode cX4_read 42 = .ok (.ifCond .eq 14, 3) := by decide +kernel
theorem dX4_read_45 : decode cX4_read 45 = .ok (.aload_n 0, 1) := by decide +kernel
theorem dX4_read_46 : decode cX4_read 46 = .ok (.invokevirtual 36, 3) := by decide +kernel
theorem dX4_read_49 : decode cX4_read 49 = .ok (.ifCond .eq 7, 3) := by decide +kernel
theorem dX4_read_52 : decode cX4_read 52 = .ok (.iconst 1, 1) := by decide +kernel
theorem dX4_read_53 : decode cX4_read 53 = .ok (.goto 4, 3) := by decide +kernel
theorem dX4_read_56 : decode cX4_read 56 = .ok (.iconst 0, 1) := by decide +kernel
theorem dX4_read_57 : decode cX4_read 57 = .ok (.istore_n 1, 1) := by decide +kernel
theorem dX4_read_58 : decode cX4_read 58 = .ok (.iinc 2 1, 3) := by decide +kernel
theorem dX4_read_61 : decode cX4_read 61 = .ok (.goto (-44), 3) := by decide +kernel
theorem dX4_read_64 : decode cX4_read 64 = .ok (.iload_n 1, 1) := by decide +kernel
theorem dX4_read_65 : decode cX4_read 65 = .ok (.ifCond .eq 7, 3) := by decide +kernel
theorem dX4_read_68 : decode cX4_read 68 = .ok (.iconst (-1), 1) := by decide +kernel
theorem dX4_read_69 : decode cX4_read 69 = .ok (.goto 7, 3) := by decide +kernel
theorem dX4_read_72 : decode cX4_read 72 = .ok (.aload_n 0, 1) := by decide +kernel
theorem dX4_read_73 : decode cX4_read 73 = .ok (.getfield 33, 3) := by decide +kernel
theorem dX4_read_76 : decode cX4_read 76 = .ok (.ireturn, 1) := by decide +kernel
theorem dX4_next_0 : decode cX4_next 0 = .ok (.aload_n 0, 1) := by decide +kernel
theorem dX4_next_1 : decode cX4_next 1 = .ok (.getfield 33, 3) := by decide +kernel
theorem dX4_next_4 : decode cX4_next 4 = .ok (.iconst 0, 1) := by decide +kernel
theorem dX4_next_5 : decode cX4_next 5 = .ok (.aload_n 0, 1) := by decide +kernel
theorem dX4_next_6 : decode cX4_next 6 = .ok (.getfield 22, 3) := by decide +kernel
theorem dX4_next_9 : decode cX4_next 9 = .ok (.bipush 60, 2) := by decide +kernel
theorem dX4_next_11 : decode cX4_next 11 = .ok (.invokestatic 43, 3) := by decide +kernel
theorem dX4_next_14 : decode cX4_next 14 = .ok (.iconst 1, 1) := by decide +kernel
theorem dX4_next_15 : decode cX4_next 15 = .ok (.isub, 1) := by decide +kernel
theorem dX4_next_16 : decode cX4_next 16 = .ok (.invokestatic 26, 3) := by decide +kernel
theorem dX4_next_19 : decode cX4_next 19 = .ok (.ifCond .eq 15, 3) := by decide +kernel
theorem dX4_next_22 : decode cX4_next 22 = .ok (.aload_n 0, 1) := by decide +kernel
theorem dX4_next_23 : decode cX4_next 23 = .ok (.getfield 9, 3) := by decide +kernel
theorem dX4_next_26 : decode cX4_next 26 = .ok (.aload_n 0, 1) := by decide +kernel
theorem dX4_next_27 : decode cX4_next 27 = .ok (.getfield 33, 3) := by decide +kernel
theorem dX4_next_30 : decode cX4_next 30 = .ok (.caload, 1) := by decide +kernel
theorem dX4_next_31 : decode cX4_next 31 = .ok (.goto 4, 3) := by decide +kernel
theorem dX4_next_34 : decode cX4_next 34 = .ok (.iconst (-1), 1) := by decide +kernel
theorem dX4_next_35 : decode cX4_next 35 = .ok (.ireturn, 1) := by decide +kernel
theorem dX4_nextDigit_0 : decode cX4_nextDigit 0 = .ok (.aload_n 0, 1) := by decide +kernel
theorem dX4_nextDigit_1 : decode cX4_nextDigit 1 = .ok (.invokevirtual 49, 3) := by decide +kernel
theorem dX4_nextDigit_4 : decode cX4_nextDigit 4 = .ok (.istore_n 1, 1) := by decide +kernel
theorem dX4_nextDigit_5 : decode cX4_nextDigit 5 = .ok (.iload_n 1, 1) := by decide +kernel
theorem dX4_nextDigit_6 : decode cX4_nextDigit 6 = .ok (.bipush 48, 2) := by decide +kernel
theorem dX4_nextDigit_8 : decode cX4_nextDigit 8 = .ok (.bipush 57, 2) := by decide +kernel
theorem dX4_nextDigit_10 : decode cX4_nextDigit 10 = .ok (.invokestatic 26, 3) := by decide +kernel
theorem dX4_nextDigit_13 : decode cX4_nextDigit 13 = .ok (.ifCond .eq 10, 3) := by decide +kernel
theorem dX4_nextDigit_16 : decode cX4_nextDigit 16 = .ok (.iload_n 1, 1) := by decide +kernel
theorem dX4_nextDigit_17 : decode cX4_nextDigit 17 = .ok (.bipush 48, 2) := by decide +kernel
theorem dX4_nextDigit_19 : decode cX4_nextDigit 19 = .ok (.isub, 1) := by decide +kernel
theorem dX4_nextDigit_20 : decode cX4_nextDigit 20 = .ok (.goto 4, 3) := by decide +kernel
theorem dX4_nextDigit_23 : decode cX4_nextDigit 23 = .ok (.iconst (-1), 1) := by decide +kernel
theorem dX4_nextDigit_24 : decode cX4_nextDigit 24 = .ok (.ireturn, 1) := by decide +kernel
theorem dX4_readComma_0 : decode cX4_readComma 0 = .ok (.aload_n 0, 1) := by decide +kernel
theorem dX4_readComma_1 : decode cX4_readComma 1 = .ok (.invokevirtual 49, 3) := by decide +kernel
theorem dX4_readComma_4 : decode cX4_readComma 4 = .ok (.bipush 44, 2) := by decide +kernel
theorem dX4_readComma_6 : decode cX4_readComma 6 = .ok (.if_icmp .eq 5, 3) := by decide +kernel
theorem dX4_readComma_9 : decode cX4_readComma 9 = .ok (.iconst 0, 1) := by decide +kernel
theorem dX4_readComma_10 : decode cX4_readComma 10 = .ok (.ireturn, 1) := by decide +kernel
theorem dX4_readComma_11 : decode cX4_readComma 11 = .ok (.aload_n 0, 1) := by decide +kernel
theorem dX4_readComma_12 : decode cX4_readComma 12 = .ok (.dup, 1) := by decide +kernel
theorem dX4_readComma_13 : decode cX4_readComma 13 = .ok (.getfield 33, 3) := by decide +kernel
theorem dX4_readComma_16 : decode cX4_readComma 16 = .ok (.iconst 1, 1) := by decide +kernel
theorem dX4_readComma_17 : decode cX4_readComma 17 = .ok (.iadd, 1) := by decide +kernel
theorem dX4_readComma_18 : decode cX4_readComma 18 = .ok (.putfield 33, 3) := by decide +kernel
theorem dX4_readComma_21 : decode cX4_readComma 21 = .ok (.iconst 1, 1) := by decide +kernel
theorem dX4_readComma_22 : decode cX4_readComma 22 = .ok (.ireturn, 1) := by decide +kernel
theorem dX4_readCommand_0 : decode cX4_readCommand 0 = .ok (.aload_n 0, 1) := by decide +kernel
theorem dX4_readCommand_1 : decode cX4_readCommand 1 = .ok (.getfield 30, 3) := by decide +kernel
theorem dX4_readCommand_4 : decode cX4_readCommand 4 = .ok (.iconst 0, 1) := by decide +kernel
theorem dX4_readCommand_5 : decode cX4_readCommand 5 = .ok (.bipush 59, 2) := by decide +kernel
theorem dX4_readCommand_7 : decode cX4_readCommand 7 = .ok (.invokestatic 26, 3) := by decide +kernel
theorem dX4_readCommand_10 : decode cX4_readCommand 10 = .ok (.ifCond .ne 5, 3) := by decide +kernel
theorem dX4_readCommand_13 : decode cX4_readCommand 13 = .ok (.iconst 0, 1) := by decide +kernel
theorem dX4_readCommand_14 : decode cX4_readCommand 14 = .ok (.ireturn, 1) := by decide +kernel
theorem dX4_readCommand_15 : decode cX4_readCommand 15 = .ok (.aload_n 0, 1) := by decide +kernel
theorem dX4_readCommand_16 : decode cX4_readCommand 16 = .ok (.invokevirtual 49, 3) := by decide +kernel
theorem dX4_readCommand_19 : decode cX4_readCommand 19 = .ok (.istore_n 1, 1) := by decide +kernel
theorem dX4_readCommand_20 : decode cX4_readCommand 20 = .ok (.iload_n 1, 1) := by decide +kernel
theorem dX4_readCommand_21 : decode cX4_readCommand 21 = .ok (.invokestatic 53, 3) := by decide +kernel
theorem dX4_readCommand_24 : decode cX4_readCommand 24 = .ok (.ifCond .ne 5, 3) := by decide +kernel
theorem dX4_readCommand_27 : decode cX4_readCommand 27 = .ok (.iconst 0, 1) := by decide +kernel
theorem dX4_readCommand_28 : decode cX4_readCommand 28 = .ok (.ireturn, 1) := by decide +kernel
theorem dX4_readCommand_29 : decode cX4_readCommand 29 = .ok (.aload_n 0, 1) := by decide +kernel
theorem dX4_readCommand_30 : decode cX4_readCommand 30 = .ok (.dup, 1) := by decide +kernel
theorem dX4_readCommand_31 : decode cX4_readCommand 31 = .ok (.getfield 33, 3) := by decide +kernel
theorem dX4_readCommand_34 : decode cX4_readCommand 34 = .ok (.iconst 1, 1) := by decide +kernel
theorem dX4_readCommand_35 : decode cX4_readCommand 35 = .ok (.iadd, 1) := by decide +kernel
theorem dX4_readCommand_36 : decode cX4_readCommand 36 = .ok (.putfield 33, 3) := by decide +kernel
theorem dX4_readCommand_39 : decode cX4_readCommand 39 = .ok (.aload_n 0, 1) := by decide +kernel
theorem dX4_readCommand_40 : decode cX4_readCommand 40 = .ok (.getfield 15, 3) := by decide +kernel
theorem dX4_readCommand_43 : decode cX4_readCommand 43 = .ok (.aload_n 0, 1) := by decide +kernel
theorem dX4_readCommand_44 : decode cX4_readCommand 44 = .ok (.getfield 30, 3) := by decide +kernel
theorem dX4_readCommand_47 : decode cX4_readCommand 47 = .ok (.iload_n 1, 1) := by decide +kernel
theorem dX4_readCommand_48 : decode cX4_readCommand 48 = .ok (.i2c, 1) := by decide +kernel
theorem dX4_readCommand_49 : decode cX4_readCommand 49 = .ok (.castore, 1) := by decide +kernel
theorem dX4_readCommand_50 : decode cX4_readCommand 50 = .ok (.aload_n 0, 1) := by decide +kernel
theorem dX4_readCommand_51 : decode cX4_readCommand 51 = .ok (.getfield 18, 3) := by decide +kernel
theorem dX4_readCommand_54 : decode cX4_readCommand 54 = .ok (.aload_n 0, 1) := by decide +kernel
theorem dX4_readCommand_55 : decode cX4_readCommand 55 = .ok (.getfield 30, 3) := by decide +kernel
theorem dX4_readCommand_58 : decode cX4_readCommand 58 = .ok (.iconst 0, 1) := by decide +kernel
theorem dX4_readCommand_59 : decode cX4_readCommand 59 = .ok (.iastore, 1) := by decide +kernel
theorem dX4_readCommand_60 : decode cX4_readCommand 60 = .ok (.aload_n 0, 1) := by decide +kernel
theorem dX4_readCommand_61 : decode cX4_readCommand 61 = .ok (.iload_n 1, 1) := by decide +kernel
theorem dX4_readCommand_62 : decode cX4_readCommand 62 = .ok (.invokevirtual 57, 3) := by decide +kernel
theorem dX4_readCommand_65 : decode cX4_readCommand 65 = .ok (.istore_n 2, 1) := by decide +kernel
theorem dX4_readCommand_66 : decode cX4_readCommand 66 = .ok (.aload_n 0, 1) := by decide +kernel
theorem dX4_readCommand_67 : decode cX4_readCommand 67 = .ok (.dup, 1) := by decide +kernel
theorem dX4_readCommand_68 : decode cX4_readCommand 68 = .ok (.getfield 30, 3) := by decide +kernel
theorem dX4_readCommand_71 : decode cX4_readCommand 71 = .ok (.iconst 1, 1) := by decide +kernel
theorem dX4_readCommand_72 : decode cX4_readCommand 72 = .ok (.iadd, 1) := by decide +kernel
theorem dX4_readCommand_73 : decode cX4_readCommand 73 = .ok (.putfield 30, 3) := by decide +kernel
theorem dX4_readCommand_76 : decode cX4_readCommand 76 = .ok (.iload_n 2, 1) := by decide +kernel
theorem dX4_readCommand_77 : decode cX4_readCommand 77 = .ok (.ireturn, 1) := by decide +kernel
theorem dX4_isLetterOfCommand_0 : decode cX4_isLetterOfCommand 0 = .ok (.iload_n 0, 1) := by decide +kernel
theorem dX4_isLetterOfCommand_1 : decode cX4_isLetterOfCommand 1 = .ok (.tableswitch 113 97 120 #[111, 113, 111, 111, 113, 111, 111, 113, 113, 113, 113, 113, 113, 113, 111, 113, 113, 111, 111, 111, 113, 113, 111, 111], 111) := by decide +kernel
theorem dX4_isLetterOfCommand_112 : decode cX4_isLetterOfCommand 112 = .ok (.iconst 1, 1) := by decide +kernel
theorem dX4_isLetterOfCommand_113 : decode cX4_isLetterOfCommand 113 = .ok (.ireturn, 1) := by decide +kernel
theorem dX4_isLetterOfCommand_114 : decode cX4_isLetterOfCommand 114 = .ok (.iconst 0, 1) := by decide +kernel
theorem dX4_isLetterOfCommand_115 : decode cX4_isLetterOfCommand 115 = .ok (.ireturn, 1) := by decide +kernel
theorem dX4_readValue_0 : decode cX4_readValue 0 = .ok (.iload_n 1, 1) := by decide +kernel
theorem dX4_readValue_1 : decode cX4_readValue 1 = .ok (.lookupswitch 132 #[(97, 119), (99, 104), (100, 59), (102, 89), (116, 74), (119, 124)], 59) := by decide +kernel
theorem dX4_readValue_60 : decode cX4_readValue 60 = .ok (.aload_n 0, 1) := by decide +kernel
theorem dX4_readValue_61 : decode cX4_readValue 61 = .ok (.getstatic 60, 3) := by decide +kernel
theorem dX4_readValue_64 : decode cX4_readValue 64 = .ok (.iconst 0, 1) := by decide +kernel
theorem dX4_readValue_65 : decode cX4_readValue 65 = .ok (.iaload, 1) := by decide +kernel
theorem dX4_readValue_66 : decode cX4_readValue 66 = .ok (.getstatic 63, 3) := by decide +kernel
theorem dX4_readValue_69 : decode cX4_readValue 69 = .ok (.iconst 0, 1) := by decide +kernel
theorem dX4_readValue_70 : decode cX4_readValue 70 = .ok (.iaload, 1) := by decide +kernel
theorem dX4_readValue_71 : decode cX4_readValue 71 = .ok (.invokevirtual 66, 3) := by decide +kernel
theorem dX4_readValue_74 : decode cX4_readValue 74 = .ok (.ireturn, 1) := by decide +kernel
theorem dX4_readValue_75 : decode cX4_readValue 75 = .ok (.aload_n 0, 1) := by decide +kernel
theorem dX4_readValue_76 : decode cX4_readValue 76 = .ok (.getstatic 60, 3) := by decide +kernel
theorem dX4_readValue_79 : decode cX4_readValue 79 = .ok (.iconst 1, 1) := by decide +kernel
theorem dX4_readValue_80 : decode cX4_readValue 80 = .ok (.iaload, 1) := by decide +kernel
theorem dX4_readValue_81 : decode cX4_readValue 81 = .ok (.getstatic 63, 3) := by decide +kernel
theorem dX4_readValue_84 : decode cX4_readValue 84 = .ok (.iconst 1, 1) := by decide +kernel
theorem dX4_readValue_85 : decode cX4_readValue 85 = .ok (.iaload, 1) := by decide +kernel
theorem dX4_readValue_86 : decode cX4_readValue 86 = .ok (.invokevirtual 66, 3) := by decide +kernel
theorem dX4_readValue_89 : decode cX4_readValue 89 = .ok (.ireturn, 1) := by decide +kernel
theorem dX4_readValue_90 : decode cX4_readValue 90 = .ok (.aload_n 0, 1) := by decide +kernel
theorem dX4_readValue_91 : decode cX4_readValue 91 = .ok (.getstatic 60, 3) := by decide +kernel
theorem dX4_readValue_94 : decode cX4_readValue 94 = .ok (.iconst 2, 1) := by decide +kernel
theorem dX4_readValue_95 : decode cX4_readValue 95 = .ok (.iaload, 1) := by decide +kernel
theorem dX4_readValue_96 : decode cX4_readValue 96 = .ok (.getstatic 63, 3) := by decide +kernel
theorem dX4_readValue_99 : decode cX4_readValue 99 = .ok (.iconst 2, 1) := by decide +kernel
theorem dX4_readValue_100 : decode cX4_readValue 100 = .ok (.iaload, 1) := by decide +kernel
theorem dX4_readValue_101 : decode cX4_readValue 101 = .ok (.invokevirtual 66, 3) := by decide +kernel
theorem dX4_readValue_104 : decode cX4_readValue 104 = .ok (.ireturn, 1) := by decide +kernel
theorem dX4_readValue_105 : decode cX4_readValue 105 = .ok (.aload_n 0, 1) := by decide +kernel
theorem dX4_readValue_106 : decode cX4_readValue 106 = .ok (.getstatic 60, 3) := by decide +kernel
theorem dX4_readValue_109 : decode cX4_readValue 109 = .ok (.iconst 3, 1) := by decide +kernel
theorem dX4_readValue_110 : decode cX4_readValue 110 = .ok (.iaload, 1) := by decide +kernel
theorem dX4_readValue_111 : decode cX4_readValue 111 = .ok (.getstatic 63, 3) := by decide +kernel
theorem dX4_readValue_114 : decode cX4_readValue 114 = .ok (.iconst 3, 1) := by decide +kernel
theorem dX4_readValue_115 : decode cX4_readValue 115 = .ok (.iaload, 1) := by decide +kernel
theorem dX4_readValue_116 : decode cX4_readValue 116 = .ok (.invokevirtual 66, 3) := by decide +kernel
theorem dX4_readValue_119 : decode cX4_readValue 119 = .ok (.ireturn, 1) := by decide +kernel
theorem dX4_readValue_120 : decode cX4_readValue 120 = .ok (.aload_n 0, 1) := by decide +kernel
theorem dX4_readValue_121 : decode cX4_readValue 121 = .ok (.invokevirtual 70, 3) := by decide +kernel
theorem dX4_readValue_124 : decode cX4_readValue 124 = .ok (.ireturn, 1) := by decide +kernel
theorem dX4_readValue_125 : decode cX4_readValue 125 = .ok (.aload_n 0, 1) := by decide +kernel
theorem dX4_readValue_126 : decode cX4_readValue 126 = .ok (.iconst 1, 1) := by decide +kernel
theorem dX4_readValue_127 : decode cX4_readValue 127 = .ok (.bipush 99, 2) := by decide +kernel
theorem dX4_readValue_129 : decode cX4_readValue 129 = .ok (.invokevirtual 66, 3) := by decide +kernel
theorem dX4_readValue_132 : decode cX4_readValue 132 = .ok (.ireturn, 1) := by decide +kernel
theorem dX4_readValue_133 : decode cX4_readValue 133 = .ok (.iconst 1, 1) := by decide +kernel
theorem dX4_readValue_134 : decode cX4_readValue 134 = .ok (.ireturn, 1) := by decide +kernel
theorem dX4_readNumber_0 : decode cX4_readNumber 0 = .ok (.aload_n 0, 1) := by decide +kernel
theorem dX4_readNumber_1 : decode cX4_readNumber 1 = .ok (.invokevirtual 73, 3) := by decide +kernel
theorem dX4_readNumber_4 : decode cX4_readNumber 4 = .ok (.istore_n 3, 1) := by decide +kernel
theorem dX4_readNumber_5 : decode cX4_readNumber 5 = .ok (.iload_n 3, 1) := by decide +kernel
theorem dX4_readNumber_6 : decode cX4_readNumber 6 = .ok (.iconst (-1), 1) := by decide +kernel
theorem dX4_readNumber_7 : decode cX4_readNumber 7 = .ok (.if_icmp .eq 12, 3) := by decide +kernel
theorem dX4_readNumber_10 : decode cX4_readNumber 10 = .ok (.iload_n 3, 1) := by decide +kernel
theorem dX4_readNumber_11 : decode cX4_readNumber 11 = .ok (.iload_n 1, 1) := by decide +kernel
theorem dX4_readNumber_12 : decode cX4_readNumber 12 = .ok (.iload_n 2, 1) := by decide +kernel
theorem dX4_readNumber_13 : decode cX4_readNumber 13 = .ok (.invokestatic 26, 3) := by decide +kernel
theorem dX4_readNumber_16 : decode cX4_readNumber 16 = .ok (.ifCond .ne 5, 3) := by decide +kernel
theorem dX4_readNumber_19 : decode cX4_readNumber 19 = .ok (.iconst 0, 1) := by decide +kernel
theorem dX4_readNumber_20 : decode cX4_readNumber 20 = .ok (.ireturn, 1) := by decide +kernel
theorem dX4_readNumber_21 : decode cX4_readNumber 21 = .ok (.aload_n 0, 1) := by decide +kernel
theorem dX4_readNumber_22 : decode cX4_readNumber 22 = .ok (.dup, 1) := by decide +kernel
theorem dX4_readNumber_23 : decode cX4_readNumber 23 = .ok (.getfield 33, 3) := by decide +kernel
theorem dX4_readNumber_26 : decode cX4_readNumber 26 = .ok (.iconst 1, 1) := by decide +kernel
theorem dX4_readNumber_27 : decode cX4_readNumber 27 = .ok (.iadd, 1) := by decide +kernel
theorem dX4_readNumber_28 : decode cX4_readNumber 28 = .ok (.putfield 33, 3) := by decide +kernel
theorem dX4_readNumber_31 : decode cX4_readNumber 31 = .ok (.iload_n 3, 1) := by decide +kernel
theorem dX4_readNumber_32 : decode cX4_readNumber 32 = .ok (.istore 4, 2) := by decide +kernel
theorem dX4_readNumber_34 : decode cX4_readNumber 34 = .ok (.iconst 0, 1) := by decide +kernel
theorem dX4_readNumber_35 : decode cX4_readNumber 35 = .ok (.istore 5, 2) := by decide +kernel
theorem dX4_readNumber_37 : decode cX4_readNumber 37 = .ok (.iload 5, 2) := by decide +kernel
theorem dX4_readNumber_39 : decode cX4_readNumber 39 = .ok (.bipush 60, 2) := by decide +kernel
theorem dX4_readNumber_41 : decode cX4_readNumber 41 = .ok (.if_icmp .ge 52, 3) := by decide +kernel
theorem dX4_readNumber_44 : decode cX4_readNumber 44 = .ok (.iload 4, 2) := by decide +kernel
theorem dX4_readNumber_46 : decode cX4_readNumber 46 = .ok (.ifCond .eq 47, 3) := by decide +kernel
theorem dX4_readNumber_49 : decode cX4_readNumber 49 = .ok (.aload_n 0, 1) := by decide +kernel
theorem dX4_readNumber_50 : decode cX4_readNumber 50 = .ok (.invokevirtual 73, 3) := by decide +kernel
theorem dX4_readNumber_53 : decode cX4_readNumber 53 = .ok (.iconst (-1), 1) := by decide +kernel
theorem dX4_readNumber_54 : decode cX4_readNumber 54 = .ok (.if_icmp .eq 39, 3) := by decide +kernel
theorem dX4_readNumber_57 : decode cX4_readNumber 57 = .ok (.iload 4, 2) := by decide +kernel
theorem dX4_readNumber_59 : decode cX4_readNumber 59 = .ok (.bipush 10, 2) := by decide +kernel
theorem dX4_readNumber_61 : decode cX4_readNumber 61 = .ok (.imul, 1) := by decide +kernel
theorem dX4_readNumber_62 : decode cX4_readNumber 62 = .ok (.aload_n 0, 1) := by decide +kernel
theorem dX4_readNumber_63 : decode cX4_readNumber 63 = .ok (.invokevirtual 73, 3) := by decide +kernel
theorem dX4_readNumber_66 : decode cX4_readNumber 66 = .ok (.iadd, 1) := by decide +kernel
theorem dX4_readNumber_67 : decode cX4_readNumber 67 = .ok (.istore 4, 2) := by decide +kernel
theorem dX4_readNumber_69 : decode cX4_readNumber 69 = .ok (.iload 4, 2) := by decide +kernel
theorem dX4_readNumber_71 : decode cX4_readNumber 71 = .ok (.iload_n 2, 1) := by decide +kernel
theorem dX4_readNumber_72 : decode cX4_readNumber 72 = .ok (.if_icmp .le 5, 3) := by decide +kernel
theorem dX4_readNumber_75 : decode cX4_readNumber 75 = .ok (.iconst 0, 1) := by decide +kernel
theorem dX4_readNumber_76 : decode cX4_readNumber 76 = .ok (.ireturn, 1) := by decide +kernel
theorem dX4_readNumber_77 : decode cX4_readNumber 77 = .ok (.aload_n 0, 1) := by decide +kernel
theorem dX4_readNumber_78 : decode cX4_readNumber 78 = .ok (.dup, 1) := by decide +kernel
theorem dX4_readNumber_79 : decode cX4_readNumber 79 = .ok (.getfield 33, 3) := by decide +kernel
theorem dX4_readNumber_82 : decode cX4_readNumber 82 = .ok (.iconst 1, 1) := by decide +kernel
theorem dX4_readNumber_83 : decode cX4_readNumber 83 = .ok (.iadd, 1) := by decide +kernel
theorem dX4_readNumber_84 : decode cX4_readNumber 84 = .ok (.putfield 33, 3) := by decide +kernel
theorem dX4_readNumber_87 : decode cX4_readNumber 87 = .ok (.iinc 5 1, 3) := by decide +kernel
theorem dX4_readNumber_90 : decode cX4_readNumber 90 = .ok (.goto (-53), 3) := by decide +kernel
theorem dX4_readNumber_93 : decode cX4_readNumber 93 = .ok (.aload_n 0, 1) := by decide +kernel
theorem dX4_readNumber_94 : decode cX4_readNumber 94 = .ok (.getfield 18, 3) := by decide +kernel
theorem dX4_readNumber_97 : decode cX4_readNumber 97 = .ok (.aload_n 0, 1) := by decide +kernel
theorem dX4_readNumber_98 : decode cX4_readNumber 98 = .ok (.getfield 30, 3) := by decide +kernel
theorem dX4_readNumber_101 : decode cX4_readNumber 101 = .ok (.iload 4, 2) := by decide +kernel
theorem dX4_readNumber_103 : decode cX4_readNumber 103 = .ok (.iastore, 1) := by decide +kernel
theorem dX4_readNumber_104 : decode cX4_readNumber 104 = .ok (.iconst 1, 1) := by decide +kernel
theorem dX4_readNumber_105 : decode cX4_readNumber 105 = .ok (.ireturn, 1) := by decide +kernel
theorem dX4_readAlignment_0 : decode cX4_readAlignment 0 = .ok (.aload_n 0, 1) := by decide +kernel
theorem dX4_readAlignment_1 : decode cX4_readAlignment 1 = .ok (.invokevirtual 49, 3) := by decide +kernel
theorem dX4_readAlignment_4 : decode cX4_readAlignment 4 = .ok (.bipush 45, 2) := by decide +kernel
theorem dX4_readAlignment_6 : decode cX4_readAlignment 6 = .ok (.if_icmp .ne 7, 3) := by decide +kernel
theorem dX4_readAlignment_9 : decode cX4_readAlignment 9 = .ok (.iconst 1, 1) := by decide +kernel
theorem dX4_readAlignment_10 : decode cX4_readAlignment 10 = .ok (.goto 4, 3) := by decide +kernel
theorem dX4_readAlignment_13 : decode cX4_readAlignment 13 = .ok (.iconst 0, 1) := by decide +kernel
theorem dX4_readAlignment_14 : decode cX4_readAlignment 14 = .ok (.istore_n 1, 1) := by decide +kernel
theorem dX4_readAlignment_15 : decode cX4_readAlignment 15 = .ok (.iload_n 1, 1) := by decide +kernel
theorem dX4_readAlignment_16 : decode cX4_readAlignment 16 = .ok (.ifCond .eq 13, 3) := by decide +kernel
theorem dX4_readAlignment_19 : decode cX4_readAlignment 19 = .ok (.aload_n 0, 1) := by decide +kernel
theorem dX4_readAlignment_20 : decode cX4_readAlignment 20 = .ok (.dup, 1) := by decide +kernel
theorem dX4_readAlignment_21 : decode cX4_readAlignment 21 = .ok (.getfield 33, 3) := by decide +kernel
theorem dX4_readAlignment_24 : decode cX4_readAlignment 24 = .ok (.iconst 1, 1) := by decide +kernel
theorem dX4_readAlignment_25 : decode cX4_readAlignment 25 = .ok (.iadd, 1) := by decide +kernel
theorem dX4_readAlignment_26 : decode cX4_readAlignment 26 = .ok (.putfield 33, 3) := by decide +kernel
theorem dX4_readAlignment_29 : decode cX4_readAlignment 29 = .ok (.aload_n 0, 1) := by decide +kernel
theorem dX4_readAlignment_30 : decode cX4_readAlignment 30 = .ok (.invokevirtual 73, 3) := by decide +kernel
theorem dX4_readAlignment_33 : decode cX4_readAlignment 33 = .ok (.istore_n 2, 1) := by decide +kernel
theorem dX4_readAlignment_34 : decode cX4_readAlignment 34 = .ok (.iload_n 2, 1) := by decide +kernel
theorem dX4_readAlignment_35 : decode cX4_readAlignment 35 = .ok (.iconst (-1), 1) := by decide +kernel
theorem dX4_readAlignment_36 : decode cX4_readAlignment 36 = .ok (.if_icmp .eq 11, 3) := by decide +kernel
theorem dX4_readAlignment_39 : decode cX4_readAlignment 39 = .ok (.iload_n 1, 1) := by decide +kernel
theorem dX4_readAlignment_40 : decode cX4_readAlignment 40 = .ok (.ifCond .eq 9, 3) := by decide +kernel
theorem dX4_readAlignment_43 : decode cX4_readAlignment 43 = .ok (.iload_n 2, 1) := by decide +kernel
theorem dX4_readAlignment_44 : decode cX4_readAlignment 44 = .ok (.ifCond .ne 5, 3) := by decide +kernel
theorem dX4_readAlignment_47 : decode cX4_readAlignment 47 = .ok (.iconst 0, 1) := by decide +kernel
theorem dX4_readAlignment_48 : decode cX4_readAlignment 48 = .ok (.ireturn, 1) := by decide +kernel
theorem dX4_readAlignment_49 : decode cX4_readAlignment 49 = .ok (.aload_n 0, 1) := by decide +kernel
theorem dX4_readAlignment_50 : decode cX4_readAlignment 50 = .ok (.dup, 1) := by decide +kernel
theorem dX4_readAlignment_51 : decode cX4_readAlignment 51 = .ok (.getfield 33, 3) := by decide +kernel
theorem dX4_readAlignment_54 : decode cX4_readAlignment 54 = .ok (.iconst 1, 1) := by decide +kernel
theorem dX4_readAlignment_55 : decode cX4_readAlignment 55 = .ok (.iadd, 1) := by decide +kernel
theorem dX4_readAlignment_56 : decode cX4_readAlignment 56 = .ok (.putfield 33, 3) := by decide +kernel
theorem dX4_readAlignment_59 : decode cX4_readAlignment 59 = .ok (.aload_n 0, 1) := by decide +kernel
theorem dX4_readAlignment_60 : decode cX4_readAlignment 60 = .ok (.getfield 18, 3) := by decide +kernel
theorem dX4_readAlignment_63 : decode cX4_readAlignment 63 = .ok (.aload_n 0, 1) := by decide +kernel
theorem dX4_readAlignment_64 : decode cX4_readAlignment 64 = .ok (.getfield 30, 3) := by decide +kernel
theorem dX4_readAlignment_67 : decode cX4_readAlignment 67 = .ok (.iload_n 1, 1) := by decide +kernel
theorem dX4_readAlignment_68 : decode cX4_readAlignment 68 = .ok (.ifCond .eq 8, 3) := by decide +kernel
theorem dX4_readAlignment_71 : decode cX4_readAlignment 71 = .ok (.iload_n 2, 1) := by decide +kernel
theorem dX4_readAlignment_72 : decode cX4_readAlignment 72 = .ok (.ineg, 1) := by decide +kernel
theorem dX4_readAlignment_73 : decode cX4_readAlignment 73 = .ok (.goto 4, 3) := by decide +kernel
theorem dX4_readAlignment_76 : decode cX4_readAlignment 76 = .ok (.iload_n 2, 1) := by decide +kernel
theorem dX4_readAlignment_77 : decode cX4_readAlignment 77 = .ok (.iastore, 1) := by decide +kernel
theorem dX4_readAlignment_78 : decode cX4_readAlignment 78 = .ok (.iconst 1, 1) := by decide +kernel
theorem dX4_readAlignment_79 : decode cX4_readAlignment 79 = .ok (.ireturn, 1) := by decide +kernel
theorem dX5_init_0 : decode cX5_init 0 = .ok (.aload_n 0, 1) := by decide +kernel
theorem dX5_init_1 : decode cX5_init 1 = .ok (.invokespecial 3, 3) := by decide +kernel
theorem dX5_init_4 : decode cX5_init 4 = .ok (.aload_n 0, 1) := by decide +kernel
theorem dX5_init_5 : decode cX5_init 5 = .ok (.bipush 6, 2) := by decide +kernel
theorem dX5_init_7 : decode cX5_init 7 = .ok (.newarray .int, 2) := by decide +kernel
theorem dX5_init_9 : decode cX5_init 9 = .ok (.putfield 9, 3) := by decide +kernel
theorem dX5_init_12 : decode cX5_init 12 = .ok (.aload_n 0, 1) := by decide +kernel
theorem dX5_init_13 : decode cX5_init 13 = .ok (.bipush 6, 2) := by decide +kernel
theorem dX5_init_15 : decode cX5_init 15 = .ok (.newarray .int, 2) := by decide +kernel
theorem dX5_init_17 : decode cX5_init 17 = .ok (.putfield 15, 3) := by decide +kernel
theorem dX5_init_20 : decode cX5_init 20 = .ok (.aload_n 0, 1) := by decide +kernel
theorem dX5_init_21 : decode cX5_init 21 = .ok (.bipush 6, 2) := by decide +kernel
theorem dX5_init_23 : decode cX5_init 23 = .ok (.newarray .int, 2) := by decide +kernel
theorem dX5_init_25 : decode cX5_init 25 = .ok (.putfield 18, 3) := by decide +kernel
theorem dX5_init_28 : decode cX5_init 28 = .ok (.return_, 1) := by decide +kernel
theorem dX5_become_0 : decode cX5_become 0 = .ok (.aload_n 1, 1) := by decide +kernel
theorem dX5_become_1 : decode cX5_become 1 = .ok (.getfield 9, 3) := by decide +kernel
theorem dX5_become_4 : decode cX5_become 4 = .ok (.iconst 0, 1) := by decide +kernel
theorem dX5_become_5 : decode cX5_become 5 = .ok (.aload_n 0, 1) := by decide +kernel
theorem dX5_become_6 : decode cX5_become 6 = .ok (.getfield 9, 3) := by decide +kernel
theorem dX5_become_9 : decode cX5_become 9 = .ok (.iconst 0, 1) := by decide +kernel
theorem dX5_become_10 : decode cX5_become 10 = .ok (.bipush 6, 2) := by decide +kernel
theorem dX5_become_12 : decode cX5_become 12 = .ok (.invokestatic 21, 3) := by decide +kernel
theorem dX5_become_15 : decode cX5_become 15 = .ok (.aload_n 1, 1) := by decide +kernel
theorem dX5_become_16 : decode cX5_become 16 = .ok (.getfield 15, 3) := by decide +kernel
theorem dX5_become_19 : decode cX5_become 19 = .ok (.iconst 0, 1) := by decide +kernel
theorem dX5_become_20 : decode cX5_become 20 = .ok (.aload_n 0, 1) := by decide +kernel
theorem dX5_become_21 : decode cX5_become 21 = .ok (.getfield 15, 3) := by decide +kernel
theorem dX5_become_24 : decode cX5_become 24 = .ok (.iconst 0, 1) := by decide +kernel
theorem dX5_become_25 : decode cX5_become 25 = .ok (.bipush 6, 2) := by decide +kernel
theorem dX5_become_27 : decode cX5_become 27 = .ok (.invokestatic 21, 3) := by decide +kernel
theorem dX5_become_30 : decode cX5_become 30 = .ok (.aload_n 1, 1) := by decide +kernel
theorem dX5_become_31 : decode cX5_become 31 = .ok (.getfield 18, 3) := by decide +kernel
theorem dX5_become_34 : decode cX5_become 34 = .ok (.iconst 0, 1) := by decide +kernel
theorem dX5_become_35 : decode cX5_become 35 = .ok (.aload_n 0, 1) := by decide +kernel
theorem dX5_become_36 : decode cX5_become 36 = .ok (.getfield 18, 3) := by decide +kernel
theorem dX5_become_39 : decode cX5_become 39 = .ok (.iconst 0, 1) := by decide +kernel
theorem dX5_become_40 : decode cX5_become 40 = .ok (.bipush 6, 2) := by decide +kernel
theorem dX5_become_42 : decode cX5_become 42 = .ok (.invokestatic 21, 3) := by decide +kernel
theorem dX5_become_45 : decode cX5_become 45 = .ok (.aload_n 0, 1) := by decide +kernel
theorem dX5_become_46 : decode cX5_become 46 = .ok (.aload_n 1, 1) := by decide +kernel
theorem dX5_become_47 : decode cX5_become 47 = .ok (.getfield 27, 3) := by decide +kernel
theorem dX5_become_50 : decode cX5_become 50 = .ok (.putfield 27, 3) := by decide +kernel
theorem dX5_become_53 : decode cX5_become 53 = .ok (.return_, 1) := by decide +kernel
theorem dX5_note_0 : decode cX5_note 0 = .ok (.iconst 5, 1) := by decide +kernel
theorem dX5_note_1 : decode cX5_note 1 = .ok (.istore 4, 2) := by decide +kernel
theorem dX5_note_3 : decode cX5_note 3 = .ok (.iload 4, 2) := by decide +kernel
theorem dX5_note_5 : decode cX5_note 5 = .ok (.ifCond .le 57, 3) := by decide +kernel
theorem dX5_note_8 : decode cX5_note 8 = .ok (.aload_n 0, 1) := by decide +kernel
theorem dX5_note_9 : decode cX5_note 9 = .ok (.getfield 9, 3) := by decide +kernel
theorem dX5_note_12 : decode cX5_note 12 = .ok (.iload 4, 2) := by decide +kernel
theorem dX5_note_14 : decode cX5_note 14 = .ok (.aload_n 0, 1) := by decide +kernel
theorem dX5_note_15 : decode cX5_note 15 = .ok (.getfield 9, 3) := by decide +kernel
theorem dX5_note_18 : decode cX5_note 18 = .ok (.iload 4, 2) := by decide +kernel
theorem dX5_note_20 : decode cX5_note 20 = .ok (.iconst 1, 1) := by decide +kernel
theorem dX5_note_21 : decode cX5_note 21 = .ok (.isub, 1) := by decide +kernel
theorem dX5_note_22 : decode cX5_note 22 = .ok (.iaload, 1) := by decide +kernel
theorem dX5_note_23 : decode cX5_note 23 = .ok (.iastore, 1) := by decide +kernel
theorem dX5_note_24 : decode cX5_note 24 = .ok (.aload_n 0, 1) := by decide +kernel
theorem dX5_note_25 : decode cX5_note 25 = .ok (.getfield 15, 3) := by decide +kernel
theorem dX5_note_28 : decode cX5_note 28 = .ok (.iload 4, 2) := by decide +kernel
theorem dX5_note_30 : decode cX5_note 30 = .ok (.aload_n 0, 1) := by decide +kernel
theorem dX5_note_31 : decode cX5_note 31 = .ok (.getfield 15, 3) := by decide +kernel
theorem dX5_note_34 : decode cX5_note 34 = .ok (.iload 4, 2) := by decide +kernel
theorem dX5_note_36 : decode cX5_note 36 = .ok (.iconst 1, 1) := by decide +kernel
theorem dX5_note_37 : decode cX5_note 37 = .ok (.isub, 1) := by decide +kernel
theorem dX5_note_38 : decode cX5_note 38 = .ok (.iaload, 1) := by decide +kernel
theorem dX5_note_39 : decode cX5_note 39 = .ok (.iastore, 1) := by decide +kernel
theorem dX5_note_40 : decode cX5_note 40 = .ok (.aload_n 0, 1) := by decide +kernel
theorem dX5_note_41 : decode cX5_note 41 = .ok (.getfield 18, 3) := by decide +kernel
theorem dX5_note_44 : decode cX5_note 44 = .ok (.iload 4, 2) := by decide +kernel
theorem dX5_note_46 : decode cX5_note 46 = .ok (.aload_n 0, 1) := by decide +kernel
theorem dX5_note_47 : decode cX5_note 47 = .ok (.getfield 18, 3) := by decide +kernel
theorem dX5_note_50 : decode cX5_note 50 = .ok (.iload 4, 2) := by decide +kernel
theorem dX5_note_52 : decode cX5_note 52 = .ok (.iconst 1, 1) := by decide +kernel
theorem dX5_note_53 : decode cX5_note 53 = .ok (.isub, 1) := by decide +kernel
theorem dX5_note_54 : decode cX5_note 54 = .ok (.iaload, 1) := by decide +kernel
theorem dX5_note_55 : decode cX5_note 55 = .ok (.iastore, 1) := by decide +kernel
theorem dX5_note_56 : decode cX5_note 56 = .ok (.iinc 4 (-1), 3) := by decide +kernel
theorem dX5_note_59 : decode cX5_note 59 = .ok (.goto (-56), 3) := by decide +kernel
theorem dX5_note_62 : decode cX5_note 62 = .ok (.aload_n 0, 1) := by decide +kernel
theorem dX5_note_63 : decode cX5_note 63 = .ok (.getfield 9, 3) := by decide +kernel
theorem dX5_note_66 : decode cX5_note 66 = .ok (.iconst 0, 1) := by decide +kernel
theorem dX5_note_67 : decode cX5_note 67 = .ok (.iload_n 1, 1) := by decide +kernel
theorem dX5_note_68 : decode cX5_note 68 = .ok (.iastore, 1) := by decide +kernel
theorem dX5_note_69 : decode cX5_note 69 = .ok (.aload_n 0, 1) := by decide +kernel
theorem dX5_note_70 : decode cX5_note 70 = .ok (.getfield 15, 3) := by decide +kernel
theorem dX5_note_73 : decode cX5_note 73 = .ok (.iconst 0, 1) := by decide +kernel
theorem dX5_note_74 : decode cX5_note 74 = .ok (.iload_n 2, 1) := by decide +kernel
theorem dX5_note_75 : decode cX5_note 75 = .ok (.iastore, 1) := by decide +kernel
theorem dX5_note_76 : decode cX5_note 76 = .ok (.aload_n 0, 1) := by decide +kernel
theorem dX5_note_77 : decode cX5_note 77 = .ok (.getfield 18, 3) := by decide +kernel
theorem dX5_note_80 : decode cX5_note 80 = .ok (.iconst 0, 1) := by decide +kernel
theorem dX5_note_81 : decode cX5_note 81 = .ok (.iload_n 3, 1) := by decide +kernel
theorem dX5_note_82 : decode cX5_note 82 = .ok (.iastore, 1) := by decide +kernel
theorem dX5_note_83 : decode cX5_note 83 = .ok (.aload_n 0, 1) := by decide +kernel
theorem dX5_note_84 : decode cX5_note 84 = .ok (.bipush 6, 2) := by decide +kernel
theorem dX5_note_86 : decode cX5_note 86 = .ok (.aload_n 0, 1) := by decide +kernel
theorem dX5_note_87 : decode cX5_note 87 = .ok (.getfield 27, 3) := by decide +kernel
theorem dX5_note_90 : decode cX5_note 90 = .ok (.iconst 1, 1) := by decide +kernel
theorem dX5_note_91 : decode cX5_note 91 = .ok (.iadd, 1) := by decide +kernel
theorem dX5_note_92 : decode cX5_note 92 = .ok (.invokestatic 31, 3) := by decide +kernel
theorem dX5_note_95 : decode cX5_note 95 = .ok (.putfield 27, 3) := by decide +kernel
theorem dX5_note_98 : decode cX5_note 98 = .ok (.return_, 1) := by decide +kernel
theorem dX5_tickOf_0 : decode cX5_tickOf 0 = .ok (.aload_n 0, 1) := by decide +kernel
theorem dX5_tickOf_1 : decode cX5_tickOf 1 = .ok (.aload_n 0, 1) := by decide +kernel
theorem dX5_tickOf_2 : decode cX5_tickOf 2 = .ok (.getfield 9, 3) := by decide +kernel
theorem dX5_tickOf_5 : decode cX5_tickOf 5 = .ok (.iload_n 1, 1) := by decide +kernel
theorem dX5_tickOf_6 : decode cX5_tickOf 6 = .ok (.invokevirtual 37, 3) := by decide +kernel
theorem dX5_tickOf_9 : decode cX5_tickOf 9 = .ok (.ireturn, 1) := by decide +kernel
theorem dX5_sensorOf_0 : decode cX5_sensorOf 0 = .ok (.aload_n 0, 1) := by decide +kernel
theorem dX5_sensorOf_1 : decode cX5_sensorOf 1 = .ok (.aload_n 0, 1) := by decide +kernel
theorem dX5_sensorOf_2 : decode cX5_sensorOf 2 = .ok (.getfield 15, 3) := by decide +kernel
theorem dX5_sensorOf_5 : decode cX5_sensorOf 5 = .ok (.iload_n 1, 1) := by decide +kernel
theorem dX5_sensorOf_6 : decode cX5_sensorOf 6 = .ok (.invokevirtual 37, 3) := by decide +kernel
theorem dX5_sensorOf_9 : decode cX5_sensorOf 9 = .ok (.ireturn, 1) := by decide +kernel
theorem dX5_loadOf_0 : decode cX5_loadOf 0 = .ok (.aload_n 0, 1) := by decide +kernel
theorem dX5_loadOf_1 : decode cX5_loadOf 1 = .ok (.aload_n 0, 1) := by decide +kernel
theorem dX5_loadOf_2 : decode cX5_loadOf 2 = .ok (.getfield 18, 3) := by decide +kernel
theorem dX5_loadOf_5 : decode cX5_loadOf 5 = .ok (.iload_n 1, 1) := by decide +kernel
theorem dX5_loadOf_6 : decode cX5_loadOf 6 = .ok (.invokevirtual 37, 3) := by decide +kernel
theorem dX5_loadOf_9 : decode cX5_loadOf 9 = .ok (.ireturn, 1) := by decide +kernel
theorem dX5_told_0 : decode cX5_told 0 = .ok (.iload_n 2, 1) := by decide +kernel
theorem dX5_told_1 : decode cX5_told 1 = .ok (.iconst 0, 1) := by decide +kernel
theorem dX5_told_2 : decode cX5_told 2 = .ok (.aload_n 0, 1) := by decide +kernel
theorem dX5_told_3 : decode cX5_told 3 = .ok (.getfield 27, 3) := by decide +kernel
theorem dX5_told_6 : decode cX5_told 6 = .ok (.iconst 1, 1) := by decide +kernel
theorem dX5_told_7 : decode cX5_told 7 = .ok (.isub, 1) := by decide +kernel
theorem dX5_told_8 : decode cX5_told 8 = .ok (.invokestatic 41, 3) := by decide +kernel
theorem dX5_told_11 : decode cX5_told 11 = .ok (.ifCond .eq 9, 3) := by decide +kernel
theorem dX5_told_14 : decode cX5_told 14 = .ok (.aload_n 1, 1) := by decide +kernel
theorem dX5_told_15 : decode cX5_told 15 = .ok (.iload_n 2, 1) := by decide +kernel
theorem dX5_told_16 : decode cX5_told 16 = .ok (.iaload, 1) := by decide +kernel
theorem dX5_told_17 : decode cX5_told 17 = .ok (.goto 5, 3) := by decide +kernel
theorem dX5_told_20 : decode cX5_told 20 = .ok (.bipush (-105), 2) := by decide +kernel
theorem dX5_told_22 : decode cX5_told 22 = .ok (.ireturn, 1) := by decide +kernel
theorem dX6_init_0 : decode cX6_init 0 = .ok (.aload_n 0, 1) := by decide +kernel
theorem dX6_init_1 : decode cX6_init 1 = .ok (.invokespecial 1, 3) := by decide +kernel
theorem dX6_init_4 : decode cX6_init 4 = .ok (.aload_n 0, 1) := by decide +kernel
theorem dX6_init_5 : decode cX6_init 5 = .ok (.new 7, 3) := by decide +kernel
theorem dX6_init_8 : decode cX6_init 8 = .ok (.dup, 1) := by decide +kernel
theorem dX6_init_9 : decode cX6_init 9 = .ok (.invokespecial 9, 3) := by decide +kernel
theorem dX6_init_12 : decode cX6_init 12 = .ok (.putfield 10, 3) := by decide +kernel
theorem dX6_init_15 : decode cX6_init 15 = .ok (.aload_n 0, 1) := by decide +kernel
theorem dX6_init_16 : decode cX6_init 16 = .ok (.new 7, 3) := by decide +kernel
theorem dX6_init_19 : decode cX6_init 19 = .ok (.dup, 1) := by decide +kernel
theorem dX6_init_20 : decode cX6_init 20 = .ok (.invokespecial 9, 3) := by decide +kernel
theorem dX6_init_23 : decode cX6_init 23 = .ok (.putfield 16, 3) := by decide +kernel
theorem dX6_init_26 : decode cX6_init 26 = .ok (.aload_n 0, 1) := by decide +kernel
theorem dX6_init_27 : decode cX6_init 27 = .ok (.new 7, 3) := by decide +kernel
theorem dX6_init_30 : decode cX6_init 30 = .ok (.dup, 1) := by decide +kernel
theorem dX6_init_31 : decode cX6_init 31 = .ok (.invokespecial 9, 3) := by decide +kernel
theorem dX6_init_34 : decode cX6_init 34 = .ok (.putfield 19, 3) := by decide +kernel
theorem dX6_init_37 : decode cX6_init 37 = .ok (.aload_n 0, 1) := by decide +kernel
theorem dX6_init_38 : decode cX6_init 38 = .ok (.new 22, 3) := by decide +kernel
theorem dX6_init_41 : decode cX6_init 41 = .ok (.dup, 1) := by decide +kernel
theorem dX6_init_42 : decode cX6_init 42 = .ok (.invokespecial 24, 3) := by decide +kernel
theorem dX6_init_45 : decode cX6_init 45 = .ok (.putfield 25, 3) := by decide +kernel
theorem dX6_init_48 : decode cX6_init 48 = .ok (.aload_n 0, 1) := by decide +kernel
theorem dX6_init_49 : decode cX6_init 49 = .ok (.new 7, 3) := by decide +kernel
theorem dX6_init_52 : decode cX6_init 52 = .ok (.dup, 1) := by decide +kernel
theorem dX6_init_53 : decode cX6_init 53 = .ok (.invokespecial 9, 3) := by decide +kernel
theorem dX6_init_56 : decode cX6_init 56 = .ok (.putfield 29, 3) := by decide +kernel
theorem dX6_init_59 : decode cX6_init 59 = .ok (.aload_n 0, 1) := by decide +kernel
theorem dX6_init_60 : decode cX6_init 60 = .ok (.new 32, 3) := by decide +kernel
theorem dX6_init_63 : decode cX6_init 63 = .ok (.dup, 1) := by decide +kernel
theorem dX6_init_64 : decode cX6_init 64 = .ok (.invokespecial 34, 3) := by decide +kernel
theorem dX6_init_67 : decode cX6_init 67 = .ok (.putfield 35, 3) := by decide +kernel
theorem dX6_init_70 : decode cX6_init 70 = .ok (.aload_n 0, 1) := by decide +kernel
theorem dX6_init_71 : decode cX6_init 71 = .ok (.bipush (-105), 2) := by decide +kernel
theorem dX6_init_73 : decode cX6_init 73 = .ok (.putfield 39, 3) := by decide +kernel
theorem dX6_init_76 : decode cX6_init 76 = .ok (.aload_n 0, 1) := by decide +kernel
theorem dX6_init_77 : decode cX6_init 77 = .ok (.bipush (-105), 2) := by decide +kernel
theorem dX6_init_79 : decode cX6_init 79 = .ok (.putfield 43, 3) := by decide +kernel
theorem dX6_init_82 : decode cX6_init 82 = .ok (.return_, 1) := by decide +kernel
theorem dX6_set_0 : decode cX6_set 0 = .ok (.aload_n 0, 1) := by decide +kernel
theorem dX6_set_1 : decode cX6_set 1 = .ok (.getfield 16, 3) := by decide +kernel
theorem dX6_set_4 : decode cX6_set 4 = .ok (.aload_n 0, 1) := by decide +kernel
theorem dX6_set_5 : decode cX6_set 5 = .ok (.getfield 10, 3) := by decide +kernel
theorem dX6_set_8 : decode cX6_set 8 = .ok (.invokevirtual 46, 3) := by decide +kernel
theorem dX6_set_11 : decode cX6_set 11 = .ok (.aload_n 0, 1) := by decide +kernel
theorem dX6_set_12 : decode cX6_set 12 = .ok (.aload_n 0, 1) := by decide +kernel
theorem dX6_set_13 : decode cX6_set 13 = .ok (.getfield 10, 3) := by decide +kernel
theorem dX6_set_16 : decode cX6_set 16 = .ok (.iload_n 1, 1) := by decide +kernel
theorem dX6_set_17 : decode cX6_set 17 = .ok (.iload_n 2, 1) := by decide +kernel
theorem dX6_set_18 : decode cX6_set 18 = .ok (.invokevirtual 50, 3) := by decide +kernel
theorem dX6_set_21 : decode cX6_set 21 = .ok (.invokevirtual 54, 3) := by decide +kernel
theorem dX6_set_24 : decode cX6_set 24 = .ok (.ireturn, 1) := by decide +kernel
theorem dX6_gate_0 : decode cX6_gate 0 = .ok (.aload_n 0, 1) := by decide +kernel
theorem dX6_gate_1 : decode cX6_gate 1 = .ok (.getfield 16, 3) := by decide +kernel
theorem dX6_gate_4 : decode cX6_gate 4 = .ok (.aload_n 0, 1) := by decide +kernel
theorem dX6_gate_5 : decode cX6_gate 5 = .ok (.getfield 10, 3) := by decide +kernel
theorem dX6_gate_8 : decode cX6_gate 8 = .ok (.invokevirtual 46, 3) := by decide +kernel
theorem dX6_gate_11 : decode cX6_gate 11 = .ok (.aload_n 0, 1) := by decide +kernel
theorem dX6_gate_12 : decode cX6_gate 12 = .ok (.aload_n 0, 1) := by decide +kernel
theorem dX6_gate_13 : decode cX6_gate 13 = .ok (.getfield 10, 3) := by decide +kernel
theorem dX6_gate_16 : decode cX6_gate 16 = .ok (.iload_n 1, 1) := by decide +kernel
theorem dX6_gate_17 : decode cX6_gate 17 = .ok (.invokevirtual 58, 3) := by decide +kernel
theorem dX6_gate_20 : decode cX6_gate 20 = .ok (.invokevirtual 54, 3) := by decide +kernel
theorem dX6_gate_23 : decode cX6_gate 23 = .ok (.ireturn, 1) := by decide +kernel
theorem dX6_start_0 : decode cX6_start 0 = .ok (.aload_n 0, 1) := by decide +kernel
theorem dX6_start_1 : decode cX6_start 1 = .ok (.getfield 16, 3) := by decide +kernel
theorem dX6_start_4 : decode cX6_start 4 = .ok (.aload_n 0, 1) := by decide +kernel
theorem dX6_start_5 : decode cX6_start 5 = .ok (.getfield 10, 3) := by decide +kernel
theorem dX6_start_8 : decode cX6_start 8 = .ok (.invokevirtual 46, 3) := by decide +kernel
theorem dX6_start_11 : decode cX6_start 11 = .ok (.aload_n 0, 1) := by decide +kernel
theorem dX6_start_12 : decode cX6_start 12 = .ok (.aload_n 0, 1) := by decide +kernel
theorem dX6_start_13 : decode cX6_start 13 = .ok (.getfield 10, 3) := by decide +kernel
theorem dX6_start_16 : decode cX6_start 16 = .ok (.invokevirtual 62, 3) := by decide +kernel
theorem dX6_start_19 : decode cX6_start 19 = .ok (.invokevirtual 54, 3) := by decide +kernel
theorem dX6_start_22 : decode cX6_start 22 = .ok (.ireturn, 1) := by decide +kernel
theorem dX6_stop_0 : decode cX6_stop 0 = .ok (.aload_n 0, 1) := by decide +kernel
theorem dX6_stop_1 : decode cX6_stop 1 = .ok (.getfield 16, 3) := by decide +kernel
theorem dX6_stop_4 : decode cX6_stop 4 = .ok (.aload_n 0, 1) := by decide +kernel
theorem dX6_stop_5 : decode cX6_stop 5 = .ok (.getfield 10, 3) := by decide +kernel
theorem dX6_stop_8 : decode cX6_stop 8 = .ok (.invokevirtual 46, 3) := by decide +kernel
theorem dX6_stop_11 : decode cX6_stop 11 = .ok (.aload_n 0, 1) := by decide +kernel
theorem dX6_stop_12 : decode cX6_stop 12 = .ok (.aload_n 0, 1) := by decide +kernel
theorem dX6_stop_13 : decode cX6_stop 13 = .ok (.getfield 10, 3) := by decide +kernel
theorem dX6_stop_16 : decode cX6_stop 16 = .ok (.invokevirtual 66, 3) := by decide +kernel
theorem dX6_stop_19 : decode cX6_stop 19 = .ok (.invokevirtual 54, 3) := by decide +kernel
theorem dX6_stop_22 : decode cX6_stop 22 = .ok (.ireturn, 1) := by decide +kernel
theorem dX6_reset_0 : decode cX6_reset 0 = .ok (.aload_n 0, 1) := by decide +kernel
theorem dX6_reset_1 : decode cX6_reset 1 = .ok (.getfield 16, 3) := by decide +kernel
theorem dX6_reset_4 : decode cX6_reset 4 = .ok (.aload_n 0, 1) := by decide +kernel
theorem dX6_reset_5 : decode cX6_reset 5 = .ok (.getfield 10, 3) := by decide +kernel
theorem dX6_reset_8 : decode cX6_reset 8 = .ok (.invokevirtual 46, 3) := by decide +kernel
theorem dX6_reset_11 : decode cX6_reset 11 = .ok (.aload_n 0, 1) := by decide +kernel
theorem dX6_reset_12 : decode cX6_reset 12 = .ok (.aload_n 0, 1) := by decide +kernel
theorem dX6_reset_13 : decode cX6_reset 13 = .ok (.getfield 10, 3) := by decide +kernel
theorem dX6_reset_16 : decode cX6_reset 16 = .ok (.invokevirtual 69, 3) := by decide +kernel
theorem dX6_reset_19 : decode cX6_reset 19 = .ok (.invokevirtual 54, 3) := by decide +kernel
theorem dX6_reset_22 : decode cX6_reset 22 = .ok (.ireturn, 1) := by decide +kernel
theorem dX6_clean_0 : decode cX6_clean 0 = .ok (.aload_n 0, 1) := by decide +kernel
theorem dX6_clean_1 : decode cX6_clean 1 = .ok (.getfield 16, 3) := by decide +kernel
theorem dX6_clean_4 : decode cX6_clean 4 = .ok (.aload_n 0, 1) := by decide +kernel
theorem dX6_clean_5 : decode cX6_clean 5 = .ok (.getfield 10, 3) := by decide +kernel
theorem dX6_clean_8 : decode cX6_clean 8 = .ok (.invokevirtual 46, 3) := by decide +kernel
theorem dX6_clean_11 : decode cX6_clean 11 = .ok (.aload_n 0, 1) := by decide +kernel
theorem dX6_clean_12 : decode cX6_clean 12 = .ok (.aload_n 0, 1) := by decide +kernel
theorem dX6_clean_13 : decode cX6_clean 13 = .ok (.getfield 10, 3) := by decide +kernel
theorem dX6_clean_16 : decode cX6_clean 16 = .ok (.iload_n 1, 1) := by decide +kernel
theorem dX6_clean_17 : decode cX6_clean 17 = .ok (.invokevirtual 72, 3) := by decide +kernel
theorem dX6_clean_20 : decode cX6_clean 20 = .ok (.invokevirtual 54, 3) := by decide +kernel
theorem dX6_clean_23 : decode cX6_clean 23 = .ok (.ireturn, 1) := by decide +kernel
theorem dX6_run_0 : decode cX6_run 0 = .ok (.aload_n 0, 1) := by decide +kernel
theorem dX6_run_1 : decode cX6_run 1 = .ok (.getfield 16, 3) := by decide +kernel
theorem dX6_run_4 : decode cX6_run 4 = .ok (.aload_n 0, 1) := by decide +kernel
theorem dX6_run_5 : decode cX6_run 5 = .ok (.getfield 10, 3) := by decide +kernel
theorem dX6_run_8 : decode cX6_run 8 = .ok (.invokevirtual 46, 3) := by decide +kernel
theorem dX6_run_11 : decode cX6_run 11 = .ok (.aload_n 0, 1) := by decide +kernel
theorem dX6_run_12 : decode cX6_run 12 = .ok (.aload_n 0, 1) := by decide +kernel
theorem dX6_run_13 : decode cX6_run 13 = .ok (.getfield 10, 3) := by decide +kernel
theorem dX6_run_16 : decode cX6_run 16 = .ok (.iload_n 1, 1) := by decide +kernel
theorem dX6_run_17 : decode cX6_run 17 = .ok (.invokevirtual 75, 3) := by decide +kernel
theorem dX6_run_20 : decode cX6_run 20 = .ok (.invokevirtual 54, 3) := by decide +kernel
theorem dX6_run_23 : decode cX6_run 23 = .ok (.ireturn, 1) := by decide +kernel
theorem dX6_type_0 : decode cX6_type 0 = .ok (.aload_n 0, 1) := by decide +kernel
theorem dX6_type_1 : decode cX6_type 1 = .ok (.getfield 35, 3) := by decide +kernel
theorem dX6_type_4 : decode cX6_type 4 = .ok (.iload_n 1, 1) := by decide +kernel
theorem dX6_type_5 : decode cX6_type 5 = .ok (.invokevirtual 78, 3) := by decide +kernel
theorem dX6_type_8 : decode cX6_type 8 = .ok (.ireturn, 1) := by decide +kernel
theorem dX6_clearText_0 : decode cX6_clearText 0 = .ok (.aload_n 0, 1) := by decide +kernel
theorem dX6_clearText_1 : decode cX6_clearText 1 = .ok (.getfield 35, 3) := by decide +kernel
theorem dX6_clearText_4 : decode cX6_clearText 4 = .ok (.invokevirtual 82, 3) := by decide +kernel
theorem dX6_clearText_7 : decode cX6_clearText 7 = .ok (.ireturn, 1) := by decide +kernel
theorem dX6_perform_0 : decode cX6_perform 0 = .ok (.aload_n 0, 1) := by decide +kernel
theorem dX6_perform_1 : decode cX6_perform 1 = .ok (.getfield 35, 3) := by decide +kernel
theorem dX6_perform_4 : decode cX6_perform 4 = .ok (.invokevirtual 85, 3) := by decide +kernel
theorem dX6_perform_7 : decode cX6_perform 7 = .ok (.istore_n 1, 1) := by decide +kernel
theorem dX6_perform_8 : decode cX6_perform 8 = .ok (.iload_n 1, 1) := by decide +kernel
theorem dX6_perform_9 : decode cX6_perform 9 = .ok (.iconst (-1), 1) := by decide +kernel
theorem dX6_perform_10 : decode cX6_perform 10 = .ok (.if_icmp .eq 9, 3) := by decide +kernel
theorem dX6_perform_13 : decode cX6_perform 13 = .ok (.sipush (-200), 3) := by decide +kernel
theorem dX6_perform_16 : decode cX6_perform 16 = .ok (.iload_n 1, 1) := by decide +kernel
theorem dX6_perform_17 : decode cX6_perform 17 = .ok (.isub, 1) := by decide +kernel
theorem dX6_perform_18 : decode cX6_perform 18 = .ok (.ireturn, 1) := by decide +kernel
theorem dX6_perform_19 : decode cX6_perform 19 = .ok (.aload_n 0, 1) := by decide +kernel
theorem dX6_perform_20 : decode cX6_perform 20 = .ok (.getfield 16, 3) := by decide +kernel
theorem dX6_perform_23 : decode cX6_perform 23 = .ok (.aload_n 0, 1) := by decide +kernel
theorem dX6_perform_24 : decode cX6_perform 24 = .ok (.getfield 10, 3) := by decide +kernel
theorem dX6_perform_27 : decode cX6_perform 27 = .ok (.invokevirtual 46, 3) := by decide +kernel
theorem dX6_perform_30 : decode cX6_perform 30 = .ok (.iconst 0, 1) := by decide +kernel
theorem dX6_perform_31 : decode cX6_perform 31 = .ok (.istore_n 2, 1) := by decide +kernel
theorem dX6_perform_32 : decode cX6_perform 32 = .ok (.iload_n 2, 1) := by decide +kernel
theorem dX6_perform_33 : decode cX6_perform 33 = .ok (.aload_n 0, 1) := by decide +kernel
theorem dX6_perform_34 : decode cX6_perform 34 = .ok (.getfield 35, 3) := by decide +kernel
theorem dX6_perform_37 : decode cX6_perform 37 = .ok (.getfield 88, 3) := by decide +kernel
theorem dX6_perform_40 : decode cX6_perform 40 = .ok (.if_icmp .ge 61, 3) := by decide +kernel
theorem dX6_perform_43 : decode cX6_perform 43 = .ok (.aload_n 0, 1) := by decide +kernel
theorem dX6_perform_44 : decode cX6_perform 44 = .ok (.aload_n 0, 1) := by decide +kernel
theorem dX6_perform_45 : decode cX6_perform 45 = .ok (.getfield 35, 3) := by decide +kernel
theorem dX6_perform_48 : decode cX6_perform 48 = .ok (.iload_n 2, 1) := by decide +kernel
theorem dX6_perform_49 : decode cX6_perform 49 = .ok (.invokevirtual 91, 3) := by decide +kernel
theorem dX6_perform_52 : decode cX6_perform 52 = .ok (.aload_n 0, 1) := by decide +kernel
theorem dX6_perform_53 : decode cX6_perform 53 = .ok (.getfield 35, 3) := by decide +kernel
theorem dX6_perform_56 : decode cX6_perform 56 = .ok (.iload_n 2, 1) := by decide +kernel
theorem dX6_perform_57 : decode cX6_perform 57 = .ok (.invokevirtual 95, 3) := by decide +kernel
theorem dX6_perform_60 : decode cX6_perform 60 = .ok (.invokevirtual 98, 3) := by decide +kernel
theorem dX6_perform_63 : decode cX6_perform 63 = .ok (.istore_n 3, 1) := by decide +kernel
theorem dX6_perform_64 : decode cX6_perform 64 = .ok (.iload_n 3, 1) := by decide +kernel
theorem dX6_perform_65 : decode cX6_perform 65 = .ok (.invokestatic 102, 3) := by decide +kernel
theorem dX6_perform_68 : decode cX6_perform 68 = .ok (.ifCond .eq 27, 3) := by decide +kernel
theorem dX6_perform_71 : decode cX6_perform 71 = .ok (.aload_n 0, 1) := by decide +kernel
theorem dX6_perform_72 : decode cX6_perform 72 = .ok (.getfield 10, 3) := by decide +kernel
theorem dX6_perform_75 : decode cX6_perform 75 = .ok (.aload_n 0, 1) := by decide +kernel
theorem dX6_perform_76 : decode cX6_perform 76 = .ok (.getfield 16, 3) := by decide +kernel
theorem dX6_perform_79 : decode cX6_perform 79 = .ok (.invokevirtual 46, 3) := by decide +kernel
theorem dX6_perform_82 : decode cX6_perform 82 = .ok (.aload_n 0, 1) := by decide +kernel
theorem dX6_perform_83 : decode cX6_perform 83 = .ok (.iload_n 2, 1) := by decide +kernel
theorem dX6_perform_84 : decode cX6_perform 84 = .ok (.putfield 39, 3) := by decide +kernel
theorem dX6_perform_87 : decode cX6_perform 87 = .ok (.aload_n 0, 1) := by decide +kernel
theorem dX6_perform_88 : decode cX6_perform 88 = .ok (.iload_n 3, 1) := by decide +kernel
theorem dX6_perform_89 : decode cX6_perform 89 = .ok (.putfield 43, 3) := by decide +kernel
theorem dX6_perform_92 : decode cX6_perform 92 = .ok (.bipush (-104), 2) := by decide +kernel
theorem dX6_perform_94 : decode cX6_perform 94 = .ok (.ireturn, 1) := by decide +kernel
theorem dX6_perform_95 : decode cX6_perform 95 = .ok (.iinc 2 1, 3) := by decide +kernel
theorem dX6_perform_98 : decode cX6_perform 98 = .ok (.goto (-66), 3) := by decide +kernel
theorem dX6_perform_101 : decode cX6_perform 101 = .ok (.aload_n 0, 1) := by decide +kernel
theorem dX6_perform_102 : decode cX6_perform 102 = .ok (.aload_n 0, 1) := by decide +kernel
theorem dX6_perform_103 : decode cX6_perform 103 = .ok (.getfield 35, 3) := by decide +kernel
theorem dX6_perform_106 : decode cX6_perform 106 = .ok (.getfield 88, 3) := by decide +kernel
theorem dX6_perform_109 : decode cX6_perform 109 = .ok (.invokevirtual 54, 3) := by decide +kernel
theorem dX6_perform_112 : decode cX6_perform 112 = .ok (.ireturn, 1) := by decide +kernel
theorem dX6_stopped_0 : decode cX6_stopped 0 = .ok (.iload_n 1, 1) := by decide +kernel
theorem dX6_stopped_1 : decode cX6_stopped 1 = .ok (.ifCond .ne 8, 3) := by decide +kernel
theorem dX6_stopped_4 : decode cX6_stopped 4 = .ok (.aload_n 0, 1) := by decide +kernel
theorem dX6_stopped_5 : decode cX6_stopped 5 = .ok (.getfield 39, 3) := by decide +kernel
theorem dX6_stopped_8 : decode cX6_stopped 8 = .ok (.ireturn, 1) := by decide +kernel
theorem dX6_stopped_9 : decode cX6_stopped 9 = .ok (.iload_n 1, 1) := by decide +kernel
theorem dX6_stopped_10 : decode cX6_stopped 10 = .ok (.iconst 1, 1) := by decide +kernel
theorem dX6_stopped_11 : decode cX6_stopped 11 = .ok (.if_icmp .ne 10, 3) := by decide +kernel
theorem dX6_stopped_14 : decode cX6_stopped 14 = .ok (.aload_n 0, 1) := by decide +kernel
theorem dX6_stopped_15 : decode cX6_stopped 15 = .ok (.getfield 43, 3) := by decide +kernel
theorem dX6_stopped_18 : decode cX6_stopped 18 = .ok (.goto 5, 3) := by decide +kernel
theorem dX6_stopped_21 : decode cX6_stopped 21 = .ok (.bipush (-102), 2) := by decide +kernel
theorem dX6_stopped_23 : decode cX6_stopped 23 = .ok (.ireturn, 1) := by decide +kernel
theorem dX6_undo_0 : decode cX6_undo 0 = .ok (.aload_n 0, 1) := by decide +kernel
theorem dX6_undo_1 : decode cX6_undo 1 = .ok (.getfield 25, 3) := by decide +kernel
theorem dX6_undo_4 : decode cX6_undo 4 = .ok (.aload_n 0, 1) := by decide +kernel
theorem dX6_undo_5 : decode cX6_undo 5 = .ok (.getfield 10, 3) := by decide +kernel
theorem dX6_undo_8 : decode cX6_undo 8 = .ok (.invokevirtual 106, 3) := by decide +kernel
theorem dX6_undo_11 : decode cX6_undo 11 = .ok (.ifCond .eq 13, 3) := by decide +kernel
theorem dX6_undo_14 : decode cX6_undo 14 = .ok (.aload_n 0, 1) := by decide +kernel
theorem dX6_undo_15 : decode cX6_undo 15 = .ok (.getfield 25, 3) := by decide +kernel
theorem dX6_undo_18 : decode cX6_undo 18 = .ok (.getfield 110, 3) := by decide +kernel
theorem dX6_undo_21 : decode cX6_undo 21 = .ok (.goto 5, 3) := by decide +kernel
theorem dX6_undo_24 : decode cX6_undo 24 = .ok (.bipush (-105), 2) := by decide +kernel
theorem dX6_undo_26 : decode cX6_undo 26 = .ok (.ireturn, 1) := by decide +kernel
theorem dX6_keep_0 : decode cX6_keep 0 = .ok (.aload_n 0, 1) := by decide +kernel
theorem dX6_keep_1 : decode cX6_keep 1 = .ok (.getfield 29, 3) := by decide +kernel
theorem dX6_keep_4 : decode cX6_keep 4 = .ok (.aload_n 0, 1) := by decide +kernel
theorem dX6_keep_5 : decode cX6_keep 5 = .ok (.getfield 10, 3) := by decide +kernel
theorem dX6_keep_8 : decode cX6_keep 8 = .ok (.invokevirtual 46, 3) := by decide +kernel
theorem dX6_keep_11 : decode cX6_keep 11 = .ok (.aload_n 0, 1) := by decide +kernel
theorem dX6_keep_12 : decode cX6_keep 12 = .ok (.iconst 1, 1) := by decide +kernel
theorem dX6_keep_13 : decode cX6_keep 13 = .ok (.putfield 113, 3) := by decide +kernel
theorem dX6_keep_16 : decode cX6_keep 16 = .ok (.aload_n 0, 1) := by decide +kernel
theorem dX6_keep_17 : decode cX6_keep 17 = .ok (.getfield 10, 3) := by decide +kernel
theorem dX6_keep_20 : decode cX6_keep 20 = .ok (.getfield 117, 3) := by decide +kernel
theorem dX6_keep_23 : decode cX6_keep 23 = .ok (.ireturn, 1) := by decide +kernel
theorem dX6_restore_0 : decode cX6_restore 0 = .ok (.aload_n 0, 1) := by decide +kernel
theorem dX6_restore_1 : decode cX6_restore 1 = .ok (.getfield 113, 3) := by decide +kernel
theorem dX6_restore_4 : decode cX6_restore 4 = .ok (.ifCond .ne 6, 3) := by decide +kernel
theorem dX6_restore_7 : decode cX6_restore 7 = .ok (.bipush (-105), 2) := by decide +kernel
theorem dX6_restore_9 : decode cX6_restore 9 = .ok (.ireturn, 1) := by decide +kernel
theorem dX6_restore_10 : decode cX6_restore 10 = .ok (.aload_n 0, 1) := by decide +kernel
theorem dX6_restore_11 : decode cX6_restore 11 = .ok (.getfield 16, 3) := by decide +kernel
theorem dX6_restore_14 : decode cX6_restore 14 = .ok (.aload_n 0, 1) := by decide +kernel
theorem dX6_restore_15 : decode cX6_restore 15 = .ok (.getfield 10, 3) := by decide +kernel
theorem dX6_restore_18 : decode cX6_restore 18 = .ok (.invokevirtual 46, 3) := by decide +kernel
theorem dX6_restore_21 : decode cX6_restore 21 = .ok (.aload_n 0, 1) := by decide +kernel
theorem dX6_restore_22 : decode cX6_restore 22 = .ok (.getfield 10, 3) := by decide +kernel
theorem dX6_restore_25 : decode cX6_restore 25 = .ok (.aload_n 0, 1) := by decide +kernel
theorem dX6_restore_26 : decode cX6_restore 26 = .ok (.getfield 29, 3) := by decide +kernel
theorem dX6_restore_29 : decode cX6_restore 29 = .ok (.invokevirtual 46, 3) := by decide +kernel
theorem dX6_restore_32 : decode cX6_restore 32 = .ok (.aload_n 0, 1) := by decide +kernel
theorem dX6_restore_33 : decode cX6_restore 33 = .ok (.aload_n 0, 1) := by decide +kernel
theorem dX6_restore_34 : decode cX6_restore 34 = .ok (.getfield 10, 3) := by decide +kernel
theorem dX6_restore_37 : decode cX6_restore 37 = .ok (.getfield 117, 3) := by decide +kernel
theorem dX6_restore_40 : decode cX6_restore 40 = .ok (.invokevirtual 54, 3) := by decide +kernel
theorem dX6_restore_43 : decode cX6_restore 43 = .ok (.ireturn, 1) := by decide +kernel
theorem dX6_bucket_0 : decode cX6_bucket 0 = .ok (.aload_n 0, 1) := by decide +kernel
theorem dX6_bucket_1 : decode cX6_bucket 1 = .ok (.getfield 10, 3) := by decide +kernel
theorem dX6_bucket_4 : decode cX6_bucket 4 = .ok (.getfield 120, 3) := by decide +kernel
theorem dX6_bucket_7 : decode cX6_bucket 7 = .ok (.iload_n 1, 1) := by decide +kernel
theorem dX6_bucket_8 : decode cX6_bucket 8 = .ok (.invokevirtual 124, 3) := by decide +kernel
theorem dX6_bucket_11 : decode cX6_bucket 11 = .ok (.ireturn, 1) := by decide +kernel
theorem dX6_sensor_0 : decode cX6_sensor 0 = .ok (.iload_n 1, 1) := by decide +kernel
theorem dX6_sensor_1 : decode cX6_sensor 1 = .ok (.iconst 0, 1) := by decide +kernel
theorem dX6_sensor_2 : decode cX6_sensor 2 = .ok (.iconst 2, 1) := by decide +kernel
theorem dX6_sensor_3 : decode cX6_sensor 3 = .ok (.invokestatic 129, 3) := by decide +kernel
theorem dX6_sensor_6 : decode cX6_sensor 6 = .ok (.ifCond .ne 6, 3) := by decide +kernel
theorem dX6_sensor_9 : decode cX6_sensor 9 = .ok (.bipush (-101), 2) := by decide +kernel
theorem dX6_sensor_11 : decode cX6_sensor 11 = .ok (.ireturn, 1) := by decide +kernel
theorem dX6_sensor_12 : decode cX6_sensor 12 = .ok (.iload_n 2, 1) := by decide +kernel
theorem dX6_sensor_13 : decode cX6_sensor 13 = .ok (.tableswitch 66 0 3 #[31, 40, 50, 56], 31) := by decide +kernel
theorem dX6_sensor_44 : decode cX6_sensor 44 = .ok (.aload_n 0, 1) := by decide +kernel
theorem dX6_sensor_45 : decode cX6_sensor 45 = .ok (.getfield 10, 3) := by decide +kernel
theorem dX6_sensor_48 : decode cX6_sensor 48 = .ok (.iload_n 1, 1) := by decide +kernel
theorem dX6_sensor_49 : decode cX6_sensor 49 = .ok (.invokevirtual 133, 3) := by decide +kernel
theorem dX6_sensor_52 : decode cX6_sensor 52 = .ok (.ireturn, 1) := by decide +kernel
theorem dX6_sensor_53 : decode cX6_sensor 53 = .ok (.aload_n 0, 1) := by decide +kernel
theorem dX6_sensor_54 : decode cX6_sensor 54 = .ok (.getfield 10, 3) := by decide +kernel
theorem dX6_sensor_57 : decode cX6_sensor 57 = .ok (.getfield 136, 3) := by decide +kernel
theorem dX6_sensor_60 : decode cX6_sensor 60 = .ok (.iload_n 1, 1) := by decide +kernel
theorem dX6_sensor_61 : decode cX6_sensor 61 = .ok (.iaload, 1) := by decide +kernel
theorem dX6_sensor_62 : decode cX6_sensor 62 = .ok (.ireturn, 1) := by decide +kernel
theorem dX6_sensor_63 : decode cX6_sensor 63 = .ok (.getstatic 140, 3) := by decide +kernel
theorem dX6_sensor_66 : decode cX6_sensor 66 = .ok (.iload_n 1, 1) := by decide +kernel
theorem dX6_sensor_67 : decode cX6_sensor 67 = .ok (.iaload, 1) := by decide +kernel
theorem dX6_sensor_68 : decode cX6_sensor 68 = .ok (.ireturn, 1) := by decide +kernel
theorem dX6_sensor_69 : decode cX6_sensor 69 = .ok (.aload_n 0, 1) := by decide +kernel
theorem dX6_sensor_70 : decode cX6_sensor 70 = .ok (.getfield 10, 3) := by decide +kernel
theorem dX6_sensor_73 : decode cX6_sensor 73 = .ok (.getfield 143, 3) := by decide +kernel
theorem dX6_sensor_76 : decode cX6_sensor 76 = .ok (.iload_n 1, 1) := by decide +kernel
theorem dX6_sensor_77 : decode cX6_sensor 77 = .ok (.iaload, 1) := by decide +kernel
theorem dX6_sensor_78 : decode cX6_sensor 78 = .ok (.ireturn, 1) := by decide +kernel
theorem dX6_sensor_79 : decode cX6_sensor 79 = .ok (.bipush (-102), 2) := by decide +kernel
theorem dX6_sensor_81 : decode cX6_sensor 81 = .ok (.ireturn, 1) := by decide +kernel
theorem dX6_tripsIn_0 : decode cX6_tripsIn 0 = .ok (.aload_n 0, 1) := by decide +kernel
theorem dX6_tripsIn_1 : decode cX6_tripsIn 1 = .ok (.getfield 10, 3) := by decide +kernel
theorem dX6_tripsIn_4 : decode cX6_tripsIn 4 = .ok (.getfield 146, 3) := by decide +kernel
theorem dX6_tripsIn_7 : decode cX6_tripsIn 7 = .ok (.ifCond .ne 6, 3) := by decide +kernel
theorem dX6_tripsIn_10 : decode cX6_tripsIn 10 = .ok (.bipush (-104), 2) := by decide +kernel
theorem dX6_tripsIn_12 : decode cX6_tripsIn 12 = .ok (.ireturn, 1) := by decide +kernel
theorem dX6_tripsIn_13 : decode cX6_tripsIn 13 = .ok (.aload_n 0, 1) := by decide +kernel
theorem dX6_tripsIn_14 : decode cX6_tripsIn 14 = .ok (.getfield 19, 3) := by decide +kernel
theorem dX6_tripsIn_17 : decode cX6_tripsIn 17 = .ok (.aload_n 0, 1) := by decide +kernel
theorem dX6_tripsIn_18 : decode cX6_tripsIn 18 = .ok (.getfield 10, 3) := by decide +kernel
theorem dX6_tripsIn_21 : decode cX6_tripsIn 21 = .ok (.invokevirtual 46, 3) := by decide +kernel
theorem dX6_tripsIn_24 : decode cX6_tripsIn 24 = .ok (.aload_n 0, 1) := by decide +kernel
theorem dX6_tripsIn_25 : decode cX6_tripsIn 25 = .ok (.getfield 19, 3) := by decide +kernel
theorem dX6_tripsIn_28 : decode cX6_tripsIn 28 = .ok (.sipush 300, 3) := by decide +kernel
theorem dX6_tripsIn_31 : decode cX6_tripsIn 31 = .ok (.invokevirtual 149, 3) := by decide +kernel
theorem dX6_tripsIn_34 : decode cX6_tripsIn 34 = .ok (.ireturn, 1) := by decide +kernel
theorem dX6_ifTension_0 : decode cX6_ifTension 0 = .ok (.iload_n 1, 1) := by decide +kernel
theorem dX6_ifTension_1 : decode cX6_ifTension 1 = .ok (.getstatic 152, 3) := by decide +kernel
theorem dX6_ifTension_4 : decode cX6_ifTension 4 = .ok (.iconst 1, 1) := by decide +kernel
theorem dX6_ifTension_5 : decode cX6_ifTension 5 = .ok (.iaload, 1) := by decide +kernel
theorem dX6_ifTension_6 : decode cX6_ifTension 6 = .ok (.getstatic 155, 3) := by decide +kernel
theorem dX6_ifTension_9 : decode cX6_ifTension 9 = .ok (.iconst 1, 1) := by decide +kernel
theorem dX6_ifTension_10 : decode cX6_ifTension 10 = .ok (.iaload, 1) := by decide +kernel
theorem dX6_ifTension_11 : decode cX6_ifTension 11 = .ok (.invokestatic 129, 3) := by decide +kernel
theorem dX6_ifTension_14 : decode cX6_ifTension 14 = .ok (.ifCond .eq 14, 3) := by decide +kernel
theorem dX6_ifTension_17 : decode cX6_ifTension 17 = .ok (.iload_n 2, 1) := by decide +kernel
theorem dX6_ifTension_18 : decode cX6_ifTension 18 = .ok (.iconst 1, 1) := by decide +kernel
theorem dX6_ifTension_19 : decode cX6_ifTension 19 = .ok (.sipush 200, 3) := by decide +kernel
theorem dX6_ifTension_22 : decode cX6_ifTension 22 = .ok (.invokestatic 129, 3) := by decide +kernel
theorem dX6_ifTension_25 : decode cX6_ifTension 25 = .ok (.ifCond .ne 6, 3) := by decide +kernel
theorem dX6_ifTension_28 : decode cX6_ifTension 28 = .ok (.bipush (-102), 2) := by decide +kernel
theorem dX6_ifTension_30 : decode cX6_ifTension 30 = .ok (.ireturn, 1) := by decide +kernel
theorem dX6_ifTension_31 : decode cX6_ifTension 31 = .ok (.aload_n 0, 1) := by decide +kernel
theorem dX6_ifTension_32 : decode cX6_ifTension 32 = .ok (.getfield 19, 3) := by decide +kernel
theorem dX6_ifTension_35 : decode cX6_ifTension 35 = .ok (.aload_n 0, 1) := by decide +kernel
theorem dX6_ifTension_36 : decode cX6_ifTension 36 = .ok (.getfield 10, 3) := by decide +kernel
theorem dX6_ifTension_39 : decode cX6_ifTension 39 = .ok (.invokevirtual 46, 3) := by decide +kernel
theorem dX6_ifTension_42 : decode cX6_ifTension 42 = .ok (.aload_n 0, 1) := by decide +kernel
theorem dX6_ifTension_43 : decode cX6_ifTension 43 = .ok (.getfield 19, 3) := by decide +kernel
theorem dX6_ifTension_46 : decode cX6_ifTension 46 = .ok (.getfield 158, 3) := by decide +kernel
theorem dX6_ifTension_49 : decode cX6_ifTension 49 = .ok (.iconst 1, 1) := by decide +kernel
theorem dX6_ifTension_50 : decode cX6_ifTension 50 = .ok (.iload_n 1, 1) := by decide +kernel
theorem dX6_ifTension_51 : decode cX6_ifTension 51 = .ok (.iastore, 1) := by decide +kernel
theorem dX6_ifTension_52 : decode cX6_ifTension 52 = .ok (.aload_n 0, 1) := by decide +kernel
theorem dX6_ifTension_53 : decode cX6_ifTension 53 = .ok (.getfield 19, 3) := by decide +kernel
theorem dX6_ifTension_56 : decode cX6_ifTension 56 = .ok (.iconst 0, 1) := by decide +kernel
theorem dX6_ifTension_57 : decode cX6_ifTension 57 = .ok (.putfield 117, 3) := by decide +kernel
theorem dX6_ifTension_60 : decode cX6_ifTension 60 = .ok (.aload_n 0, 1) := by decide +kernel
theorem dX6_ifTension_61 : decode cX6_ifTension 61 = .ok (.getfield 19, 3) := by decide +kernel
theorem dX6_ifTension_64 : decode cX6_ifTension 64 = .ok (.iload_n 2, 1) := by decide +kernel
theorem dX6_ifTension_65 : decode cX6_ifTension 65 = .ok (.invokevirtual 75, 3) := by decide +kernel
theorem dX6_ifTension_68 : decode cX6_ifTension 68 = .ok (.ireturn, 1) := by decide +kernel
theorem dX6_leastTension_0 : decode cX6_leastTension 0 = .ok (.iload_n 1, 1) := by decide +kernel
theorem dX6_leastTension_1 : decode cX6_leastTension 1 = .ok (.iconst 1, 1) := by decide +kernel
theorem dX6_leastTension_2 : decode cX6_leastTension 2 = .ok (.bipush 100, 2) := by decide +kernel
theorem dX6_leastTension_4 : decode cX6_leastTension 4 = .ok (.invokestatic 129, 3) := by decide +kernel
theorem dX6_leastTension_7 : decode cX6_leastTension 7 = .ok (.ifCond .ne 6, 3) := by decide +kernel
theorem dX6_leastTension_10 : decode cX6_leastTension 10 = .ok (.bipush (-102), 2) := by decide +kernel
theorem dX6_leastTension_12 : decode cX6_leastTension 12 = .ok (.ireturn, 1) := by decide +kernel
theorem dX6_leastTension_13 : decode cX6_leastTension 13 = .ok (.aload_n 0, 1) := by decide +kernel
theorem dX6_leastTension_14 : decode cX6_leastTension 14 = .ok (.getfield 10, 3) := by decide +kernel
theorem dX6_leastTension_17 : decode cX6_leastTension 17 = .ok (.getfield 146, 3) := by decide +kernel
theorem dX6_leastTension_20 : decode cX6_leastTension 20 = .ok (.ifCond .ne 6, 3) := by decide +kernel
theorem dX6_leastTension_23 : decode cX6_leastTension 23 = .ok (.bipush (-104), 2) := by decide +kernel
theorem dX6_leastTension_25 : decode cX6_leastTension 25 = .ok (.ireturn, 1) := by decide +kernel
theorem dX6_leastTension_26 : decode cX6_leastTension 26 = .ok (.getstatic 152, 3) := by decide +kernel
theorem dX6_leastTension_29 : decode cX6_leastTension 29 = .ok (.iconst 1, 1) := by decide +kernel
theorem dX6_leastTension_30 : decode cX6_leastTension 30 = .ok (.iaload, 1) := by decide +kernel
theorem dX6_leastTension_31 : decode cX6_leastTension 31 = .ok (.istore_n 2, 1) := by decide +kernel
theorem dX6_leastTension_32 : decode cX6_leastTension 32 = .ok (.iload_n 2, 1) := by decide +kernel
theorem dX6_leastTension_33 : decode cX6_leastTension 33 = .ok (.getstatic 155, 3) := by decide +kernel
theorem dX6_leastTension_36 : decode cX6_leastTension 36 = .ok (.iconst 1, 1) := by decide +kernel
theorem dX6_leastTension_37 : decode cX6_leastTension 37 = .ok (.iaload, 1) := by decide +kernel
theorem dX6_leastTension_38 : decode cX6_leastTension 38 = .ok (.if_icmp .gt 45, 3) := by decide +kernel
theorem dX6_leastTension_41 : decode cX6_leastTension 41 = .ok (.aload_n 0, 1) := by decide +kernel
theorem dX6_leastTension_42 : decode cX6_leastTension 42 = .ok (.getfield 19, 3) := by decide +kernel
theorem dX6_leastTension_45 : decode cX6_leastTension 45 = .ok (.aload_n 0, 1) := by decide +kernel
theorem dX6_leastTension_46 : decode cX6_leastTension 46 = .ok (.getfield 10, 3) := by decide +kernel
theorem dX6_leastTension_49 : decode cX6_leastTension 49 = .ok (.invokevirtual 46, 3) := by decide +kernel
theorem dX6_leastTension_52 : decode cX6_leastTension 52 = .ok (.aload_n 0, 1) := by decide +kernel
theorem dX6_leastTension_53 : decode cX6_leastTension 53 = .ok (.getfield 19, 3) := by decide +kernel
theorem dX6_leastTension_56 : decode cX6_leastTension 56 = .ok (.getfield 158, 3) := by decide +kernel
theorem dX6_leastTension_59 : decode cX6_leastTension 59 = .ok (.iconst 1, 1) := by decide +kernel
theorem dX6_leastTension_60 : decode cX6_leastTension 60 = .ok (.iload_n 2, 1) := by decide +kernel
theorem dX6_leastTension_61 : decode cX6_leastTension 61 = .ok (.iastore, 1) := by decide +kernel
theorem dX6_leastTension_62 : decode cX6_leastTension 62 = .ok (.aload_n 0, 1) := by decide +kernel
theorem dX6_leastTension_63 : decode cX6_leastTension 63 = .ok (.getfield 19, 3) := by decide +kernel
theorem dX6_leastTension_66 : decode cX6_leastTension 66 = .ok (.iload_n 1, 1) := by decide +kernel
theorem dX6_leastTension_67 : decode cX6_leastTension 67 = .ok (.invokevirtual 149, 3) := by decide +kernel
theorem dX6_leastTension_70 : decode cX6_leastTension 70 = .ok (.bipush (-105), 2) := by decide +kernel
theorem dX6_leastTension_72 : decode cX6_leastTension 72 = .ok (.if_icmp .ne 5, 3) := by decide +kernel
theorem dX6_leastTension_75 : decode cX6_leastTension 75 = .ok (.iload_n 2, 1) := by decide +kernel
theorem dX6_leastTension_76 : decode cX6_leastTension 76 = .ok (.ireturn, 1) := by decide +kernel
theorem dX6_leastTension_77 : decode cX6_leastTension 77 = .ok (.iinc 2 1, 3) := by decide +kernel
theorem dX6_leastTension_80 : decode cX6_leastTension 80 = .ok (.goto (-48), 3) := by decide +kernel
theorem dX6_leastTension_83 : decode cX6_leastTension 83 = .ok (.bipush (-105), 2) := by decide +kernel
theorem dX6_leastTension_85 : decode cX6_leastTension 85 = .ok (.ireturn, 1) := by decide +kernel
theorem dX6_trip_0 : decode cX6_trip 0 = .ok (.iload_n 1, 1) := by decide +kernel
theorem dX6_trip_1 : decode cX6_trip 1 = .ok (.ifCond .ge 6, 3) := by decide +kernel
theorem dX6_trip_4 : decode cX6_trip 4 = .ok (.bipush (-102), 2) := by decide +kernel
theorem dX6_trip_6 : decode cX6_trip 6 = .ok (.ireturn, 1) := by decide +kernel
theorem dX6_trip_7 : decode cX6_trip 7 = .ok (.iload_n 2, 1) := by decide +kernel
theorem dX6_trip_8 : decode cX6_trip 8 = .ok (.tableswitch 64 0 2 #[28, 40, 52], 28) := by decide +kernel
theorem dX6_trip_36 : decode cX6_trip 36 = .ok (.aload_n 0, 1) := by decide +kernel
theorem dX6_trip_37 : decode cX6_trip 37 = .ok (.getfield 10, 3) := by decide +kernel
theorem dX6_trip_40 : decode cX6_trip 40 = .ok (.getfield 161, 3) := by decide +kernel
theorem dX6_trip_43 : decode cX6_trip 43 = .ok (.iload_n 1, 1) := by decide +kernel
theorem dX6_trip_44 : decode cX6_trip 44 = .ok (.invokevirtual 165, 3) := by decide +kernel
theorem dX6_trip_47 : decode cX6_trip 47 = .ok (.ireturn, 1) := by decide +kernel
theorem dX6_trip_48 : decode cX6_trip 48 = .ok (.aload_n 0, 1) := by decide +kernel
theorem dX6_trip_49 : decode cX6_trip 49 = .ok (.getfield 10, 3) := by decide +kernel
theorem dX6_trip_52 : decode cX6_trip 52 = .ok (.getfield 161, 3) := by decide +kernel
theorem dX6_trip_55 : decode cX6_trip 55 = .ok (.iload_n 1, 1) := by decide +kernel
theorem dX6_trip_56 : decode cX6_trip 56 = .ok (.invokevirtual 170, 3) := by decide +kernel
theorem dX6_trip_59 : decode cX6_trip 59 = .ok (.ireturn, 1) := by decide +kernel
theorem dX6_trip_60 : decode cX6_trip 60 = .ok (.aload_n 0, 1) := by decide +kernel
theorem dX6_trip_61 : decode cX6_trip 61 = .ok (.getfield 10, 3) := by decide +kernel
theorem dX6_trip_64 : decode cX6_trip 64 = .ok (.getfield 161, 3) := by decide +kernel
theorem dX6_trip_67 : decode cX6_trip 67 = .ok (.iload_n 1, 1) := by decide +kernel
theorem dX6_trip_68 : decode cX6_trip 68 = .ok (.invokevirtual 173, 3) := by decide +kernel
theorem dX6_trip_71 : decode cX6_trip 71 = .ok (.ireturn, 1) := by decide +kernel
theorem dX6_trip_72 : decode cX6_trip 72 = .ok (.bipush (-102), 2) := by decide +kernel
theorem dX6_trip_74 : decode cX6_trip 74 = .ok (.ireturn, 1) := by decide +kernel
theorem dX6_count_0 : decode cX6_count 0 = .ok (.iload_n 1, 1) := by decide +kernel
theorem dX6_count_1 : decode cX6_count 1 = .ok (.bipush 20, 2) := by decide +kernel
theorem dX6_count_3 : decode cX6_count 3 = .ok (.bipush 24, 2) := by decide +kernel
theorem dX6_count_5 : decode cX6_count 5 = .ok (.invokestatic 129, 3) := by decide +kernel
theorem dX6_count_8 : decode cX6_count 8 = .ok (.ifCond .eq 16, 3) := by decide +kernel
theorem dX6_count_11 : decode cX6_count 11 = .ok (.aload_n 0, 1) := by decide +kernel
theorem dX6_count_12 : decode cX6_count 12 = .ok (.getfield 10, 3) := by decide +kernel
theorem dX6_count_15 : decode cX6_count 15 = .ok (.getfield 158, 3) := by decide +kernel
theorem dX6_count_18 : decode cX6_count 18 = .ok (.iload_n 1, 1) := by decide +kernel
theorem dX6_count_19 : decode cX6_count 19 = .ok (.bipush 20, 2) := by decide +kernel
theorem dX6_count_21 : decode cX6_count 21 = .ok (.isub, 1) := by decide +kernel
theorem dX6_count_22 : decode cX6_count 22 = .ok (.iaload, 1) := by decide +kernel
theorem dX6_count_23 : decode cX6_count 23 = .ok (.ireturn, 1) := by decide +kernel
theorem dX6_count_24 : decode cX6_count 24 = .ok (.iload_n 1, 1) := by decide +kernel
theorem dX6_count_25 : decode cX6_count 25 = .ok (.tableswitch 256 0 16 #[83, 94, 105, 116, 127, 138, 149, 160, 168, 176, 184, 192, 208, 224, 232, 240, 248], 83) := by decide +kernel
theorem dX6_count_108 : decode cX6_count 108 = .ok (.aload_n 0, 1) := by decide +kernel
theorem dX6_count_109 : decode cX6_count 109 = .ok (.getfield 10, 3) := by decide +kernel
theorem dX6_count_112 : decode cX6_count 112 = .ok (.getfield 176, 3) := by decide +kernel
theorem dX6_count_115 : decode cX6_count 115 = .ok (.getfield 180, 3) := by decide +kernel
theorem dX6_count_118 : decode cX6_count 118 = .ok (.ireturn, 1) := by decide +kernel
theorem dX6_count_119 : decode cX6_count 119 = .ok (.aload_n 0, 1) := by decide +kernel
theorem dX6_count_120 : decode cX6_count 120 = .ok (.getfield 10, 3) := by decide +kernel
theorem dX6_count_123 : decode cX6_count 123 = .ok (.getfield 120, 3) := by decide +kernel
theorem dX6_count_126 : decode cX6_count 126 = .ok (.invokevirtual 185, 3) := by decide +kernel
theorem dX6_count_129 : decode cX6_count 129 = .ok (.ireturn, 1) := by decide +kernel
theorem dX6_count_130 : decode cX6_count 130 = .ok (.aload_n 0, 1) := by decide +kernel
theorem dX6_count_131 : decode cX6_count 131 = .ok (.getfield 10, 3) := by decide +kernel
theorem dX6_count_134 : decode cX6_count 134 = .ok (.getfield 176, 3) := by decide +kernel
theorem dX6_count_137 : decode cX6_count 137 = .ok (.getfield 188, 3) := by decide +kernel
theorem dX6_count_140 : decode cX6_count 140 = .ok (.ireturn, 1) := by decide +kernel
theorem dX6_count_141 : decode cX6_count 141 = .ok (.aload_n 0, 1) := by decide +kernel
theorem dX6_count_142 : decode cX6_count 142 = .ok (.getfield 10, 3) := by decide +kernel
theorem dX6_count_145 : decode cX6_count 145 = .ok (.getfield 176, 3) := by decide +kernel
theorem dX6_count_148 : decode cX6_count 148 = .ok (.getfield 191, 3) := by decide +kernel
theorem dX6_count_151 : decode cX6_count 151 = .ok (.ireturn, 1) := by decide +kernel
theorem dX6_count_152 : decode cX6_count 152 = .ok (.aload_n 0, 1) := by decide +kernel
theorem dX6_count_153 : decode cX6_count 153 = .ok (.getfield 10, 3) := by decide +kernel
theorem dX6_count_156 : decode cX6_count 156 = .ok (.getfield 176, 3) := by decide +kernel
theorem dX6_count_159 : decode cX6_count 159 = .ok (.getfield 194, 3) := by decide +kernel
theorem dX6_count_162 : decode cX6_count 162 = .ok (.ireturn, 1) := by decide +kernel
theorem dX6_count_163 : decode cX6_count 163 = .ok (.aload_n 0, 1) := by decide +kernel
theorem dX6_count_164 : decode cX6_count 164 = .ok (.getfield 10, 3) := by decide +kernel
theorem dX6_count_167 : decode cX6_count 167 = .ok (.getfield 176, 3) := by decide +kernel
theorem dX6_count_170 : decode cX6_count 170 = .ok (.getfield 197, 3) := by decide +kernel
theorem dX6_count_173 : decode cX6_count 173 = .ok (.ireturn, 1) := by decide +kernel
theorem dX6_count_174 : decode cX6_count 174 = .ok (.aload_n 0, 1) := by decide +kernel
theorem dX6_count_175 : decode cX6_count 175 = .ok (.getfield 10, 3) := by decide +kernel
theorem dX6_count_178 : decode cX6_count 178 = .ok (.getfield 176, 3) := by decide +kernel
theorem dX6_count_181 : decode cX6_count 181 = .ok (.getfield 200, 3) := by decide +kernel
theorem dX6_count_184 : decode cX6_count 184 = .ok (.ireturn, 1) := by decide +kernel
theorem dX6_count_185 : decode cX6_count 185 = .ok (.aload_n 0, 1) := by decide +kernel
theorem dX6_count_186 : decode cX6_count 186 = .ok (.getfield 10, 3) := by decide +kernel
theorem dX6_count_189 : decode cX6_count 189 = .ok (.invokevirtual 203, 3) := by decide +kernel
theorem dX6_count_192 : decode cX6_count 192 = .ok (.ireturn, 1) := by decide +kernel
theorem dX6_count_193 : decode cX6_count 193 = .ok (.aload_n 0, 1) := by decide +kernel
theorem dX6_count_194 : decode cX6_count 194 = .ok (.getfield 10, 3) := by decide +kernel
theorem dX6_count_197 : decode cX6_count 197 = .ok (.getfield 206, 3) := by decide +kernel
theorem dX6_count_200 : decode cX6_count 200 = .ok (.ireturn, 1) := by decide +kernel
theorem dX6_count_201 : decode cX6_count 201 = .ok (.aload_n 0, 1) := by decide +kernel
theorem dX6_count_202 : decode cX6_count 202 = .ok (.getfield 10, 3) := by decide +kernel
theorem dX6_count_205 : decode cX6_count 205 = .ok (.getfield 209, 3) := by decide +kernel
theorem dX6_count_208 : decode cX6_count 208 = .ok (.ireturn, 1) := by decide +kernel
theorem dX6_count_209 : decode cX6_count 209 = .ok (.aload_n 0, 1) := by decide +kernel
theorem dX6_count_210 : decode cX6_count 210 = .ok (.getfield 10, 3) := by decide +kernel
theorem dX6_count_213 : decode cX6_count 213 = .ok (.getfield 212, 3) := by decide +kernel
theorem dX6_count_216 : decode cX6_count 216 = .ok (.ireturn, 1) := by decide +kernel
theorem dX6_count_217 : decode cX6_count 217 = .ok (.aload_n 0, 1) := by decide +kernel
theorem dX6_count_218 : decode cX6_count 218 = .ok (.getfield 10, 3) := by decide +kernel
theorem dX6_count_221 : decode cX6_count 221 = .ok (.getfield 146, 3) := by decide +kernel
theorem dX6_count_224 : decode cX6_count 224 = .ok (.ifCond .eq 7, 3) := by decide +kernel
theorem dX6_count_227 : decode cX6_count 227 = .ok (.iconst 1, 1) := by decide +kernel
theorem dX6_count_228 : decode cX6_count 228 = .ok (.goto 4, 3) := by decide +kernel
theorem dX6_count_231 : decode cX6_count 231 = .ok (.iconst 0, 1) := by decide +kernel
theorem dX6_count_232 : decode cX6_count 232 = .ok (.ireturn, 1) := by decide +kernel
theorem dX6_count_233 : decode cX6_count 233 = .ok (.aload_n 0, 1) := by decide +kernel
theorem dX6_count_234 : decode cX6_count 234 = .ok (.getfield 10, 3) := by decide +kernel
theorem dX6_count_237 : decode cX6_count 237 = .ok (.getfield 215, 3) := by decide +kernel
theorem dX6_count_240 : decode cX6_count 240 = .ok (.ifCond .eq 7, 3) := by decide +kernel
theorem dX6_count_243 : decode cX6_count 243 = .ok (.iconst 1, 1) := by decide +kernel
theorem dX6_count_244 : decode cX6_count 244 = .ok (.goto 4, 3) := by decide +kernel
theorem dX6_count_247 : decode cX6_count 247 = .ok (.iconst 0, 1) := by decide +kernel
theorem dX6_count_248 : decode cX6_count 248 = .ok (.ireturn, 1) := by decide +kernel
theorem dX6_count_249 : decode cX6_count 249 = .ok (.aload_n 0, 1) := by decide +kernel
theorem dX6_count_250 : decode cX6_count 250 = .ok (.getfield 10, 3) := by decide +kernel
theorem dX6_count_253 : decode cX6_count 253 = .ok (.getfield 218, 3) := by decide +kernel
theorem dX6_count_256 : decode cX6_count 256 = .ok (.ireturn, 1) := by decide +kernel
theorem dX6_count_257 : decode cX6_count 257 = .ok (.aload_n 0, 1) := by decide +kernel
theorem dX6_count_258 : decode cX6_count 258 = .ok (.getfield 10, 3) := by decide +kernel
theorem dX6_count_261 : decode cX6_count 261 = .ok (.getfield 117, 3) := by decide +kernel
theorem dX6_count_264 : decode cX6_count 264 = .ok (.ireturn, 1) := by decide +kernel
theorem dX6_count_265 : decode cX6_count 265 = .ok (.aload_n 0, 1) := by decide +kernel
theorem dX6_count_266 : decode cX6_count 266 = .ok (.getfield 25, 3) := by decide +kernel
theorem dX6_count_269 : decode cX6_count 269 = .ok (.getfield 110, 3) := by decide +kernel
theorem dX6_count_272 : decode cX6_count 272 = .ok (.ireturn, 1) := by decide +kernel
theorem dX6_count_273 : decode cX6_count 273 = .ok (.aload_n 0, 1) := by decide +kernel
theorem dX6_count_274 : decode cX6_count 274 = .ok (.getfield 35, 3) := by decide +kernel
theorem dX6_count_277 : decode cX6_count 277 = .ok (.getfield 221, 3) := by decide +kernel
theorem dX6_count_280 : decode cX6_count 280 = .ok (.ireturn, 1) := by decide +kernel
theorem dX6_count_281 : decode cX6_count 281 = .ok (.bipush (-102), 2) := by decide +kernel
theorem dX6_count_283 : decode cX6_count 283 = .ok (.ireturn, 1) := by decide +kernel
theorem dX6_recorded_0 : decode cX6_recorded 0 = .ok (.iload_n 1, 1) := by decide +kernel
theorem dX6_recorded_1 : decode cX6_recorded 1 = .ok (.bipush (-105), 2) := by decide +kernel
theorem dX6_recorded_3 : decode cX6_recorded 3 = .ok (.if_icmp .eq 21, 3) := by decide +kernel
theorem dX6_recorded_6 : decode cX6_recorded 6 = .ok (.iload_n 1, 1) := by decide +kernel
theorem dX6_recorded_7 : decode cX6_recorded 7 = .ok (.invokestatic 102, 3) := by decide +kernel
theorem dX6_recorded_10 : decode cX6_recorded 10 = .ok (.ifCond .ne 14, 3) := by decide +kernel
theorem dX6_recorded_13 : decode cX6_recorded 13 = .ok (.aload_n 0, 1) := by decide +kernel
theorem dX6_recorded_14 : decode cX6_recorded 14 = .ok (.getfield 25, 3) := by decide +kernel
theorem dX6_recorded_17 : decode cX6_recorded 17 = .ok (.aload_n 0, 1) := by decide +kernel
theorem dX6_recorded_18 : decode cX6_recorded 18 = .ok (.getfield 16, 3) := by decide +kernel
theorem dX6_recorded_21 : decode cX6_recorded 21 = .ok (.invokevirtual 224, 3) := by decide +kernel
theorem dX6_recorded_24 : decode cX6_recorded 24 = .ok (.iload_n 1, 1) := by decide +kernel
theorem dX6_recorded_25 : decode cX6_recorded 25 = .ok (.ireturn, 1) := by decide +kernel
theorem dX6_carryOut_0 : decode cX6_carryOut 0 = .ok (.iload_n 1, 1) := by decide +kernel
theorem dX6_carryOut_1 : decode cX6_carryOut 1 = .ok (.tableswitch 212 97 120 #[151, 212, 141, 111, 212, 131, 161, 212, 212, 212, 212, 212, 212, 212, 177, 212, 212, 195, 169, 121, 212, 212, 203, 186], 111) := by decide +kernel
theorem dX6_carryOut_112 : decode cX6_carryOut 112 = .ok (.aload_n 0, 1) := by decide +kernel
theorem dX6_carryOut_113 : decode cX6_carryOut 113 = .ok (.getfield 10, 3) := by decide +kernel
theorem dX6_carryOut_116 : decode cX6_carryOut 116 = .ok (.iconst 0, 1) := by decide +kernel
theorem dX6_carryOut_117 : decode cX6_carryOut 117 = .ok (.iload_n 2, 1) := by decide +kernel
theorem dX6_carryOut_118 : decode cX6_carryOut 118 = .ok (.invokevirtual 50, 3) := by decide +kernel
theorem dX6_carryOut_121 : decode cX6_carryOut 121 = .ok (.ireturn, 1) := by decide +kernel
theorem dX6_carryOut_122 : decode cX6_carryOut 122 = .ok (.aload_n 0, 1) := by decide +kernel
theorem dX6_carryOut_123 : decode cX6_carryOut 123 = .ok (.getfield 10, 3) := by decide +kernel
theorem dX6_carryOut_126 : decode cX6_carryOut 126 = .ok (.iconst 1, 1) := by decide +kernel
theorem dX6_carryOut_127 : decode cX6_carryOut 127 = .ok (.iload_n 2, 1) := by decide +kernel
theorem dX6_carryOut_128 : decode cX6_carryOut 128 = .ok (.invokevirtual 50, 3) := by decide +kernel
theorem dX6_carryOut_131 : decode cX6_carryOut 131 = .ok (.ireturn, 1) := by decide +kernel
theorem dX6_carryOut_132 : decode cX6_carryOut 132 = .ok (.aload_n 0, 1) := by decide +kernel
theorem dX6_carryOut_133 : decode cX6_carryOut 133 = .ok (.getfield 10, 3) := by decide +kernel
theorem dX6_carryOut_136 : decode cX6_carryOut 136 = .ok (.iconst 2, 1) := by decide +kernel
theorem dX6_carryOut_137 : decode cX6_carryOut 137 = .ok (.iload_n 2, 1) := by decide +kernel
theorem dX6_carryOut_138 : decode cX6_carryOut 138 = .ok (.invokevirtual 50, 3) := by decide +kernel
theorem dX6_carryOut_141 : decode cX6_carryOut 141 = .ok (.ireturn, 1) := by decide +kernel
theorem dX6_carryOut_142 : decode cX6_carryOut 142 = .ok (.aload_n 0, 1) := by decide +kernel
theorem dX6_carryOut_143 : decode cX6_carryOut 143 = .ok (.getfield 10, 3) := by decide +kernel
theorem dX6_carryOut_146 : decode cX6_carryOut 146 = .ok (.iconst 3, 1) := by decide +kernel
theorem dX6_carryOut_147 : decode cX6_carryOut 147 = .ok (.iload_n 2, 1) := by decide +kernel
theorem dX6_carryOut_148 : decode cX6_carryOut 148 = .ok (.invokevirtual 50, 3) := by decide +kernel
theorem dX6_carryOut_151 : decode cX6_carryOut 151 = .ok (.ireturn, 1) := by decide +kernel
theorem dX6_carryOut_152 : decode cX6_carryOut 152 = .ok (.aload_n 0, 1) := by decide +kernel
theorem dX6_carryOut_153 : decode cX6_carryOut 153 = .ok (.getfield 10, 3) := by decide +kernel
theorem dX6_carryOut_156 : decode cX6_carryOut 156 = .ok (.iconst 4, 1) := by decide +kernel
theorem dX6_carryOut_157 : decode cX6_carryOut 157 = .ok (.iload_n 2, 1) := by decide +kernel
theorem dX6_carryOut_158 : decode cX6_carryOut 158 = .ok (.invokevirtual 50, 3) := by decide +kernel
theorem dX6_carryOut_161 : decode cX6_carryOut 161 = .ok (.ireturn, 1) := by decide +kernel
theorem dX6_carryOut_162 : decode cX6_carryOut 162 = .ok (.aload_n 0, 1) := by decide +kernel
theorem dX6_carryOut_163 : decode cX6_carryOut 163 = .ok (.getfield 10, 3) := by decide +kernel
theorem dX6_carryOut_166 : decode cX6_carryOut 166 = .ok (.invokevirtual 62, 3) := by decide +kernel
theorem dX6_carryOut_169 : decode cX6_carryOut 169 = .ok (.ireturn, 1) := by decide +kernel
theorem dX6_carryOut_170 : decode cX6_carryOut 170 = .ok (.aload_n 0, 1) := by decide +kernel
theorem dX6_carryOut_171 : decode cX6_carryOut 171 = .ok (.getfield 10, 3) := by decide +kernel
theorem dX6_carryOut_174 : decode cX6_carryOut 174 = .ok (.invokevirtual 66, 3) := by decide +kernel
theorem dX6_carryOut_177 : decode cX6_carryOut 177 = .ok (.ireturn, 1) := by decide +kernel
theorem dX6_carryOut_178 : decode cX6_carryOut 178 = .ok (.aload_n 0, 1) := by decide +kernel
theorem dX6_carryOut_179 : decode cX6_carryOut 179 = .ok (.getfield 10, 3) := by decide +kernel
theorem dX6_carryOut_182 : decode cX6_carryOut 182 = .ok (.iconst 1, 1) := by decide +kernel
theorem dX6_carryOut_183 : decode cX6_carryOut 183 = .ok (.invokevirtual 58, 3) := by decide +kernel
theorem dX6_carryOut_186 : decode cX6_carryOut 186 = .ok (.ireturn, 1) := by decide +kernel
theorem dX6_carryOut_187 : decode cX6_carryOut 187 = .ok (.aload_n 0, 1) := by decide +kernel
theorem dX6_carryOut_188 : decode cX6_carryOut 188 = .ok (.getfield 10, 3) := by decide +kernel
theorem dX6_carryOut_191 : decode cX6_carryOut 191 = .ok (.iconst 0, 1) := by decide +kernel
theorem dX6_carryOut_192 : decode cX6_carryOut 192 = .ok (.invokevirtual 58, 3) := by decide +kernel
theorem dX6_carryOut_195 : decode cX6_carryOut 195 = .ok (.ireturn, 1) := by decide +kernel
theorem dX6_carryOut_196 : decode cX6_carryOut 196 = .ok (.aload_n 0, 1) := by decide +kernel
theorem dX6_carryOut_197 : decode cX6_carryOut 197 = .ok (.getfield 10, 3) := by decide +kernel
theorem dX6_carryOut_200 : decode cX6_carryOut 200 = .ok (.invokevirtual 69, 3) := by decide +kernel
theorem dX6_carryOut_203 : decode cX6_carryOut 203 = .ok (.ireturn, 1) := by decide +kernel
theorem dX6_carryOut_204 : decode cX6_carryOut 204 = .ok (.aload_n 0, 1) := by decide +kernel
theorem dX6_carryOut_205 : decode cX6_carryOut 205 = .ok (.getfield 10, 3) := by decide +kernel
theorem dX6_carryOut_208 : decode cX6_carryOut 208 = .ok (.iload_n 2, 1) := by decide +kernel
theorem dX6_carryOut_209 : decode cX6_carryOut 209 = .ok (.invokevirtual 75, 3) := by decide +kernel
theorem dX6_carryOut_212 : decode cX6_carryOut 212 = .ok (.ireturn, 1) := by decide +kernel
theorem dX6_carryOut_213 : decode cX6_carryOut 213 = .ok (.bipush (-105), 2) := by decide +kernel
theorem dX6_carryOut_215 : decode cX6_carryOut 215 = .ok (.ireturn, 1) := by decide +kernel
theorem dX6_isError_0 : decode cX6_isError 0 = .ok (.iload_n 0, 1) := by decide +kernel
theorem dX6_isError_1 : decode cX6_isError 1 = .ok (.bipush (-101), 2) := by decide +kernel
theorem dX6_isError_3 : decode cX6_isError 3 = .ok (.if_icmp .gt 13, 3) := by decide +kernel
theorem dX6_isError_6 : decode cX6_isError 6 = .ok (.iload_n 0, 1) := by decide +kernel
theorem dX6_isError_7 : decode cX6_isError 7 = .ok (.bipush (-105), 2) := by decide +kernel
theorem dX6_isError_9 : decode cX6_isError 9 = .ok (.if_icmp .eq 7, 3) := by decide +kernel
theorem dX6_isError_12 : decode cX6_isError 12 = .ok (.iconst 1, 1) := by decide +kernel
theorem dX6_isError_13 : decode cX6_isError 13 = .ok (.goto 4, 3) := by decide +kernel
theorem dX6_isError_16 : decode cX6_isError 16 = .ok (.iconst 0, 1) := by decide +kernel
theorem dX6_isError_17 : decode cX6_isError 17 = .ok (.ireturn, 1) := by decide +kernel
theorem dX6_isWithin_0 : decode cX6_isWithin 0 = .ok (.iload_n 0, 1) := by decide +kernel
theorem dX6_isWithin_1 : decode cX6_isWithin 1 = .ok (.iload_n 1, 1) := by decide +kernel
theorem dX6_isWithin_2 : decode cX6_isWithin 2 = .ok (.if_icmp .lt 12, 3) := by decide +kernel
theorem dX6_isWithin_5 : decode cX6_isWithin 5 = .ok (.iload_n 0, 1) := by decide +kernel
theorem dX6_isWithin_6 : decode cX6_isWithin 6 = .ok (.iload_n 2, 1) := by decide +kernel
theorem dX6_isWithin_7 : decode cX6_isWithin 7 = .ok (.if_icmp .gt 7, 3) := by decide +kernel
theorem dX6_isWithin_10 : decode cX6_isWithin 10 = .ok (.iconst 1, 1) := by decide +kernel
theorem dX6_isWithin_11 : decode cX6_isWithin 11 = .ok (.goto 4, 3) := by decide +kernel
theorem dX6_isWithin_14 : decode cX6_isWithin 14 = .ok (.iconst 0, 1) := by decide +kernel
theorem dX6_isWithin_15 : decode cX6_isWithin 15 = .ok (.ireturn, 1) := by decide +kernel
theorem dX7_init_0 : decode cX7_init 0 = .ok (.aload_n 0, 1) := by decide +kernel
theorem dX7_init_1 : decode cX7_init 1 = .ok (.invokespecial 1, 3) := by decide +kernel
theorem dX7_init_4 : decode cX7_init 4 = .ok (.aload_n 0, 1) := by decide +kernel
theorem dX7_init_5 : decode cX7_init 5 = .ok (.bipush 56, 2) := by decide +kernel
theorem dX7_init_7 : decode cX7_init 7 = .ok (.newarray .int, 2) := by decide +kernel
theorem dX7_init_9 : decode cX7_init 9 = .ok (.putfield 7, 3) := by decide +kernel
theorem dX7_init_12 : decode cX7_init 12 = .ok (.aload_n 0, 1) := by decide +kernel
theorem dX7_init_13 : decode cX7_init 13 = .ok (.bipush 56, 2) := by decide +kernel
theorem dX7_init_15 : decode cX7_init 15 = .ok (.newarray .int, 2) := by decide +kernel
theorem dX7_init_17 : decode cX7_init 17 = .ok (.putfield 13, 3) := by decide +kernel
theorem dX7_init_20 : decode cX7_init 20 = .ok (.aload_n 0, 1) := by decide +kernel
theorem dX7_init_21 : decode cX7_init 21 = .ok (.sipush 224, 3) := by decide +kernel
theorem dX7_init_24 : decode cX7_init 24 = .ok (.newarray .int, 2) := by decide +kernel
theorem dX7_init_26 : decode cX7_init 26 = .ok (.putfield 16, 3) := by decide +kernel
theorem dX7_init_29 : decode cX7_init 29 = .ok (.aload_n 0, 1) := by decide +kernel
theorem dX7_init_30 : decode cX7_init 30 = .ok (.bipush 56, 2) := by decide +kernel
theorem dX7_init_32 : decode cX7_init 32 = .ok (.newarray .int, 2) := by decide +kernel
theorem dX7_init_34 : decode cX7_init 34 = .ok (.putfield 19, 3) := by decide +kernel
theorem dX7_init_37 : decode cX7_init 37 = .ok (.aload_n 0, 1) := by decide +kernel
theorem dX7_init_38 : decode cX7_init 38 = .ok (.bipush 60, 2) := by decide +kernel
theorem dX7_init_40 : decode cX7_init 40 = .ok (.newarray .int, 2) := by decide +kernel
theorem dX7_init_42 : decode cX7_init 42 = .ok (.putfield 22, 3) := by decide +kernel
theorem dX7_init_45 : decode cX7_init 45 = .ok (.aload_n 0, 1) := by decide +kernel
theorem dX7_init_46 : decode cX7_init 46 = .ok (.bipush 64, 2) := by decide +kernel
theorem dX7_init_48 : decode cX7_init 48 = .ok (.newarray .int, 2) := by decide +kernel
theorem dX7_init_50 : decode cX7_init 50 = .ok (.putfield 25, 3) := by decide +kernel
theorem dX7_init_53 : decode cX7_init 53 = .ok (.aload_n 0, 1) := by decide +kernel
theorem dX7_init_54 : decode cX7_init 54 = .ok (.iconst 0, 1) := by decide +kernel
theorem dX7_init_55 : decode cX7_init 55 = .ok (.putfield 28, 3) := by decide +kernel
theorem dX7_init_58 : decode cX7_init 58 = .ok (.aload_n 0, 1) := by decide +kernel
theorem dX7_init_59 : decode cX7_init 59 = .ok (.bipush (-105), 2) := by decide +kernel
theorem dX7_init_61 : decode cX7_init 61 = .ok (.putfield 32, 3) := by decide +kernel
theorem dX7_init_64 : decode cX7_init 64 = .ok (.aload_n 0, 1) := by decide +kernel
theorem dX7_init_65 : decode cX7_init 65 = .ok (.bipush (-105), 2) := by decide +kernel
theorem dX7_init_67 : decode cX7_init 67 = .ok (.putfield 35, 3) := by decide +kernel
theorem dX7_init_70 : decode cX7_init 70 = .ok (.aload_n 0, 1) := by decide +kernel
theorem dX7_init_71 : decode cX7_init 71 = .ok (.getfield 7, 3) := by decide +kernel
theorem dX7_init_74 : decode cX7_init 74 = .ok (.iconst 0, 1) := by decide +kernel
theorem dX7_init_75 : decode cX7_init 75 = .ok (.iconst 3, 1) := by decide +kernel
theorem dX7_init_76 : decode cX7_init 76 = .ok (.iastore, 1) := by decide +kernel
theorem dX7_init_77 : decode cX7_init 77 = .ok (.aload_n 0, 1) := by decide +kernel
theorem dX7_init_78 : decode cX7_init 78 = .ok (.getfield 7, 3) := by decide +kernel
theorem dX7_init_81 : decode cX7_init 81 = .ok (.iconst 1, 1) := by decide +kernel
theorem dX7_init_82 : decode cX7_init 82 = .ok (.bipush 60, 2) := by decide +kernel
theorem dX7_init_84 : decode cX7_init 84 = .ok (.iastore, 1) := by decide +kernel
theorem dX7_init_85 : decode cX7_init 85 = .ok (.aload_n 0, 1) := by decide +kernel
theorem dX7_init_86 : decode cX7_init 86 = .ok (.getfield 7, 3) := by decide +kernel
theorem dX7_init_89 : decode cX7_init 89 = .ok (.iconst 2, 1) := by decide +kernel
theorem dX7_init_90 : decode cX7_init 90 = .ok (.bipush 6, 2) := by decide +kernel
theorem dX7_init_92 : decode cX7_init 92 = .ok (.iastore, 1) := by decide +kernel
theorem dX7_init_93 : decode cX7_init 93 = .ok (.aload_n 0, 1) := by decide +kernel
theorem dX7_init_94 : decode cX7_init 94 = .ok (.getfield 7, 3) := by decide +kernel
theorem dX7_init_97 : decode cX7_init 97 = .ok (.iconst 3, 1) := by decide +kernel
theorem dX7_init_98 : decode cX7_init 98 = .ok (.bipush 8, 2) := by decide +kernel
theorem dX7_init_100 : decode cX7_init 100 = .ok (.iastore, 1) := by decide +kernel
theorem dX7_init_101 : decode cX7_init 101 = .ok (.return_, 1) := by decide +kernel
theorem dX7_in_0 : decode cX7_in 0 = .ok (.iload_n 0, 1) := by decide +kernel
theorem dX7_in_1 : decode cX7_in 1 = .ok (.iload_n 1, 1) := by decide +kernel
theorem dX7_in_2 : decode cX7_in 2 = .ok (.if_icmp .lt 12, 3) := by decide +kernel
theorem dX7_in_5 : decode cX7_in 5 = .ok (.iload_n 0, 1) := by decide +kernel
theorem dX7_in_6 : decode cX7_in 6 = .ok (.iload_n 2, 1) := by decide +kernel
theorem dX7_in_7 : decode cX7_in 7 = .ok (.if_icmp .gt 7, 3) := by decide +kernel
theorem dX7_in_10 : decode cX7_in 10 = .ok (.iconst 1, 1) := by decide +kernel
theorem dX7_in_11 : decode cX7_in 11 = .ok (.goto 4, 3) := by decide +kernel
theorem dX7_in_14 : decode cX7_in 14 = .ok (.iconst 0, 1) := by decide +kernel
theorem dX7_in_15 : decode cX7_in 15 = .ok (.ireturn, 1) := by decide +kernel
theorem dX7_records_0 : decode cX7_records 0 = .ok (.aload_n 0, 1) := by decide +kernel
theorem dX7_records_1 : decode cX7_records 1 = .ok (.getfield 38, 3) := by decide +kernel
theorem dX7_records_4 : decode cX7_records 4 = .ok (.iconst 4, 1) := by decide +kernel
theorem dX7_records_5 : decode cX7_records 5 = .ok (.if_icmp .ne 43, 3) := by decide +kernel
theorem dX7_records_8 : decode cX7_records 8 = .ok (.iconst 0, 1) := by decide +kernel
theorem dX7_records_9 : decode cX7_records 9 = .ok (.istore_n 1, 1) := by decide +kernel
theorem dX7_records_10 : decode cX7_records 10 = .ok (.iload_n 1, 1) := by decide +kernel
theorem dX7_records_11 : decode cX7_records 11 = .ok (.sipush 168, 3) := by decide +kernel
theorem dX7_records_14 : decode cX7_records 14 = .ok (.if_icmp .ge 24, 3) := by decide +kernel
theorem dX7_records_17 : decode cX7_records 17 = .ok (.aload_n 0, 1) := by decide +kernel
theorem dX7_records_18 : decode cX7_records 18 = .ok (.getfield 16, 3) := by decide +kernel
theorem dX7_records_21 : decode cX7_records 21 = .ok (.iload_n 1, 1) := by decide +kernel
theorem dX7_records_22 : decode cX7_records 22 = .ok (.aload_n 0, 1) := by decide +kernel
theorem dX7_records_23 : decode cX7_records 23 = .ok (.getfield 16, 3) := by decide +kernel
theorem dX7_records_26 : decode cX7_records 26 = .ok (.iload_n 1, 1) := by decide +kernel
theorem dX7_records_27 : decode cX7_records 27 = .ok (.bipush 56, 2) := by decide +kernel
theorem dX7_records_29 : decode cX7_records 29 = .ok (.iadd, 1) := by decide +kernel
theorem dX7_records_30 : decode cX7_records 30 = .ok (.iaload, 1) := by decide +kernel
theorem dX7_records_31 : decode cX7_records 31 = .ok (.iastore, 1) := by decide +kernel
theorem dX7_records_32 : decode cX7_records 32 = .ok (.iinc 1 1, 3) := by decide +kernel
theorem dX7_records_35 : decode cX7_records 35 = .ok (.goto (-25), 3) := by decide +kernel
theorem dX7_records_38 : decode cX7_records 38 = .ok (.aload_n 0, 1) := by decide +kernel
theorem dX7_records_39 : decode cX7_records 39 = .ok (.dup, 1) := by decide +kernel
theorem dX7_records_40 : decode cX7_records 40 = .ok (.getfield 38, 3) := by decide +kernel
theorem dX7_records_43 : decode cX7_records 43 = .ok (.iconst 1, 1) := by decide +kernel
theorem dX7_records_44 : decode cX7_records 44 = .ok (.isub, 1) := by decide +kernel
theorem dX7_records_45 : decode cX7_records 45 = .ok (.putfield 38, 3) := by decide +kernel
theorem dX7_records_48 : decode cX7_records 48 = .ok (.iconst 0, 1) := by decide +kernel
theorem dX7_records_49 : decode cX7_records 49 = .ok (.istore_n 1, 1) := by decide +kernel
theorem dX7_records_50 : decode cX7_records 50 = .ok (.iload_n 1, 1) := by decide +kernel
theorem dX7_records_51 : decode cX7_records 51 = .ok (.bipush 56, 2) := by decide +kernel
theorem dX7_records_53 : decode cX7_records 53 = .ok (.if_icmp .ge 29, 3) := by decide +kernel
theorem dX7_records_56 : decode cX7_records 56 = .ok (.aload_n 0, 1) := by decide +kernel
theorem dX7_records_57 : decode cX7_records 57 = .ok (.getfield 16, 3) := by decide +kernel
theorem dX7_records_60 : decode cX7_records 60 = .ok (.bipush 56, 2) := by decide +kernel
theorem dX7_records_62 : decode cX7_records 62 = .ok (.aload_n 0, 1) := by decide +kernel
theorem dX7_records_63 : decode cX7_records 63 = .ok (.getfield 38, 3) := by decide +kernel
theorem dX7_records_66 : decode cX7_records 66 = .ok (.imul, 1) := by decide +kernel
theorem dX7_records_67 : decode cX7_records 67 = .ok (.iload_n 1, 1) := by decide +kernel
theorem dX7_records_68 : decode cX7_records 68 = .ok (.iadd, 1) := by decide +kernel
theorem dX7_records_69 : decode cX7_records 69 = .ok (.aload_n 0, 1) := by decide +kernel
theorem dX7_records_70 : decode cX7_records 70 = .ok (.getfield 7, 3) := by decide +kernel
theorem dX7_records_73 : decode cX7_records 73 = .ok (.iload_n 1, 1) := by decide +kernel
theorem dX7_records_74 : decode cX7_records 74 = .ok (.iaload, 1) := by decide +kernel
theorem dX7_records_75 : decode cX7_records 75 = .ok (.iastore, 1) := by decide +kernel
theorem dX7_records_76 : decode cX7_records 76 = .ok (.iinc 1 1, 3) := by decide +kernel
theorem dX7_records_79 : decode cX7_records 79 = .ok (.goto (-29), 3) := by decide +kernel
theorem dX7_records_82 : decode cX7_records 82 = .ok (.aload_n 0, 1) := by decide +kernel
theorem dX7_records_83 : decode cX7_records 83 = .ok (.dup, 1) := by decide +kernel
theorem dX7_records_84 : decode cX7_records 84 = .ok (.getfield 38, 3) := by decide +kernel
theorem dX7_records_87 : decode cX7_records 87 = .ok (.iconst 1, 1) := by decide +kernel
theorem dX7_records_88 : decode cX7_records 88 = .ok (.iadd, 1) := by decide +kernel
theorem dX7_records_89 : decode cX7_records 89 = .ok (.putfield 38, 3) := by decide +kernel
theorem dX7_records_92 : decode cX7_records 92 = .ok (.return_, 1) := by decide +kernel
theorem dX7_putAside_0 : decode cX7_putAside 0 = .ok (.iconst 0, 1) := by decide +kernel
theorem dX7_putAside_1 : decode cX7_putAside 1 = .ok (.istore_n 1, 1) := by decide +kernel
theorem dX7_putAside_2 : decode cX7_putAside 2 = .ok (.iload_n 1, 1) := by decide +kernel
theorem dX7_putAside_3 : decode cX7_putAside 3 = .ok (.bipush 56, 2) := by decide +kernel
theorem dX7_putAside_5 : decode cX7_putAside 5 = .ok (.if_icmp .ge 21, 3) := by decide +kernel
theorem dX7_putAside_8 : decode cX7_putAside 8 = .ok (.aload_n 0, 1) := by decide +kernel
theorem dX7_putAside_9 : decode cX7_putAside 9 = .ok (.getfield 13, 3) := by decide +kernel
theorem dX7_putAside_12 : decode cX7_putAside 12 = .ok (.iload_n 1, 1) := by decide +kernel
theorem dX7_putAside_13 : decode cX7_putAside 13 = .ok (.aload_n 0, 1) := by decide +kernel
theorem dX7_putAside_14 : decode cX7_putAside 14 = .ok (.getfield 7, 3) := by decide +kernel
theorem dX7_putAside_17 : decode cX7_putAside 17 = .ok (.iload_n 1, 1) := by decide +kernel
theorem dX7_putAside_18 : decode cX7_putAside 18 = .ok (.iaload, 1) := by decide +kernel
theorem dX7_putAside_19 : decode cX7_putAside 19 = .ok (.iastore, 1) := by decide +kernel
theorem dX7_putAside_20 : decode cX7_putAside 20 = .ok (.iinc 1 1, 3) := by decide +kernel
theorem dX7_putAside_23 : decode cX7_putAside 23 = .ok (.goto (-21), 3) := by decide +kernel
theorem dX7_putAside_26 : decode cX7_putAside 26 = .ok (.return_, 1) := by decide +kernel
theorem dX7_takeBack_0 : decode cX7_takeBack 0 = .ok (.iconst 0, 1) := by decide +kernel
theorem dX7_takeBack_1 : decode cX7_takeBack 1 = .ok (.istore_n 1, 1) := by decide +kernel
theorem dX7_takeBack_2 : decode cX7_takeBack 2 = .ok (.iload_n 1, 1) := by decide +kernel
theorem dX7_takeBack_3 : decode cX7_takeBack 3 = .ok (.bipush 56, 2) := by decide +kernel
theorem dX7_takeBack_5 : decode cX7_takeBack 5 = .ok (.if_icmp .ge 21, 3) := by decide +kernel
theorem dX7_takeBack_8 : decode cX7_takeBack 8 = .ok (.aload_n 0, 1) := by decide +kernel
theorem dX7_takeBack_9 : decode cX7_takeBack 9 = .ok (.getfield 7, 3) := by decide +kernel
theorem dX7_takeBack_12 : decode cX7_takeBack 12 = .ok (.iload_n 1, 1) := by decide +kernel
theorem dX7_takeBack_13 : decode cX7_takeBack 13 = .ok (.aload_n 0, 1) := by decide +kernel
theorem dX7_takeBack_14 : decode cX7_takeBack 14 = .ok (.getfield 13, 3) := by decide +kernel
theorem dX7_takeBack_17 : decode cX7_takeBack 17 = .ok (.iload_n 1, 1) := by decide +kernel
theorem dX7_takeBack_18 : decode cX7_takeBack 18 = .ok (.iaload, 1) := by decide +kernel
theorem dX7_takeBack_19 : decode cX7_takeBack 19 = .ok (.iastore, 1) := by decide +kernel
theorem dX7_takeBack_20 : decode cX7_takeBack 20 = .ok (.iinc 1 1, 3) := by decide +kernel
theorem dX7_takeBack_23 : decode cX7_takeBack 23 = .ok (.goto (-21), 3) := by decide +kernel
theorem dX7_takeBack_26 : decode cX7_takeBack 26 = .ok (.return_, 1) := by decide +kernel
theorem dX7_load_0 : decode cX7_load 0 = .ok (.aload_n 0, 1) := by decide +kernel
theorem dX7_load_1 : decode cX7_load 1 = .ok (.getfield 7, 3) := by decide +kernel
theorem dX7_load_4 : decode cX7_load 4 = .ok (.iconst 5, 1) := by decide +kernel
theorem dX7_load_5 : decode cX7_load 5 = .ok (.iaload, 1) := by decide +kernel
theorem dX7_load_6 : decode cX7_load 6 = .ok (.bipush 100, 2) := by decide +kernel
theorem dX7_load_8 : decode cX7_load 8 = .ok (.if_icmp .le 17, 3) := by decide +kernel
theorem dX7_load_11 : decode cX7_load 11 = .ok (.aload_n 0, 1) := by decide +kernel
theorem dX7_load_12 : decode cX7_load 12 = .ok (.getfield 7, 3) := by decide +kernel
theorem dX7_load_15 : decode cX7_load 15 = .ok (.iconst 5, 1) := by decide +kernel
theorem dX7_load_16 : decode cX7_load 16 = .ok (.iaload, 1) := by decide +kernel
theorem dX7_load_17 : decode cX7_load 17 = .ok (.bipush 100, 2) := by decide +kernel
theorem dX7_load_19 : decode cX7_load 19 = .ok (.isub, 1) := by decide +kernel
theorem dX7_load_20 : decode cX7_load 20 = .ok (.iconst 2, 1) := by decide +kernel
theorem dX7_load_21 : decode cX7_load 21 = .ok (.idiv, 1) := by decide +kernel
theorem dX7_load_22 : decode cX7_load 22 = .ok (.goto 4, 3) := by decide +kernel
theorem dX7_load_25 : decode cX7_load 25 = .ok (.iconst 0, 1) := by decide +kernel
theorem dX7_load_26 : decode cX7_load 26 = .ok (.istore_n 1, 1) := by decide +kernel
theorem dX7_load_27 : decode cX7_load 27 = .ok (.iconst 1, 1) := by decide +kernel
theorem dX7_load_28 : decode cX7_load 28 = .ok (.istore_n 2, 1) := by decide +kernel
theorem dX7_load_29 : decode cX7_load 29 = .ok (.iload_n 2, 1) := by decide +kernel
theorem dX7_load_30 : decode cX7_load 30 = .ok (.bipush 6, 2) := by decide +kernel
theorem dX7_load_32 : decode cX7_load 32 = .ok (.if_icmp .gt 21, 3) := by decide +kernel
theorem dX7_load_35 : decode cX7_load 35 = .ok (.iload_n 1, 1) := by decide +kernel
theorem dX7_load_36 : decode cX7_load 36 = .ok (.aload_n 0, 1) := by decide +kernel
theorem dX7_load_37 : decode cX7_load 37 = .ok (.getfield 7, 3) := by decide +kernel
theorem dX7_load_40 : decode cX7_load 40 = .ok (.bipush 18, 2) := by decide +kernel
theorem dX7_load_42 : decode cX7_load 42 = .ok (.iload_n 2, 1) := by decide +kernel
theorem dX7_load_43 : decode cX7_load 43 = .ok (.iadd, 1) := by decide +kernel
theorem dX7_load_44 : decode cX7_load 44 = .ok (.iaload, 1) := by decide +kernel
theorem dX7_load_45 : decode cX7_load 45 = .ok (.iadd, 1) := by decide +kernel
theorem dX7_load_46 : decode cX7_load 46 = .ok (.istore_n 1, 1) := by decide +kernel
theorem dX7_load_47 : decode cX7_load 47 = .ok (.iinc 2 1, 3) := by decide +kernel
theorem dX7_load_50 : decode cX7_load 50 = .ok (.goto (-21), 3) := by decide +kernel
theorem dX7_load_53 : decode cX7_load 53 = .ok (.iload_n 1, 1) := by decide +kernel
theorem dX7_load_54 : decode cX7_load 54 = .ok (.ireturn, 1) := by decide +kernel
theorem dX7_comes_0 : decode cX7_comes 0 = .ok (.sipush 300, 3) := by decide +kernel
theorem dX7_comes_3 : decode cX7_comes 3 = .ok (.aload_n 0, 1) := by decide +kernel
theorem dX7_comes_4 : decode cX7_comes 4 = .ok (.getfield 7, 3) := by decide +kernel
theorem dX7_comes_7 : decode cX7_comes 7 = .ok (.iconst 5, 1) := by decide +kernel
theorem dX7_comes_8 : decode cX7_comes 8 = .ok (.iaload, 1) := by decide +kernel
theorem dX7_comes_9 : decode cX7_comes 9 = .ok (.isub, 1) := by decide +kernel
theorem dX7_comes_10 : decode cX7_comes 10 = .ok (.istore_n 2, 1) := by decide +kernel
theorem dX7_comes_11 : decode cX7_comes 11 = .ok (.aload_n 0, 1) := by decide +kernel
theorem dX7_comes_12 : decode cX7_comes 12 = .ok (.getfield 7, 3) := by decide +kernel
theorem dX7_comes_15 : decode cX7_comes 15 = .ok (.iconst 5, 1) := by decide +kernel
theorem dX7_comes_16 : decode cX7_comes 16 = .ok (.dup2, 1) := by decide +kernel
theorem dX7_comes_17 : decode cX7_comes 17 = .ok (.iaload, 1) := by decide +kernel
theorem dX7_comes_18 : decode cX7_comes 18 = .ok (.iload_n 1, 1) := by decide +kernel
theorem dX7_comes_19 : decode cX7_comes 19 = .ok (.iload_n 2, 1) := by decide +kernel
theorem dX7_comes_20 : decode cX7_comes 20 = .ok (.if_icmp .ge 7, 3) := by decide +kernel
theorem dX7_comes_23 : decode cX7_comes 23 = .ok (.iload_n 1, 1) := by decide +kernel
theorem dX7_comes_24 : decode cX7_comes 24 = .ok (.goto 4, 3) := by decide +kernel
theorem dX7_comes_27 : decode cX7_comes 27 = .ok (.iload_n 2, 1) := by decide +kernel
theorem dX7_comes_28 : decode cX7_comes 28 = .ok (.iadd, 1) := by decide +kernel
theorem dX7_comes_29 : decode cX7_comes 29 = .ok (.iastore, 1) := by decide +kernel
theorem dX7_comes_30 : decode cX7_comes 30 = .ok (.aload_n 0, 1) := by decide +kernel
theorem dX7_comes_31 : decode cX7_comes 31 = .ok (.getfield 7, 3) := by decide +kernel
theorem dX7_comes_34 : decode cX7_comes 34 = .ok (.bipush 7, 2) := by decide +kernel
theorem dX7_comes_36 : decode cX7_comes 36 = .ok (.dup2, 1) := by decide +kernel
theorem dX7_comes_37 : decode cX7_comes 37 = .ok (.iaload, 1) := by decide +kernel
theorem dX7_comes_38 : decode cX7_comes 38 = .ok (.iload_n 1, 1) := by decide +kernel
theorem dX7_comes_39 : decode cX7_comes 39 = .ok (.iload_n 2, 1) := by decide +kernel
theorem dX7_comes_40 : decode cX7_comes 40 = .ok (.if_icmp .ge 7, 3) := by decide +kernel
theorem dX7_comes_43 : decode cX7_comes 43 = .ok (.iconst 0, 1) := by decide +kernel
theorem dX7_comes_44 : decode cX7_comes 44 = .ok (.goto 6, 3) := by decide +kernel
theorem dX7_comes_47 : decode cX7_comes 47 = .ok (.iload_n 1, 1) := by decide +kernel
theorem dX7_comes_48 : decode cX7_comes 48 = .ok (.iload_n 2, 1) := by decide +kernel
theorem dX7_comes_49 : decode cX7_comes 49 = .ok (.isub, 1) := by decide +kernel
theorem dX7_comes_50 : decode cX7_comes 50 = .ok (.iadd, 1) := by decide +kernel
theorem dX7_comes_51 : decode cX7_comes 51 = .ok (.iastore, 1) := by decide +kernel
theorem dX7_comes_52 : decode cX7_comes 52 = .ok (.return_, 1) := by decide +kernel
theorem dX7_moves_0 : decode cX7_moves 0 = .ok (.aload_n 0, 1) := by decide +kernel
theorem dX7_moves_1 : decode cX7_moves 1 = .ok (.getfield 7, 3) := by decide +kernel
theorem dX7_moves_4 : decode cX7_moves 4 = .ok (.bipush 29, 2) := by decide +kernel
theorem dX7_moves_6 : decode cX7_moves 6 = .ok (.iaload, 1) := by decide +kernel
theorem dX7_moves_7 : decode cX7_moves 7 = .ok (.istore_n 1, 1) := by decide +kernel
theorem dX7_moves_8 : decode cX7_moves 8 = .ok (.bipush 11, 2) := by decide +kernel
theorem dX7_moves_10 : decode cX7_moves 10 = .ok (.istore_n 2, 1) := by decide +kernel
theorem dX7_moves_11 : decode cX7_moves 11 = .ok (.iload_n 2, 1) := by decide +kernel
theorem dX7_moves_12 : decode cX7_moves 12 = .ok (.ifCond .le 29, 3) := by decide +kernel
theorem dX7_moves_15 : decode cX7_moves 15 = .ok (.aload_n 0, 1) := by decide +kernel
theorem dX7_moves_16 : decode cX7_moves 16 = .ok (.getfield 7, 3) := by decide +kernel
theorem dX7_moves_19 : decode cX7_moves 19 = .ok (.bipush 18, 2) := by decide +kernel
theorem dX7_moves_21 : decode cX7_moves 21 = .ok (.iload_n 2, 1) := by decide +kernel
theorem dX7_moves_22 : decode cX7_moves 22 = .ok (.iadd, 1) := by decide +kernel
theorem dX7_moves_23 : decode cX7_moves 23 = .ok (.aload_n 0, 1) := by decide +kernel
theorem dX7_moves_24 : decode cX7_moves 24 = .ok (.getfield 7, 3) := by decide +kernel
theorem dX7_moves_27 : decode cX7_moves 27 = .ok (.bipush 18, 2) := by decide +kernel
theorem dX7_moves_29 : decode cX7_moves 29 = .ok (.iload_n 2, 1) := by decide +kernel
theorem dX7_moves_30 : decode cX7_moves 30 = .ok (.iadd, 1) := by decide +kernel
theorem dX7_moves_31 : decode cX7_moves 31 = .ok (.iconst 1, 1) := by decide +kernel
theorem dX7_moves_32 : decode cX7_moves 32 = .ok (.isub, 1) := by decide +kernel
theorem dX7_moves_33 : decode cX7_moves 33 = .ok (.iaload, 1) := by decide +kernel
theorem dX7_moves_34 : decode cX7_moves 34 = .ok (.iastore, 1) := by decide +kernel
theorem dX7_moves_35 : decode cX7_moves 35 = .ok (.iinc 2 (-1), 3) := by decide +kernel
theorem dX7_moves_38 : decode cX7_moves 38 = .ok (.goto (-27), 3) := by decide +kernel
theorem dX7_moves_41 : decode cX7_moves 41 = .ok (.aload_n 0, 1) := by decide +kernel
theorem dX7_moves_42 : decode cX7_moves 42 = .ok (.getfield 7, 3) := by decide +kernel
theorem dX7_moves_45 : decode cX7_moves 45 = .ok (.bipush 18, 2) := by decide +kernel
theorem dX7_moves_47 : decode cX7_moves 47 = .ok (.iload_n 1, 1) := by decide +kernel
theorem dX7_moves_48 : decode cX7_moves 48 = .ok (.iastore, 1) := by decide +kernel
theorem dX7_moves_49 : decode cX7_moves 49 = .ok (.aload_n 0, 1) := by decide +kernel
theorem dX7_moves_50 : decode cX7_moves 50 = .ok (.getfield 7, 3) := by decide +kernel
theorem dX7_moves_53 : decode cX7_moves 53 = .ok (.bipush 24, 2) := by decide +kernel
theorem dX7_moves_55 : decode cX7_moves 55 = .ok (.iaload, 1) := by decide +kernel
theorem dX7_moves_56 : decode cX7_moves 56 = .ok (.istore_n 2, 1) := by decide +kernel
theorem dX7_moves_57 : decode cX7_moves 57 = .ok (.aload_n 0, 1) := by decide +kernel
theorem dX7_moves_58 : decode cX7_moves 58 = .ok (.getfield 7, 3) := by decide +kernel
theorem dX7_moves_61 : decode cX7_moves 61 = .ok (.bipush 12, 2) := by decide +kernel
theorem dX7_moves_63 : decode cX7_moves 63 = .ok (.iaload, 1) := by decide +kernel
theorem dX7_moves_64 : decode cX7_moves 64 = .ok (.iconst 2, 1) := by decide +kernel
theorem dX7_moves_65 : decode cX7_moves 65 = .ok (.if_icmp .lt 7, 3) := by decide +kernel
theorem dX7_moves_68 : decode cX7_moves 68 = .ok (.iconst 0, 1) := by decide +kernel
theorem dX7_moves_69 : decode cX7_moves 69 = .ok (.goto 6, 3) := by decide +kernel
theorem dX7_moves_72 : decode cX7_moves 72 = .ok (.iload_n 2, 1) := by decide +kernel
theorem dX7_moves_73 : decode cX7_moves 73 = .ok (.iconst 2, 1) := by decide +kernel
theorem dX7_moves_74 : decode cX7_moves 74 = .ok (.idiv, 1) := by decide +kernel
theorem dX7_moves_75 : decode cX7_moves 75 = .ok (.istore_n 3, 1) := by decide +kernel
theorem dX7_moves_76 : decode cX7_moves 76 = .ok (.aload_n 0, 1) := by decide +kernel
theorem dX7_moves_77 : decode cX7_moves 77 = .ok (.getfield 7, 3) := by decide +kernel
theorem dX7_moves_80 : decode cX7_moves 80 = .ok (.bipush 24, 2) := by decide +kernel
theorem dX7_moves_82 : decode cX7_moves 82 = .ok (.iconst 0, 1) := by decide +kernel
theorem dX7_moves_83 : decode cX7_moves 83 = .ok (.iastore, 1) := by decide +kernel
theorem dX7_moves_84 : decode cX7_moves 84 = .ok (.aload_n 0, 1) := by decide +kernel
theorem dX7_moves_85 : decode cX7_moves 85 = .ok (.getfield 7, 3) := by decide +kernel
theorem dX7_moves_88 : decode cX7_moves 88 = .ok (.bipush 6, 2) := by decide +kernel
theorem dX7_moves_90 : decode cX7_moves 90 = .ok (.dup2, 1) := by decide +kernel
theorem dX7_moves_91 : decode cX7_moves 91 = .ok (.iaload, 1) := by decide +kernel
theorem dX7_moves_92 : decode cX7_moves 92 = .ok (.iload_n 2, 1) := by decide +kernel
theorem dX7_moves_93 : decode cX7_moves 93 = .ok (.iload_n 3, 1) := by decide +kernel
theorem dX7_moves_94 : decode cX7_moves 94 = .ok (.isub, 1) := by decide +kernel
theorem dX7_moves_95 : decode cX7_moves 95 = .ok (.iadd, 1) := by decide +kernel
theorem dX7_moves_96 : decode cX7_moves 96 = .ok (.iastore, 1) := by decide +kernel
theorem dX7_moves_97 : decode cX7_moves 97 = .ok (.aload_n 0, 1) := by decide +kernel
theorem dX7_moves_98 : decode cX7_moves 98 = .ok (.getfield 7, 3) := by decide +kernel
theorem dX7_moves_101 : decode cX7_moves 101 = .ok (.bipush 10, 2) := by decide +kernel
theorem dX7_moves_103 : decode cX7_moves 103 = .ok (.dup2, 1) := by decide +kernel
theorem dX7_moves_104 : decode cX7_moves 104 = .ok (.iaload, 1) := by decide +kernel
theorem dX7_moves_105 : decode cX7_moves 105 = .ok (.iload_n 3, 1) := by decide +kernel
theorem dX7_moves_106 : decode cX7_moves 106 = .ok (.iadd, 1) := by decide +kernel
theorem dX7_moves_107 : decode cX7_moves 107 = .ok (.iastore, 1) := by decide +kernel
theorem dX7_moves_108 : decode cX7_moves 108 = .ok (.aload_n 0, 1) := by decide +kernel
theorem dX7_moves_109 : decode cX7_moves 109 = .ok (.iload_n 3, 1) := by decide +kernel
theorem dX7_moves_110 : decode cX7_moves 110 = .ok (.invokevirtual 41, 3) := by decide +kernel
theorem dX7_moves_113 : decode cX7_moves 113 = .ok (.aload_n 0, 1) := by decide +kernel
theorem dX7_moves_114 : decode cX7_moves 114 = .ok (.getfield 7, 3) := by decide +kernel
theorem dX7_moves_117 : decode cX7_moves 117 = .ok (.iconst 3, 1) := by decide +kernel
theorem dX7_moves_118 : decode cX7_moves 118 = .ok (.iaload, 1) := by decide +kernel
theorem dX7_moves_119 : decode cX7_moves 119 = .ok (.aload_n 0, 1) := by decide +kernel
theorem dX7_moves_120 : decode cX7_moves 120 = .ok (.getfield 7, 3) := by decide +kernel
theorem dX7_moves_123 : decode cX7_moves 123 = .ok (.bipush 18, 2) := by decide +kernel
theorem dX7_moves_125 : decode cX7_moves 125 = .ok (.iaload, 1) := by decide +kernel
theorem dX7_moves_126 : decode cX7_moves 126 = .ok (.isub, 1) := by decide +kernel
theorem dX7_moves_127 : decode cX7_moves 127 = .ok (.istore 4, 2) := by decide +kernel
theorem dX7_moves_129 : decode cX7_moves 129 = .ok (.iload 4, 2) := by decide +kernel
theorem dX7_moves_131 : decode cX7_moves 131 = .ok (.ifCond .ge 7, 3) := by decide +kernel
theorem dX7_moves_134 : decode cX7_moves 134 = .ok (.iconst 0, 1) := by decide +kernel
theorem dX7_moves_135 : decode cX7_moves 135 = .ok (.goto 25, 3) := by decide +kernel
theorem dX7_moves_138 : decode cX7_moves 138 = .ok (.iload 4, 2) := by decide +kernel
theorem dX7_moves_140 : decode cX7_moves 140 = .ok (.aload_n 0, 1) := by decide +kernel
theorem dX7_moves_141 : decode cX7_moves 141 = .ok (.getfield 7, 3) := by decide +kernel
theorem dX7_moves_144 : decode cX7_moves 144 = .ok (.iconst 5, 1) := by decide +kernel
theorem dX7_moves_145 : decode cX7_moves 145 = .ok (.iaload, 1) := by decide +kernel
theorem dX7_moves_146 : decode cX7_moves 146 = .ok (.if_icmp .ge 8, 3) := by decide +kernel
theorem dX7_moves_149 : decode cX7_moves 149 = .ok (.iload 4, 2) := by decide +kernel
theorem dX7_moves_151 : decode cX7_moves 151 = .ok (.goto 9, 3) := by decide +kernel
theorem dX7_moves_154 : decode cX7_moves 154 = .ok (.aload_n 0, 1) := by decide +kernel
theorem dX7_moves_155 : decode cX7_moves 155 = .ok (.getfield 7, 3) := by decide +kernel
theorem dX7_moves_158 : decode cX7_moves 158 = .ok (.iconst 5, 1) := by decide +kernel
theorem dX7_moves_159 : decode cX7_moves 159 = .ok (.iaload, 1) := by decide +kernel
theorem dX7_moves_160 : decode cX7_moves 160 = .ok (.istore 5, 2) := by decide +kernel
theorem dX7_moves_162 : decode cX7_moves 162 = .ok (.aload_n 0, 1) := by decide +kernel
theorem dX7_moves_163 : decode cX7_moves 163 = .ok (.getfield 7, 3) := by decide +kernel
theorem dX7_moves_166 : decode cX7_moves 166 = .ok (.bipush 18, 2) := by decide +kernel
theorem dX7_moves_168 : decode cX7_moves 168 = .ok (.dup2, 1) := by decide +kernel
theorem dX7_moves_169 : decode cX7_moves 169 = .ok (.iaload, 1) := by decide +kernel
theorem dX7_moves_170 : decode cX7_moves 170 = .ok (.iload 5, 2) := by decide +kernel
theorem dX7_moves_172 : decode cX7_moves 172 = .ok (.iadd, 1) := by decide +kernel
theorem dX7_moves_173 : decode cX7_moves 173 = .ok (.iastore, 1) := by decide +kernel
theorem dX7_moves_174 : decode cX7_moves 174 = .ok (.aload_n 0, 1) := by decide +kernel
theorem dX7_moves_175 : decode cX7_moves 175 = .ok (.getfield 7, 3) := by decide +kernel
theorem dX7_moves_178 : decode cX7_moves 178 = .ok (.iconst 5, 1) := by decide +kernel
theorem dX7_moves_179 : decode cX7_moves 179 = .ok (.dup2, 1) := by decide +kernel
theorem dX7_moves_180 : decode cX7_moves 180 = .ok (.iaload, 1) := by decide +kernel
theorem dX7_moves_181 : decode cX7_moves 181 = .ok (.iload 5, 2) := by decide +kernel
theorem dX7_moves_183 : decode cX7_moves 183 = .ok (.isub, 1) := by decide +kernel
theorem dX7_moves_184 : decode cX7_moves 184 = .ok (.iastore, 1) := by decide +kernel
theorem dX7_moves_185 : decode cX7_moves 185 = .ok (.return_, 1) := by decide +kernel
theorem dX7_beyond_0 : decode cX7_beyond 0 = .ok (.aload_n 0, 1) := by decide +kernel
theorem dX7_beyond_1 : decode cX7_beyond 1 = .ok (.getfield 7, 3) := by decide +kernel
theorem dX7_beyond_4 : decode cX7_beyond 4 = .ok (.iconst 4, 1) := by decide +kernel
theorem dX7_beyond_5 : decode cX7_beyond 5 = .ok (.iaload, 1) := by decide +kernel
theorem dX7_beyond_6 : decode cX7_beyond 6 = .ok (.ifCond .ge 13, 3) := by decide +kernel
theorem dX7_beyond_9 : decode cX7_beyond 9 = .ok (.aload_n 0, 1) := by decide +kernel
theorem dX7_beyond_10 : decode cX7_beyond 10 = .ok (.getfield 7, 3) := by decide +kernel
theorem dX7_beyond_13 : decode cX7_beyond 13 = .ok (.iconst 4, 1) := by decide +kernel
theorem dX7_beyond_14 : decode cX7_beyond 14 = .ok (.iaload, 1) := by decide +kernel
theorem dX7_beyond_15 : decode cX7_beyond 15 = .ok (.ineg, 1) := by decide +kernel
theorem dX7_beyond_16 : decode cX7_beyond 16 = .ok (.goto 9, 3) := by decide +kernel
theorem dX7_beyond_19 : decode cX7_beyond 19 = .ok (.aload_n 0, 1) := by decide +kernel
theorem dX7_beyond_20 : decode cX7_beyond 20 = .ok (.getfield 7, 3) := by decide +kernel
theorem dX7_beyond_23 : decode cX7_beyond 23 = .ok (.iconst 4, 1) := by decide +kernel
theorem dX7_beyond_24 : decode cX7_beyond 24 = .ok (.iaload, 1) := by decide +kernel
theorem dX7_beyond_25 : decode cX7_beyond 25 = .ok (.istore_n 1, 1) := by decide +kernel
theorem dX7_beyond_26 : decode cX7_beyond 26 = .ok (.iload_n 1, 1) := by decide +kernel
theorem dX7_beyond_27 : decode cX7_beyond 27 = .ok (.iconst 3, 1) := by decide +kernel
theorem dX7_beyond_28 : decode cX7_beyond 28 = .ok (.if_icmp .le 9, 3) := by decide +kernel
theorem dX7_beyond_31 : decode cX7_beyond 31 = .ok (.iload_n 1, 1) := by decide +kernel
theorem dX7_beyond_32 : decode cX7_beyond 32 = .ok (.iconst 3, 1) := by decide +kernel
theorem dX7_beyond_33 : decode cX7_beyond 33 = .ok (.isub, 1) := by decide +kernel
theorem dX7_beyond_34 : decode cX7_beyond 34 = .ok (.goto 4, 3) := by decide +kernel
theorem dX7_beyond_37 : decode cX7_beyond 37 = .ok (.iconst 0, 1) := by decide +kernel
theorem dX7_beyond_38 : decode cX7_beyond 38 = .ok (.ireturn, 1) := by decide +kernel
theorem dX7_seesTooMuch_0 : decode cX7_seesTooMuch 0 = .ok (.iload_n 1, 1) := by decide +kernel
theorem dX7_seesTooMuch_1 : decode cX7_seesTooMuch 1 = .ok (.ifCond .ne 23, 3) := by decide +kernel
theorem dX7_seesTooMuch_4 : decode cX7_seesTooMuch 4 = .ok (.aload_n 0, 1) := by decide +kernel
theorem dX7_seesTooMuch_5 : decode cX7_seesTooMuch 5 = .ok (.getfield 7, 3) := by decide +kernel
theorem dX7_seesTooMuch_8 : decode cX7_seesTooMuch 8 = .ok (.bipush 11, 2) := by decide +kernel
theorem dX7_seesTooMuch_10 : decode cX7_seesTooMuch 10 = .ok (.iaload, 1) := by decide +kernel
theorem dX7_seesTooMuch_11 : decode cX7_seesTooMuch 11 = .ok (.bipush 20, 2) := by decide +kernel
theorem dX7_seesTooMuch_13 : decode cX7_seesTooMuch 13 = .ok (.if_icmp .le 7, 3) := by decide +kernel
theorem dX7_seesTooMuch_16 : decode cX7_seesTooMuch 16 = .ok (.iconst 1, 1) := by decide +kernel
theorem dX7_seesTooMuch_17 : decode cX7_seesTooMuch 17 = .ok (.goto 49, 3) := by decide +kernel
theorem dX7_seesTooMuch_20 : decode cX7_seesTooMuch 20 = .ok (.iconst 0, 1) := by decide +kernel
theorem dX7_seesTooMuch_21 : decode cX7_seesTooMuch 21 = .ok (.goto 45, 3) := by decide +kernel
theorem dX7_seesTooMuch_24 : decode cX7_seesTooMuch 24 = .ok (.iload_n 1, 1) := by decide +kernel
theorem dX7_seesTooMuch_25 : decode cX7_seesTooMuch 25 = .ok (.iconst 1, 1) := by decide +kernel
theorem dX7_seesTooMuch_26 : decode cX7_seesTooMuch 26 = .ok (.if_icmp .ne 23, 3) := by decide +kernel
theorem dX7_seesTooMuch_29 : decode cX7_seesTooMuch 29 = .ok (.aload_n 0, 1) := by decide +kernel
theorem dX7_seesTooMuch_30 : decode cX7_seesTooMuch 30 = .ok (.getfield 7, 3) := by decide +kernel
theorem dX7_seesTooMuch_33 : decode cX7_seesTooMuch 33 = .ok (.iconst 5, 1) := by decide +kernel
theorem dX7_seesTooMuch_34 : decode cX7_seesTooMuch 34 = .ok (.iaload, 1) := by decide +kernel
theorem dX7_seesTooMuch_35 : decode cX7_seesTooMuch 35 = .ok (.sipush 250, 3) := by decide +kernel
theorem dX7_seesTooMuch_38 : decode cX7_seesTooMuch 38 = .ok (.if_icmp .lt 7, 3) := by decide +kernel
theorem dX7_seesTooMuch_41 : decode cX7_seesTooMuch 41 = .ok (.iconst 1, 1) := by decide +kernel
theorem dX7_seesTooMuch_42 : decode cX7_seesTooMuch 42 = .ok (.goto 24, 3) := by decide +kernel
theorem dX7_seesTooMuch_45 : decode cX7_seesTooMuch 45 = .ok (.iconst 0, 1) := by decide +kernel
theorem dX7_seesTooMuch_46 : decode cX7_seesTooMuch 46 = .ok (.goto 20, 3) := by decide +kernel
theorem dX7_seesTooMuch_49 : decode cX7_seesTooMuch 49 = .ok (.aload_n 0, 1) := by decide +kernel
theorem dX7_seesTooMuch_50 : decode cX7_seesTooMuch 50 = .ok (.getfield 7, 3) := by decide +kernel
theorem dX7_seesTooMuch_53 : decode cX7_seesTooMuch 53 = .ok (.bipush 13, 2) := by decide +kernel
theorem dX7_seesTooMuch_55 : decode cX7_seesTooMuch 55 = .ok (.iaload, 1) := by decide +kernel
theorem dX7_seesTooMuch_56 : decode cX7_seesTooMuch 56 = .ok (.bipush 100, 2) := by decide +kernel
theorem dX7_seesTooMuch_58 : decode cX7_seesTooMuch 58 = .ok (.if_icmp .lt 7, 3) := by decide +kernel
theorem dX7_seesTooMuch_61 : decode cX7_seesTooMuch 61 = .ok (.iconst 1, 1) := by decide +kernel
theorem dX7_seesTooMuch_62 : decode cX7_seesTooMuch 62 = .ok (.goto 4, 3) := by decide +kernel
theorem dX7_seesTooMuch_65 : decode cX7_seesTooMuch 65 = .ok (.iconst 0, 1) := by decide +kernel
theorem dX7_seesTooMuch_66 : decode cX7_seesTooMuch 66 = .ok (.ireturn, 1) := by decide +kernel
theorem dX7_trips_0 : decode cX7_trips 0 = .ok (.aload_n 0, 1) := by decide +kernel
theorem dX7_trips_1 : decode cX7_trips 1 = .ok (.getfield 7, 3) := by decide +kernel
theorem dX7_trips_4 : decode cX7_trips 4 = .ok (.bipush 14, 2) := by decide +kernel
theorem dX7_trips_6 : decode cX7_trips 6 = .ok (.iconst 0, 1) := by decide +kernel
theorem dX7_trips_7 : decode cX7_trips 7 = .ok (.iastore, 1) := by decide +kernel
theorem dX7_trips_8 : decode cX7_trips 8 = .ok (.aload_n 0, 1) := by decide +kernel
theorem dX7_trips_9 : decode cX7_trips 9 = .ok (.getfield 7, 3) := by decide +kernel
theorem dX7_trips_12 : decode cX7_trips 12 = .ok (.bipush 15, 2) := by decide +kernel
theorem dX7_trips_14 : decode cX7_trips 14 = .ok (.iconst 0, 1) := by decide +kernel
theorem dX7_trips_15 : decode cX7_trips 15 = .ok (.iastore, 1) := by decide +kernel
theorem dX7_trips_16 : decode cX7_trips 16 = .ok (.aload_n 0, 1) := by decide +kernel
theorem dX7_trips_17 : decode cX7_trips 17 = .ok (.getfield 7, 3) := by decide +kernel
theorem dX7_trips_20 : decode cX7_trips 20 = .ok (.bipush 16, 2) := by decide +kernel
theorem dX7_trips_22 : decode cX7_trips 22 = .ok (.iload_n 1, 1) := by decide +kernel
theorem dX7_trips_23 : decode cX7_trips 23 = .ok (.iconst 1, 1) := by decide +kernel
theorem dX7_trips_24 : decode cX7_trips 24 = .ok (.iadd, 1) := by decide +kernel
theorem dX7_trips_25 : decode cX7_trips 25 = .ok (.iastore, 1) := by decide +kernel
theorem dX7_trips_26 : decode cX7_trips 26 = .ok (.aload_n 0, 1) := by decide +kernel
theorem dX7_trips_27 : decode cX7_trips 27 = .ok (.getfield 7, 3) := by decide +kernel
theorem dX7_trips_30 : decode cX7_trips 30 = .ok (.bipush 33, 2) := by decide +kernel
theorem dX7_trips_32 : decode cX7_trips 32 = .ok (.iload_n 1, 1) := by decide +kernel
theorem dX7_trips_33 : decode cX7_trips 33 = .ok (.iadd, 1) := by decide +kernel
theorem dX7_trips_34 : decode cX7_trips 34 = .ok (.dup2, 1) := by decide +kernel
theorem dX7_trips_35 : decode cX7_trips 35 = .ok (.iaload, 1) := by decide +kernel
theorem dX7_trips_36 : decode cX7_trips 36 = .ok (.iconst 1, 1) := by decide +kernel
theorem dX7_trips_37 : decode cX7_trips 37 = .ok (.iadd, 1) := by decide +kernel
theorem dX7_trips_38 : decode cX7_trips 38 = .ok (.iastore, 1) := by decide +kernel
theorem dX7_trips_39 : decode cX7_trips 39 = .ok (.bipush 17, 2) := by decide +kernel
theorem dX7_trips_41 : decode cX7_trips 41 = .ok (.istore_n 2, 1) := by decide +kernel
theorem dX7_trips_42 : decode cX7_trips 42 = .ok (.iload_n 2, 1) := by decide +kernel
theorem dX7_trips_43 : decode cX7_trips 43 = .ok (.iconst 3, 1) := by decide +kernel
theorem dX7_trips_44 : decode cX7_trips 44 = .ok (.if_icmp .lt 29, 3) := by decide +kernel
theorem dX7_trips_47 : decode cX7_trips 47 = .ok (.aload_n 0, 1) := by decide +kernel
theorem dX7_trips_48 : decode cX7_trips 48 = .ok (.getfield 7, 3) := by decide +kernel
theorem dX7_trips_51 : decode cX7_trips 51 = .ok (.bipush 37, 2) := by decide +kernel
theorem dX7_trips_53 : decode cX7_trips 53 = .ok (.iload_n 2, 1) := by decide +kernel
theorem dX7_trips_54 : decode cX7_trips 54 = .ok (.iadd, 1) := by decide +kernel
theorem dX7_trips_55 : decode cX7_trips 55 = .ok (.aload_n 0, 1) := by decide +kernel
theorem dX7_trips_56 : decode cX7_trips 56 = .ok (.getfield 7, 3) := by decide +kernel
theorem dX7_trips_59 : decode cX7_trips 59 = .ok (.bipush 37, 2) := by decide +kernel
theorem dX7_trips_61 : decode cX7_trips 61 = .ok (.iload_n 2, 1) := by decide +kernel
theorem dX7_trips_62 : decode cX7_trips 62 = .ok (.iadd, 1) := by decide +kernel
theorem dX7_trips_63 : decode cX7_trips 63 = .ok (.iconst 3, 1) := by decide +kernel
theorem dX7_trips_64 : decode cX7_trips 64 = .ok (.isub, 1) := by decide +kernel
theorem dX7_trips_65 : decode cX7_trips 65 = .ok (.iaload, 1) := by decide +kernel
theorem dX7_trips_66 : decode cX7_trips 66 = .ok (.iastore, 1) := by decide +kernel
theorem dX7_trips_67 : decode cX7_trips 67 = .ok (.iinc 2 (-1), 3) := by decide +kernel
theorem dX7_trips_70 : decode cX7_trips 70 = .ok (.goto (-28), 3) := by decide +kernel
theorem dX7_trips_73 : decode cX7_trips 73 = .ok (.aload_n 0, 1) := by decide +kernel
theorem dX7_trips_74 : decode cX7_trips 74 = .ok (.getfield 7, 3) := by decide +kernel
theorem dX7_trips_77 : decode cX7_trips 77 = .ok (.bipush 37, 2) := by decide +kernel
theorem dX7_trips_79 : decode cX7_trips 79 = .ok (.aload_n 0, 1) := by decide +kernel
theorem dX7_trips_80 : decode cX7_trips 80 = .ok (.getfield 7, 3) := by decide +kernel
theorem dX7_trips_83 : decode cX7_trips 83 = .ok (.bipush 17, 2) := by decide +kernel
theorem dX7_trips_85 : decode cX7_trips 85 = .ok (.iaload, 1) := by decide +kernel
theorem dX7_trips_86 : decode cX7_trips 86 = .ok (.iconst 1, 1) := by decide +kernel
theorem dX7_trips_87 : decode cX7_trips 87 = .ok (.iadd, 1) := by decide +kernel
theorem dX7_trips_88 : decode cX7_trips 88 = .ok (.iastore, 1) := by decide +kernel
theorem dX7_trips_89 : decode cX7_trips 89 = .ok (.aload_n 0, 1) := by decide +kernel
theorem dX7_trips_90 : decode cX7_trips 90 = .ok (.getfield 7, 3) := by decide +kernel
theorem dX7_trips_93 : decode cX7_trips 93 = .ok (.bipush 38, 2) := by decide +kernel
theorem dX7_trips_95 : decode cX7_trips 95 = .ok (.iload_n 1, 1) := by decide +kernel
theorem dX7_trips_96 : decode cX7_trips 96 = .ok (.iastore, 1) := by decide +kernel
theorem dX7_trips_97 : decode cX7_trips 97 = .ok (.aload_n 0, 1) := by decide +kernel
theorem dX7_trips_98 : decode cX7_trips 98 = .ok (.getfield 7, 3) := by decide +kernel
theorem dX7_trips_101 : decode cX7_trips 101 = .ok (.bipush 39, 2) := by decide +kernel
theorem dX7_trips_103 : decode cX7_trips 103 = .ok (.aload_n 0, 1) := by decide +kernel
theorem dX7_trips_104 : decode cX7_trips 104 = .ok (.invokevirtual 45, 3) := by decide +kernel
theorem dX7_trips_107 : decode cX7_trips 107 = .ok (.iastore, 1) := by decide +kernel
theorem dX7_trips_108 : decode cX7_trips 108 = .ok (.aload_n 0, 1) := by decide +kernel
theorem dX7_trips_109 : decode cX7_trips 109 = .ok (.getfield 7, 3) := by decide +kernel
theorem dX7_trips_112 : decode cX7_trips 112 = .ok (.bipush 36, 2) := by decide +kernel
theorem dX7_trips_114 : decode cX7_trips 114 = .ok (.dup2, 1) := by decide +kernel
theorem dX7_trips_115 : decode cX7_trips 115 = .ok (.iaload, 1) := by decide +kernel
theorem dX7_trips_116 : decode cX7_trips 116 = .ok (.aload_n 0, 1) := by decide +kernel
theorem dX7_trips_117 : decode cX7_trips 117 = .ok (.getfield 7, 3) := by decide +kernel
theorem dX7_trips_120 : decode cX7_trips 120 = .ok (.bipush 36, 2) := by decide +kernel
theorem dX7_trips_122 : decode cX7_trips 122 = .ok (.iaload, 1) := by decide +kernel
theorem dX7_trips_123 : decode cX7_trips 123 = .ok (.bipush 6, 2) := by decide +kernel
theorem dX7_trips_125 : decode cX7_trips 125 = .ok (.if_icmp .ge 7, 3) := by decide +kernel
theorem dX7_trips_128 : decode cX7_trips 128 = .ok (.iconst 1, 1) := by decide +kernel
theorem dX7_trips_129 : decode cX7_trips 129 = .ok (.goto 4, 3) := by decide +kernel
theorem dX7_trips_132 : decode cX7_trips 132 = .ok (.iconst 0, 1) := by decide +kernel
theorem dX7_trips_133 : decode cX7_trips 133 = .ok (.iadd, 1) := by decide +kernel
theorem dX7_trips_134 : decode cX7_trips 134 = .ok (.iastore, 1) := by decide +kernel
theorem dX7_trips_135 : decode cX7_trips 135 = .ok (.return_, 1) := by decide +kernel
theorem dX7_watches_0 : decode cX7_watches 0 = .ok (.iconst 0, 1) := by decide +kernel
theorem dX7_watches_1 : decode cX7_watches 1 = .ok (.istore_n 1, 1) := by decide +kernel
theorem dX7_watches_2 : decode cX7_watches 2 = .ok (.iload_n 1, 1) := by decide +kernel
theorem dX7_watches_3 : decode cX7_watches 3 = .ok (.iconst 3, 1) := by decide +kernel
theorem dX7_watches_4 : decode cX7_watches 4 = .ok (.if_icmp .ge 72, 3) := by decide +kernel
theorem dX7_watches_7 : decode cX7_watches 7 = .ok (.aload_n 0, 1) := by decide +kernel
theorem dX7_watches_8 : decode cX7_watches 8 = .ok (.getfield 7, 3) := by decide +kernel
theorem dX7_watches_11 : decode cX7_watches 11 = .ok (.bipush 30, 2) := by decide +kernel
theorem dX7_watches_13 : decode cX7_watches 13 = .ok (.iload_n 1, 1) := by decide +kernel
theorem dX7_watches_14 : decode cX7_watches 14 = .ok (.iadd, 1) := by decide +kernel
theorem dX7_watches_15 : decode cX7_watches 15 = .ok (.aload_n 0, 1) := by decide +kernel
theorem dX7_watches_16 : decode cX7_watches 16 = .ok (.iload_n 1, 1) := by decide +kernel
theorem dX7_watches_17 : decode cX7_watches 17 = .ok (.invokevirtual 49, 3) := by decide +kernel
theorem dX7_watches_20 : decode cX7_watches 20 = .ok (.ifCond .eq 17, 3) := by decide +kernel
theorem dX7_watches_23 : decode cX7_watches 23 = .ok (.aload_n 0, 1) := by decide +kernel
theorem dX7_watches_24 : decode cX7_watches 24 = .ok (.getfield 7, 3) := by decide +kernel
theorem dX7_watches_27 : decode cX7_watches 27 = .ok (.bipush 30, 2) := by decide +kernel
theorem dX7_watches_29 : decode cX7_watches 29 = .ok (.iload_n 1, 1) := by decide +kernel
theorem dX7_watches_30 : decode cX7_watches 30 = .ok (.iadd, 1) := by decide +kernel
theorem dX7_watches_31 : decode cX7_watches 31 = .ok (.iaload, 1) := by decide +kernel
theorem dX7_watches_32 : decode cX7_watches 32 = .ok (.iconst 1, 1) := by decide +kernel
theorem dX7_watches_33 : decode cX7_watches 33 = .ok (.iadd, 1) := by decide +kernel
theorem dX7_watches_34 : decode cX7_watches 34 = .ok (.goto 4, 3) := by decide +kernel
theorem dX7_watches_37 : decode cX7_watches 37 = .ok (.iconst 0, 1) := by decide +kernel
theorem dX7_watches_38 : decode cX7_watches 38 = .ok (.iastore, 1) := by decide +kernel
theorem dX7_watches_39 : decode cX7_watches 39 = .ok (.aload_n 0, 1) := by decide +kernel
theorem dX7_watches_40 : decode cX7_watches 40 = .ok (.getfield 7, 3) := by decide +kernel
theorem dX7_watches_43 : decode cX7_watches 43 = .ok (.bipush 30, 2) := by decide +kernel
theorem dX7_watches_45 : decode cX7_watches 45 = .ok (.iload_n 1, 1) := by decide +kernel
theorem dX7_watches_46 : decode cX7_watches 46 = .ok (.iadd, 1) := by decide +kernel
theorem dX7_watches_47 : decode cX7_watches 47 = .ok (.iaload, 1) := by decide +kernel
theorem dX7_watches_48 : decode cX7_watches 48 = .ok (.iconst 3, 1) := by decide +kernel
theorem dX7_watches_49 : decode cX7_watches 49 = .ok (.iload_n 1, 1) := by decide +kernel
theorem dX7_watches_50 : decode cX7_watches 50 = .ok (.isub, 1) := by decide +kernel
theorem dX7_watches_51 : decode cX7_watches 51 = .ok (.if_icmp .lt 19, 3) := by decide +kernel
theorem dX7_watches_54 : decode cX7_watches 54 = .ok (.aload_n 0, 1) := by decide +kernel
theorem dX7_watches_55 : decode cX7_watches 55 = .ok (.getfield 7, 3) := by decide +kernel
theorem dX7_watches_58 : decode cX7_watches 58 = .ok (.bipush 14, 2) := by decide +kernel
theorem dX7_watches_60 : decode cX7_watches 60 = .ok (.iaload, 1) := by decide +kernel
theorem dX7_watches_61 : decode cX7_watches 61 = .ok (.iconst 1, 1) := by decide +kernel
theorem dX7_watches_62 : decode cX7_watches 62 = .ok (.if_icmp .ne 8, 3) := by decide +kernel
theorem dX7_watches_65 : decode cX7_watches 65 = .ok (.aload_n 0, 1) := by decide +kernel
theorem dX7_watches_66 : decode cX7_watches 66 = .ok (.iload_n 1, 1) := by decide +kernel
theorem dX7_watches_67 : decode cX7_watches 67 = .ok (.invokevirtual 53, 3) := by decide +kernel
theorem dX7_watches_70 : decode cX7_watches 70 = .ok (.iinc 1 1, 3) := by decide +kernel
theorem dX7_watches_73 : decode cX7_watches 73 = .ok (.goto (-71), 3) := by decide +kernel
theorem dX7_watches_76 : decode cX7_watches 76 = .ok (.return_, 1) := by decide +kernel
theorem dX7_tick_0 : decode cX7_tick 0 = .ok (.aload_n 0, 1) := by decide +kernel
theorem dX7_tick_1 : decode cX7_tick 1 = .ok (.getfield 7, 3) := by decide +kernel
theorem dX7_tick_4 : decode cX7_tick 4 = .ok (.bipush 15, 2) := by decide +kernel
theorem dX7_tick_6 : decode cX7_tick 6 = .ok (.iaload, 1) := by decide +kernel
theorem dX7_tick_7 : decode cX7_tick 7 = .ok (.iconst 1, 1) := by decide +kernel
theorem dX7_tick_8 : decode cX7_tick 8 = .ok (.if_icmp .ne 29, 3) := by decide +kernel
theorem dX7_tick_11 : decode cX7_tick 11 = .ok (.aload_n 0, 1) := by decide +kernel
theorem dX7_tick_12 : decode cX7_tick 12 = .ok (.getfield 7, 3) := by decide +kernel
theorem dX7_tick_15 : decode cX7_tick 15 = .ok (.bipush 8, 2) := by decide +kernel
theorem dX7_tick_17 : decode cX7_tick 17 = .ok (.dup2, 1) := by decide +kernel
theorem dX7_tick_18 : decode cX7_tick 18 = .ok (.iaload, 1) := by decide +kernel
theorem dX7_tick_19 : decode cX7_tick 19 = .ok (.aload_n 0, 1) := by decide +kernel
theorem dX7_tick_20 : decode cX7_tick 20 = .ok (.getfield 7, 3) := by decide +kernel
theorem dX7_tick_23 : decode cX7_tick 23 = .ok (.iconst 2, 1) := by decide +kernel
theorem dX7_tick_24 : decode cX7_tick 24 = .ok (.iaload, 1) := by decide +kernel
theorem dX7_tick_25 : decode cX7_tick 25 = .ok (.iadd, 1) := by decide +kernel
theorem dX7_tick_26 : decode cX7_tick 26 = .ok (.iastore, 1) := by decide +kernel
theorem dX7_tick_27 : decode cX7_tick 27 = .ok (.aload_n 0, 1) := by decide +kernel
theorem dX7_tick_28 : decode cX7_tick 28 = .ok (.aload_n 0, 1) := by decide +kernel
theorem dX7_tick_29 : decode cX7_tick 29 = .ok (.getfield 7, 3) := by decide +kernel
theorem dX7_tick_32 : decode cX7_tick 32 = .ok (.iconst 2, 1) := by decide +kernel
theorem dX7_tick_33 : decode cX7_tick 33 = .ok (.iaload, 1) := by decide +kernel
theorem dX7_tick_34 : decode cX7_tick 34 = .ok (.invokevirtual 41, 3) := by decide +kernel
theorem dX7_tick_37 : decode cX7_tick 37 = .ok (.aload_n 0, 1) := by decide +kernel
theorem dX7_tick_38 : decode cX7_tick 38 = .ok (.invokevirtual 45, 3) := by decide +kernel
theorem dX7_tick_41 : decode cX7_tick 41 = .ok (.aload_n 0, 1) := by decide +kernel
theorem dX7_tick_42 : decode cX7_tick 42 = .ok (.getfield 7, 3) := by decide +kernel
theorem dX7_tick_45 : decode cX7_tick 45 = .ok (.iconst 1, 1) := by decide +kernel
theorem dX7_tick_46 : decode cX7_tick 46 = .ok (.iaload, 1) := by decide +kernel
theorem dX7_tick_47 : decode cX7_tick 47 = .ok (.isub, 1) := by decide +kernel
theorem dX7_tick_48 : decode cX7_tick 48 = .ok (.istore_n 1, 1) := by decide +kernel
theorem dX7_tick_49 : decode cX7_tick 49 = .ok (.aload_n 0, 1) := by decide +kernel
theorem dX7_tick_50 : decode cX7_tick 50 = .ok (.getfield 7, 3) := by decide +kernel
theorem dX7_tick_53 : decode cX7_tick 53 = .ok (.bipush 11, 2) := by decide +kernel
theorem dX7_tick_55 : decode cX7_tick 55 = .ok (.aload_n 0, 1) := by decide +kernel
theorem dX7_tick_56 : decode cX7_tick 56 = .ok (.getfield 7, 3) := by decide +kernel
theorem dX7_tick_59 : decode cX7_tick 59 = .ok (.bipush 14, 2) := by decide +kernel
theorem dX7_tick_61 : decode cX7_tick 61 = .ok (.iaload, 1) := by decide +kernel
theorem dX7_tick_62 : decode cX7_tick 62 = .ok (.ifCond .eq 7, 3) := by decide +kernel
theorem dX7_tick_65 : decode cX7_tick 65 = .ok (.iload_n 1, 1) := by decide +kernel
theorem dX7_tick_66 : decode cX7_tick 66 = .ok (.ifCond .gt 7, 3) := by decide +kernel
theorem dX7_tick_69 : decode cX7_tick 69 = .ok (.iconst 0, 1) := by decide +kernel
theorem dX7_tick_70 : decode cX7_tick 70 = .ok (.goto 17, 3) := by decide +kernel
theorem dX7_tick_73 : decode cX7_tick 73 = .ok (.iload_n 1, 1) := by decide +kernel
theorem dX7_tick_74 : decode cX7_tick 74 = .ok (.bipush 50, 2) := by decide +kernel
theorem dX7_tick_76 : decode cX7_tick 76 = .ok (.if_icmp .le 8, 3) := by decide +kernel
theorem dX7_tick_79 : decode cX7_tick 79 = .ok (.bipush 100, 2) := by decide +kernel
theorem dX7_tick_81 : decode cX7_tick 81 = .ok (.goto 6, 3) := by decide +kernel
theorem dX7_tick_84 : decode cX7_tick 84 = .ok (.iconst 2, 1) := by decide +kernel
theorem dX7_tick_85 : decode cX7_tick 85 = .ok (.iload_n 1, 1) := by decide +kernel
theorem dX7_tick_86 : decode cX7_tick 86 = .ok (.imul, 1) := by decide +kernel
theorem dX7_tick_87 : decode cX7_tick 87 = .ok (.iastore, 1) := by decide +kernel
theorem dX7_tick_88 : decode cX7_tick 88 = .ok (.aload_n 0, 1) := by decide +kernel
theorem dX7_tick_89 : decode cX7_tick 89 = .ok (.getfield 7, 3) := by decide +kernel
theorem dX7_tick_92 : decode cX7_tick 92 = .ok (.bipush 12, 2) := by decide +kernel
theorem dX7_tick_94 : decode cX7_tick 94 = .ok (.aload_n 0, 1) := by decide +kernel
theorem dX7_tick_95 : decode cX7_tick 95 = .ok (.getfield 7, 3) := by decide +kernel
theorem dX7_tick_98 : decode cX7_tick 98 = .ok (.bipush 14, 2) := by decide +kernel
theorem dX7_tick_100 : decode cX7_tick 100 = .ok (.iaload, 1) := by decide +kernel
theorem dX7_tick_101 : decode cX7_tick 101 = .ok (.ifCond .ne 7, 3) := by decide +kernel
theorem dX7_tick_104 : decode cX7_tick 104 = .ok (.iconst 0, 1) := by decide +kernel
theorem dX7_tick_105 : decode cX7_tick 105 = .ok (.goto 23, 3) := by decide +kernel
theorem dX7_tick_108 : decode cX7_tick 108 = .ok (.aload_n 0, 1) := by decide +kernel
theorem dX7_tick_109 : decode cX7_tick 109 = .ok (.getfield 7, 3) := by decide +kernel
theorem dX7_tick_112 : decode cX7_tick 112 = .ok (.iconst 0, 1) := by decide +kernel
theorem dX7_tick_113 : decode cX7_tick 113 = .ok (.iaload, 1) := by decide +kernel
theorem dX7_tick_114 : decode cX7_tick 114 = .ok (.bipush 100, 2) := by decide +kernel
theorem dX7_tick_116 : decode cX7_tick 116 = .ok (.aload_n 0, 1) := by decide +kernel
theorem dX7_tick_117 : decode cX7_tick 117 = .ok (.getfield 7, 3) := by decide +kernel
theorem dX7_tick_120 : decode cX7_tick 120 = .ok (.bipush 11, 2) := by decide +kernel
theorem dX7_tick_122 : decode cX7_tick 122 = .ok (.iaload, 1) := by decide +kernel
theorem dX7_tick_123 : decode cX7_tick 123 = .ok (.isub, 1) := by decide +kernel
theorem dX7_tick_124 : decode cX7_tick 124 = .ok (.imul, 1) := by decide +kernel
theorem dX7_tick_125 : decode cX7_tick 125 = .ok (.bipush 100, 2) := by decide +kernel
theorem dX7_tick_127 : decode cX7_tick 127 = .ok (.idiv, 1) := by decide +kernel
theorem dX7_tick_128 : decode cX7_tick 128 = .ok (.iastore, 1) := by decide +kernel
theorem dX7_tick_129 : decode cX7_tick 129 = .ok (.iconst 0, 1) := by decide +kernel
theorem dX7_tick_130 : decode cX7_tick 130 = .ok (.istore_n 2, 1) := by decide +kernel
theorem dX7_tick_131 : decode cX7_tick 131 = .ok (.iload_n 2, 1) := by decide +kernel
theorem dX7_tick_132 : decode cX7_tick 132 = .ok (.aload_n 0, 1) := by decide +kernel
theorem dX7_tick_133 : decode cX7_tick 133 = .ok (.getfield 7, 3) := by decide +kernel
theorem dX7_tick_136 : decode cX7_tick 136 = .ok (.bipush 12, 2) := by decide +kernel
theorem dX7_tick_138 : decode cX7_tick 138 = .ok (.iaload, 1) := by decide +kernel
theorem dX7_tick_139 : decode cX7_tick 139 = .ok (.if_icmp .ge 13, 3) := by decide +kernel
theorem dX7_tick_142 : decode cX7_tick 142 = .ok (.aload_n 0, 1) := by decide +kernel
theorem dX7_tick_143 : decode cX7_tick 143 = .ok (.invokevirtual 56, 3) := by decide +kernel
theorem dX7_tick_146 : decode cX7_tick 146 = .ok (.iinc 2 1, 3) := by decide +kernel
theorem dX7_tick_149 : decode cX7_tick 149 = .ok (.goto (-18), 3) := by decide +kernel
theorem dX7_tick_152 : decode cX7_tick 152 = .ok (.aload_n 0, 1) := by decide +kernel
theorem dX7_tick_153 : decode cX7_tick 153 = .ok (.getfield 7, 3) := by decide +kernel
theorem dX7_tick_156 : decode cX7_tick 156 = .ok (.bipush 13, 2) := by decide +kernel
theorem dX7_tick_158 : decode cX7_tick 158 = .ok (.iaload, 1) := by decide +kernel
theorem dX7_tick_159 : decode cX7_tick 159 = .ok (.aload_n 0, 1) := by decide +kernel
theorem dX7_tick_160 : decode cX7_tick 160 = .ok (.getfield 7, 3) := by decide +kernel
theorem dX7_tick_163 : decode cX7_tick 163 = .ok (.bipush 12, 2) := by decide +kernel
theorem dX7_tick_165 : decode cX7_tick 165 = .ok (.iaload, 1) := by decide +kernel
theorem dX7_tick_166 : decode cX7_tick 166 = .ok (.aload_n 0, 1) := by decide +kernel
theorem dX7_tick_167 : decode cX7_tick 167 = .ok (.invokevirtual 59, 3) := by decide +kernel
theorem dX7_tick_170 : decode cX7_tick 170 = .ok (.imul, 1) := by decide +kernel
theorem dX7_tick_171 : decode cX7_tick 171 = .ok (.iadd, 1) := by decide +kernel
theorem dX7_tick_172 : decode cX7_tick 172 = .ok (.iconst 2, 1) := by decide +kernel
theorem dX7_tick_173 : decode cX7_tick 173 = .ok (.isub, 1) := by decide +kernel
theorem dX7_tick_174 : decode cX7_tick 174 = .ok (.istore_n 2, 1) := by decide +kernel
theorem dX7_tick_175 : decode cX7_tick 175 = .ok (.aload_n 0, 1) := by decide +kernel
theorem dX7_tick_176 : decode cX7_tick 176 = .ok (.getfield 7, 3) := by decide +kernel
theorem dX7_tick_179 : decode cX7_tick 179 = .ok (.bipush 13, 2) := by decide +kernel
theorem dX7_tick_181 : decode cX7_tick 181 = .ok (.iload_n 2, 1) := by decide +kernel
theorem dX7_tick_182 : decode cX7_tick 182 = .ok (.ifCond .ge 7, 3) := by decide +kernel
theorem dX7_tick_185 : decode cX7_tick 185 = .ok (.iconst 0, 1) := by decide +kernel
theorem dX7_tick_186 : decode cX7_tick 186 = .ok (.goto 4, 3) := by decide +kernel
theorem dX7_tick_189 : decode cX7_tick 189 = .ok (.iload_n 2, 1) := by decide +kernel
theorem dX7_tick_190 : decode cX7_tick 190 = .ok (.iastore, 1) := by decide +kernel
theorem dX7_tick_191 : decode cX7_tick 191 = .ok (.aload_n 0, 1) := by decide +kernel
theorem dX7_tick_192 : decode cX7_tick 192 = .ok (.invokevirtual 62, 3) := by decide +kernel
theorem dX7_tick_195 : decode cX7_tick 195 = .ok (.aload_n 0, 1) := by decide +kernel
theorem dX7_tick_196 : decode cX7_tick 196 = .ok (.getfield 7, 3) := by decide +kernel
theorem dX7_tick_199 : decode cX7_tick 199 = .ok (.bipush 17, 2) := by decide +kernel
theorem dX7_tick_201 : decode cX7_tick 201 = .ok (.dup2, 1) := by decide +kernel
theorem dX7_tick_202 : decode cX7_tick 202 = .ok (.iaload, 1) := by decide +kernel
theorem dX7_tick_203 : decode cX7_tick 203 = .ok (.iconst 1, 1) := by decide +kernel
theorem dX7_tick_204 : decode cX7_tick 204 = .ok (.iadd, 1) := by decide +kernel
theorem dX7_tick_205 : decode cX7_tick 205 = .ok (.iastore, 1) := by decide +kernel
theorem dX7_tick_206 : decode cX7_tick 206 = .ok (.return_, 1) := by decide +kernel
theorem dX7_ticks_0 : decode cX7_ticks 0 = .ok (.aload_n 0, 1) := by decide +kernel
theorem dX7_ticks_1 : decode cX7_ticks 1 = .ok (.getfield 7, 3) := by decide +kernel
theorem dX7_ticks_4 : decode cX7_ticks 4 = .ok (.bipush 6, 2) := by decide +kernel
theorem dX7_ticks_6 : decode cX7_ticks 6 = .ok (.iaload, 1) := by decide +kernel
theorem dX7_ticks_7 : decode cX7_ticks 7 = .ok (.istore_n 2, 1) := by decide +kernel
theorem dX7_ticks_8 : decode cX7_ticks 8 = .ok (.iconst 0, 1) := by decide +kernel
theorem dX7_ticks_9 : decode cX7_ticks 9 = .ok (.istore_n 3, 1) := by decide +kernel
theorem dX7_ticks_10 : decode cX7_ticks 10 = .ok (.iload_n 3, 1) := by decide +kernel
theorem dX7_ticks_11 : decode cX7_ticks 11 = .ok (.iload_n 1, 1) := by decide +kernel
theorem dX7_ticks_12 : decode cX7_ticks 12 = .ok (.if_icmp .ge 13, 3) := by decide +kernel
theorem dX7_ticks_15 : decode cX7_ticks 15 = .ok (.aload_n 0, 1) := by decide +kernel
theorem dX7_ticks_16 : decode cX7_ticks 16 = .ok (.invokevirtual 65, 3) := by decide +kernel
theorem dX7_ticks_19 : decode cX7_ticks 19 = .ok (.iinc 3 1, 3) := by decide +kernel
theorem dX7_ticks_22 : decode cX7_ticks 22 = .ok (.goto (-12), 3) := by decide +kernel
theorem dX7_ticks_25 : decode cX7_ticks 25 = .ok (.aload_n 0, 1) := by decide +kernel
theorem dX7_ticks_26 : decode cX7_ticks 26 = .ok (.getfield 7, 3) := by decide +kernel
theorem dX7_ticks_29 : decode cX7_ticks 29 = .ok (.bipush 6, 2) := by decide +kernel
theorem dX7_ticks_31 : decode cX7_ticks 31 = .ok (.iaload, 1) := by decide +kernel
theorem dX7_ticks_32 : decode cX7_ticks 32 = .ok (.iload_n 2, 1) := by decide +kernel
theorem dX7_ticks_33 : decode cX7_ticks 33 = .ok (.isub, 1) := by decide +kernel
theorem dX7_ticks_34 : decode cX7_ticks 34 = .ok (.ireturn, 1) := by decide +kernel
theorem dX7_isNumber_0 : decode cX7_isNumber 0 = .ok (.iload_n 0, 1) := by decide +kernel
theorem dX7_isNumber_1 : decode cX7_isNumber 1 = .ok (.tableswitch 64 0 3 #[31, 39, 48, 56], 31) := by decide +kernel
theorem dX7_isNumber_32 : decode cX7_isNumber 32 = .ok (.iload_n 1, 1) := by decide +kernel
theorem dX7_isNumber_33 : decode cX7_isNumber 33 = .ok (.iconst 0, 1) := by decide +kernel
theorem dX7_isNumber_34 : decode cX7_isNumber 34 = .ok (.bipush 6, 2) := by decide +kernel
theorem dX7_isNumber_36 : decode cX7_isNumber 36 = .ok (.invokestatic 68, 3) := by decide +kernel
theorem dX7_isNumber_39 : decode cX7_isNumber 39 = .ok (.ireturn, 1) := by decide +kernel
theorem dX7_isNumber_40 : decode cX7_isNumber 40 = .ok (.iload_n 1, 1) := by decide +kernel
theorem dX7_isNumber_41 : decode cX7_isNumber 41 = .ok (.iconst 0, 1) := by decide +kernel
theorem dX7_isNumber_42 : decode cX7_isNumber 42 = .ok (.sipush 200, 3) := by decide +kernel
theorem dX7_isNumber_45 : decode cX7_isNumber 45 = .ok (.invokestatic 68, 3) := by decide +kernel
theorem dX7_isNumber_48 : decode cX7_isNumber 48 = .ok (.ireturn, 1) := by decide +kernel
theorem dX7_isNumber_49 : decode cX7_isNumber 49 = .ok (.iload_n 1, 1) := by decide +kernel
theorem dX7_isNumber_50 : decode cX7_isNumber 50 = .ok (.iconst 0, 1) := by decide +kernel
theorem dX7_isNumber_51 : decode cX7_isNumber 51 = .ok (.bipush 40, 2) := by decide +kernel
theorem dX7_isNumber_53 : decode cX7_isNumber 53 = .ok (.invokestatic 68, 3) := by decide +kernel
theorem dX7_isNumber_56 : decode cX7_isNumber 56 = .ok (.ireturn, 1) := by decide +kernel
theorem dX7_isNumber_57 : decode cX7_isNumber 57 = .ok (.iload_n 1, 1) := by decide +kernel
theorem dX7_isNumber_58 : decode cX7_isNumber 58 = .ok (.iconst 1, 1) := by decide +kernel
theorem dX7_isNumber_59 : decode cX7_isNumber 59 = .ok (.bipush 20, 2) := by decide +kernel
theorem dX7_isNumber_61 : decode cX7_isNumber 61 = .ok (.invokestatic 68, 3) := by decide +kernel
theorem dX7_isNumber_64 : decode cX7_isNumber 64 = .ok (.ireturn, 1) := by decide +kernel
theorem dX7_isNumber_65 : decode cX7_isNumber 65 = .ok (.iload_n 1, 1) := by decide +kernel
theorem dX7_isNumber_66 : decode cX7_isNumber 66 = .ok (.bipush (-9), 2) := by decide +kernel
theorem dX7_isNumber_68 : decode cX7_isNumber 68 = .ok (.bipush 9, 2) := by decide +kernel
theorem dX7_isNumber_70 : decode cX7_isNumber 70 = .ok (.invokestatic 68, 3) := by decide +kernel
theorem dX7_isNumber_73 : decode cX7_isNumber 73 = .ok (.ireturn, 1) := by decide +kernel
theorem dX7_refusesSet_0 : decode cX7_refusesSet 0 = .ok (.iload_n 1, 1) := by decide +kernel
theorem dX7_refusesSet_1 : decode cX7_refusesSet 1 = .ok (.iconst 0, 1) := by decide +kernel
theorem dX7_refusesSet_2 : decode cX7_refusesSet 2 = .ok (.iconst 4, 1) := by decide +kernel
theorem dX7_refusesSet_3 : decode cX7_refusesSet 3 = .ok (.invokestatic 68, 3) := by decide +kernel
theorem dX7_refusesSet_6 : decode cX7_refusesSet 6 = .ok (.ifCond .ne 6, 3) := by decide +kernel
theorem dX7_refusesSet_9 : decode cX7_refusesSet 9 = .ok (.bipush (-101), 2) := by decide +kernel
theorem dX7_refusesSet_11 : decode cX7_refusesSet 11 = .ok (.ireturn, 1) := by decide +kernel
theorem dX7_refusesSet_12 : decode cX7_refusesSet 12 = .ok (.iload_n 1, 1) := by decide +kernel
theorem dX7_refusesSet_13 : decode cX7_refusesSet 13 = .ok (.iload_n 2, 1) := by decide +kernel
theorem dX7_refusesSet_14 : decode cX7_refusesSet 14 = .ok (.invokestatic 72, 3) := by decide +kernel
theorem dX7_refusesSet_17 : decode cX7_refusesSet 17 = .ok (.ifCond .ne 8, 3) := by decide +kernel
theorem dX7_refusesSet_20 : decode cX7_refusesSet 20 = .ok (.bipush (-102), 2) := by decide +kernel
theorem dX7_refusesSet_22 : decode cX7_refusesSet 22 = .ok (.goto 19, 3) := by decide +kernel
theorem dX7_refusesSet_25 : decode cX7_refusesSet 25 = .ok (.aload_n 0, 1) := by decide +kernel
theorem dX7_refusesSet_26 : decode cX7_refusesSet 26 = .ok (.getfield 7, 3) := by decide +kernel
theorem dX7_refusesSet_29 : decode cX7_refusesSet 29 = .ok (.iload_n 1, 1) := by decide +kernel
theorem dX7_refusesSet_30 : decode cX7_refusesSet 30 = .ok (.iaload, 1) := by decide +kernel
theorem dX7_refusesSet_31 : decode cX7_refusesSet 31 = .ok (.iload_n 2, 1) := by decide +kernel
theorem dX7_refusesSet_32 : decode cX7_refusesSet 32 = .ok (.if_icmp .ne 8, 3) := by decide +kernel
theorem dX7_refusesSet_35 : decode cX7_refusesSet 35 = .ok (.bipush (-105), 2) := by decide +kernel
theorem dX7_refusesSet_37 : decode cX7_refusesSet 37 = .ok (.goto 4, 3) := by decide +kernel
theorem dX7_refusesSet_40 : decode cX7_refusesSet 40 = .ok (.iconst 0, 1) := by decide +kernel
theorem dX7_refusesSet_41 : decode cX7_refusesSet 41 = .ok (.ireturn, 1) := by decide +kernel
theorem dX7_refusesGate_0 : decode cX7_refusesGate 0 = .ok (.iload_n 1, 1) := by decide +kernel
theorem dX7_refusesGate_1 : decode cX7_refusesGate 1 = .ok (.ifCond .eq 16, 3) := by decide +kernel
theorem dX7_refusesGate_4 : decode cX7_refusesGate 4 = .ok (.aload_n 0, 1) := by decide +kernel
theorem dX7_refusesGate_5 : decode cX7_refusesGate 5 = .ok (.getfield 7, 3) := by decide +kernel
theorem dX7_refusesGate_8 : decode cX7_refusesGate 8 = .ok (.bipush 16, 2) := by decide +kernel
theorem dX7_refusesGate_10 : decode cX7_refusesGate 10 = .ok (.iaload, 1) := by decide +kernel
theorem dX7_refusesGate_11 : decode cX7_refusesGate 11 = .ok (.ifCond .le 6, 3) := by decide +kernel
theorem dX7_refusesGate_14 : decode cX7_refusesGate 14 = .ok (.bipush (-104), 2) := by decide +kernel
theorem dX7_refusesGate_16 : decode cX7_refusesGate 16 = .ok (.ireturn, 1) := by decide +kernel
theorem dX7_refusesGate_17 : decode cX7_refusesGate 17 = .ok (.aload_n 0, 1) := by decide +kernel
theorem dX7_refusesGate_18 : decode cX7_refusesGate 18 = .ok (.getfield 7, 3) := by decide +kernel
theorem dX7_refusesGate_21 : decode cX7_refusesGate 21 = .ok (.bipush 15, 2) := by decide +kernel
theorem dX7_refusesGate_23 : decode cX7_refusesGate 23 = .ok (.iaload, 1) := by decide +kernel
theorem dX7_refusesGate_24 : decode cX7_refusesGate 24 = .ok (.iconst 1, 1) := by decide +kernel
theorem dX7_refusesGate_25 : decode cX7_refusesGate 25 = .ok (.if_icmp .ne 7, 3) := by decide +kernel
theorem dX7_refusesGate_28 : decode cX7_refusesGate 28 = .ok (.iconst 1, 1) := by decide +kernel
theorem dX7_refusesGate_29 : decode cX7_refusesGate 29 = .ok (.goto 4, 3) := by decide +kernel
theorem dX7_refusesGate_32 : decode cX7_refusesGate 32 = .ok (.iconst 0, 1) := by decide +kernel
theorem dX7_refusesGate_33 : decode cX7_refusesGate 33 = .ok (.iload_n 1, 1) := by decide +kernel
theorem dX7_refusesGate_34 : decode cX7_refusesGate 34 = .ok (.if_icmp .ne 8, 3) := by decide +kernel
theorem dX7_refusesGate_37 : decode cX7_refusesGate 37 = .ok (.bipush (-105), 2) := by decide +kernel
theorem dX7_refusesGate_39 : decode cX7_refusesGate 39 = .ok (.goto 4, 3) := by decide +kernel
theorem dX7_refusesGate_42 : decode cX7_refusesGate 42 = .ok (.iconst 0, 1) := by decide +kernel
theorem dX7_refusesGate_43 : decode cX7_refusesGate 43 = .ok (.ireturn, 1) := by decide +kernel
theorem dX7_refusesStart_0 : decode cX7_refusesStart 0 = .ok (.aload_n 0, 1) := by decide +kernel
theorem dX7_refusesStart_1 : decode cX7_refusesStart 1 = .ok (.getfield 7, 3) := by decide +kernel
theorem dX7_refusesStart_4 : decode cX7_refusesStart 4 = .ok (.bipush 16, 2) := by decide +kernel
theorem dX7_refusesStart_6 : decode cX7_refusesStart 6 = .ok (.iaload, 1) := by decide +kernel
theorem dX7_refusesStart_7 : decode cX7_refusesStart 7 = .ok (.ifCond .le 8, 3) := by decide +kernel
theorem dX7_refusesStart_10 : decode cX7_refusesStart 10 = .ok (.bipush (-104), 2) := by decide +kernel
theorem dX7_refusesStart_12 : decode cX7_refusesStart 12 = .ok (.goto 20, 3) := by decide +kernel
theorem dX7_refusesStart_15 : decode cX7_refusesStart 15 = .ok (.aload_n 0, 1) := by decide +kernel
theorem dX7_refusesStart_16 : decode cX7_refusesStart 16 = .ok (.getfield 7, 3) := by decide +kernel
theorem dX7_refusesStart_19 : decode cX7_refusesStart 19 = .ok (.bipush 14, 2) := by decide +kernel
theorem dX7_refusesStart_21 : decode cX7_refusesStart 21 = .ok (.iaload, 1) := by decide +kernel
theorem dX7_refusesStart_22 : decode cX7_refusesStart 22 = .ok (.iconst 1, 1) := by decide +kernel
theorem dX7_refusesStart_23 : decode cX7_refusesStart 23 = .ok (.if_icmp .ne 8, 3) := by decide +kernel
theorem dX7_refusesStart_26 : decode cX7_refusesStart 26 = .ok (.bipush (-105), 2) := by decide +kernel
theorem dX7_refusesStart_28 : decode cX7_refusesStart 28 = .ok (.goto 4, 3) := by decide +kernel
theorem dX7_refusesStart_31 : decode cX7_refusesStart 31 = .ok (.iconst 0, 1) := by decide +kernel
theorem dX7_refusesStart_32 : decode cX7_refusesStart 32 = .ok (.ireturn, 1) := by decide +kernel
theorem dX7_refusesReset_0 : decode cX7_refusesReset 0 = .ok (.aload_n 0, 1) := by decide +kernel
theorem dX7_refusesReset_1 : decode cX7_refusesReset 1 = .ok (.getfield 7, 3) := by decide +kernel
theorem dX7_refusesReset_4 : decode cX7_refusesReset 4 = .ok (.bipush 16, 2) := by decide +kernel
theorem dX7_refusesReset_6 : decode cX7_refusesReset 6 = .ok (.iaload, 1) := by decide +kernel
theorem dX7_refusesReset_7 : decode cX7_refusesReset 7 = .ok (.tableswitch 67 0 2 #[25, 28, 48], 25) := by decide +kernel
theorem dX7_refusesReset_32 : decode cX7_refusesReset 32 = .ok (.bipush (-105), 2) := by decide +kernel
theorem dX7_refusesReset_34 : decode cX7_refusesReset 34 = .ok (.ireturn, 1) := by decide +kernel
theorem dX7_refusesReset_35 : decode cX7_refusesReset 35 = .ok (.aload_n 0, 1) := by decide +kernel
theorem dX7_refusesReset_36 : decode cX7_refusesReset 36 = .ok (.invokevirtual 45, 3) := by decide +kernel
theorem dX7_refusesReset_39 : decode cX7_refusesReset 39 = .ok (.aload_n 0, 1) := by decide +kernel
theorem dX7_refusesReset_40 : decode cX7_refusesReset 40 = .ok (.getfield 7, 3) := by decide +kernel
theorem dX7_refusesReset_43 : decode cX7_refusesReset 43 = .ok (.iconst 1, 1) := by decide +kernel
theorem dX7_refusesReset_44 : decode cX7_refusesReset 44 = .ok (.iaload, 1) := by decide +kernel
theorem dX7_refusesReset_45 : decode cX7_refusesReset 45 = .ok (.if_icmp .gt 7, 3) := by decide +kernel
theorem dX7_refusesReset_48 : decode cX7_refusesReset 48 = .ok (.iconst 0, 1) := by decide +kernel
theorem dX7_refusesReset_49 : decode cX7_refusesReset 49 = .ok (.goto 5, 3) := by decide +kernel
theorem dX7_refusesReset_52 : decode cX7_refusesReset 52 = .ok (.bipush (-104), 2) := by decide +kernel
theorem dX7_refusesReset_54 : decode cX7_refusesReset 54 = .ok (.ireturn, 1) := by decide +kernel
theorem dX7_refusesReset_55 : decode cX7_refusesReset 55 = .ok (.aload_n 0, 1) := by decide +kernel
theorem dX7_refusesReset_56 : decode cX7_refusesReset 56 = .ok (.getfield 7, 3) := by decide +kernel
theorem dX7_refusesReset_59 : decode cX7_refusesReset 59 = .ok (.iconst 5, 1) := by decide +kernel
theorem dX7_refusesReset_60 : decode cX7_refusesReset 60 = .ok (.iaload, 1) := by decide +kernel
theorem dX7_refusesReset_61 : decode cX7_refusesReset 61 = .ok (.sipush 150, 3) := by decide +kernel
theorem dX7_refusesReset_64 : decode cX7_refusesReset 64 = .ok (.if_icmp .ge 7, 3) := by decide +kernel
theorem dX7_refusesReset_67 : decode cX7_refusesReset 67 = .ok (.iconst 0, 1) := by decide +kernel
theorem dX7_refusesReset_68 : decode cX7_refusesReset 68 = .ok (.goto 5, 3) := by decide +kernel
theorem dX7_refusesReset_71 : decode cX7_refusesReset 71 = .ok (.bipush (-104), 2) := by decide +kernel
theorem dX7_refusesReset_73 : decode cX7_refusesReset 73 = .ok (.ireturn, 1) := by decide +kernel
theorem dX7_refusesReset_74 : decode cX7_refusesReset 74 = .ok (.aload_n 0, 1) := by decide +kernel
theorem dX7_refusesReset_75 : decode cX7_refusesReset 75 = .ok (.getfield 7, 3) := by decide +kernel
theorem dX7_refusesReset_78 : decode cX7_refusesReset 78 = .ok (.bipush 13, 2) := by decide +kernel
theorem dX7_refusesReset_80 : decode cX7_refusesReset 80 = .ok (.iaload, 1) := by decide +kernel
theorem dX7_refusesReset_81 : decode cX7_refusesReset 81 = .ok (.bipush 50, 2) := by decide +kernel
theorem dX7_refusesReset_83 : decode cX7_refusesReset 83 = .ok (.if_icmp .ge 7, 3) := by decide +kernel
theorem dX7_refusesReset_86 : decode cX7_refusesReset 86 = .ok (.iconst 0, 1) := by decide +kernel
theorem dX7_refusesReset_87 : decode cX7_refusesReset 87 = .ok (.goto 5, 3) := by decide +kernel
theorem dX7_refusesReset_90 : decode cX7_refusesReset 90 = .ok (.bipush (-104), 2) := by decide +kernel
theorem dX7_refusesReset_92 : decode cX7_refusesReset 92 = .ok (.ireturn, 1) := by decide +kernel
theorem dX7_refusesRun_0 : decode cX7_refusesRun 0 = .ok (.iload_n 1, 1) := by decide +kernel
theorem dX7_refusesRun_1 : decode cX7_refusesRun 1 = .ok (.iconst 1, 1) := by decide +kernel
theorem dX7_refusesRun_2 : decode cX7_refusesRun 2 = .ok (.sipush 200, 3) := by decide +kernel
theorem dX7_refusesRun_5 : decode cX7_refusesRun 5 = .ok (.invokestatic 68, 3) := by decide +kernel
theorem dX7_refusesRun_8 : decode cX7_refusesRun 8 = .ok (.ifCond .ne 8, 3) := by decide +kernel
theorem dX7_refusesRun_11 : decode cX7_refusesRun 11 = .ok (.bipush (-102), 2) := by decide +kernel
theorem dX7_refusesRun_13 : decode cX7_refusesRun 13 = .ok (.goto 23, 3) := by decide +kernel
theorem dX7_refusesRun_16 : decode cX7_refusesRun 16 = .ok (.aload_n 0, 1) := by decide +kernel
theorem dX7_refusesRun_17 : decode cX7_refusesRun 17 = .ok (.getfield 7, 3) := by decide +kernel
theorem dX7_refusesRun_20 : decode cX7_refusesRun 20 = .ok (.bipush 17, 2) := by decide +kernel
theorem dX7_refusesRun_22 : decode cX7_refusesRun 22 = .ok (.iaload, 1) := by decide +kernel
theorem dX7_refusesRun_23 : decode cX7_refusesRun 23 = .ok (.iload_n 1, 1) := by decide +kernel
theorem dX7_refusesRun_24 : decode cX7_refusesRun 24 = .ok (.iadd, 1) := by decide +kernel
theorem dX7_refusesRun_25 : decode cX7_refusesRun 25 = .ok (.ldc 76, 2) := by decide +kernel
theorem dX7_refusesRun_27 : decode cX7_refusesRun 27 = .ok (.if_icmp .le 8, 3) := by decide +kernel
theorem dX7_refusesRun_30 : decode cX7_refusesRun 30 = .ok (.bipush (-103), 2) := by decide +kernel
theorem dX7_refusesRun_32 : decode cX7_refusesRun 32 = .ok (.goto 4, 3) := by decide +kernel
theorem dX7_refusesRun_35 : decode cX7_refusesRun 35 = .ok (.iconst 0, 1) := by decide +kernel
theorem dX7_refusesRun_36 : decode cX7_refusesRun 36 = .ok (.ireturn, 1) := by decide +kernel
theorem dX7_inBuckets_0 : decode cX7_inBuckets 0 = .ok (.iconst 0, 1) := by decide +kernel
theorem dX7_inBuckets_1 : decode cX7_inBuckets 1 = .ok (.istore_n 1, 1) := by decide +kernel
theorem dX7_inBuckets_2 : decode cX7_inBuckets 2 = .ok (.iconst 0, 1) := by decide +kernel
theorem dX7_inBuckets_3 : decode cX7_inBuckets 3 = .ok (.istore_n 2, 1) := by decide +kernel
theorem dX7_inBuckets_4 : decode cX7_inBuckets 4 = .ok (.iload_n 2, 1) := by decide +kernel
theorem dX7_inBuckets_5 : decode cX7_inBuckets 5 = .ok (.bipush 12, 2) := by decide +kernel
theorem dX7_inBuckets_7 : decode cX7_inBuckets 7 = .ok (.if_icmp .ge 21, 3) := by decide +kernel
theorem dX7_inBuckets_10 : decode cX7_inBuckets 10 = .ok (.iload_n 1, 1) := by decide +kernel
theorem dX7_inBuckets_11 : decode cX7_inBuckets 11 = .ok (.aload_n 0, 1) := by decide +kernel
theorem dX7_inBuckets_12 : decode cX7_inBuckets 12 = .ok (.getfield 7, 3) := by decide +kernel
theorem dX7_inBuckets_15 : decode cX7_inBuckets 15 = .ok (.bipush 18, 2) := by decide +kernel
theorem dX7_inBuckets_17 : decode cX7_inBuckets 17 = .ok (.iload_n 2, 1) := by decide +kernel
theorem dX7_inBuckets_18 : decode cX7_inBuckets 18 = .ok (.iadd, 1) := by decide +kernel
theorem dX7_inBuckets_19 : decode cX7_inBuckets 19 = .ok (.iaload, 1) := by decide +kernel
theorem dX7_inBuckets_20 : decode cX7_inBuckets 20 = .ok (.iadd, 1) := by decide +kernel
theorem dX7_inBuckets_21 : decode cX7_inBuckets 21 = .ok (.istore_n 1, 1) := by decide +kernel
theorem dX7_inBuckets_22 : decode cX7_inBuckets 22 = .ok (.iinc 2 1, 3) := by decide +kernel
theorem dX7_inBuckets_25 : decode cX7_inBuckets 25 = .ok (.goto (-21), 3) := by decide +kernel
theorem dX7_inBuckets_28 : decode cX7_inBuckets 28 = .ok (.iload_n 1, 1) := by decide +kernel
theorem dX7_inBuckets_29 : decode cX7_inBuckets 29 = .ok (.ireturn, 1) := by decide +kernel
theorem dX7_set_0 : decode cX7_set 0 = .ok (.aload_n 0, 1) := by decide +kernel
theorem dX7_set_1 : decode cX7_set 1 = .ok (.iconst 0, 1) := by decide +kernel
theorem dX7_set_2 : decode cX7_set 2 = .ok (.putfield 28, 3) := by decide +kernel
theorem dX7_set_5 : decode cX7_set 5 = .ok (.aload_n 0, 1) := by decide +kernel
theorem dX7_set_6 : decode cX7_set 6 = .ok (.iload_n 1, 1) := by decide +kernel
theorem dX7_set_7 : decode cX7_set 7 = .ok (.iload_n 2, 1) := by decide +kernel
theorem dX7_set_8 : decode cX7_set 8 = .ok (.invokevirtual 77, 3) := by decide +kernel
theorem dX7_set_11 : decode cX7_set 11 = .ok (.istore_n 3, 1) := by decide +kernel
theorem dX7_set_12 : decode cX7_set 12 = .ok (.iload_n 3, 1) := by decide +kernel
theorem dX7_set_13 : decode cX7_set 13 = .ok (.ifCond .eq 5, 3) := by decide +kernel
theorem dX7_set_16 : decode cX7_set 16 = .ok (.iload_n 3, 1) := by decide +kernel
theorem dX7_set_17 : decode cX7_set 17 = .ok (.ireturn, 1) := by decide +kernel
theorem dX7_set_18 : decode cX7_set 18 = .ok (.aload_n 0, 1) := by decide +kernel
theorem dX7_set_19 : decode cX7_set 19 = .ok (.invokevirtual 81, 3) := by decide +kernel
theorem dX7_set_22 : decode cX7_set 22 = .ok (.aload_n 0, 1) := by decide +kernel
theorem dX7_set_23 : decode cX7_set 23 = .ok (.getfield 7, 3) := by decide +kernel
theorem dX7_set_26 : decode cX7_set 26 = .ok (.iload_n 1, 1) := by decide +kernel
theorem dX7_set_27 : decode cX7_set 27 = .ok (.iaload, 1) := by decide +kernel
theorem dX7_set_28 : decode cX7_set 28 = .ok (.istore 4, 2) := by decide +kernel
theorem dX7_set_30 : decode cX7_set 30 = .ok (.aload_n 0, 1) := by decide +kernel
theorem dX7_set_31 : decode cX7_set 31 = .ok (.getfield 7, 3) := by decide +kernel
theorem dX7_set_34 : decode cX7_set 34 = .ok (.iload_n 1, 1) := by decide +kernel
theorem dX7_set_35 : decode cX7_set 35 = .ok (.iload_n 2, 1) := by decide +kernel
theorem dX7_set_36 : decode cX7_set 36 = .ok (.iastore, 1) := by decide +kernel
theorem dX7_set_37 : decode cX7_set 37 = .ok (.iload 4, 2) := by decide +kernel
theorem dX7_set_39 : decode cX7_set 39 = .ok (.ireturn, 1) := by decide +kernel
theorem dX7_gate_0 : decode cX7_gate 0 = .ok (.aload_n 0, 1) := by decide +kernel
theorem dX7_gate_1 : decode cX7_gate 1 = .ok (.iconst 0, 1) := by decide +kernel
theorem dX7_gate_2 : decode cX7_gate 2 = .ok (.putfield 28, 3) := by decide +kernel
theorem dX7_gate_5 : decode cX7_gate 5 = .ok (.aload_n 0, 1) := by decide +kernel
theorem dX7_gate_6 : decode cX7_gate 6 = .ok (.iload_n 1, 1) := by decide +kernel
theorem dX7_gate_7 : decode cX7_gate 7 = .ok (.invokevirtual 84, 3) := by decide +kernel
theorem dX7_gate_10 : decode cX7_gate 10 = .ok (.istore_n 2, 1) := by decide +kernel
theorem dX7_gate_11 : decode cX7_gate 11 = .ok (.iload_n 2, 1) := by decide +kernel
theorem dX7_gate_12 : decode cX7_gate 12 = .ok (.ifCond .eq 5, 3) := by decide +kernel
theorem dX7_gate_15 : decode cX7_gate 15 = .ok (.iload_n 2, 1) := by decide +kernel
theorem dX7_gate_16 : decode cX7_gate 16 = .ok (.ireturn, 1) := by decide +kernel
theorem dX7_gate_17 : decode cX7_gate 17 = .ok (.aload_n 0, 1) := by decide +kernel
theorem dX7_gate_18 : decode cX7_gate 18 = .ok (.invokevirtual 81, 3) := by decide +kernel
theorem dX7_gate_21 : decode cX7_gate 21 = .ok (.aload_n 0, 1) := by decide +kernel
theorem dX7_gate_22 : decode cX7_gate 22 = .ok (.getfield 7, 3) := by decide +kernel
theorem dX7_gate_25 : decode cX7_gate 25 = .ok (.bipush 15, 2) := by decide +kernel
theorem dX7_gate_27 : decode cX7_gate 27 = .ok (.iload_n 1, 1) := by decide +kernel
theorem dX7_gate_28 : decode cX7_gate 28 = .ok (.ifCond .eq 7, 3) := by decide +kernel
theorem dX7_gate_31 : decode cX7_gate 31 = .ok (.iconst 1, 1) := by decide +kernel
theorem dX7_gate_32 : decode cX7_gate 32 = .ok (.goto 4, 3) := by decide +kernel
theorem dX7_gate_35 : decode cX7_gate 35 = .ok (.iconst 0, 1) := by decide +kernel
theorem dX7_gate_36 : decode cX7_gate 36 = .ok (.iastore, 1) := by decide +kernel
theorem dX7_gate_37 : decode cX7_gate 37 = .ok (.aload_n 0, 1) := by decide +kernel
theorem dX7_gate_38 : decode cX7_gate 38 = .ok (.getfield 7, 3) := by decide +kernel
theorem dX7_gate_41 : decode cX7_gate 41 = .ok (.iconst 5, 1) := by decide +kernel
theorem dX7_gate_42 : decode cX7_gate 42 = .ok (.iaload, 1) := by decide +kernel
theorem dX7_gate_43 : decode cX7_gate 43 = .ok (.ireturn, 1) := by decide +kernel
theorem dX7_start_0 : decode cX7_start 0 = .ok (.aload_n 0, 1) := by decide +kernel
theorem dX7_start_1 : decode cX7_start 1 = .ok (.iconst 0, 1) := by decide +kernel
theorem dX7_start_2 : decode cX7_start 2 = .ok (.putfield 28, 3) := by decide +kernel
theorem dX7_start_5 : decode cX7_start 5 = .ok (.aload_n 0, 1) := by decide +kernel
theorem dX7_start_6 : decode cX7_start 6 = .ok (.invokevirtual 88, 3) := by decide +kernel
theorem dX7_start_9 : decode cX7_start 9 = .ok (.istore_n 1, 1) := by decide +kernel
theorem dX7_start_10 : decode cX7_start 10 = .ok (.iload_n 1, 1) := by decide +kernel
theorem dX7_start_11 : decode cX7_start 11 = .ok (.ifCond .eq 5, 3) := by decide +kernel
theorem dX7_start_14 : decode cX7_start 14 = .ok (.iload_n 1, 1) := by decide +kernel
theorem dX7_start_15 : decode cX7_start 15 = .ok (.ireturn, 1) := by decide +kernel
theorem dX7_start_16 : decode cX7_start 16 = .ok (.aload_n 0, 1) := by decide +kernel
theorem dX7_start_17 : decode cX7_start 17 = .ok (.invokevirtual 81, 3) := by decide +kernel
theorem dX7_start_20 : decode cX7_start 20 = .ok (.aload_n 0, 1) := by decide +kernel
theorem dX7_start_21 : decode cX7_start 21 = .ok (.getfield 7, 3) := by decide +kernel
theorem dX7_start_24 : decode cX7_start 24 = .ok (.bipush 14, 2) := by decide +kernel
theorem dX7_start_26 : decode cX7_start 26 = .ok (.iconst 1, 1) := by decide +kernel
theorem dX7_start_27 : decode cX7_start 27 = .ok (.iastore, 1) := by decide +kernel
theorem dX7_start_28 : decode cX7_start 28 = .ok (.aload_n 0, 1) := by decide +kernel
theorem dX7_start_29 : decode cX7_start 29 = .ok (.invokevirtual 45, 3) := by decide +kernel
theorem dX7_start_32 : decode cX7_start 32 = .ok (.ireturn, 1) := by decide +kernel
theorem dX7_stop_0 : decode cX7_stop 0 = .ok (.aload_n 0, 1) := by decide +kernel
theorem dX7_stop_1 : decode cX7_stop 1 = .ok (.iconst 0, 1) := by decide +kernel
theorem dX7_stop_2 : decode cX7_stop 2 = .ok (.putfield 28, 3) := by decide +kernel
theorem dX7_stop_5 : decode cX7_stop 5 = .ok (.aload_n 0, 1) := by decide +kernel
theorem dX7_stop_6 : decode cX7_stop 6 = .ok (.getfield 7, 3) := by decide +kernel
theorem dX7_stop_9 : decode cX7_stop 9 = .ok (.bipush 14, 2) := by decide +kernel
theorem dX7_stop_11 : decode cX7_stop 11 = .ok (.iaload, 1) := by decide +kernel
theorem dX7_stop_12 : decode cX7_stop 12 = .ok (.ifCond .ne 6, 3) := by decide +kernel
theorem dX7_stop_15 : decode cX7_stop 15 = .ok (.bipush (-105), 2) := by decide +kernel
theorem dX7_stop_17 : decode cX7_stop 17 = .ok (.ireturn, 1) := by decide +kernel
theorem dX7_stop_18 : decode cX7_stop 18 = .ok (.aload_n 0, 1) := by decide +kernel
theorem dX7_stop_19 : decode cX7_stop 19 = .ok (.invokevirtual 81, 3) := by decide +kernel
theorem dX7_stop_22 : decode cX7_stop 22 = .ok (.aload_n 0, 1) := by decide +kernel
theorem dX7_stop_23 : decode cX7_stop 23 = .ok (.getfield 7, 3) := by decide +kernel
theorem dX7_stop_26 : decode cX7_stop 26 = .ok (.bipush 14, 2) := by decide +kernel
theorem dX7_stop_28 : decode cX7_stop 28 = .ok (.iconst 0, 1) := by decide +kernel
theorem dX7_stop_29 : decode cX7_stop 29 = .ok (.iastore, 1) := by decide +kernel
theorem dX7_stop_30 : decode cX7_stop 30 = .ok (.aload_n 0, 1) := by decide +kernel
theorem dX7_stop_31 : decode cX7_stop 31 = .ok (.invokevirtual 91, 3) := by decide +kernel
theorem dX7_stop_34 : decode cX7_stop 34 = .ok (.ireturn, 1) := by decide +kernel
theorem dX7_reset_0 : decode cX7_reset 0 = .ok (.aload_n 0, 1) := by decide +kernel
theorem dX7_reset_1 : decode cX7_reset 1 = .ok (.iconst 0, 1) := by decide +kernel
theorem dX7_reset_2 : decode cX7_reset 2 = .ok (.putfield 28, 3) := by decide +kernel
theorem dX7_reset_5 : decode cX7_reset 5 = .ok (.aload_n 0, 1) := by decide +kernel
theorem dX7_reset_6 : decode cX7_reset 6 = .ok (.invokevirtual 94, 3) := by decide +kernel
theorem dX7_reset_9 : decode cX7_reset 9 = .ok (.istore_n 1, 1) := by decide +kernel
theorem dX7_reset_10 : decode cX7_reset 10 = .ok (.iload_n 1, 1) := by decide +kernel
theorem dX7_reset_11 : decode cX7_reset 11 = .ok (.ifCond .eq 5, 3) := by decide +kernel
theorem dX7_reset_14 : decode cX7_reset 14 = .ok (.iload_n 1, 1) := by decide +kernel
theorem dX7_reset_15 : decode cX7_reset 15 = .ok (.ireturn, 1) := by decide +kernel
theorem dX7_reset_16 : decode cX7_reset 16 = .ok (.aload_n 0, 1) := by decide +kernel
theorem dX7_reset_17 : decode cX7_reset 17 = .ok (.invokevirtual 81, 3) := by decide +kernel
theorem dX7_reset_20 : decode cX7_reset 20 = .ok (.aload_n 0, 1) := by decide +kernel
theorem dX7_reset_21 : decode cX7_reset 21 = .ok (.getfield 7, 3) := by decide +kernel
theorem dX7_reset_24 : decode cX7_reset 24 = .ok (.bipush 16, 2) := by decide +kernel
theorem dX7_reset_26 : decode cX7_reset 26 = .ok (.iaload, 1) := by decide +kernel
theorem dX7_reset_27 : decode cX7_reset 27 = .ok (.iconst 1, 1) := by decide +kernel
theorem dX7_reset_28 : decode cX7_reset 28 = .ok (.isub, 1) := by decide +kernel
theorem dX7_reset_29 : decode cX7_reset 29 = .ok (.istore_n 2, 1) := by decide +kernel
theorem dX7_reset_30 : decode cX7_reset 30 = .ok (.aload_n 0, 1) := by decide +kernel
theorem dX7_reset_31 : decode cX7_reset 31 = .ok (.getfield 7, 3) := by decide +kernel
theorem dX7_reset_34 : decode cX7_reset 34 = .ok (.bipush 16, 2) := by decide +kernel
theorem dX7_reset_36 : decode cX7_reset 36 = .ok (.iconst 0, 1) := by decide +kernel
theorem dX7_reset_37 : decode cX7_reset 37 = .ok (.iastore, 1) := by decide +kernel
theorem dX7_reset_38 : decode cX7_reset 38 = .ok (.iload_n 2, 1) := by decide +kernel
theorem dX7_reset_39 : decode cX7_reset 39 = .ok (.ireturn, 1) := by decide +kernel
theorem dX7_clean_0 : decode cX7_clean 0 = .ok (.aload_n 0, 1) := by decide +kernel
theorem dX7_clean_1 : decode cX7_clean 1 = .ok (.iconst 0, 1) := by decide +kernel
theorem dX7_clean_2 : decode cX7_clean 2 = .ok (.putfield 28, 3) := by decide +kernel
theorem dX7_clean_5 : decode cX7_clean 5 = .ok (.iload_n 1, 1) := by decide +kernel
theorem dX7_clean_6 : decode cX7_clean 6 = .ok (.iconst 1, 1) := by decide +kernel
theorem dX7_clean_7 : decode cX7_clean 7 = .ok (.sipush 300, 3) := by decide +kernel
theorem dX7_clean_10 : decode cX7_clean 10 = .ok (.invokestatic 68, 3) := by decide +kernel
theorem dX7_clean_13 : decode cX7_clean 13 = .ok (.ifCond .ne 6, 3) := by decide +kernel
theorem dX7_clean_16 : decode cX7_clean 16 = .ok (.bipush (-102), 2) := by decide +kernel
theorem dX7_clean_18 : decode cX7_clean 18 = .ok (.ireturn, 1) := by decide +kernel
theorem dX7_clean_19 : decode cX7_clean 19 = .ok (.aload_n 0, 1) := by decide +kernel
theorem dX7_clean_20 : decode cX7_clean 20 = .ok (.getfield 7, 3) := by decide +kernel
theorem dX7_clean_23 : decode cX7_clean 23 = .ok (.bipush 14, 2) := by decide +kernel
theorem dX7_clean_25 : decode cX7_clean 25 = .ok (.iaload, 1) := by decide +kernel
theorem dX7_clean_26 : decode cX7_clean 26 = .ok (.iconst 1, 1) := by decide +kernel
theorem dX7_clean_27 : decode cX7_clean 27 = .ok (.if_icmp .eq 13, 3) := by decide +kernel
theorem dX7_clean_30 : decode cX7_clean 30 = .ok (.iload_n 1, 1) := by decide +kernel
theorem dX7_clean_31 : decode cX7_clean 31 = .ok (.aload_n 0, 1) := by decide +kernel
theorem dX7_clean_32 : decode cX7_clean 32 = .ok (.getfield 7, 3) := by decide +kernel
theorem dX7_clean_35 : decode cX7_clean 35 = .ok (.iconst 5, 1) := by decide +kernel
theorem dX7_clean_36 : decode cX7_clean 36 = .ok (.iaload, 1) := by decide +kernel
theorem dX7_clean_37 : decode cX7_clean 37 = .ok (.if_icmp .le 6, 3) := by decide +kernel
theorem dX7_clean_40 : decode cX7_clean 40 = .ok (.bipush (-104), 2) := by decide +kernel
theorem dX7_clean_42 : decode cX7_clean 42 = .ok (.ireturn, 1) := by decide +kernel
theorem dX7_clean_43 : decode cX7_clean 43 = .ok (.aload_n 0, 1) := by decide +kernel
theorem dX7_clean_44 : decode cX7_clean 44 = .ok (.invokevirtual 81, 3) := by decide +kernel
theorem dX7_clean_47 : decode cX7_clean 47 = .ok (.aload_n 0, 1) := by decide +kernel
theorem dX7_clean_48 : decode cX7_clean 48 = .ok (.getfield 7, 3) := by decide +kernel
theorem dX7_clean_51 : decode cX7_clean 51 = .ok (.iconst 5, 1) := by decide +kernel
theorem dX7_clean_52 : decode cX7_clean 52 = .ok (.dup2, 1) := by decide +kernel
theorem dX7_clean_53 : decode cX7_clean 53 = .ok (.iaload, 1) := by decide +kernel
theorem dX7_clean_54 : decode cX7_clean 54 = .ok (.iload_n 1, 1) := by decide +kernel
theorem dX7_clean_55 : decode cX7_clean 55 = .ok (.isub, 1) := by decide +kernel
theorem dX7_clean_56 : decode cX7_clean 56 = .ok (.iastore, 1) := by decide +kernel
theorem dX7_clean_57 : decode cX7_clean 57 = .ok (.aload_n 0, 1) := by decide +kernel
theorem dX7_clean_58 : decode cX7_clean 58 = .ok (.getfield 7, 3) := by decide +kernel
theorem dX7_clean_61 : decode cX7_clean 61 = .ok (.bipush 9, 2) := by decide +kernel
theorem dX7_clean_63 : decode cX7_clean 63 = .ok (.dup2, 1) := by decide +kernel
theorem dX7_clean_64 : decode cX7_clean 64 = .ok (.iaload, 1) := by decide +kernel
theorem dX7_clean_65 : decode cX7_clean 65 = .ok (.iload_n 1, 1) := by decide +kernel
theorem dX7_clean_66 : decode cX7_clean 66 = .ok (.iadd, 1) := by decide +kernel
theorem dX7_clean_67 : decode cX7_clean 67 = .ok (.iastore, 1) := by decide +kernel
theorem dX7_clean_68 : decode cX7_clean 68 = .ok (.aload_n 0, 1) := by decide +kernel
theorem dX7_clean_69 : decode cX7_clean 69 = .ok (.getfield 7, 3) := by decide +kernel
theorem dX7_clean_72 : decode cX7_clean 72 = .ok (.iconst 5, 1) := by decide +kernel
theorem dX7_clean_73 : decode cX7_clean 73 = .ok (.iaload, 1) := by decide +kernel
theorem dX7_clean_74 : decode cX7_clean 74 = .ok (.ireturn, 1) := by decide +kernel
theorem dX7_run_0 : decode cX7_run 0 = .ok (.aload_n 0, 1) := by decide +kernel
theorem dX7_run_1 : decode cX7_run 1 = .ok (.iconst 0, 1) := by decide +kernel
theorem dX7_run_2 : decode cX7_run 2 = .ok (.putfield 28, 3) := by decide +kernel
theorem dX7_run_5 : decode cX7_run 5 = .ok (.aload_n 0, 1) := by decide +kernel
theorem dX7_run_6 : decode cX7_run 6 = .ok (.iload_n 1, 1) := by decide +kernel
theorem dX7_run_7 : decode cX7_run 7 = .ok (.invokevirtual 97, 3) := by decide +kernel
theorem dX7_run_10 : decode cX7_run 10 = .ok (.istore_n 2, 1) := by decide +kernel
theorem dX7_run_11 : decode cX7_run 11 = .ok (.iload_n 2, 1) := by decide +kernel
theorem dX7_run_12 : decode cX7_run 12 = .ok (.ifCond .eq 5, 3) := by decide +kernel
theorem dX7_run_15 : decode cX7_run 15 = .ok (.iload_n 2, 1) := by decide +kernel
theorem dX7_run_16 : decode cX7_run 16 = .ok (.ireturn, 1) := by decide +kernel
theorem dX7_run_17 : decode cX7_run 17 = .ok (.aload_n 0, 1) := by decide +kernel
theorem dX7_run_18 : decode cX7_run 18 = .ok (.invokevirtual 81, 3) := by decide +kernel
theorem dX7_run_21 : decode cX7_run 21 = .ok (.aload_n 0, 1) := by decide +kernel
theorem dX7_run_22 : decode cX7_run 22 = .ok (.iload_n 1, 1) := by decide +kernel
theorem dX7_run_23 : decode cX7_run 23 = .ok (.invokevirtual 101, 3) := by decide +kernel
theorem dX7_run_26 : decode cX7_run 26 = .ok (.ireturn, 1) := by decide +kernel
theorem dX7_type_0 : decode cX7_type 0 = .ok (.aload_n 0, 1) := by decide +kernel
theorem dX7_type_1 : decode cX7_type 1 = .ok (.iconst 0, 1) := by decide +kernel
theorem dX7_type_2 : decode cX7_type 2 = .ok (.putfield 28, 3) := by decide +kernel
theorem dX7_type_5 : decode cX7_type 5 = .ok (.aload_n 0, 1) := by decide +kernel
theorem dX7_type_6 : decode cX7_type 6 = .ok (.getfield 104, 3) := by decide +kernel
theorem dX7_type_9 : decode cX7_type 9 = .ok (.bipush 60, 2) := by decide +kernel
theorem dX7_type_11 : decode cX7_type 11 = .ok (.if_icmp .ne 6, 3) := by decide +kernel
theorem dX7_type_14 : decode cX7_type 14 = .ok (.bipush (-103), 2) := by decide +kernel
theorem dX7_type_16 : decode cX7_type 16 = .ok (.ireturn, 1) := by decide +kernel
theorem dX7_type_17 : decode cX7_type 17 = .ok (.aload_n 0, 1) := by decide +kernel
theorem dX7_type_18 : decode cX7_type 18 = .ok (.getfield 22, 3) := by decide +kernel
theorem dX7_type_21 : decode cX7_type 21 = .ok (.aload_n 0, 1) := by decide +kernel
theorem dX7_type_22 : decode cX7_type 22 = .ok (.getfield 104, 3) := by decide +kernel
theorem dX7_type_25 : decode cX7_type 25 = .ok (.iload_n 1, 1) := by decide +kernel
theorem dX7_type_26 : decode cX7_type 26 = .ok (.iastore, 1) := by decide +kernel
theorem dX7_type_27 : decode cX7_type 27 = .ok (.aload_n 0, 1) := by decide +kernel
theorem dX7_type_28 : decode cX7_type 28 = .ok (.dup, 1) := by decide +kernel
theorem dX7_type_29 : decode cX7_type 29 = .ok (.getfield 104, 3) := by decide +kernel
theorem dX7_type_32 : decode cX7_type 32 = .ok (.iconst 1, 1) := by decide +kernel
theorem dX7_type_33 : decode cX7_type 33 = .ok (.iadd, 1) := by decide +kernel
theorem dX7_type_34 : decode cX7_type 34 = .ok (.putfield 104, 3) := by decide +kernel
theorem dX7_type_37 : decode cX7_type 37 = .ok (.aload_n 0, 1) := by decide +kernel
theorem dX7_type_38 : decode cX7_type 38 = .ok (.getfield 104, 3) := by decide +kernel
theorem dX7_type_41 : decode cX7_type 41 = .ok (.ireturn, 1) := by decide +kernel
theorem dX7_clearText_0 : decode cX7_clearText 0 = .ok (.aload_n 0, 1) := by decide +kernel
theorem dX7_clearText_1 : decode cX7_clearText 1 = .ok (.iconst 0, 1) := by decide +kernel
theorem dX7_clearText_2 : decode cX7_clearText 2 = .ok (.putfield 28, 3) := by decide +kernel
theorem dX7_clearText_5 : decode cX7_clearText 5 = .ok (.aload_n 0, 1) := by decide +kernel
theorem dX7_clearText_6 : decode cX7_clearText 6 = .ok (.getfield 104, 3) := by decide +kernel
theorem dX7_clearText_9 : decode cX7_clearText 9 = .ok (.istore_n 1, 1) := by decide +kernel
theorem dX7_clearText_10 : decode cX7_clearText 10 = .ok (.aload_n 0, 1) := by decide +kernel
theorem dX7_clearText_11 : decode cX7_clearText 11 = .ok (.iconst 0, 1) := by decide +kernel
theorem dX7_clearText_12 : decode cX7_clearText 12 = .ok (.putfield 104, 3) := by decide +kernel
theorem dX7_clearText_15 : decode cX7_clearText 15 = .ok (.iload_n 1, 1) := by decide +kernel
theorem dX7_clearText_16 : decode cX7_clearText 16 = .ok (.ireturn, 1) := by decide +kernel
theorem dX7_sign_0 : decode cX7_sign 0 = .ok (.aload_n 0, 1) := by decide +kernel
theorem dX7_sign_1 : decode cX7_sign 1 = .ok (.getfield 107, 3) := by decide +kernel
theorem dX7_sign_4 : decode cX7_sign 4 = .ok (.aload_n 0, 1) := by decide +kernel
theorem dX7_sign_5 : decode cX7_sign 5 = .ok (.getfield 104, 3) := by decide +kernel
theorem dX7_sign_8 : decode cX7_sign 8 = .ok (.if_icmp .ge 15, 3) := by decide +kernel
theorem dX7_sign_11 : decode cX7_sign 11 = .ok (.aload_n 0, 1) := by decide +kernel
theorem dX7_sign_12 : decode cX7_sign 12 = .ok (.getfield 22, 3) := by decide +kernel
theorem dX7_sign_15 : decode cX7_sign 15 = .ok (.aload_n 0, 1) := by decide +kernel
theorem dX7_sign_16 : decode cX7_sign 16 = .ok (.getfield 107, 3) := by decide +kernel
theorem dX7_sign_19 : decode cX7_sign 19 = .ok (.iaload, 1) := by decide +kernel
theorem dX7_sign_20 : decode cX7_sign 20 = .ok (.goto 4, 3) := by decide +kernel
theorem dX7_sign_23 : decode cX7_sign 23 = .ok (.iconst 0, 1) := by decide +kernel
theorem dX7_sign_24 : decode cX7_sign 24 = .ok (.ireturn, 1) := by decide +kernel
theorem dX7_number_0 : decode cX7_number 0 = .ok (.aload_n 0, 1) := by decide +kernel
theorem dX7_number_1 : decode cX7_number 1 = .ok (.aload_n 0, 1) := by decide +kernel
theorem dX7_number_2 : decode cX7_number 2 = .ok (.getfield 110, 3) := by decide +kernel
theorem dX7_number_5 : decode cX7_number 5 = .ok (.ifCond .eq 36, 3) := by decide +kernel
theorem dX7_number_8 : decode cX7_number 8 = .ok (.aload_n 0, 1) := by decide +kernel
theorem dX7_number_9 : decode cX7_number 9 = .ok (.invokevirtual 114, 3) := by decide +kernel
theorem dX7_number_12 : decode cX7_number 12 = .ok (.bipush 48, 2) := by decide +kernel
theorem dX7_number_14 : decode cX7_number 14 = .ok (.iload_n 1, 1) := by decide +kernel
theorem dX7_number_15 : decode cX7_number 15 = .ok (.iadd, 1) := by decide +kernel
theorem dX7_number_16 : decode cX7_number 16 = .ok (.iload_n 2, 1) := by decide +kernel
theorem dX7_number_17 : decode cX7_number 17 = .ok (.bipush 9, 2) := by decide +kernel
theorem dX7_number_19 : decode cX7_number 19 = .ok (.if_icmp .ge 10, 3) := by decide +kernel
theorem dX7_number_22 : decode cX7_number 22 = .ok (.bipush 48, 2) := by decide +kernel
theorem dX7_number_24 : decode cX7_number 24 = .ok (.iload_n 2, 1) := by decide +kernel
theorem dX7_number_25 : decode cX7_number 25 = .ok (.iadd, 1) := by decide +kernel
theorem dX7_number_26 : decode cX7_number 26 = .ok (.goto 5, 3) := by decide +kernel
theorem dX7_number_29 : decode cX7_number 29 = .ok (.bipush 57, 2) := by decide +kernel
theorem dX7_number_31 : decode cX7_number 31 = .ok (.invokestatic 68, 3) := by decide +kernel
theorem dX7_number_34 : decode cX7_number 34 = .ok (.ifCond .eq 7, 3) := by decide +kernel
theorem dX7_number_37 : decode cX7_number 37 = .ok (.iconst 1, 1) := by decide +kernel
theorem dX7_number_38 : decode cX7_number 38 = .ok (.goto 4, 3) := by decide +kernel
theorem dX7_number_41 : decode cX7_number 41 = .ok (.iconst 0, 1) := by decide +kernel
theorem dX7_number_42 : decode cX7_number 42 = .ok (.putfield 110, 3) := by decide +kernel
theorem dX7_number_45 : decode cX7_number 45 = .ok (.aload_n 0, 1) := by decide +kernel
theorem dX7_number_46 : decode cX7_number 46 = .ok (.invokevirtual 114, 3) := by decide +kernel
theorem dX7_number_49 : decode cX7_number 49 = .ok (.bipush 48, 2) := by decide +kernel
theorem dX7_number_51 : decode cX7_number 51 = .ok (.isub, 1) := by decide +kernel
theorem dX7_number_52 : decode cX7_number 52 = .ok (.istore_n 3, 1) := by decide +kernel
theorem dX7_number_53 : decode cX7_number 53 = .ok (.aload_n 0, 1) := by decide +kernel
theorem dX7_number_54 : decode cX7_number 54 = .ok (.dup, 1) := by decide +kernel
theorem dX7_number_55 : decode cX7_number 55 = .ok (.getfield 107, 3) := by decide +kernel
theorem dX7_number_58 : decode cX7_number 58 = .ok (.aload_n 0, 1) := by decide +kernel
theorem dX7_number_59 : decode cX7_number 59 = .ok (.getfield 110, 3) := by decide +kernel
theorem dX7_number_62 : decode cX7_number 62 = .ok (.ifCond .eq 7, 3) := by decide +kernel
theorem dX7_number_65 : decode cX7_number 65 = .ok (.iconst 1, 1) := by decide +kernel
theorem dX7_number_66 : decode cX7_number 66 = .ok (.goto 4, 3) := by decide +kernel
theorem dX7_number_69 : decode cX7_number 69 = .ok (.iconst 0, 1) := by decide +kernel
theorem dX7_number_70 : decode cX7_number 70 = .ok (.iadd, 1) := by decide +kernel
theorem dX7_number_71 : decode cX7_number 71 = .ok (.putfield 107, 3) := by decide +kernel
theorem dX7_number_74 : decode cX7_number 74 = .ok (.aload_n 0, 1) := by decide +kernel
theorem dX7_number_75 : decode cX7_number 75 = .ok (.getfield 110, 3) := by decide +kernel
theorem dX7_number_78 : decode cX7_number 78 = .ok (.ifCond .eq 63, 3) := by decide +kernel
theorem dX7_number_81 : decode cX7_number 81 = .ok (.iload_n 3, 1) := by decide +kernel
theorem dX7_number_82 : decode cX7_number 82 = .ok (.ifCond .le 59, 3) := by decide +kernel
theorem dX7_number_85 : decode cX7_number 85 = .ok (.aload_n 0, 1) := by decide +kernel
theorem dX7_number_86 : decode cX7_number 86 = .ok (.invokevirtual 114, 3) := by decide +kernel
theorem dX7_number_89 : decode cX7_number 89 = .ok (.bipush 48, 2) := by decide +kernel
theorem dX7_number_91 : decode cX7_number 91 = .ok (.bipush 57, 2) := by decide +kernel
theorem dX7_number_93 : decode cX7_number 93 = .ok (.invokestatic 68, 3) := by decide +kernel
theorem dX7_number_96 : decode cX7_number 96 = .ok (.ifCond .eq 45, 3) := by decide +kernel
theorem dX7_number_99 : decode cX7_number 99 = .ok (.bipush 10, 2) := by decide +kernel
theorem dX7_number_101 : decode cX7_number 101 = .ok (.iload_n 3, 1) := by decide +kernel
theorem dX7_number_102 : decode cX7_number 102 = .ok (.imul, 1) := by decide +kernel
theorem dX7_number_103 : decode cX7_number 103 = .ok (.aload_n 0, 1) := by decide +kernel
theorem dX7_number_104 : decode cX7_number 104 = .ok (.invokevirtual 114, 3) := by decide +kernel
theorem dX7_number_107 : decode cX7_number 107 = .ok (.iadd, 1) := by decide +kernel
theorem dX7_number_108 : decode cX7_number 108 = .ok (.bipush 48, 2) := by decide +kernel
theorem dX7_number_110 : decode cX7_number 110 = .ok (.isub, 1) := by decide +kernel
theorem dX7_number_111 : decode cX7_number 111 = .ok (.iload_n 2, 1) := by decide +kernel
theorem dX7_number_112 : decode cX7_number 112 = .ok (.if_icmp .gt 29, 3) := by decide +kernel
theorem dX7_number_115 : decode cX7_number 115 = .ok (.bipush 10, 2) := by decide +kernel
theorem dX7_number_117 : decode cX7_number 117 = .ok (.iload_n 3, 1) := by decide +kernel
theorem dX7_number_118 : decode cX7_number 118 = .ok (.imul, 1) := by decide +kernel
theorem dX7_number_119 : decode cX7_number 119 = .ok (.aload_n 0, 1) := by decide +kernel
theorem dX7_number_120 : decode cX7_number 120 = .ok (.invokevirtual 114, 3) := by decide +kernel
theorem dX7_number_123 : decode cX7_number 123 = .ok (.iadd, 1) := by decide +kernel
theorem dX7_number_124 : decode cX7_number 124 = .ok (.bipush 48, 2) := by decide +kernel
theorem dX7_number_126 : decode cX7_number 126 = .ok (.isub, 1) := by decide +kernel
theorem dX7_number_127 : decode cX7_number 127 = .ok (.istore_n 3, 1) := by decide +kernel
theorem dX7_number_128 : decode cX7_number 128 = .ok (.aload_n 0, 1) := by decide +kernel
theorem dX7_number_129 : decode cX7_number 129 = .ok (.dup, 1) := by decide +kernel
theorem dX7_number_130 : decode cX7_number 130 = .ok (.getfield 107, 3) := by decide +kernel
theorem dX7_number_133 : decode cX7_number 133 = .ok (.iconst 1, 1) := by decide +kernel
theorem dX7_number_134 : decode cX7_number 134 = .ok (.iadd, 1) := by decide +kernel
theorem dX7_number_135 : decode cX7_number 135 = .ok (.putfield 107, 3) := by decide +kernel
theorem dX7_number_138 : decode cX7_number 138 = .ok (.goto (-64), 3) := by decide +kernel
theorem dX7_number_141 : decode cX7_number 141 = .ok (.iload_n 3, 1) := by decide +kernel
theorem dX7_number_142 : decode cX7_number 142 = .ok (.ireturn, 1) := by decide +kernel
theorem dX7_alignment_0 : decode cX7_alignment 0 = .ok (.aload_n 0, 1) := by decide +kernel
theorem dX7_alignment_1 : decode cX7_alignment 1 = .ok (.getfield 110, 3) := by decide +kernel
theorem dX7_alignment_4 : decode cX7_alignment 4 = .ok (.ifCond .eq 16, 3) := by decide +kernel
theorem dX7_alignment_7 : decode cX7_alignment 7 = .ok (.aload_n 0, 1) := by decide +kernel
theorem dX7_alignment_8 : decode cX7_alignment 8 = .ok (.invokevirtual 114, 3) := by decide +kernel
theorem dX7_alignment_11 : decode cX7_alignment 11 = .ok (.bipush 45, 2) := by decide +kernel
theorem dX7_alignment_13 : decode cX7_alignment 13 = .ok (.if_icmp .ne 7, 3) := by decide +kernel
theorem dX7_alignment_16 : decode cX7_alignment 16 = .ok (.iconst 1, 1) := by decide +kernel
theorem dX7_alignment_17 : decode cX7_alignment 17 = .ok (.goto 4, 3) := by decide +kernel
theorem dX7_alignment_20 : decode cX7_alignment 20 = .ok (.iconst 0, 1) := by decide +kernel
theorem dX7_alignment_21 : decode cX7_alignment 21 = .ok (.istore_n 1, 1) := by decide +kernel
theorem dX7_alignment_22 : decode cX7_alignment 22 = .ok (.aload_n 0, 1) := by decide +kernel
theorem dX7_alignment_23 : decode cX7_alignment 23 = .ok (.dup, 1) := by decide +kernel
theorem dX7_alignment_24 : decode cX7_alignment 24 = .ok (.getfield 107, 3) := by decide +kernel
theorem dX7_alignment_27 : decode cX7_alignment 27 = .ok (.iload_n 1, 1) := by decide +kernel
theorem dX7_alignment_28 : decode cX7_alignment 28 = .ok (.ifCond .eq 7, 3) := by decide +kernel
theorem dX7_alignment_31 : decode cX7_alignment 31 = .ok (.iconst 1, 1) := by decide +kernel
theorem dX7_alignment_32 : decode cX7_alignment 32 = .ok (.goto 4, 3) := by decide +kernel
theorem dX7_alignment_35 : decode cX7_alignment 35 = .ok (.iconst 0, 1) := by decide +kernel
theorem dX7_alignment_36 : decode cX7_alignment 36 = .ok (.iadd, 1) := by decide +kernel
theorem dX7_alignment_37 : decode cX7_alignment 37 = .ok (.putfield 107, 3) := by decide +kernel
theorem dX7_alignment_40 : decode cX7_alignment 40 = .ok (.aload_n 0, 1) := by decide +kernel
theorem dX7_alignment_41 : decode cX7_alignment 41 = .ok (.iload_n 1, 1) := by decide +kernel
theorem dX7_alignment_42 : decode cX7_alignment 42 = .ok (.ifCond .eq 7, 3) := by decide +kernel
theorem dX7_alignment_45 : decode cX7_alignment 45 = .ok (.iconst 1, 1) := by decide +kernel
theorem dX7_alignment_46 : decode cX7_alignment 46 = .ok (.goto 4, 3) := by decide +kernel
theorem dX7_alignment_49 : decode cX7_alignment 49 = .ok (.iconst 0, 1) := by decide +kernel
theorem dX7_alignment_50 : decode cX7_alignment 50 = .ok (.bipush 9, 2) := by decide +kernel
theorem dX7_alignment_52 : decode cX7_alignment 52 = .ok (.invokevirtual 117, 3) := by decide +kernel
theorem dX7_alignment_55 : decode cX7_alignment 55 = .ok (.istore_n 2, 1) := by decide +kernel
theorem dX7_alignment_56 : decode cX7_alignment 56 = .ok (.iload_n 1, 1) := by decide +kernel
theorem dX7_alignment_57 : decode cX7_alignment 57 = .ok (.ifCond .eq 8, 3) := by decide +kernel
theorem dX7_alignment_60 : decode cX7_alignment 60 = .ok (.iload_n 2, 1) := by decide +kernel
theorem dX7_alignment_61 : decode cX7_alignment 61 = .ok (.ineg, 1) := by decide +kernel
theorem dX7_alignment_62 : decode cX7_alignment 62 = .ok (.goto 4, 3) := by decide +kernel
theorem dX7_alignment_65 : decode cX7_alignment 65 = .ok (.iload_n 2, 1) := by decide +kernel
theorem dX7_alignment_66 : decode cX7_alignment 66 = .ok (.ireturn, 1) := by decide +kernel
theorem dX7_valueOf_0 : decode cX7_valueOf 0 = .ok (.iload_n 1, 1) := by decide +kernel
theorem dX7_valueOf_1 : decode cX7_valueOf 1 = .ok (.lookupswitch 105 #[(97, 92), (99, 84), (100, 59), (102, 76), (116, 67), (119, 97)], 59) := by decide +kernel
theorem dX7_valueOf_60 : decode cX7_valueOf 60 = .ok (.aload_n 0, 1) := by decide +kernel
theorem dX7_valueOf_61 : decode cX7_valueOf 61 = .ok (.iconst 0, 1) := by decide +kernel
theorem dX7_valueOf_62 : decode cX7_valueOf 62 = .ok (.bipush 6, 2) := by decide +kernel
theorem dX7_valueOf_64 : decode cX7_valueOf 64 = .ok (.invokevirtual 117, 3) := by decide +kernel
theorem dX7_valueOf_67 : decode cX7_valueOf 67 = .ok (.ireturn, 1) := by decide +kernel
theorem dX7_valueOf_68 : decode cX7_valueOf 68 = .ok (.aload_n 0, 1) := by decide +kernel
theorem dX7_valueOf_69 : decode cX7_valueOf 69 = .ok (.iconst 0, 1) := by decide +kernel
theorem dX7_valueOf_70 : decode cX7_valueOf 70 = .ok (.sipush 200, 3) := by decide +kernel
theorem dX7_valueOf_73 : decode cX7_valueOf 73 = .ok (.invokevirtual 117, 3) := by decide +kernel
theorem dX7_valueOf_76 : decode cX7_valueOf 76 = .ok (.ireturn, 1) := by decide +kernel
theorem dX7_valueOf_77 : decode cX7_valueOf 77 = .ok (.aload_n 0, 1) := by decide +kernel
theorem dX7_valueOf_78 : decode cX7_valueOf 78 = .ok (.iconst 0, 1) := by decide +kernel
theorem dX7_valueOf_79 : decode cX7_valueOf 79 = .ok (.bipush 40, 2) := by decide +kernel
theorem dX7_valueOf_81 : decode cX7_valueOf 81 = .ok (.invokevirtual 117, 3) := by decide +kernel
theorem dX7_valueOf_84 : decode cX7_valueOf 84 = .ok (.ireturn, 1) := by decide +kernel
theorem dX7_valueOf_85 : decode cX7_valueOf 85 = .ok (.aload_n 0, 1) := by decide +kernel
theorem dX7_valueOf_86 : decode cX7_valueOf 86 = .ok (.iconst 1, 1) := by decide +kernel
theorem dX7_valueOf_87 : decode cX7_valueOf 87 = .ok (.bipush 20, 2) := by decide +kernel
theorem dX7_valueOf_89 : decode cX7_valueOf 89 = .ok (.invokevirtual 117, 3) := by decide +kernel
theorem dX7_valueOf_92 : decode cX7_valueOf 92 = .ok (.ireturn, 1) := by decide +kernel
theorem dX7_valueOf_93 : decode cX7_valueOf 93 = .ok (.aload_n 0, 1) := by decide +kernel
theorem dX7_valueOf_94 : decode cX7_valueOf 94 = .ok (.invokevirtual 120, 3) := by decide +kernel
theorem dX7_valueOf_97 : decode cX7_valueOf 97 = .ok (.ireturn, 1) := by decide +kernel
theorem dX7_valueOf_98 : decode cX7_valueOf 98 = .ok (.aload_n 0, 1) := by decide +kernel
theorem dX7_valueOf_99 : decode cX7_valueOf 99 = .ok (.iconst 1, 1) := by decide +kernel
theorem dX7_valueOf_100 : decode cX7_valueOf 100 = .ok (.bipush 99, 2) := by decide +kernel
theorem dX7_valueOf_102 : decode cX7_valueOf 102 = .ok (.invokevirtual 117, 3) := by decide +kernel
theorem dX7_valueOf_105 : decode cX7_valueOf 105 = .ok (.ireturn, 1) := by decide +kernel
theorem dX7_valueOf_106 : decode cX7_valueOf 106 = .ok (.iconst 0, 1) := by decide +kernel
theorem dX7_valueOf_107 : decode cX7_valueOf 107 = .ok (.ireturn, 1) := by decide +kernel
theorem dX7_isLetter_0 : decode cX7_isLetter 0 = .ok (.iload_n 0, 1) := by decide +kernel
theorem dX7_isLetter_1 : decode cX7_isLetter 1 = .ok (.bipush 100, 2) := by decide +kernel
theorem dX7_isLetter_3 : decode cX7_isLetter 3 = .ok (.if_icmp .eq 63, 3) := by decide +kernel
theorem dX7_isLetter_6 : decode cX7_isLetter 6 = .ok (.iload_n 0, 1) := by decide +kernel
theorem dX7_isLetter_7 : decode cX7_isLetter 7 = .ok (.bipush 116, 2) := by decide +kernel
theorem dX7_isLetter_9 : decode cX7_isLetter 9 = .ok (.if_icmp .eq 57, 3) := by decide +kernel
theorem dX7_isLetter_12 : decode cX7_isLetter 12 = .ok (.iload_n 0, 1) := by decide +kernel
theorem dX7_isLetter_13 : decode cX7_isLetter 13 = .ok (.bipush 102, 2) := by decide +kernel
theorem dX7_isLetter_15 : decode cX7_isLetter 15 = .ok (.if_icmp .eq 51, 3) := by decide +kernel
theorem dX7_isLetter_18 : decode cX7_isLetter 18 = .ok (.iload_n 0, 1) := by decide +kernel
theorem dX7_isLetter_19 : decode cX7_isLetter 19 = .ok (.bipush 99, 2) := by decide +kernel
theorem dX7_isLetter_21 : decode cX7_isLetter 21 = .ok (.if_icmp .eq 45, 3) := by decide +kernel
theorem dX7_isLetter_24 : decode cX7_isLetter 24 = .ok (.iload_n 0, 1) := by decide +kernel
theorem dX7_isLetter_25 : decode cX7_isLetter 25 = .ok (.bipush 97, 2) := by decide +kernel
theorem dX7_isLetter_27 : decode cX7_isLetter 27 = .ok (.if_icmp .eq 39, 3) := by decide +kernel
theorem dX7_isLetter_30 : decode cX7_isLetter 30 = .ok (.iload_n 0, 1) := by decide +kernel
theorem dX7_isLetter_31 : decode cX7_isLetter 31 = .ok (.bipush 103, 2) := by decide +kernel
theorem dX7_isLetter_33 : decode cX7_isLetter 33 = .ok (.if_icmp .eq 33, 3) := by decide +kernel
theorem dX7_isLetter_36 : decode cX7_isLetter 36 = .ok (.iload_n 0, 1) := by decide +kernel
theorem dX7_isLetter_37 : decode cX7_isLetter 37 = .ok (.bipush 115, 2) := by decide +kernel
theorem dX7_isLetter_39 : decode cX7_isLetter 39 = .ok (.if_icmp .eq 27, 3) := by decide +kernel
theorem dX7_isLetter_42 : decode cX7_isLetter 42 = .ok (.iload_n 0, 1) := by decide +kernel
theorem dX7_isLetter_43 : decode cX7_isLetter 43 = .ok (.bipush 111, 2) := by decide +kernel
theorem dX7_isLetter_45 : decode cX7_isLetter 45 = .ok (.if_icmp .eq 21, 3) := by decide +kernel
theorem dX7_isLetter_48 : decode cX7_isLetter 48 = .ok (.iload_n 0, 1) := by decide +kernel
theorem dX7_isLetter_49 : decode cX7_isLetter 49 = .ok (.bipush 120, 2) := by decide +kernel
theorem dX7_isLetter_51 : decode cX7_isLetter 51 = .ok (.if_icmp .eq 15, 3) := by decide +kernel
theorem dX7_isLetter_54 : decode cX7_isLetter 54 = .ok (.iload_n 0, 1) := by decide +kernel
theorem dX7_isLetter_55 : decode cX7_isLetter 55 = .ok (.bipush 114, 2) := by decide +kernel
theorem dX7_isLetter_57 : decode cX7_isLetter 57 = .ok (.if_icmp .eq 9, 3) := by decide +kernel
theorem dX7_isLetter_60 : decode cX7_isLetter 60 = .ok (.iload_n 0, 1) := by decide +kernel
theorem dX7_isLetter_61 : decode cX7_isLetter 61 = .ok (.bipush 119, 2) := by decide +kernel
theorem dX7_isLetter_63 : decode cX7_isLetter 63 = .ok (.if_icmp .ne 7, 3) := by decide +kernel
theorem dX7_isLetter_66 : decode cX7_isLetter 66 = .ok (.iconst 1, 1) := by decide +kernel
theorem dX7_isLetter_67 : decode cX7_isLetter 67 = .ok (.goto 4, 3) := by decide +kernel
theorem dX7_isLetter_70 : decode cX7_isLetter 70 = .ok (.iconst 0, 1) := by decide +kernel
theorem dX7_isLetter_71 : decode cX7_isLetter 71 = .ok (.ireturn, 1) := by decide +kernel
theorem dX7_readsCommand_0 : decode cX7_readsCommand 0 = .ok (.aload_n 0, 1) := by decide +kernel
theorem dX7_readsCommand_1 : decode cX7_readsCommand 1 = .ok (.invokevirtual 114, 3) := by decide +kernel
theorem dX7_readsCommand_4 : decode cX7_readsCommand 4 = .ok (.istore_n 1, 1) := by decide +kernel
theorem dX7_readsCommand_5 : decode cX7_readsCommand 5 = .ok (.aload_n 0, 1) := by decide +kernel
theorem dX7_readsCommand_6 : decode cX7_readsCommand 6 = .ok (.iload_n 1, 1) := by decide +kernel
theorem dX7_readsCommand_7 : decode cX7_readsCommand 7 = .ok (.invokestatic 123, 3) := by decide +kernel
theorem dX7_readsCommand_10 : decode cX7_readsCommand 10 = .ok (.putfield 110, 3) := by decide +kernel
theorem dX7_readsCommand_13 : decode cX7_readsCommand 13 = .ok (.aload_n 0, 1) := by decide +kernel
theorem dX7_readsCommand_14 : decode cX7_readsCommand 14 = .ok (.dup, 1) := by decide +kernel
theorem dX7_readsCommand_15 : decode cX7_readsCommand 15 = .ok (.getfield 107, 3) := by decide +kernel
theorem dX7_readsCommand_18 : decode cX7_readsCommand 18 = .ok (.aload_n 0, 1) := by decide +kernel
theorem dX7_readsCommand_19 : decode cX7_readsCommand 19 = .ok (.getfield 110, 3) := by decide +kernel
theorem dX7_readsCommand_22 : decode cX7_readsCommand 22 = .ok (.ifCond .eq 7, 3) := by decide +kernel
theorem dX7_readsCommand_25 : decode cX7_readsCommand 25 = .ok (.iconst 1, 1) := by decide +kernel
theorem dX7_readsCommand_26 : decode cX7_readsCommand 26 = .ok (.goto 4, 3) := by decide +kernel
theorem dX7_readsCommand_29 : decode cX7_readsCommand 29 = .ok (.iconst 0, 1) := by decide +kernel
theorem dX7_readsCommand_30 : decode cX7_readsCommand 30 = .ok (.iadd, 1) := by decide +kernel
theorem dX7_readsCommand_31 : decode cX7_readsCommand 31 = .ok (.putfield 107, 3) := by decide +kernel
theorem dX7_readsCommand_34 : decode cX7_readsCommand 34 = .ok (.aload_n 0, 1) := by decide +kernel
theorem dX7_readsCommand_35 : decode cX7_readsCommand 35 = .ok (.getfield 25, 3) := by decide +kernel
theorem dX7_readsCommand_38 : decode cX7_readsCommand 38 = .ok (.iconst 2, 1) := by decide +kernel
theorem dX7_readsCommand_39 : decode cX7_readsCommand 39 = .ok (.aload_n 0, 1) := by decide +kernel
theorem dX7_readsCommand_40 : decode cX7_readsCommand 40 = .ok (.getfield 126, 3) := by decide +kernel
theorem dX7_readsCommand_43 : decode cX7_readsCommand 43 = .ok (.imul, 1) := by decide +kernel
theorem dX7_readsCommand_44 : decode cX7_readsCommand 44 = .ok (.iload_n 1, 1) := by decide +kernel
theorem dX7_readsCommand_45 : decode cX7_readsCommand 45 = .ok (.iastore, 1) := by decide +kernel
theorem dX7_readsCommand_46 : decode cX7_readsCommand 46 = .ok (.aload_n 0, 1) := by decide +kernel
theorem dX7_readsCommand_47 : decode cX7_readsCommand 47 = .ok (.getfield 25, 3) := by decide +kernel
theorem dX7_readsCommand_50 : decode cX7_readsCommand 50 = .ok (.iconst 2, 1) := by decide +kernel
theorem dX7_readsCommand_51 : decode cX7_readsCommand 51 = .ok (.aload_n 0, 1) := by decide +kernel
theorem dX7_readsCommand_52 : decode cX7_readsCommand 52 = .ok (.getfield 126, 3) := by decide +kernel
theorem dX7_readsCommand_55 : decode cX7_readsCommand 55 = .ok (.imul, 1) := by decide +kernel
theorem dX7_readsCommand_56 : decode cX7_readsCommand 56 = .ok (.iconst 1, 1) := by decide +kernel
theorem dX7_readsCommand_57 : decode cX7_readsCommand 57 = .ok (.iadd, 1) := by decide +kernel
theorem dX7_readsCommand_58 : decode cX7_readsCommand 58 = .ok (.aload_n 0, 1) := by decide +kernel
theorem dX7_readsCommand_59 : decode cX7_readsCommand 59 = .ok (.getfield 110, 3) := by decide +kernel
theorem dX7_readsCommand_62 : decode cX7_readsCommand 62 = .ok (.ifCond .eq 11, 3) := by decide +kernel
theorem dX7_readsCommand_65 : decode cX7_readsCommand 65 = .ok (.aload_n 0, 1) := by decide +kernel
theorem dX7_readsCommand_66 : decode cX7_readsCommand 66 = .ok (.iload_n 1, 1) := by decide +kernel
theorem dX7_readsCommand_67 : decode cX7_readsCommand 67 = .ok (.invokevirtual 129, 3) := by decide +kernel
theorem dX7_readsCommand_70 : decode cX7_readsCommand 70 = .ok (.goto 4, 3) := by decide +kernel
theorem dX7_readsCommand_73 : decode cX7_readsCommand 73 = .ok (.iconst 0, 1) := by decide +kernel
theorem dX7_readsCommand_74 : decode cX7_readsCommand 74 = .ok (.iastore, 1) := by decide +kernel
theorem dX7_readsCommand_75 : decode cX7_readsCommand 75 = .ok (.aload_n 0, 1) := by decide +kernel
theorem dX7_readsCommand_76 : decode cX7_readsCommand 76 = .ok (.dup, 1) := by decide +kernel
theorem dX7_readsCommand_77 : decode cX7_readsCommand 77 = .ok (.getfield 126, 3) := by decide +kernel
theorem dX7_readsCommand_80 : decode cX7_readsCommand 80 = .ok (.aload_n 0, 1) := by decide +kernel
theorem dX7_readsCommand_81 : decode cX7_readsCommand 81 = .ok (.getfield 110, 3) := by decide +kernel
theorem dX7_readsCommand_84 : decode cX7_readsCommand 84 = .ok (.ifCond .eq 7, 3) := by decide +kernel
theorem dX7_readsCommand_87 : decode cX7_readsCommand 87 = .ok (.iconst 1, 1) := by decide +kernel
theorem dX7_readsCommand_88 : decode cX7_readsCommand 88 = .ok (.goto 4, 3) := by decide +kernel
theorem dX7_readsCommand_91 : decode cX7_readsCommand 91 = .ok (.iconst 0, 1) := by decide +kernel
theorem dX7_readsCommand_92 : decode cX7_readsCommand 92 = .ok (.iadd, 1) := by decide +kernel
theorem dX7_readsCommand_93 : decode cX7_readsCommand 93 = .ok (.putfield 126, 3) := by decide +kernel
theorem dX7_readsCommand_96 : decode cX7_readsCommand 96 = .ok (.return_, 1) := by decide +kernel
theorem dX7_reads_0 : decode cX7_reads 0 = .ok (.aload_n 0, 1) := by decide +kernel
theorem dX7_reads_1 : decode cX7_reads 1 = .ok (.iconst 0, 1) := by decide +kernel
theorem dX7_reads_2 : decode cX7_reads 2 = .ok (.putfield 107, 3) := by decide +kernel
theorem dX7_reads_5 : decode cX7_reads 5 = .ok (.aload_n 0, 1) := by decide +kernel
theorem dX7_reads_6 : decode cX7_reads 6 = .ok (.iconst 1, 1) := by decide +kernel
theorem dX7_reads_7 : decode cX7_reads 7 = .ok (.putfield 110, 3) := by decide +kernel
theorem dX7_reads_10 : decode cX7_reads 10 = .ok (.aload_n 0, 1) := by decide +kernel
theorem dX7_reads_11 : decode cX7_reads 11 = .ok (.iconst 0, 1) := by decide +kernel
theorem dX7_reads_12 : decode cX7_reads 12 = .ok (.putfield 126, 3) := by decide +kernel
theorem dX7_reads_15 : decode cX7_reads 15 = .ok (.aload_n 0, 1) := by decide +kernel
theorem dX7_reads_16 : decode cX7_reads 16 = .ok (.invokevirtual 132, 3) := by decide +kernel
theorem dX7_reads_19 : decode cX7_reads 19 = .ok (.aload_n 0, 1) := by decide +kernel
theorem dX7_reads_20 : decode cX7_reads 20 = .ok (.getfield 110, 3) := by decide +kernel
theorem dX7_reads_23 : decode cX7_reads 23 = .ok (.ifCond .eq 67, 3) := by decide +kernel
theorem dX7_reads_26 : decode cX7_reads 26 = .ok (.aload_n 0, 1) := by decide +kernel
theorem dX7_reads_27 : decode cX7_reads 27 = .ok (.getfield 107, 3) := by decide +kernel
theorem dX7_reads_30 : decode cX7_reads 30 = .ok (.aload_n 0, 1) := by decide +kernel
theorem dX7_reads_31 : decode cX7_reads 31 = .ok (.getfield 104, 3) := by decide +kernel
theorem dX7_reads_34 : decode cX7_reads 34 = .ok (.if_icmp .ge 56, 3) := by decide +kernel
theorem dX7_reads_37 : decode cX7_reads 37 = .ok (.aload_n 0, 1) := by decide +kernel
theorem dX7_reads_38 : decode cX7_reads 38 = .ok (.aload_n 0, 1) := by decide +kernel
theorem dX7_reads_39 : decode cX7_reads 39 = .ok (.invokevirtual 114, 3) := by decide +kernel
theorem dX7_reads_42 : decode cX7_reads 42 = .ok (.bipush 44, 2) := by decide +kernel
theorem dX7_reads_44 : decode cX7_reads 44 = .ok (.if_icmp .ne 7, 3) := by decide +kernel
theorem dX7_reads_47 : decode cX7_reads 47 = .ok (.iconst 1, 1) := by decide +kernel
theorem dX7_reads_48 : decode cX7_reads 48 = .ok (.goto 4, 3) := by decide +kernel
theorem dX7_reads_51 : decode cX7_reads 51 = .ok (.iconst 0, 1) := by decide +kernel
theorem dX7_reads_52 : decode cX7_reads 52 = .ok (.putfield 110, 3) := by decide +kernel
theorem dX7_reads_55 : decode cX7_reads 55 = .ok (.aload_n 0, 1) := by decide +kernel
theorem dX7_reads_56 : decode cX7_reads 56 = .ok (.dup, 1) := by decide +kernel
theorem dX7_reads_57 : decode cX7_reads 57 = .ok (.getfield 107, 3) := by decide +kernel
theorem dX7_reads_60 : decode cX7_reads 60 = .ok (.aload_n 0, 1) := by decide +kernel
theorem dX7_reads_61 : decode cX7_reads 61 = .ok (.getfield 110, 3) := by decide +kernel
theorem dX7_reads_64 : decode cX7_reads 64 = .ok (.ifCond .eq 7, 3) := by decide +kernel
theorem dX7_reads_67 : decode cX7_reads 67 = .ok (.iconst 1, 1) := by decide +kernel
theorem dX7_reads_68 : decode cX7_reads 68 = .ok (.goto 4, 3) := by decide +kernel
theorem dX7_reads_71 : decode cX7_reads 71 = .ok (.iconst 0, 1) := by decide +kernel
theorem dX7_reads_72 : decode cX7_reads 72 = .ok (.iadd, 1) := by decide +kernel
theorem dX7_reads_73 : decode cX7_reads 73 = .ok (.putfield 107, 3) := by decide +kernel
theorem dX7_reads_76 : decode cX7_reads 76 = .ok (.aload_n 0, 1) := by decide +kernel
theorem dX7_reads_77 : decode cX7_reads 77 = .ok (.getfield 110, 3) := by decide +kernel
theorem dX7_reads_80 : decode cX7_reads 80 = .ok (.ifCond .eq (-61), 3) := by decide +kernel
theorem dX7_reads_83 : decode cX7_reads 83 = .ok (.aload_n 0, 1) := by decide +kernel
theorem dX7_reads_84 : decode cX7_reads 84 = .ok (.invokevirtual 132, 3) := by decide +kernel
theorem dX7_reads_87 : decode cX7_reads 87 = .ok (.goto (-68), 3) := by decide +kernel
theorem dX7_reads_90 : decode cX7_reads 90 = .ok (.aload_n 0, 1) := by decide +kernel
theorem dX7_reads_91 : decode cX7_reads 91 = .ok (.getfield 110, 3) := by decide +kernel
theorem dX7_reads_94 : decode cX7_reads 94 = .ok (.ifCond .eq 8, 3) := by decide +kernel
theorem dX7_reads_97 : decode cX7_reads 97 = .ok (.bipush (-105), 2) := by decide +kernel
theorem dX7_reads_99 : decode cX7_reads 99 = .ok (.goto 7, 3) := by decide +kernel
theorem dX7_reads_102 : decode cX7_reads 102 = .ok (.aload_n 0, 1) := by decide +kernel
theorem dX7_reads_103 : decode cX7_reads 103 = .ok (.getfield 107, 3) := by decide +kernel
theorem dX7_reads_106 : decode cX7_reads 106 = .ok (.ireturn, 1) := by decide +kernel
theorem dX7_whichOf_0 : decode cX7_whichOf 0 = .ok (.iload_n 0, 1) := by decide +kernel
theorem dX7_whichOf_1 : decode cX7_whichOf 1 = .ok (.bipush 100, 2) := by decide +kernel
theorem dX7_whichOf_3 : decode cX7_whichOf 3 = .ok (.if_icmp .ne 7, 3) := by decide +kernel
theorem dX7_whichOf_6 : decode cX7_whichOf 6 = .ok (.iconst 0, 1) := by decide +kernel
theorem dX7_whichOf_7 : decode cX7_whichOf 7 = .ok (.goto 34, 3) := by decide +kernel
theorem dX7_whichOf_10 : decode cX7_whichOf 10 = .ok (.iload_n 0, 1) := by decide +kernel
theorem dX7_whichOf_11 : decode cX7_whichOf 11 = .ok (.bipush 116, 2) := by decide +kernel
theorem dX7_whichOf_13 : decode cX7_whichOf 13 = .ok (.if_icmp .ne 7, 3) := by decide +kernel
theorem dX7_whichOf_16 : decode cX7_whichOf 16 = .ok (.iconst 1, 1) := by decide +kernel
theorem dX7_whichOf_17 : decode cX7_whichOf 17 = .ok (.goto 24, 3) := by decide +kernel
theorem dX7_whichOf_20 : decode cX7_whichOf 20 = .ok (.iload_n 0, 1) := by decide +kernel
theorem dX7_whichOf_21 : decode cX7_whichOf 21 = .ok (.bipush 102, 2) := by decide +kernel
theorem dX7_whichOf_23 : decode cX7_whichOf 23 = .ok (.if_icmp .ne 7, 3) := by decide +kernel
theorem dX7_whichOf_26 : decode cX7_whichOf 26 = .ok (.iconst 2, 1) := by decide +kernel
theorem dX7_whichOf_27 : decode cX7_whichOf 27 = .ok (.goto 14, 3) := by decide +kernel
theorem dX7_whichOf_30 : decode cX7_whichOf 30 = .ok (.iload_n 0, 1) := by decide +kernel
theorem dX7_whichOf_31 : decode cX7_whichOf 31 = .ok (.bipush 99, 2) := by decide +kernel
theorem dX7_whichOf_33 : decode cX7_whichOf 33 = .ok (.if_icmp .ne 7, 3) := by decide +kernel
theorem dX7_whichOf_36 : decode cX7_whichOf 36 = .ok (.iconst 3, 1) := by decide +kernel
theorem dX7_whichOf_37 : decode cX7_whichOf 37 = .ok (.goto 4, 3) := by decide +kernel
theorem dX7_whichOf_40 : decode cX7_whichOf 40 = .ok (.iconst 4, 1) := by decide +kernel
theorem dX7_whichOf_41 : decode cX7_whichOf 41 = .ok (.ireturn, 1) := by decide +kernel
theorem dX7_does_0 : decode cX7_does 0 = .ok (.iconst 0, 1) := by decide +kernel
theorem dX7_does_1 : decode cX7_does 1 = .ok (.istore_n 3, 1) := by decide +kernel
theorem dX7_does_2 : decode cX7_does 2 = .ok (.iload_n 1, 1) := by decide +kernel
theorem dX7_does_3 : decode cX7_does 3 = .ok (.tableswitch 221 103 120 #[85, 221, 221, 221, 221, 221, 221, 221, 124, 221, 221, 174, 114, 221, 221, 221, 203, 124], 85) := by decide +kernel
theorem dX7_does_88 : decode cX7_does 88 = .ok (.aload_n 0, 1) := by decide +kernel
theorem dX7_does_89 : decode cX7_does 89 = .ok (.invokevirtual 88, 3) := by decide +kernel
theorem dX7_does_92 : decode cX7_does 92 = .ok (.istore_n 3, 1) := by decide +kernel
theorem dX7_does_93 : decode cX7_does 93 = .ok (.aload_n 0, 1) := by decide +kernel
theorem dX7_does_94 : decode cX7_does 94 = .ok (.getfield 7, 3) := by decide +kernel
theorem dX7_does_97 : decode cX7_does 97 = .ok (.bipush 14, 2) := by decide +kernel
theorem dX7_does_99 : decode cX7_does 99 = .ok (.iload_n 3, 1) := by decide +kernel
theorem dX7_does_100 : decode cX7_does 100 = .ok (.ifCond .ne 7, 3) := by decide +kernel
theorem dX7_does_103 : decode cX7_does 103 = .ok (.iconst 1, 1) := by decide +kernel
theorem dX7_does_104 : decode cX7_does 104 = .ok (.goto 10, 3) := by decide +kernel
theorem dX7_does_107 : decode cX7_does 107 = .ok (.aload_n 0, 1) := by decide +kernel
theorem dX7_does_108 : decode cX7_does 108 = .ok (.getfield 7, 3) := by decide +kernel
theorem dX7_does_111 : decode cX7_does 111 = .ok (.bipush 14, 2) := by decide +kernel
theorem dX7_does_113 : decode cX7_does 113 = .ok (.iaload, 1) := by decide +kernel
theorem dX7_does_114 : decode cX7_does 114 = .ok (.iastore, 1) := by decide +kernel
theorem dX7_does_115 : decode cX7_does 115 = .ok (.iload_n 3, 1) := by decide +kernel
theorem dX7_does_116 : decode cX7_does 116 = .ok (.ireturn, 1) := by decide +kernel
theorem dX7_does_117 : decode cX7_does 117 = .ok (.aload_n 0, 1) := by decide +kernel
theorem dX7_does_118 : decode cX7_does 118 = .ok (.getfield 7, 3) := by decide +kernel
theorem dX7_does_121 : decode cX7_does 121 = .ok (.bipush 14, 2) := by decide +kernel
theorem dX7_does_123 : decode cX7_does 123 = .ok (.iconst 0, 1) := by decide +kernel
theorem dX7_does_124 : decode cX7_does 124 = .ok (.iastore, 1) := by decide +kernel
theorem dX7_does_125 : decode cX7_does 125 = .ok (.iconst 0, 1) := by decide +kernel
theorem dX7_does_126 : decode cX7_does 126 = .ok (.ireturn, 1) := by decide +kernel
theorem dX7_does_127 : decode cX7_does 127 = .ok (.aload_n 0, 1) := by decide +kernel
theorem dX7_does_128 : decode cX7_does 128 = .ok (.iload_n 1, 1) := by decide +kernel
theorem dX7_does_129 : decode cX7_does 129 = .ok (.bipush 111, 2) := by decide +kernel
theorem dX7_does_131 : decode cX7_does 131 = .ok (.if_icmp .ne 7, 3) := by decide +kernel
theorem dX7_does_134 : decode cX7_does 134 = .ok (.iconst 1, 1) := by decide +kernel
theorem dX7_does_135 : decode cX7_does 135 = .ok (.goto 4, 3) := by decide +kernel
theorem dX7_does_138 : decode cX7_does 138 = .ok (.iconst 0, 1) := by decide +kernel
theorem dX7_does_139 : decode cX7_does 139 = .ok (.invokevirtual 84, 3) := by decide +kernel
theorem dX7_does_142 : decode cX7_does 142 = .ok (.istore_n 3, 1) := by decide +kernel
theorem dX7_does_143 : decode cX7_does 143 = .ok (.aload_n 0, 1) := by decide +kernel
theorem dX7_does_144 : decode cX7_does 144 = .ok (.getfield 7, 3) := by decide +kernel
theorem dX7_does_147 : decode cX7_does 147 = .ok (.bipush 15, 2) := by decide +kernel
theorem dX7_does_149 : decode cX7_does 149 = .ok (.iload_n 3, 1) := by decide +kernel
theorem dX7_does_150 : decode cX7_does 150 = .ok (.ifCond .eq 13, 3) := by decide +kernel
theorem dX7_does_153 : decode cX7_does 153 = .ok (.aload_n 0, 1) := by decide +kernel
theorem dX7_does_154 : decode cX7_does 154 = .ok (.getfield 7, 3) := by decide +kernel
theorem dX7_does_157 : decode cX7_does 157 = .ok (.bipush 15, 2) := by decide +kernel
theorem dX7_does_159 : decode cX7_does 159 = .ok (.iaload, 1) := by decide +kernel
theorem dX7_does_160 : decode cX7_does 160 = .ok (.goto 14, 3) := by decide +kernel
theorem dX7_does_163 : decode cX7_does 163 = .ok (.iload_n 1, 1) := by decide +kernel
theorem dX7_does_164 : decode cX7_does 164 = .ok (.bipush 111, 2) := by decide +kernel
theorem dX7_does_166 : decode cX7_does 166 = .ok (.if_icmp .ne 7, 3) := by decide +kernel
theorem dX7_does_169 : decode cX7_does 169 = .ok (.iconst 1, 1) := by decide +kernel
theorem dX7_does_170 : decode cX7_does 170 = .ok (.goto 4, 3) := by decide +kernel
theorem dX7_does_173 : decode cX7_does 173 = .ok (.iconst 0, 1) := by decide +kernel
theorem dX7_does_174 : decode cX7_does 174 = .ok (.iastore, 1) := by decide +kernel
theorem dX7_does_175 : decode cX7_does 175 = .ok (.iload_n 3, 1) := by decide +kernel
theorem dX7_does_176 : decode cX7_does 176 = .ok (.ireturn, 1) := by decide +kernel
theorem dX7_does_177 : decode cX7_does 177 = .ok (.aload_n 0, 1) := by decide +kernel
theorem dX7_does_178 : decode cX7_does 178 = .ok (.invokevirtual 94, 3) := by decide +kernel
theorem dX7_does_181 : decode cX7_does 181 = .ok (.istore_n 3, 1) := by decide +kernel
theorem dX7_does_182 : decode cX7_does 182 = .ok (.aload_n 0, 1) := by decide +kernel
theorem dX7_does_183 : decode cX7_does 183 = .ok (.getfield 7, 3) := by decide +kernel
theorem dX7_does_186 : decode cX7_does 186 = .ok (.bipush 16, 2) := by decide +kernel
theorem dX7_does_188 : decode cX7_does 188 = .ok (.iload_n 3, 1) := by decide +kernel
theorem dX7_does_189 : decode cX7_does 189 = .ok (.ifCond .ne 7, 3) := by decide +kernel
theorem dX7_does_192 : decode cX7_does 192 = .ok (.iconst 0, 1) := by decide +kernel
theorem dX7_does_193 : decode cX7_does 193 = .ok (.goto 10, 3) := by decide +kernel
theorem dX7_does_196 : decode cX7_does 196 = .ok (.aload_n 0, 1) := by decide +kernel
theorem dX7_does_197 : decode cX7_does 197 = .ok (.getfield 7, 3) := by decide +kernel
theorem dX7_does_200 : decode cX7_does 200 = .ok (.bipush 16, 2) := by decide +kernel
theorem dX7_does_202 : decode cX7_does 202 = .ok (.iaload, 1) := by decide +kernel
theorem dX7_does_203 : decode cX7_does 203 = .ok (.iastore, 1) := by decide +kernel
theorem dX7_does_204 : decode cX7_does 204 = .ok (.iload_n 3, 1) := by decide +kernel
theorem dX7_does_205 : decode cX7_does 205 = .ok (.ireturn, 1) := by decide +kernel
theorem dX7_does_206 : decode cX7_does 206 = .ok (.aload_n 0, 1) := by decide +kernel
theorem dX7_does_207 : decode cX7_does 207 = .ok (.iload_n 2, 1) := by decide +kernel
theorem dX7_does_208 : decode cX7_does 208 = .ok (.invokevirtual 97, 3) := by decide +kernel
theorem dX7_does_211 : decode cX7_does 211 = .ok (.istore_n 3, 1) := by decide +kernel
theorem dX7_does_212 : decode cX7_does 212 = .ok (.iload_n 3, 1) := by decide +kernel
theorem dX7_does_213 : decode cX7_does 213 = .ok (.ifCond .ne 9, 3) := by decide +kernel
theorem dX7_does_216 : decode cX7_does 216 = .ok (.aload_n 0, 1) := by decide +kernel
theorem dX7_does_217 : decode cX7_does 217 = .ok (.iload_n 2, 1) := by decide +kernel
theorem dX7_does_218 : decode cX7_does 218 = .ok (.invokevirtual 101, 3) := by decide +kernel
theorem dX7_does_221 : decode cX7_does 221 = .ok (.pop, 1) := by decide +kernel
theorem dX7_does_222 : decode cX7_does 222 = .ok (.iload_n 3, 1) := by decide +kernel
theorem dX7_does_223 : decode cX7_does 223 = .ok (.ireturn, 1) := by decide +kernel
theorem dX7_does_224 : decode cX7_does 224 = .ok (.aload_n 0, 1) := by decide +kernel
theorem dX7_does_225 : decode cX7_does 225 = .ok (.getfield 7, 3) := by decide +kernel
theorem dX7_does_228 : decode cX7_does 228 = .ok (.iload_n 1, 1) := by decide +kernel
theorem dX7_does_229 : decode cX7_does 229 = .ok (.invokestatic 135, 3) := by decide +kernel
theorem dX7_does_232 : decode cX7_does 232 = .ok (.iload_n 2, 1) := by decide +kernel
theorem dX7_does_233 : decode cX7_does 233 = .ok (.iastore, 1) := by decide +kernel
theorem dX7_does_234 : decode cX7_does 234 = .ok (.iconst 0, 1) := by decide +kernel
theorem dX7_does_235 : decode cX7_does 235 = .ok (.ireturn, 1) := by decide +kernel
theorem dX7_perform_0 : decode cX7_perform 0 = .ok (.aload_n 0, 1) := by decide +kernel
theorem dX7_perform_1 : decode cX7_perform 1 = .ok (.iconst 0, 1) := by decide +kernel
theorem dX7_perform_2 : decode cX7_perform 2 = .ok (.putfield 28, 3) := by decide +kernel
theorem dX7_perform_5 : decode cX7_perform 5 = .ok (.aload_n 0, 1) := by decide +kernel
theorem dX7_perform_6 : decode cX7_perform 6 = .ok (.invokevirtual 138, 3) := by decide +kernel
theorem dX7_perform_9 : decode cX7_perform 9 = .ok (.istore_n 1, 1) := by decide +kernel
theorem dX7_perform_10 : decode cX7_perform 10 = .ok (.iload_n 1, 1) := by decide +kernel
theorem dX7_perform_11 : decode cX7_perform 11 = .ok (.bipush (-105), 2) := by decide +kernel
theorem dX7_perform_13 : decode cX7_perform 13 = .ok (.if_icmp .eq 9, 3) := by decide +kernel
theorem dX7_perform_16 : decode cX7_perform 16 = .ok (.sipush (-200), 3) := by decide +kernel
theorem dX7_perform_19 : decode cX7_perform 19 = .ok (.iload_n 1, 1) := by decide +kernel
theorem dX7_perform_20 : decode cX7_perform 20 = .ok (.isub, 1) := by decide +kernel
theorem dX7_perform_21 : decode cX7_perform 21 = .ok (.ireturn, 1) := by decide +kernel
theorem dX7_perform_22 : decode cX7_perform 22 = .ok (.aload_n 0, 1) := by decide +kernel
theorem dX7_perform_23 : decode cX7_perform 23 = .ok (.invokevirtual 141, 3) := by decide +kernel
theorem dX7_perform_26 : decode cX7_perform 26 = .ok (.iconst 0, 1) := by decide +kernel
theorem dX7_perform_27 : decode cX7_perform 27 = .ok (.istore_n 2, 1) := by decide +kernel
theorem dX7_perform_28 : decode cX7_perform 28 = .ok (.iload_n 2, 1) := by decide +kernel
theorem dX7_perform_29 : decode cX7_perform 29 = .ok (.aload_n 0, 1) := by decide +kernel
theorem dX7_perform_30 : decode cX7_perform 30 = .ok (.getfield 126, 3) := by decide +kernel
theorem dX7_perform_33 : decode cX7_perform 33 = .ok (.if_icmp .ge 59, 3) := by decide +kernel
theorem dX7_perform_36 : decode cX7_perform 36 = .ok (.aload_n 0, 1) := by decide +kernel
theorem dX7_perform_37 : decode cX7_perform 37 = .ok (.aload_n 0, 1) := by decide +kernel
theorem dX7_perform_38 : decode cX7_perform 38 = .ok (.getfield 25, 3) := by decide +kernel
theorem dX7_perform_41 : decode cX7_perform 41 = .ok (.iconst 2, 1) := by decide +kernel
theorem dX7_perform_42 : decode cX7_perform 42 = .ok (.iload_n 2, 1) := by decide +kernel
theorem dX7_perform_43 : decode cX7_perform 43 = .ok (.imul, 1) := by decide +kernel
theorem dX7_perform_44 : decode cX7_perform 44 = .ok (.iaload, 1) := by decide +kernel
theorem dX7_perform_45 : decode cX7_perform 45 = .ok (.aload_n 0, 1) := by decide +kernel
theorem dX7_perform_46 : decode cX7_perform 46 = .ok (.getfield 25, 3) := by decide +kernel
theorem dX7_perform_49 : decode cX7_perform 49 = .ok (.iconst 2, 1) := by decide +kernel
theorem dX7_perform_50 : decode cX7_perform 50 = .ok (.iload_n 2, 1) := by decide +kernel
theorem dX7_perform_51 : decode cX7_perform 51 = .ok (.imul, 1) := by decide +kernel
theorem dX7_perform_52 : decode cX7_perform 52 = .ok (.iconst 1, 1) := by decide +kernel
theorem dX7_perform_53 : decode cX7_perform 53 = .ok (.iadd, 1) := by decide +kernel
theorem dX7_perform_54 : decode cX7_perform 54 = .ok (.iaload, 1) := by decide +kernel
theorem dX7_perform_55 : decode cX7_perform 55 = .ok (.invokevirtual 144, 3) := by decide +kernel
theorem dX7_perform_58 : decode cX7_perform 58 = .ok (.istore_n 3, 1) := by decide +kernel
theorem dX7_perform_59 : decode cX7_perform 59 = .ok (.iload_n 3, 1) := by decide +kernel
theorem dX7_perform_60 : decode cX7_perform 60 = .ok (.ifCond .eq 26, 3) := by decide +kernel
theorem dX7_perform_63 : decode cX7_perform 63 = .ok (.iload_n 3, 1) := by decide +kernel
theorem dX7_perform_64 : decode cX7_perform 64 = .ok (.bipush (-105), 2) := by decide +kernel
theorem dX7_perform_66 : decode cX7_perform 66 = .ok (.if_icmp .eq 20, 3) := by decide +kernel
theorem dX7_perform_69 : decode cX7_perform 69 = .ok (.aload_n 0, 1) := by decide +kernel
theorem dX7_perform_70 : decode cX7_perform 70 = .ok (.invokevirtual 147, 3) := by decide +kernel
theorem dX7_perform_73 : decode cX7_perform 73 = .ok (.aload_n 0, 1) := by decide +kernel
theorem dX7_perform_74 : decode cX7_perform 74 = .ok (.iload_n 2, 1) := by decide +kernel
theorem dX7_perform_75 : decode cX7_perform 75 = .ok (.putfield 32, 3) := by decide +kernel
theorem dX7_perform_78 : decode cX7_perform 78 = .ok (.aload_n 0, 1) := by decide +kernel
theorem dX7_perform_79 : decode cX7_perform 79 = .ok (.iload_n 3, 1) := by decide +kernel
theorem dX7_perform_80 : decode cX7_perform 80 = .ok (.putfield 35, 3) := by decide +kernel
theorem dX7_perform_83 : decode cX7_perform 83 = .ok (.bipush (-104), 2) := by decide +kernel
theorem dX7_perform_85 : decode cX7_perform 85 = .ok (.ireturn, 1) := by decide +kernel
theorem dX7_perform_86 : decode cX7_perform 86 = .ok (.iinc 2 1, 3) := by decide +kernel
theorem dX7_perform_89 : decode cX7_perform 89 = .ok (.goto (-61), 3) := by decide +kernel
theorem dX7_perform_92 : decode cX7_perform 92 = .ok (.aload_n 0, 1) := by decide +kernel
theorem dX7_perform_93 : decode cX7_perform 93 = .ok (.invokevirtual 150, 3) := by decide +kernel
theorem dX7_perform_96 : decode cX7_perform 96 = .ok (.aload_n 0, 1) := by decide +kernel
theorem dX7_perform_97 : decode cX7_perform 97 = .ok (.invokevirtual 81, 3) := by decide +kernel
theorem dX7_perform_100 : decode cX7_perform 100 = .ok (.aload_n 0, 1) := by decide +kernel
theorem dX7_perform_101 : decode cX7_perform 101 = .ok (.invokevirtual 150, 3) := by decide +kernel
theorem dX7_perform_104 : decode cX7_perform 104 = .ok (.aload_n 0, 1) := by decide +kernel
theorem dX7_perform_105 : decode cX7_perform 105 = .ok (.getfield 126, 3) := by decide +kernel
theorem dX7_perform_108 : decode cX7_perform 108 = .ok (.ireturn, 1) := by decide +kernel
theorem dX7_swapsAside_0 : decode cX7_swapsAside 0 = .ok (.iconst 0, 1) := by decide +kernel
theorem dX7_swapsAside_1 : decode cX7_swapsAside 1 = .ok (.istore_n 1, 1) := by decide +kernel
theorem dX7_swapsAside_2 : decode cX7_swapsAside 2 = .ok (.iload_n 1, 1) := by decide +kernel
theorem dX7_swapsAside_3 : decode cX7_swapsAside 3 = .ok (.bipush 56, 2) := by decide +kernel
theorem dX7_swapsAside_5 : decode cX7_swapsAside 5 = .ok (.if_icmp .ge 35, 3) := by decide +kernel
theorem dX7_swapsAside_8 : decode cX7_swapsAside 8 = .ok (.aload_n 0, 1) := by decide +kernel
theorem dX7_swapsAside_9 : decode cX7_swapsAside 9 = .ok (.getfield 7, 3) := by decide +kernel
theorem dX7_swapsAside_12 : decode cX7_swapsAside 12 = .ok (.iload_n 1, 1) := by decide +kernel
theorem dX7_swapsAside_13 : decode cX7_swapsAside 13 = .ok (.iaload, 1) := by decide +kernel
theorem dX7_swapsAside_14 : decode cX7_swapsAside 14 = .ok (.istore_n 2, 1) := by decide +kernel
theorem dX7_swapsAside_15 : decode cX7_swapsAside 15 = .ok (.aload_n 0, 1) := by decide +kernel
theorem dX7_swapsAside_16 : decode cX7_swapsAside 16 = .ok (.getfield 7, 3) := by decide +kernel
theorem dX7_swapsAside_19 : decode cX7_swapsAside 19 = .ok (.iload_n 1, 1) := by decide +kernel
theorem dX7_swapsAside_20 : decode cX7_swapsAside 20 = .ok (.aload_n 0, 1) := by decide +kernel
theorem dX7_swapsAside_21 : decode cX7_swapsAside 21 = .ok (.getfield 13, 3) := by decide +kernel
theorem dX7_swapsAside_24 : decode cX7_swapsAside 24 = .ok (.iload_n 1, 1) := by decide +kernel
theorem dX7_swapsAside_25 : decode cX7_swapsAside 25 = .ok (.iaload, 1) := by decide +kernel
theorem dX7_swapsAside_26 : decode cX7_swapsAside 26 = .ok (.iastore, 1) := by decide +kernel
theorem dX7_swapsAside_27 : decode cX7_swapsAside 27 = .ok (.aload_n 0, 1) := by decide +kernel
theorem dX7_swapsAside_28 : decode cX7_swapsAside 28 = .ok (.getfield 13, 3) := by decide +kernel
theorem dX7_swapsAside_31 : decode cX7_swapsAside 31 = .ok (.iload_n 1, 1) := by decide +kernel
theorem dX7_swapsAside_32 : decode cX7_swapsAside 32 = .ok (.iload_n 2, 1) := by decide +kernel
theorem dX7_swapsAside_33 : decode cX7_swapsAside 33 = .ok (.iastore, 1) := by decide +kernel
theorem dX7_swapsAside_34 : decode cX7_swapsAside 34 = .ok (.iinc 1 1, 3) := by decide +kernel
theorem dX7_swapsAside_37 : decode cX7_swapsAside 37 = .ok (.goto (-35), 3) := by decide +kernel
theorem dX7_swapsAside_40 : decode cX7_swapsAside 40 = .ok (.return_, 1) := by decide +kernel
theorem dX7_stopped_0 : decode cX7_stopped 0 = .ok (.aload_n 0, 1) := by decide +kernel
theorem dX7_stopped_1 : decode cX7_stopped 1 = .ok (.iconst 0, 1) := by decide +kernel
theorem dX7_stopped_2 : decode cX7_stopped 2 = .ok (.putfield 28, 3) := by decide +kernel
theorem dX7_stopped_5 : decode cX7_stopped 5 = .ok (.iload_n 1, 1) := by decide +kernel
theorem dX7_stopped_6 : decode cX7_stopped 6 = .ok (.ifCond .ne 10, 3) := by decide +kernel
theorem dX7_stopped_9 : decode cX7_stopped 9 = .ok (.aload_n 0, 1) := by decide +kernel
theorem dX7_stopped_10 : decode cX7_stopped 10 = .ok (.getfield 32, 3) := by decide +kernel
theorem dX7_stopped_13 : decode cX7_stopped 13 = .ok (.goto 17, 3) := by decide +kernel
theorem dX7_stopped_16 : decode cX7_stopped 16 = .ok (.iload_n 1, 1) := by decide +kernel
theorem dX7_stopped_17 : decode cX7_stopped 17 = .ok (.iconst 1, 1) := by decide +kernel
theorem dX7_stopped_18 : decode cX7_stopped 18 = .ok (.if_icmp .ne 10, 3) := by decide +kernel
theorem dX7_stopped_21 : decode cX7_stopped 21 = .ok (.aload_n 0, 1) := by decide +kernel
theorem dX7_stopped_22 : decode cX7_stopped 22 = .ok (.getfield 35, 3) := by decide +kernel
theorem dX7_stopped_25 : decode cX7_stopped 25 = .ok (.goto 5, 3) := by decide +kernel
theorem dX7_stopped_28 : decode cX7_stopped 28 = .ok (.bipush (-102), 2) := by decide +kernel
theorem dX7_stopped_30 : decode cX7_stopped 30 = .ok (.ireturn, 1) := by decide +kernel
theorem dX7_undo_0 : decode cX7_undo 0 = .ok (.aload_n 0, 1) := by decide +kernel
theorem dX7_undo_1 : decode cX7_undo 1 = .ok (.iconst 0, 1) := by decide +kernel
theorem dX7_undo_2 : decode cX7_undo 2 = .ok (.putfield 28, 3) := by decide +kernel
theorem dX7_undo_5 : decode cX7_undo 5 = .ok (.aload_n 0, 1) := by decide +kernel
theorem dX7_undo_6 : decode cX7_undo 6 = .ok (.getfield 38, 3) := by decide +kernel
theorem dX7_undo_9 : decode cX7_undo 9 = .ok (.ifCond .ne 6, 3) := by decide +kernel
theorem dX7_undo_12 : decode cX7_undo 12 = .ok (.bipush (-105), 2) := by decide +kernel
theorem dX7_undo_14 : decode cX7_undo 14 = .ok (.ireturn, 1) := by decide +kernel
theorem dX7_undo_15 : decode cX7_undo 15 = .ok (.aload_n 0, 1) := by decide +kernel
theorem dX7_undo_16 : decode cX7_undo 16 = .ok (.dup, 1) := by decide +kernel
theorem dX7_undo_17 : decode cX7_undo 17 = .ok (.getfield 38, 3) := by decide +kernel
theorem dX7_undo_20 : decode cX7_undo 20 = .ok (.iconst 1, 1) := by decide +kernel
theorem dX7_undo_21 : decode cX7_undo 21 = .ok (.isub, 1) := by decide +kernel
theorem dX7_undo_22 : decode cX7_undo 22 = .ok (.putfield 38, 3) := by decide +kernel
theorem dX7_undo_25 : decode cX7_undo 25 = .ok (.iconst 0, 1) := by decide +kernel
theorem dX7_undo_26 : decode cX7_undo 26 = .ok (.istore_n 1, 1) := by decide +kernel
theorem dX7_undo_27 : decode cX7_undo 27 = .ok (.iload_n 1, 1) := by decide +kernel
theorem dX7_undo_28 : decode cX7_undo 28 = .ok (.bipush 56, 2) := by decide +kernel
theorem dX7_undo_30 : decode cX7_undo 30 = .ok (.if_icmp .ge 29, 3) := by decide +kernel
theorem dX7_undo_33 : decode cX7_undo 33 = .ok (.aload_n 0, 1) := by decide +kernel
theorem dX7_undo_34 : decode cX7_undo 34 = .ok (.getfield 7, 3) := by decide +kernel
theorem dX7_undo_37 : decode cX7_undo 37 = .ok (.iload_n 1, 1) := by decide +kernel
theorem dX7_undo_38 : decode cX7_undo 38 = .ok (.aload_n 0, 1) := by decide +kernel
theorem dX7_undo_39 : decode cX7_undo 39 = .ok (.getfield 16, 3) := by decide +kernel
theorem dX7_undo_42 : decode cX7_undo 42 = .ok (.bipush 56, 2) := by decide +kernel
theorem dX7_undo_44 : decode cX7_undo 44 = .ok (.aload_n 0, 1) := by decide +kernel
theorem dX7_undo_45 : decode cX7_undo 45 = .ok (.getfield 38, 3) := by decide +kernel
theorem dX7_undo_48 : decode cX7_undo 48 = .ok (.imul, 1) := by decide +kernel
theorem dX7_undo_49 : decode cX7_undo 49 = .ok (.iload_n 1, 1) := by decide +kernel
theorem dX7_undo_50 : decode cX7_undo 50 = .ok (.iadd, 1) := by decide +kernel
theorem dX7_undo_51 : decode cX7_undo 51 = .ok (.iaload, 1) := by decide +kernel
theorem dX7_undo_52 : decode cX7_undo 52 = .ok (.iastore, 1) := by decide +kernel
theorem dX7_undo_53 : decode cX7_undo 53 = .ok (.iinc 1 1, 3) := by decide +kernel
theorem dX7_undo_56 : decode cX7_undo 56 = .ok (.goto (-29), 3) := by decide +kernel
theorem dX7_undo_59 : decode cX7_undo 59 = .ok (.aload_n 0, 1) := by decide +kernel
theorem dX7_undo_60 : decode cX7_undo 60 = .ok (.getfield 38, 3) := by decide +kernel
theorem dX7_undo_63 : decode cX7_undo 63 = .ok (.ireturn, 1) := by decide +kernel
theorem dX7_keep_0 : decode cX7_keep 0 = .ok (.aload_n 0, 1) := by decide +kernel
theorem dX7_keep_1 : decode cX7_keep 1 = .ok (.iconst 0, 1) := by decide +kernel
theorem dX7_keep_2 : decode cX7_keep 2 = .ok (.putfield 28, 3) := by decide +kernel
theorem dX7_keep_5 : decode cX7_keep 5 = .ok (.iconst 0, 1) := by decide +kernel
theorem dX7_keep_6 : decode cX7_keep 6 = .ok (.istore_n 1, 1) := by decide +kernel
theorem dX7_keep_7 : decode cX7_keep 7 = .ok (.iload_n 1, 1) := by decide +kernel
theorem dX7_keep_8 : decode cX7_keep 8 = .ok (.bipush 56, 2) := by decide +kernel
theorem dX7_keep_10 : decode cX7_keep 10 = .ok (.if_icmp .ge 21, 3) := by decide +kernel
theorem dX7_keep_13 : decode cX7_keep 13 = .ok (.aload_n 0, 1) := by decide +kernel
theorem dX7_keep_14 : decode cX7_keep 14 = .ok (.getfield 19, 3) := by decide +kernel
theorem dX7_keep_17 : decode cX7_keep 17 = .ok (.iload_n 1, 1) := by decide +kernel
theorem dX7_keep_18 : decode cX7_keep 18 = .ok (.aload_n 0, 1) := by decide +kernel
theorem dX7_keep_19 : decode cX7_keep 19 = .ok (.getfield 7, 3) := by decide +kernel
theorem dX7_keep_22 : decode cX7_keep 22 = .ok (.iload_n 1, 1) := by decide +kernel
theorem dX7_keep_23 : decode cX7_keep 23 = .ok (.iaload, 1) := by decide +kernel
theorem dX7_keep_24 : decode cX7_keep 24 = .ok (.iastore, 1) := by decide +kernel
theorem dX7_keep_25 : decode cX7_keep 25 = .ok (.iinc 1 1, 3) := by decide +kernel
theorem dX7_keep_28 : decode cX7_keep 28 = .ok (.goto (-21), 3) := by decide +kernel
theorem dX7_keep_31 : decode cX7_keep 31 = .ok (.aload_n 0, 1) := by decide +kernel
theorem dX7_keep_32 : decode cX7_keep 32 = .ok (.iconst 1, 1) := by decide +kernel
theorem dX7_keep_33 : decode cX7_keep 33 = .ok (.putfield 153, 3) := by decide +kernel
theorem dX7_keep_36 : decode cX7_keep 36 = .ok (.aload_n 0, 1) := by decide +kernel
theorem dX7_keep_37 : decode cX7_keep 37 = .ok (.getfield 7, 3) := by decide +kernel
theorem dX7_keep_40 : decode cX7_keep 40 = .ok (.bipush 17, 2) := by decide +kernel
theorem dX7_keep_42 : decode cX7_keep 42 = .ok (.iaload, 1) := by decide +kernel
theorem dX7_keep_43 : decode cX7_keep 43 = .ok (.ireturn, 1) := by decide +kernel
theorem dX7_restore_0 : decode cX7_restore 0 = .ok (.aload_n 0, 1) := by decide +kernel
theorem dX7_restore_1 : decode cX7_restore 1 = .ok (.iconst 0, 1) := by decide +kernel
theorem dX7_restore_2 : decode cX7_restore 2 = .ok (.putfield 28, 3) := by decide +kernel
theorem dX7_restore_5 : decode cX7_restore 5 = .ok (.aload_n 0, 1) := by decide +kernel
theorem dX7_restore_6 : decode cX7_restore 6 = .ok (.getfield 153, 3) := by decide +kernel
theorem dX7_restore_9 : decode cX7_restore 9 = .ok (.ifCond .ne 6, 3) := by decide +kernel
theorem dX7_restore_12 : decode cX7_restore 12 = .ok (.bipush (-105), 2) := by decide +kernel
theorem dX7_restore_14 : decode cX7_restore 14 = .ok (.ireturn, 1) := by decide +kernel
theorem dX7_restore_15 : decode cX7_restore 15 = .ok (.aload_n 0, 1) := by decide +kernel
theorem dX7_restore_16 : decode cX7_restore 16 = .ok (.invokevirtual 81, 3) := by decide +kernel
theorem dX7_restore_19 : decode cX7_restore 19 = .ok (.iconst 0, 1) := by decide +kernel
theorem dX7_restore_20 : decode cX7_restore 20 = .ok (.istore_n 1, 1) := by decide +kernel
theorem dX7_restore_21 : decode cX7_restore 21 = .ok (.iload_n 1, 1) := by decide +kernel
theorem dX7_restore_22 : decode cX7_restore 22 = .ok (.bipush 56, 2) := by decide +kernel
theorem dX7_restore_24 : decode cX7_restore 24 = .ok (.if_icmp .ge 21, 3) := by decide +kernel
theorem dX7_restore_27 : decode cX7_restore 27 = .ok (.aload_n 0, 1) := by decide +kernel
theorem dX7_restore_28 : decode cX7_restore 28 = .ok (.getfield 7, 3) := by decide +kernel
theorem dX7_restore_31 : decode cX7_restore 31 = .ok (.iload_n 1, 1) := by decide +kernel
theorem dX7_restore_32 : decode cX7_restore 32 = .ok (.aload_n 0, 1) := by decide +kernel
theorem dX7_restore_33 : decode cX7_restore 33 = .ok (.getfield 19, 3) := by decide +kernel
theorem dX7_restore_36 : decode cX7_restore 36 = .ok (.iload_n 1, 1) := by decide +kernel
theorem dX7_restore_37 : decode cX7_restore 37 = .ok (.iaload, 1) := by decide +kernel
theorem dX7_restore_38 : decode cX7_restore 38 = .ok (.iastore, 1) := by decide +kernel
theorem dX7_restore_39 : decode cX7_restore 39 = .ok (.iinc 1 1, 3) := by decide +kernel
theorem dX7_restore_42 : decode cX7_restore 42 = .ok (.goto (-21), 3) := by decide +kernel
theorem dX7_restore_45 : decode cX7_restore 45 = .ok (.aload_n 0, 1) := by decide +kernel
theorem dX7_restore_46 : decode cX7_restore 46 = .ok (.getfield 7, 3) := by decide +kernel
theorem dX7_restore_49 : decode cX7_restore 49 = .ok (.bipush 17, 2) := by decide +kernel
theorem dX7_restore_51 : decode cX7_restore 51 = .ok (.iaload, 1) := by decide +kernel
theorem dX7_restore_52 : decode cX7_restore 52 = .ok (.ireturn, 1) := by decide +kernel
theorem dX7_bucket_0 : decode cX7_bucket 0 = .ok (.aload_n 0, 1) := by decide +kernel
theorem dX7_bucket_1 : decode cX7_bucket 1 = .ok (.iconst 0, 1) := by decide +kernel
theorem dX7_bucket_2 : decode cX7_bucket 2 = .ok (.putfield 28, 3) := by decide +kernel
theorem dX7_bucket_5 : decode cX7_bucket 5 = .ok (.iload_n 1, 1) := by decide +kernel
theorem dX7_bucket_6 : decode cX7_bucket 6 = .ok (.iconst 0, 1) := by decide +kernel
theorem dX7_bucket_7 : decode cX7_bucket 7 = .ok (.bipush 11, 2) := by decide +kernel
theorem dX7_bucket_9 : decode cX7_bucket 9 = .ok (.invokestatic 68, 3) := by decide +kernel
theorem dX7_bucket_12 : decode cX7_bucket 12 = .ok (.ifCond .eq 15, 3) := by decide +kernel
theorem dX7_bucket_15 : decode cX7_bucket 15 = .ok (.aload_n 0, 1) := by decide +kernel
theorem dX7_bucket_16 : decode cX7_bucket 16 = .ok (.getfield 7, 3) := by decide +kernel
theorem dX7_bucket_19 : decode cX7_bucket 19 = .ok (.bipush 18, 2) := by decide +kernel
theorem dX7_bucket_21 : decode cX7_bucket 21 = .ok (.iload_n 1, 1) := by decide +kernel
theorem dX7_bucket_22 : decode cX7_bucket 22 = .ok (.iadd, 1) := by decide +kernel
theorem dX7_bucket_23 : decode cX7_bucket 23 = .ok (.iaload, 1) := by decide +kernel
theorem dX7_bucket_24 : decode cX7_bucket 24 = .ok (.goto 5, 3) := by decide +kernel
theorem dX7_bucket_27 : decode cX7_bucket 27 = .ok (.bipush (-101), 2) := by decide +kernel
theorem dX7_bucket_29 : decode cX7_bucket 29 = .ok (.ireturn, 1) := by decide +kernel
theorem dX7_sensor_0 : decode cX7_sensor 0 = .ok (.aload_n 0, 1) := by decide +kernel
theorem dX7_sensor_1 : decode cX7_sensor 1 = .ok (.iconst 0, 1) := by decide +kernel
theorem dX7_sensor_2 : decode cX7_sensor 2 = .ok (.putfield 28, 3) := by decide +kernel
theorem dX7_sensor_5 : decode cX7_sensor 5 = .ok (.iload_n 1, 1) := by decide +kernel
theorem dX7_sensor_6 : decode cX7_sensor 6 = .ok (.iconst 0, 1) := by decide +kernel
theorem dX7_sensor_7 : decode cX7_sensor 7 = .ok (.iconst 2, 1) := by decide +kernel
theorem dX7_sensor_8 : decode cX7_sensor 8 = .ok (.invokestatic 68, 3) := by decide +kernel
theorem dX7_sensor_11 : decode cX7_sensor 11 = .ok (.ifCond .ne 6, 3) := by decide +kernel
theorem dX7_sensor_14 : decode cX7_sensor 14 = .ok (.bipush (-101), 2) := by decide +kernel
theorem dX7_sensor_16 : decode cX7_sensor 16 = .ok (.ireturn, 1) := by decide +kernel
theorem dX7_sensor_17 : decode cX7_sensor 17 = .ok (.iload_n 2, 1) := by decide +kernel
theorem dX7_sensor_18 : decode cX7_sensor 18 = .ok (.tableswitch 90 0 3 #[30, 66, 76, 80], 30) := by decide +kernel
theorem dX7_sensor_48 : decode cX7_sensor 48 = .ok (.iload_n 1, 1) := by decide +kernel
theorem dX7_sensor_49 : decode cX7_sensor 49 = .ok (.ifCond .ne 13, 3) := by decide +kernel
theorem dX7_sensor_52 : decode cX7_sensor 52 = .ok (.aload_n 0, 1) := by decide +kernel
theorem dX7_sensor_53 : decode cX7_sensor 53 = .ok (.getfield 7, 3) := by decide +kernel
theorem dX7_sensor_56 : decode cX7_sensor 56 = .ok (.bipush 11, 2) := by decide +kernel
theorem dX7_sensor_58 : decode cX7_sensor 58 = .ok (.iaload, 1) := by decide +kernel
theorem dX7_sensor_59 : decode cX7_sensor 59 = .ok (.goto 24, 3) := by decide +kernel
theorem dX7_sensor_62 : decode cX7_sensor 62 = .ok (.iload_n 1, 1) := by decide +kernel
theorem dX7_sensor_63 : decode cX7_sensor 63 = .ok (.iconst 1, 1) := by decide +kernel
theorem dX7_sensor_64 : decode cX7_sensor 64 = .ok (.if_icmp .ne 12, 3) := by decide +kernel
theorem dX7_sensor_67 : decode cX7_sensor 67 = .ok (.aload_n 0, 1) := by decide +kernel
theorem dX7_sensor_68 : decode cX7_sensor 68 = .ok (.getfield 7, 3) := by decide +kernel
theorem dX7_sensor_71 : decode cX7_sensor 71 = .ok (.iconst 5, 1) := by decide +kernel
theorem dX7_sensor_72 : decode cX7_sensor 72 = .ok (.iaload, 1) := by decide +kernel
theorem dX7_sensor_73 : decode cX7_sensor 73 = .ok (.goto 10, 3) := by decide +kernel
theorem dX7_sensor_76 : decode cX7_sensor 76 = .ok (.aload_n 0, 1) := by decide +kernel
theorem dX7_sensor_77 : decode cX7_sensor 77 = .ok (.getfield 7, 3) := by decide +kernel
theorem dX7_sensor_80 : decode cX7_sensor 80 = .ok (.bipush 13, 2) := by decide +kernel
theorem dX7_sensor_82 : decode cX7_sensor 82 = .ok (.iaload, 1) := by decide +kernel
theorem dX7_sensor_83 : decode cX7_sensor 83 = .ok (.ireturn, 1) := by decide +kernel
theorem dX7_sensor_84 : decode cX7_sensor 84 = .ok (.aload_n 0, 1) := by decide +kernel
theorem dX7_sensor_85 : decode cX7_sensor 85 = .ok (.getfield 7, 3) := by decide +kernel
theorem dX7_sensor_88 : decode cX7_sensor 88 = .ok (.bipush 30, 2) := by decide +kernel
theorem dX7_sensor_90 : decode cX7_sensor 90 = .ok (.iload_n 1, 1) := by decide +kernel
theorem dX7_sensor_91 : decode cX7_sensor 91 = .ok (.iadd, 1) := by decide +kernel
theorem dX7_sensor_92 : decode cX7_sensor 92 = .ok (.iaload, 1) := by decide +kernel
theorem dX7_sensor_93 : decode cX7_sensor 93 = .ok (.ireturn, 1) := by decide +kernel
theorem dX7_sensor_94 : decode cX7_sensor 94 = .ok (.iconst 3, 1) := by decide +kernel
theorem dX7_sensor_95 : decode cX7_sensor 95 = .ok (.iload_n 1, 1) := by decide +kernel
theorem dX7_sensor_96 : decode cX7_sensor 96 = .ok (.isub, 1) := by decide +kernel
theorem dX7_sensor_97 : decode cX7_sensor 97 = .ok (.ireturn, 1) := by decide +kernel
theorem dX7_sensor_98 : decode cX7_sensor 98 = .ok (.aload_n 0, 1) := by decide +kernel
theorem dX7_sensor_99 : decode cX7_sensor 99 = .ok (.getfield 7, 3) := by decide +kernel
theorem dX7_sensor_102 : decode cX7_sensor 102 = .ok (.bipush 33, 2) := by decide +kernel
theorem dX7_sensor_104 : decode cX7_sensor 104 = .ok (.iload_n 1, 1) := by decide +kernel
theorem dX7_sensor_105 : decode cX7_sensor 105 = .ok (.iadd, 1) := by decide +kernel
theorem dX7_sensor_106 : decode cX7_sensor 106 = .ok (.iaload, 1) := by decide +kernel
theorem dX7_sensor_107 : decode cX7_sensor 107 = .ok (.ireturn, 1) := by decide +kernel
theorem dX7_sensor_108 : decode cX7_sensor 108 = .ok (.bipush (-102), 2) := by decide +kernel
theorem dX7_sensor_110 : decode cX7_sensor 110 = .ok (.ireturn, 1) := by decide +kernel
theorem dX7_untilTrip_0 : decode cX7_untilTrip 0 = .ok (.iconst 0, 1) := by decide +kernel
theorem dX7_untilTrip_1 : decode cX7_untilTrip 1 = .ok (.istore_n 2, 1) := by decide +kernel
theorem dX7_untilTrip_2 : decode cX7_untilTrip 2 = .ok (.iload_n 2, 1) := by decide +kernel
theorem dX7_untilTrip_3 : decode cX7_untilTrip 3 = .ok (.iload_n 1, 1) := by decide +kernel
theorem dX7_untilTrip_4 : decode cX7_untilTrip 4 = .ok (.if_icmp .ge 24, 3) := by decide +kernel
theorem dX7_untilTrip_7 : decode cX7_untilTrip 7 = .ok (.aload_n 0, 1) := by decide +kernel
theorem dX7_untilTrip_8 : decode cX7_untilTrip 8 = .ok (.getfield 7, 3) := by decide +kernel
theorem dX7_untilTrip_11 : decode cX7_untilTrip 11 = .ok (.bipush 14, 2) := by decide +kernel
theorem dX7_untilTrip_13 : decode cX7_untilTrip 13 = .ok (.iaload, 1) := by decide +kernel
theorem dX7_untilTrip_14 : decode cX7_untilTrip 14 = .ok (.iconst 1, 1) := by decide +kernel
theorem dX7_untilTrip_15 : decode cX7_untilTrip 15 = .ok (.if_icmp .ne 13, 3) := by decide +kernel
theorem dX7_untilTrip_18 : decode cX7_untilTrip 18 = .ok (.aload_n 0, 1) := by decide +kernel
theorem dX7_untilTrip_19 : decode cX7_untilTrip 19 = .ok (.invokevirtual 65, 3) := by decide +kernel
theorem dX7_untilTrip_22 : decode cX7_untilTrip 22 = .ok (.iinc 2 1, 3) := by decide +kernel
theorem dX7_untilTrip_25 : decode cX7_untilTrip 25 = .ok (.goto (-23), 3) := by decide +kernel
theorem dX7_untilTrip_28 : decode cX7_untilTrip 28 = .ok (.aload_n 0, 1) := by decide +kernel
theorem dX7_untilTrip_29 : decode cX7_untilTrip 29 = .ok (.getfield 7, 3) := by decide +kernel
theorem dX7_untilTrip_32 : decode cX7_untilTrip 32 = .ok (.bipush 14, 2) := by decide +kernel
theorem dX7_untilTrip_34 : decode cX7_untilTrip 34 = .ok (.iaload, 1) := by decide +kernel
theorem dX7_untilTrip_35 : decode cX7_untilTrip 35 = .ok (.iconst 1, 1) := by decide +kernel
theorem dX7_untilTrip_36 : decode cX7_untilTrip 36 = .ok (.if_icmp .ne 8, 3) := by decide +kernel
theorem dX7_untilTrip_39 : decode cX7_untilTrip 39 = .ok (.bipush (-105), 2) := by decide +kernel
theorem dX7_untilTrip_41 : decode cX7_untilTrip 41 = .ok (.goto 4, 3) := by decide +kernel
theorem dX7_untilTrip_44 : decode cX7_untilTrip 44 = .ok (.iload_n 2, 1) := by decide +kernel
theorem dX7_untilTrip_45 : decode cX7_untilTrip 45 = .ok (.ireturn, 1) := by decide +kernel
theorem dX7_tripsIn_0 : decode cX7_tripsIn 0 = .ok (.aload_n 0, 1) := by decide +kernel
theorem dX7_tripsIn_1 : decode cX7_tripsIn 1 = .ok (.iconst 0, 1) := by decide +kernel
theorem dX7_tripsIn_2 : decode cX7_tripsIn 2 = .ok (.putfield 28, 3) := by decide +kernel
theorem dX7_tripsIn_5 : decode cX7_tripsIn 5 = .ok (.aload_n 0, 1) := by decide +kernel
theorem dX7_tripsIn_6 : decode cX7_tripsIn 6 = .ok (.getfield 7, 3) := by decide +kernel
theorem dX7_tripsIn_9 : decode cX7_tripsIn 9 = .ok (.bipush 14, 2) := by decide +kernel
theorem dX7_tripsIn_11 : decode cX7_tripsIn 11 = .ok (.iaload, 1) := by decide +kernel
theorem dX7_tripsIn_12 : decode cX7_tripsIn 12 = .ok (.ifCond .ne 6, 3) := by decide +kernel
theorem dX7_tripsIn_15 : decode cX7_tripsIn 15 = .ok (.bipush (-104), 2) := by decide +kernel
theorem dX7_tripsIn_17 : decode cX7_tripsIn 17 = .ok (.ireturn, 1) := by decide +kernel
theorem dX7_tripsIn_18 : decode cX7_tripsIn 18 = .ok (.aload_n 0, 1) := by decide +kernel
theorem dX7_tripsIn_19 : decode cX7_tripsIn 19 = .ok (.invokevirtual 141, 3) := by decide +kernel
theorem dX7_tripsIn_22 : decode cX7_tripsIn 22 = .ok (.aload_n 0, 1) := by decide +kernel
theorem dX7_tripsIn_23 : decode cX7_tripsIn 23 = .ok (.sipush 300, 3) := by decide +kernel
theorem dX7_tripsIn_26 : decode cX7_tripsIn 26 = .ok (.invokevirtual 156, 3) := by decide +kernel
theorem dX7_tripsIn_29 : decode cX7_tripsIn 29 = .ok (.istore_n 1, 1) := by decide +kernel
theorem dX7_tripsIn_30 : decode cX7_tripsIn 30 = .ok (.aload_n 0, 1) := by decide +kernel
theorem dX7_tripsIn_31 : decode cX7_tripsIn 31 = .ok (.invokevirtual 147, 3) := by decide +kernel
theorem dX7_tripsIn_34 : decode cX7_tripsIn 34 = .ok (.iload_n 1, 1) := by decide +kernel
theorem dX7_tripsIn_35 : decode cX7_tripsIn 35 = .ok (.ireturn, 1) := by decide +kernel
theorem dX7_ifTension_0 : decode cX7_ifTension 0 = .ok (.aload_n 0, 1) := by decide +kernel
theorem dX7_ifTension_1 : decode cX7_ifTension 1 = .ok (.iconst 0, 1) := by decide +kernel
theorem dX7_ifTension_2 : decode cX7_ifTension 2 = .ok (.putfield 28, 3) := by decide +kernel
theorem dX7_ifTension_5 : decode cX7_ifTension 5 = .ok (.iload_n 1, 1) := by decide +kernel
theorem dX7_ifTension_6 : decode cX7_ifTension 6 = .ok (.iconst 0, 1) := by decide +kernel
theorem dX7_ifTension_7 : decode cX7_ifTension 7 = .ok (.sipush 200, 3) := by decide +kernel
theorem dX7_ifTension_10 : decode cX7_ifTension 10 = .ok (.invokestatic 68, 3) := by decide +kernel
theorem dX7_ifTension_13 : decode cX7_ifTension 13 = .ok (.ifCond .eq 14, 3) := by decide +kernel
theorem dX7_ifTension_16 : decode cX7_ifTension 16 = .ok (.iload_n 2, 1) := by decide +kernel
theorem dX7_ifTension_17 : decode cX7_ifTension 17 = .ok (.iconst 1, 1) := by decide +kernel
theorem dX7_ifTension_18 : decode cX7_ifTension 18 = .ok (.sipush 200, 3) := by decide +kernel
theorem dX7_ifTension_21 : decode cX7_ifTension 21 = .ok (.invokestatic 68, 3) := by decide +kernel
theorem dX7_ifTension_24 : decode cX7_ifTension 24 = .ok (.ifCond .ne 6, 3) := by decide +kernel
theorem dX7_ifTension_27 : decode cX7_ifTension 27 = .ok (.bipush (-102), 2) := by decide +kernel
theorem dX7_ifTension_29 : decode cX7_ifTension 29 = .ok (.ireturn, 1) := by decide +kernel
theorem dX7_ifTension_30 : decode cX7_ifTension 30 = .ok (.aload_n 0, 1) := by decide +kernel
theorem dX7_ifTension_31 : decode cX7_ifTension 31 = .ok (.invokevirtual 141, 3) := by decide +kernel
theorem dX7_ifTension_34 : decode cX7_ifTension 34 = .ok (.aload_n 0, 1) := by decide +kernel
theorem dX7_ifTension_35 : decode cX7_ifTension 35 = .ok (.getfield 7, 3) := by decide +kernel
theorem dX7_ifTension_38 : decode cX7_ifTension 38 = .ok (.iconst 1, 1) := by decide +kernel
theorem dX7_ifTension_39 : decode cX7_ifTension 39 = .ok (.iload_n 1, 1) := by decide +kernel
theorem dX7_ifTension_40 : decode cX7_ifTension 40 = .ok (.iastore, 1) := by decide +kernel
theorem dX7_ifTension_41 : decode cX7_ifTension 41 = .ok (.aload_n 0, 1) := by decide +kernel
theorem dX7_ifTension_42 : decode cX7_ifTension 42 = .ok (.iload_n 2, 1) := by decide +kernel
theorem dX7_ifTension_43 : decode cX7_ifTension 43 = .ok (.invokevirtual 101, 3) := by decide +kernel
theorem dX7_ifTension_46 : decode cX7_ifTension 46 = .ok (.istore_n 3, 1) := by decide +kernel
theorem dX7_ifTension_47 : decode cX7_ifTension 47 = .ok (.aload_n 0, 1) := by decide +kernel
theorem dX7_ifTension_48 : decode cX7_ifTension 48 = .ok (.invokevirtual 147, 3) := by decide +kernel
theorem dX7_ifTension_51 : decode cX7_ifTension 51 = .ok (.iload_n 3, 1) := by decide +kernel
theorem dX7_ifTension_52 : decode cX7_ifTension 52 = .ok (.ireturn, 1) := by decide +kernel
theorem dX7_leastTension_0 : decode cX7_leastTension 0 = .ok (.aload_n 0, 1) := by decide +kernel
theorem dX7_leastTension_1 : decode cX7_leastTension 1 = .ok (.iconst 0, 1) := by decide +kernel
theorem dX7_leastTension_2 : decode cX7_leastTension 2 = .ok (.putfield 28, 3) := by decide +kernel
theorem dX7_leastTension_5 : decode cX7_leastTension 5 = .ok (.iload_n 1, 1) := by decide +kernel
theorem dX7_leastTension_6 : decode cX7_leastTension 6 = .ok (.iconst 1, 1) := by decide +kernel
theorem dX7_leastTension_7 : decode cX7_leastTension 7 = .ok (.bipush 100, 2) := by decide +kernel
theorem dX7_leastTension_9 : decode cX7_leastTension 9 = .ok (.invokestatic 68, 3) := by decide +kernel
theorem dX7_leastTension_12 : decode cX7_leastTension 12 = .ok (.ifCond .ne 6, 3) := by decide +kernel
theorem dX7_leastTension_15 : decode cX7_leastTension 15 = .ok (.bipush (-102), 2) := by decide +kernel
theorem dX7_leastTension_17 : decode cX7_leastTension 17 = .ok (.ireturn, 1) := by decide +kernel
theorem dX7_leastTension_18 : decode cX7_leastTension 18 = .ok (.aload_n 0, 1) := by decide +kernel
theorem dX7_leastTension_19 : decode cX7_leastTension 19 = .ok (.getfield 7, 3) := by decide +kernel
theorem dX7_leastTension_22 : decode cX7_leastTension 22 = .ok (.bipush 14, 2) := by decide +kernel
theorem dX7_leastTension_24 : decode cX7_leastTension 24 = .ok (.iaload, 1) := by decide +kernel
theorem dX7_leastTension_25 : decode cX7_leastTension 25 = .ok (.ifCond .ne 6, 3) := by decide +kernel
theorem dX7_leastTension_28 : decode cX7_leastTension 28 = .ok (.bipush (-104), 2) := by decide +kernel
theorem dX7_leastTension_30 : decode cX7_leastTension 30 = .ok (.ireturn, 1) := by decide +kernel
theorem dX7_leastTension_31 : decode cX7_leastTension 31 = .ok (.aload_n 0, 1) := by decide +kernel
theorem dX7_leastTension_32 : decode cX7_leastTension 32 = .ok (.invokevirtual 141, 3) := by decide +kernel
theorem dX7_leastTension_35 : decode cX7_leastTension 35 = .ok (.bipush (-105), 2) := by decide +kernel
theorem dX7_leastTension_37 : decode cX7_leastTension 37 = .ok (.istore_n 2, 1) := by decide +kernel
theorem dX7_leastTension_38 : decode cX7_leastTension 38 = .ok (.iconst 0, 1) := by decide +kernel
theorem dX7_leastTension_39 : decode cX7_leastTension 39 = .ok (.istore_n 3, 1) := by decide +kernel
theorem dX7_leastTension_40 : decode cX7_leastTension 40 = .ok (.iload_n 3, 1) := by decide +kernel
theorem dX7_leastTension_41 : decode cX7_leastTension 41 = .ok (.sipush 200, 3) := by decide +kernel
theorem dX7_leastTension_44 : decode cX7_leastTension 44 = .ok (.if_icmp .gt 43, 3) := by decide +kernel
theorem dX7_leastTension_47 : decode cX7_leastTension 47 = .ok (.iload_n 2, 1) := by decide +kernel
theorem dX7_leastTension_48 : decode cX7_leastTension 48 = .ok (.bipush (-105), 2) := by decide +kernel
theorem dX7_leastTension_50 : decode cX7_leastTension 50 = .ok (.if_icmp .ne 37, 3) := by decide +kernel
theorem dX7_leastTension_53 : decode cX7_leastTension 53 = .ok (.aload_n 0, 1) := by decide +kernel
theorem dX7_leastTension_54 : decode cX7_leastTension 54 = .ok (.getfield 7, 3) := by decide +kernel
theorem dX7_leastTension_57 : decode cX7_leastTension 57 = .ok (.iconst 1, 1) := by decide +kernel
theorem dX7_leastTension_58 : decode cX7_leastTension 58 = .ok (.iload_n 3, 1) := by decide +kernel
theorem dX7_leastTension_59 : decode cX7_leastTension 59 = .ok (.iastore, 1) := by decide +kernel
theorem dX7_leastTension_60 : decode cX7_leastTension 60 = .ok (.aload_n 0, 1) := by decide +kernel
theorem dX7_leastTension_61 : decode cX7_leastTension 61 = .ok (.iload_n 1, 1) := by decide +kernel
theorem dX7_leastTension_62 : decode cX7_leastTension 62 = .ok (.invokevirtual 156, 3) := by decide +kernel
theorem dX7_leastTension_65 : decode cX7_leastTension 65 = .ok (.bipush (-105), 2) := by decide +kernel
theorem dX7_leastTension_67 : decode cX7_leastTension 67 = .ok (.if_icmp .ne 7, 3) := by decide +kernel
theorem dX7_leastTension_70 : decode cX7_leastTension 70 = .ok (.iload_n 3, 1) := by decide +kernel
theorem dX7_leastTension_71 : decode cX7_leastTension 71 = .ok (.goto 5, 3) := by decide +kernel
theorem dX7_leastTension_74 : decode cX7_leastTension 74 = .ok (.bipush (-105), 2) := by decide +kernel
theorem dX7_leastTension_76 : decode cX7_leastTension 76 = .ok (.istore_n 2, 1) := by decide +kernel
theorem dX7_leastTension_77 : decode cX7_leastTension 77 = .ok (.aload_n 0, 1) := by decide +kernel
theorem dX7_leastTension_78 : decode cX7_leastTension 78 = .ok (.invokevirtual 147, 3) := by decide +kernel
theorem dX7_leastTension_81 : decode cX7_leastTension 81 = .ok (.iinc 3 1, 3) := by decide +kernel
theorem dX7_leastTension_84 : decode cX7_leastTension 84 = .ok (.goto (-44), 3) := by decide +kernel
theorem dX7_leastTension_87 : decode cX7_leastTension 87 = .ok (.iload_n 2, 1) := by decide +kernel
theorem dX7_leastTension_88 : decode cX7_leastTension 88 = .ok (.ireturn, 1) := by decide +kernel
theorem dX7_trip_0 : decode cX7_trip 0 = .ok (.aload_n 0, 1) := by decide +kernel
theorem dX7_trip_1 : decode cX7_trip 1 = .ok (.iconst 0, 1) := by decide +kernel
theorem dX7_trip_2 : decode cX7_trip 2 = .ok (.putfield 28, 3) := by decide +kernel
theorem dX7_trip_5 : decode cX7_trip 5 = .ok (.iload_n 1, 1) := by decide +kernel
theorem dX7_trip_6 : decode cX7_trip 6 = .ok (.ifCond .lt 12, 3) := by decide +kernel
theorem dX7_trip_9 : decode cX7_trip 9 = .ok (.iload_n 2, 1) := by decide +kernel
theorem dX7_trip_10 : decode cX7_trip 10 = .ok (.iconst 0, 1) := by decide +kernel
theorem dX7_trip_11 : decode cX7_trip 11 = .ok (.iconst 2, 1) := by decide +kernel
theorem dX7_trip_12 : decode cX7_trip 12 = .ok (.invokestatic 68, 3) := by decide +kernel
theorem dX7_trip_15 : decode cX7_trip 15 = .ok (.ifCond .ne 6, 3) := by decide +kernel
theorem dX7_trip_18 : decode cX7_trip 18 = .ok (.bipush (-102), 2) := by decide +kernel
theorem dX7_trip_20 : decode cX7_trip 20 = .ok (.ireturn, 1) := by decide +kernel
theorem dX7_trip_21 : decode cX7_trip 21 = .ok (.iload_n 1, 1) := by decide +kernel
theorem dX7_trip_22 : decode cX7_trip 22 = .ok (.aload_n 0, 1) := by decide +kernel
theorem dX7_trip_23 : decode cX7_trip 23 = .ok (.getfield 7, 3) := by decide +kernel
theorem dX7_trip_26 : decode cX7_trip 26 = .ok (.bipush 36, 2) := by decide +kernel
theorem dX7_trip_28 : decode cX7_trip 28 = .ok (.iaload, 1) := by decide +kernel
theorem dX7_trip_29 : decode cX7_trip 29 = .ok (.if_icmp .ge 19, 3) := by decide +kernel
theorem dX7_trip_32 : decode cX7_trip 32 = .ok (.aload_n 0, 1) := by decide +kernel
theorem dX7_trip_33 : decode cX7_trip 33 = .ok (.getfield 7, 3) := by decide +kernel
theorem dX7_trip_36 : decode cX7_trip 36 = .ok (.bipush 37, 2) := by decide +kernel
theorem dX7_trip_38 : decode cX7_trip 38 = .ok (.iconst 3, 1) := by decide +kernel
theorem dX7_trip_39 : decode cX7_trip 39 = .ok (.iload_n 1, 1) := by decide +kernel
theorem dX7_trip_40 : decode cX7_trip 40 = .ok (.imul, 1) := by decide +kernel
theorem dX7_trip_41 : decode cX7_trip 41 = .ok (.iadd, 1) := by decide +kernel
theorem dX7_trip_42 : decode cX7_trip 42 = .ok (.iload_n 2, 1) := by decide +kernel
theorem dX7_trip_43 : decode cX7_trip 43 = .ok (.iadd, 1) := by decide +kernel
theorem dX7_trip_44 : decode cX7_trip 44 = .ok (.iaload, 1) := by decide +kernel
theorem dX7_trip_45 : decode cX7_trip 45 = .ok (.goto 5, 3) := by decide +kernel
theorem dX7_trip_48 : decode cX7_trip 48 = .ok (.bipush (-105), 2) := by decide +kernel
theorem dX7_trip_50 : decode cX7_trip 50 = .ok (.ireturn, 1) := by decide +kernel
theorem dX7_count_0 : decode cX7_count 0 = .ok (.aload_n 0, 1) := by decide +kernel
theorem dX7_count_1 : decode cX7_count 1 = .ok (.iconst 0, 1) := by decide +kernel
theorem dX7_count_2 : decode cX7_count 2 = .ok (.putfield 28, 3) := by decide +kernel
theorem dX7_count_5 : decode cX7_count 5 = .ok (.iload_n 1, 1) := by decide +kernel
theorem dX7_count_6 : decode cX7_count 6 = .ok (.tableswitch 142 0 16 #[82, 89, 142, 142, 142, 142, 142, 94, 142, 142, 142, 142, 142, 99, 124, 132, 137], 82) := by decide +kernel
theorem dX7_count_88 : decode cX7_count 88 = .ok (.aload_n 0, 1) := by decide +kernel
theorem dX7_count_89 : decode cX7_count 89 = .ok (.getfield 7, 3) := by decide +kernel
theorem dX7_count_92 : decode cX7_count 92 = .ok (.iconst 5, 1) := by decide +kernel
theorem dX7_count_93 : decode cX7_count 93 = .ok (.iaload, 1) := by decide +kernel
theorem dX7_count_94 : decode cX7_count 94 = .ok (.ireturn, 1) := by decide +kernel
theorem dX7_count_95 : decode cX7_count 95 = .ok (.aload_n 0, 1) := by decide +kernel
theorem dX7_count_96 : decode cX7_count 96 = .ok (.invokevirtual 91, 3) := by decide +kernel
theorem dX7_count_99 : decode cX7_count 99 = .ok (.ireturn, 1) := by decide +kernel
theorem dX7_count_100 : decode cX7_count 100 = .ok (.aload_n 0, 1) := by decide +kernel
theorem dX7_count_101 : decode cX7_count 101 = .ok (.invokevirtual 45, 3) := by decide +kernel
theorem dX7_count_104 : decode cX7_count 104 = .ok (.ireturn, 1) := by decide +kernel
theorem dX7_count_105 : decode cX7_count 105 = .ok (.aload_n 0, 1) := by decide +kernel
theorem dX7_count_106 : decode cX7_count 106 = .ok (.getfield 7, 3) := by decide +kernel
theorem dX7_count_109 : decode cX7_count 109 = .ok (.bipush 16, 2) := by decide +kernel
theorem dX7_count_111 : decode cX7_count 111 = .ok (.iaload, 1) := by decide +kernel
theorem dX7_count_112 : decode cX7_count 112 = .ok (.ifCond .ne 8, 3) := by decide +kernel
theorem dX7_count_115 : decode cX7_count 115 = .ok (.bipush (-105), 2) := by decide +kernel
theorem dX7_count_117 : decode cX7_count 117 = .ok (.goto 12, 3) := by decide +kernel
theorem dX7_count_120 : decode cX7_count 120 = .ok (.aload_n 0, 1) := by decide +kernel
theorem dX7_count_121 : decode cX7_count 121 = .ok (.getfield 7, 3) := by decide +kernel
theorem dX7_count_124 : decode cX7_count 124 = .ok (.bipush 16, 2) := by decide +kernel
theorem dX7_count_126 : decode cX7_count 126 = .ok (.iaload, 1) := by decide +kernel
theorem dX7_count_127 : decode cX7_count 127 = .ok (.iconst 1, 1) := by decide +kernel
theorem dX7_count_128 : decode cX7_count 128 = .ok (.isub, 1) := by decide +kernel
theorem dX7_count_129 : decode cX7_count 129 = .ok (.ireturn, 1) := by decide +kernel
theorem dX7_count_130 : decode cX7_count 130 = .ok (.aload_n 0, 1) := by decide +kernel
theorem dX7_count_131 : decode cX7_count 131 = .ok (.getfield 7, 3) := by decide +kernel
theorem dX7_count_134 : decode cX7_count 134 = .ok (.bipush 17, 2) := by decide +kernel
theorem dX7_count_136 : decode cX7_count 136 = .ok (.iaload, 1) := by decide +kernel
theorem dX7_count_137 : decode cX7_count 137 = .ok (.ireturn, 1) := by decide +kernel
theorem dX7_count_138 : decode cX7_count 138 = .ok (.aload_n 0, 1) := by decide +kernel
theorem dX7_count_139 : decode cX7_count 139 = .ok (.getfield 38, 3) := by decide +kernel
theorem dX7_count_142 : decode cX7_count 142 = .ok (.ireturn, 1) := by decide +kernel
theorem dX7_count_143 : decode cX7_count 143 = .ok (.aload_n 0, 1) := by decide +kernel
theorem dX7_count_144 : decode cX7_count 144 = .ok (.getfield 104, 3) := by decide +kernel
theorem dX7_count_147 : decode cX7_count 147 = .ok (.ireturn, 1) := by decide +kernel
theorem dX7_count_148 : decode cX7_count 148 = .ok (.iload_n 1, 1) := by decide +kernel
theorem dX7_count_149 : decode cX7_count 149 = .ok (.iconst 2, 1) := by decide +kernel
theorem dX7_count_150 : decode cX7_count 150 = .ok (.bipush 6, 2) := by decide +kernel
theorem dX7_count_152 : decode cX7_count 152 = .ok (.invokestatic 68, 3) := by decide +kernel
theorem dX7_count_155 : decode cX7_count 155 = .ok (.ifCond .eq 17, 3) := by decide +kernel
theorem dX7_count_158 : decode cX7_count 158 = .ok (.aload_n 0, 1) := by decide +kernel
theorem dX7_count_159 : decode cX7_count 159 = .ok (.getfield 7, 3) := by decide +kernel
theorem dX7_count_162 : decode cX7_count 162 = .ok (.bipush 6, 2) := by decide +kernel
theorem dX7_count_164 : decode cX7_count 164 = .ok (.iload_n 1, 1) := by decide +kernel
theorem dX7_count_165 : decode cX7_count 165 = .ok (.iadd, 1) := by decide +kernel
theorem dX7_count_166 : decode cX7_count 166 = .ok (.iconst 2, 1) := by decide +kernel
theorem dX7_count_167 : decode cX7_count 167 = .ok (.isub, 1) := by decide +kernel
theorem dX7_count_168 : decode cX7_count 168 = .ok (.iaload, 1) := by decide +kernel
theorem dX7_count_169 : decode cX7_count 169 = .ok (.goto 54, 3) := by decide +kernel
theorem dX7_count_172 : decode cX7_count 172 = .ok (.iload_n 1, 1) := by decide +kernel
theorem dX7_count_173 : decode cX7_count 173 = .ok (.bipush 8, 2) := by decide +kernel
theorem dX7_count_175 : decode cX7_count 175 = .ok (.bipush 12, 2) := by decide +kernel
theorem dX7_count_177 : decode cX7_count 177 = .ok (.invokestatic 68, 3) := by decide +kernel
theorem dX7_count_180 : decode cX7_count 180 = .ok (.ifCond .eq 18, 3) := by decide +kernel
theorem dX7_count_183 : decode cX7_count 183 = .ok (.aload_n 0, 1) := by decide +kernel
theorem dX7_count_184 : decode cX7_count 184 = .ok (.getfield 7, 3) := by decide +kernel
theorem dX7_count_187 : decode cX7_count 187 = .ok (.bipush 11, 2) := by decide +kernel
theorem dX7_count_189 : decode cX7_count 189 = .ok (.iload_n 1, 1) := by decide +kernel
theorem dX7_count_190 : decode cX7_count 190 = .ok (.iadd, 1) := by decide +kernel
theorem dX7_count_191 : decode cX7_count 191 = .ok (.bipush 8, 2) := by decide +kernel
theorem dX7_count_193 : decode cX7_count 193 = .ok (.isub, 1) := by decide +kernel
theorem dX7_count_194 : decode cX7_count 194 = .ok (.iaload, 1) := by decide +kernel
theorem dX7_count_195 : decode cX7_count 195 = .ok (.goto 28, 3) := by decide +kernel
theorem dX7_count_198 : decode cX7_count 198 = .ok (.iload_n 1, 1) := by decide +kernel
theorem dX7_count_199 : decode cX7_count 199 = .ok (.bipush 20, 2) := by decide +kernel
theorem dX7_count_201 : decode cX7_count 201 = .ok (.bipush 24, 2) := by decide +kernel
theorem dX7_count_203 : decode cX7_count 203 = .ok (.invokestatic 68, 3) := by decide +kernel
theorem dX7_count_206 : decode cX7_count 206 = .ok (.ifCond .eq 15, 3) := by decide +kernel
theorem dX7_count_209 : decode cX7_count 209 = .ok (.aload_n 0, 1) := by decide +kernel
theorem dX7_count_210 : decode cX7_count 210 = .ok (.getfield 7, 3) := by decide +kernel
theorem dX7_count_213 : decode cX7_count 213 = .ok (.iload_n 1, 1) := by decide +kernel
theorem dX7_count_214 : decode cX7_count 214 = .ok (.bipush 20, 2) := by decide +kernel
theorem dX7_count_216 : decode cX7_count 216 = .ok (.isub, 1) := by decide +kernel
theorem dX7_count_217 : decode cX7_count 217 = .ok (.iaload, 1) := by decide +kernel
theorem dX7_count_218 : decode cX7_count 218 = .ok (.goto 5, 3) := by decide +kernel
theorem dX7_count_221 : decode cX7_count 221 = .ok (.bipush (-102), 2) := by decide +kernel
theorem dX7_count_223 : decode cX7_count 223 = .ok (.ireturn, 1) := by decide +kernel
theorem dJ9_floorMod_7cf53_0 : decode cJ9_floorMod_7cf53 0 = .ok (.iload_n 0, 1) := by decide +kernel
theorem dJ9_floorMod_7cf53_1 : decode cJ9_floorMod_7cf53 1 = .ok (.iload_n 1, 1) := by decide +kernel
theorem dJ9_floorMod_7cf53_2 : decode cJ9_floorMod_7cf53 2 = .ok (.irem, 1) := by decide +kernel
theorem dJ9_floorMod_7cf53_3 : decode cJ9_floorMod_7cf53 3 = .ok (.istore_n 2, 1) := by decide +kernel
theorem dJ9_floorMod_7cf53_4 : decode cJ9_floorMod_7cf53 4 = .ok (.iload_n 0, 1) := by decide +kernel
theorem dJ9_floorMod_7cf53_5 : decode cJ9_floorMod_7cf53 5 = .ok (.iload_n 1, 1) := by decide +kernel
theorem dJ9_floorMod_7cf53_6 : decode cJ9_floorMod_7cf53 6 = .ok (.ixor, 1) := by decide +kernel
theorem dJ9_floorMod_7cf53_7 : decode cJ9_floorMod_7cf53 7 = .ok (.ifCond .ge 11, 3) := by decide +kernel
theorem dJ9_floorMod_7cf53_10 : decode cJ9_floorMod_7cf53 10 = .ok (.iload_n 2, 1) := by decide +kernel
theorem dJ9_floorMod_7cf53_11 : decode cJ9_floorMod_7cf53 11 = .ok (.ifCond .eq 7, 3) := by decide +kernel
theorem dJ9_floorMod_7cf53_14 : decode cJ9_floorMod_7cf53 14 = .ok (.iload_n 2, 1) := by decide +kernel
theorem dJ9_floorMod_7cf53_15 : decode cJ9_floorMod_7cf53 15 = .ok (.iload_n 1, 1) := by decide +kernel
theorem dJ9_floorMod_7cf53_16 : decode cJ9_floorMod_7cf53 16 = .ok (.iadd, 1) := by decide +kernel
theorem dJ9_floorMod_7cf53_17 : decode cJ9_floorMod_7cf53 17 = .ok (.ireturn, 1) := by decide +kernel
theorem dJ9_floorMod_7cf53_18 : decode cJ9_floorMod_7cf53 18 = .ok (.iload_n 2, 1) := by decide +kernel
theorem dJ9_floorMod_7cf53_19 : decode cJ9_floorMod_7cf53 19 = .ok (.ireturn, 1) := by decide +kernel
theorem dJ9_abs_0f7a4_0 : decode cJ9_abs_0f7a4 0 = .ok (.iload_n 0, 1) := by decide +kernel
theorem dJ9_abs_0f7a4_1 : decode cJ9_abs_0f7a4 1 = .ok (.ifCond .ge 8, 3) := by decide +kernel
theorem dJ9_abs_0f7a4_4 : decode cJ9_abs_0f7a4 4 = .ok (.iload_n 0, 1) := by decide +kernel
theorem dJ9_abs_0f7a4_5 : decode cJ9_abs_0f7a4 5 = .ok (.ineg, 1) := by decide +kernel
theorem dJ9_abs_0f7a4_6 : decode cJ9_abs_0f7a4 6 = .ok (.goto 4, 3) := by decide +kernel
theorem dJ9_abs_0f7a4_9 : decode cJ9_abs_0f7a4 9 = .ok (.iload_n 0, 1) := by decide +kernel
theorem dJ9_abs_0f7a4_10 : decode cJ9_abs_0f7a4 10 = .ok (.ireturn, 1) := by decide +kernel
theorem dJ9_max_7cf53_0 : decode cJ9_max_7cf53 0 = .ok (.iload_n 0, 1) := by decide +kernel
theorem dJ9_max_7cf53_1 : decode cJ9_max_7cf53 1 = .ok (.iload_n 1, 1) := by decide +kernel
theorem dJ9_max_7cf53_2 : decode cJ9_max_7cf53 2 = .ok (.if_icmp .lt 7, 3) := by decide +kernel
theorem dJ9_max_7cf53_5 : decode cJ9_max_7cf53 5 = .ok (.iload_n 0, 1) := by decide +kernel
theorem dJ9_max_7cf53_6 : decode cJ9_max_7cf53 6 = .ok (.goto 4, 3) := by decide +kernel
theorem dJ9_max_7cf53_9 : decode cJ9_max_7cf53 9 = .ok (.iload_n 1, 1) := by decide +kernel
theorem dJ9_max_7cf53_10 : decode cJ9_max_7cf53 10 = .ok (.ireturn, 1) := by decide +kernel
theorem dJ9_min_7cf53_0 : decode cJ9_min_7cf53 0 = .ok (.iload_n 0, 1) := by decide +kernel
theorem dJ9_min_7cf53_1 : decode cJ9_min_7cf53 1 = .ok (.iload_n 1, 1) := by decide +kernel
theorem dJ9_min_7cf53_2 : decode cJ9_min_7cf53 2 = .ok (.if_icmp .gt 7, 3) := by decide +kernel
theorem dJ9_min_7cf53_5 : decode cJ9_min_7cf53 5 = .ok (.iload_n 0, 1) := by decide +kernel
theorem dJ9_min_7cf53_6 : decode cJ9_min_7cf53 6 = .ok (.goto 4, 3) := by decide +kernel
theorem dJ9_min_7cf53_9 : decode cJ9_min_7cf53 9 = .ok (.iload_n 1, 1) := by decide +kernel
theorem dJ9_min_7cf53_10 : decode cJ9_min_7cf53 10 = .ok (.ireturn, 1) := by decide +kernel
theorem dL_law_0 : decode cL_law 0 = .ok (.new 7, 3) := by decide +kernel
theorem dL_law_3 : decode cL_law 3 = .ok (.dup, 1) := by decide +kernel
theorem dL_law_4 : decode cL_law 4 = .ok (.invokespecial 9, 3) := by decide +kernel
theorem dL_law_7 : decode cL_law 7 = .ok (.astore_n 1, 1) := by decide +kernel
theorem dL_law_8 : decode cL_law 8 = .ok (.new 10, 3) := by decide +kernel
theorem dL_law_11 : decode cL_law 11 = .ok (.dup, 1) := by decide +kernel
theorem dL_law_12 : decode cL_law 12 = .ok (.invokespecial 12, 3) := by decide +kernel
theorem dL_law_15 : decode cL_law 15 = .ok (.astore_n 2, 1) := by decide +kernel
theorem dL_law_16 : decode cL_law 16 = .ok (.iconst 0, 1) := by decide +kernel
theorem dL_law_17 : decode cL_law 17 = .ok (.istore_n 3, 1) := by decide +kernel
theorem dL_law_18 : decode cL_law 18 = .ok (.iload_n 3, 1) := by decide +kernel
theorem dL_law_19 : decode cL_law 19 = .ok (.aload_n 0, 1) := by decide +kernel
theorem dL_law_20 : decode cL_law 20 = .ok (.arraylength, 1) := by decide +kernel
theorem dL_law_21 : decode cL_law 21 = .ok (.iconst 3, 1) := by decide +kernel
theorem dL_law_22 : decode cL_law 22 = .ok (.isub, 1) := by decide +kernel
theorem dL_law_23 : decode cL_law 23 = .ok (.if_icmp .gt 566, 3) := by decide +kernel
theorem dL_law_26 : decode cL_law 26 = .ok (.aload_n 0, 1) := by decide +kernel
theorem dL_law_27 : decode cL_law 27 = .ok (.iload_n 3, 1) := by decide +kernel
theorem dL_law_28 : decode cL_law 28 = .ok (.iaload, 1) := by decide +kernel
theorem dL_law_29 : decode cL_law 29 = .ok (.bipush 31, 2) := by decide +kernel
theorem dL_law_31 : decode cL_law 31 = .ok (.iand, 1) := by decide +kernel
theorem dL_law_32 : decode cL_law 32 = .ok (.tableswitch 551 0 20 #[100, 133, 172, 185, 198, 211, 234, 257, 282, 295, 308, 331, 344, 357, 370, 393, 426, 439, 472, 495, 528], 100) := by decide +kernel
theorem dL_law_132 : decode cL_law 132 = .ok (.aload_n 1, 1) := by decide +kernel
theorem dL_law_133 : decode cL_law 133 = .ok (.aload_n 0, 1) := by decide +kernel
theorem dL_law_134 : decode cL_law 134 = .ok (.iload_n 3, 1) := by decide +kernel
theorem dL_law_135 : decode cL_law 135 = .ok (.iconst 1, 1) := by decide +kernel
theorem dL_law_136 : decode cL_law 136 = .ok (.iadd, 1) := by decide +kernel
theorem dL_law_137 : decode cL_law 137 = .ok (.iaload, 1) := by decide +kernel
theorem dL_law_138 : decode cL_law 138 = .ok (.aload_n 0, 1) := by decide +kernel
theorem dL_law_139 : decode cL_law 139 = .ok (.iload_n 3, 1) := by decide +kernel
theorem dL_law_140 : decode cL_law 140 = .ok (.iconst 2, 1) := by decide +kernel
theorem dL_law_141 : decode cL_law 141 = .ok (.iadd, 1) := by decide +kernel
theorem dL_law_142 : decode cL_law 142 = .ok (.iaload, 1) := by decide +kernel
theorem dL_law_143 : decode cL_law 143 = .ok (.invokevirtual 13, 3) := by decide +kernel
theorem dL_law_146 : decode cL_law 146 = .ok (.aload_n 2, 1) := by decide +kernel
theorem dL_law_147 : decode cL_law 147 = .ok (.aload_n 0, 1) := by decide +kernel
theorem dL_law_148 : decode cL_law 148 = .ok (.iload_n 3, 1) := by decide +kernel
theorem dL_law_149 : decode cL_law 149 = .ok (.iconst 1, 1) := by decide +kernel
theorem dL_law_150 : decode cL_law 150 = .ok (.iadd, 1) := by decide +kernel
theorem dL_law_151 : decode cL_law 151 = .ok (.iaload, 1) := by decide +kernel
theorem dL_law_152 : decode cL_law 152 = .ok (.aload_n 0, 1) := by decide +kernel
theorem dL_law_153 : decode cL_law 153 = .ok (.iload_n 3, 1) := by decide +kernel
theorem dL_law_154 : decode cL_law 154 = .ok (.iconst 2, 1) := by decide +kernel
theorem dL_law_155 : decode cL_law 155 = .ok (.iadd, 1) := by decide +kernel
theorem dL_law_156 : decode cL_law 156 = .ok (.iaload, 1) := by decide +kernel
theorem dL_law_157 : decode cL_law 157 = .ok (.invokevirtual 17, 3) := by decide +kernel
theorem dL_law_160 : decode cL_law 160 = .ok (.if_icmp .eq 423, 3) := by decide +kernel
theorem dL_law_163 : decode cL_law 163 = .ok (.iconst 0, 1) := by decide +kernel
theorem dL_law_164 : decode cL_law 164 = .ok (.ireturn, 1) := by decide +kernel
theorem dL_law_165 : decode cL_law 165 = .ok (.aload_n 1, 1) := by decide +kernel
theorem dL_law_166 : decode cL_law 166 = .ok (.aload_n 0, 1) := by decide +kernel
theorem dL_law_167 : decode cL_law 167 = .ok (.iload_n 3, 1) := by decide +kernel
theorem dL_law_168 : decode cL_law 168 = .ok (.iconst 1, 1) := by decide +kernel
theorem dL_law_169 : decode cL_law 169 = .ok (.iadd, 1) := by decide +kernel
theorem dL_law_170 : decode cL_law 170 = .ok (.iaload, 1) := by decide +kernel
theorem dL_law_171 : decode cL_law 171 = .ok (.ifCond .eq 7, 3) := by decide +kernel
theorem dL_law_174 : decode cL_law 174 = .ok (.iconst 1, 1) := by decide +kernel
theorem dL_law_175 : decode cL_law 175 = .ok (.goto 4, 3) := by decide +kernel
theorem dL_law_178 : decode cL_law 178 = .ok (.iconst 0, 1) := by decide +kernel
theorem dL_law_179 : decode cL_law 179 = .ok (.invokevirtual 18, 3) := by decide +kernel
theorem dL_law_182 : decode cL_law 182 = .ok (.aload_n 2, 1) := by decide +kernel
theorem dL_law_183 : decode cL_law 183 = .ok (.aload_n 0, 1) := by decide +kernel
theorem dL_law_184 : decode cL_law 184 = .ok (.iload_n 3, 1) := by decide +kernel
theorem dL_law_185 : decode cL_law 185 = .ok (.iconst 1, 1) := by decide +kernel
theorem dL_law_186 : decode cL_law 186 = .ok (.iadd, 1) := by decide +kernel
theorem dL_law_187 : decode cL_law 187 = .ok (.iaload, 1) := by decide +kernel
theorem dL_law_188 : decode cL_law 188 = .ok (.ifCond .eq 7, 3) := by decide +kernel
theorem dL_law_191 : decode cL_law 191 = .ok (.iconst 1, 1) := by decide +kernel
theorem dL_law_192 : decode cL_law 192 = .ok (.goto 4, 3) := by decide +kernel
theorem dL_law_195 : decode cL_law 195 = .ok (.iconst 0, 1) := by decide +kernel
theorem dL_law_196 : decode cL_law 196 = .ok (.invokevirtual 22, 3) := by decide +kernel
theorem dL_law_199 : decode cL_law 199 = .ok (.if_icmp .eq 384, 3) := by decide +kernel
theorem dL_law_202 : decode cL_law 202 = .ok (.iconst 0, 1) := by decide +kernel
theorem dL_law_203 : decode cL_law 203 = .ok (.ireturn, 1) := by decide +kernel
theorem dL_law_204 : decode cL_law 204 = .ok (.aload_n 1, 1) := by decide +kernel
theorem dL_law_205 : decode cL_law 205 = .ok (.invokevirtual 23, 3) := by decide +kernel
theorem dL_law_208 : decode cL_law 208 = .ok (.aload_n 2, 1) := by decide +kernel
theorem dL_law_209 : decode cL_law 209 = .ok (.invokevirtual 27, 3) := by decide +kernel
theorem dL_law_212 : decode cL_law 212 = .ok (.if_icmp .eq 371, 3) := by decide +kernel
theorem dL_law_215 : decode cL_law 215 = .ok (.iconst 0, 1) := by decide +kernel
theorem dL_law_216 : decode cL_law 216 = .ok (.ireturn, 1) := by decide +kernel
theorem dL_law_217 : decode cL_law 217 = .ok (.aload_n 1, 1) := by decide +kernel
theorem dL_law_218 : decode cL_law 218 = .ok (.invokevirtual 28, 3) := by decide +kernel
theorem dL_law_221 : decode cL_law 221 = .ok (.aload_n 2, 1) := by decide +kernel
theorem dL_law_222 : decode cL_law 222 = .ok (.invokevirtual 31, 3) := by decide +kernel
theorem dL_law_225 : decode cL_law 225 = .ok (.if_icmp .eq 358, 3) := by decide +kernel
theorem dL_law_228 : decode cL_law 228 = .ok (.iconst 0, 1) := by decide +kernel
theorem dL_law_229 : decode cL_law 229 = .ok (.ireturn, 1) := by decide +kernel
theorem dL_law_230 : decode cL_law 230 = .ok (.aload_n 1, 1) := by decide +kernel
theorem dL_law_231 : decode cL_law 231 = .ok (.invokevirtual 32, 3) := by decide +kernel
theorem dL_law_234 : decode cL_law 234 = .ok (.aload_n 2, 1) := by decide +kernel
theorem dL_law_235 : decode cL_law 235 = .ok (.invokevirtual 35, 3) := by decide +kernel
theorem dL_law_238 : decode cL_law 238 = .ok (.if_icmp .eq 345, 3) := by decide +kernel
theorem dL_law_241 : decode cL_law 241 = .ok (.iconst 0, 1) := by decide +kernel
theorem dL_law_242 : decode cL_law 242 = .ok (.ireturn, 1) := by decide +kernel
theorem dL_law_243 : decode cL_law 243 = .ok (.aload_n 1, 1) := by decide +kernel
theorem dL_law_244 : decode cL_law 244 = .ok (.aload_n 0, 1) := by decide +kernel
theorem dL_law_245 : decode cL_law 245 = .ok (.iload_n 3, 1) := by decide +kernel
theorem dL_law_246 : decode cL_law 246 = .ok (.iconst 1, 1) := by decide +kernel
theorem dL_law_247 : decode cL_law 247 = .ok (.iadd, 1) := by decide +kernel
theorem dL_law_248 : decode cL_law 248 = .ok (.iaload, 1) := by decide +kernel
theorem dL_law_249 : decode cL_law 249 = .ok (.invokevirtual 36, 3) := by decide +kernel
theorem dL_law_252 : decode cL_law 252 = .ok (.aload_n 2, 1) := by decide +kernel
theorem dL_law_253 : decode cL_law 253 = .ok (.aload_n 0, 1) := by decide +kernel
theorem dL_law_254 : decode cL_law 254 = .ok (.iload_n 3, 1) := by decide +kernel
theorem dL_law_255 : decode cL_law 255 = .ok (.iconst 1, 1) := by decide +kernel
theorem dL_law_256 : decode cL_law 256 = .ok (.iadd, 1) := by decide +kernel
theorem dL_law_257 : decode cL_law 257 = .ok (.iaload, 1) := by decide +kernel
theorem dL_law_258 : decode cL_law 258 = .ok (.invokevirtual 40, 3) := by decide +kernel
theorem dL_law_261 : decode cL_law 261 = .ok (.if_icmp .eq 322, 3) := by decide +kernel
theorem dL_law_264 : decode cL_law 264 = .ok (.iconst 0, 1) := by decide +kernel
theorem dL_law_265 : decode cL_law 265 = .ok (.ireturn, 1) := by decide +kernel
theorem dL_law_266 : decode cL_law 266 = .ok (.aload_n 1, 1) := by decide +kernel
theorem dL_law_267 : decode cL_law 267 = .ok (.aload_n 0, 1) := by decide +kernel
theorem dL_law_268 : decode cL_law 268 = .ok (.iload_n 3, 1) := by decide +kernel
theorem dL_law_269 : decode cL_law 269 = .ok (.iconst 1, 1) := by decide +kernel
theorem dL_law_270 : decode cL_law 270 = .ok (.iadd, 1) := by decide +kernel
theorem dL_law_271 : decode cL_law 271 = .ok (.iaload, 1) := by decide +kernel
theorem dL_law_272 : decode cL_law 272 = .ok (.invokevirtual 41, 3) := by decide +kernel
theorem dL_law_275 : decode cL_law 275 = .ok (.aload_n 2, 1) := by decide +kernel
theorem dL_law_276 : decode cL_law 276 = .ok (.aload_n 0, 1) := by decide +kernel
theorem dL_law_277 : decode cL_law 277 = .ok (.iload_n 3, 1) := by decide +kernel
theorem dL_law_278 : decode cL_law 278 = .ok (.iconst 1, 1) := by decide +kernel
theorem dL_law_279 : decode cL_law 279 = .ok (.iadd, 1) := by decide +kernel
theorem dL_law_280 : decode cL_law 280 = .ok (.iaload, 1) := by decide +kernel
theorem dL_law_281 : decode cL_law 281 = .ok (.invokevirtual 44, 3) := by decide +kernel
theorem dL_law_284 : decode cL_law 284 = .ok (.if_icmp .eq 299, 3) := by decide +kernel
theorem dL_law_287 : decode cL_law 287 = .ok (.iconst 0, 1) := by decide +kernel
theorem dL_law_288 : decode cL_law 288 = .ok (.ireturn, 1) := by decide +kernel
theorem dL_law_289 : decode cL_law 289 = .ok (.aload_n 1, 1) := by decide +kernel
theorem dL_law_290 : decode cL_law 290 = .ok (.aload_n 0, 1) := by decide +kernel
theorem dL_law_291 : decode cL_law 291 = .ok (.iload_n 3, 1) := by decide +kernel
theorem dL_law_292 : decode cL_law 292 = .ok (.iconst 1, 1) := by decide +kernel
theorem dL_law_293 : decode cL_law 293 = .ok (.iadd, 1) := by decide +kernel
theorem dL_law_294 : decode cL_law 294 = .ok (.iaload, 1) := by decide +kernel
theorem dL_law_295 : decode cL_law 295 = .ok (.i2c, 1) := by decide +kernel
theorem dL_law_296 : decode cL_law 296 = .ok (.invokevirtual 45, 3) := by decide +kernel
theorem dL_law_299 : decode cL_law 299 = .ok (.aload_n 2, 1) := by decide +kernel
theorem dL_law_300 : decode cL_law 300 = .ok (.aload_n 0, 1) := by decide +kernel
theorem dL_law_301 : decode cL_law 301 = .ok (.iload_n 3, 1) := by decide +kernel
theorem dL_law_302 : decode cL_law 302 = .ok (.iconst 1, 1) := by decide +kernel
theorem dL_law_303 : decode cL_law 303 = .ok (.iadd, 1) := by decide +kernel
theorem dL_law_304 : decode cL_law 304 = .ok (.iaload, 1) := by decide +kernel
theorem dL_law_305 : decode cL_law 305 = .ok (.i2c, 1) := by decide +kernel
theorem dL_law_306 : decode cL_law 306 = .ok (.invokevirtual 49, 3) := by decide +kernel
theorem dL_law_309 : decode cL_law 309 = .ok (.if_icmp .eq 274, 3) := by decide +kernel
theorem dL_law_312 : decode cL_law 312 = .ok (.iconst 0, 1) := by decide +kernel
theorem dL_law_313 : decode cL_law 313 = .ok (.ireturn, 1) := by decide +kernel
theorem dL_law_314 : decode cL_law 314 = .ok (.aload_n 1, 1) := by decide +kernel
theorem dL_law_315 : decode cL_law 315 = .ok (.invokevirtual 50, 3) := by decide +kernel
theorem dL_law_318 : decode cL_law 318 = .ok (.aload_n 2, 1) := by decide +kernel
theorem dL_law_319 : decode cL_law 319 = .ok (.invokevirtual 53, 3) := by decide +kernel
theorem dL_law_322 : decode cL_law 322 = .ok (.if_icmp .eq 261, 3) := by decide +kernel
theorem dL_law_325 : decode cL_law 325 = .ok (.iconst 0, 1) := by decide +kernel
theorem dL_law_326 : decode cL_law 326 = .ok (.ireturn, 1) := by decide +kernel
theorem dL_law_327 : decode cL_law 327 = .ok (.aload_n 1, 1) := by decide +kernel
theorem dL_law_328 : decode cL_law 328 = .ok (.invokevirtual 54, 3) := by decide +kernel
theorem dL_law_331 : decode cL_law 331 = .ok (.aload_n 2, 1) := by decide +kernel
theorem dL_law_332 : decode cL_law 332 = .ok (.invokevirtual 57, 3) := by decide +kernel
theorem dL_law_335 : decode cL_law 335 = .ok (.if_icmp .eq 248, 3) := by decide +kernel
theorem dL_law_338 : decode cL_law 338 = .ok (.iconst 0, 1) := by decide +kernel
theorem dL_law_339 : decode cL_law 339 = .ok (.ireturn, 1) := by decide +kernel
theorem dL_law_340 : decode cL_law 340 = .ok (.aload_n 1, 1) := by decide +kernel
theorem dL_law_341 : decode cL_law 341 = .ok (.aload_n 0, 1) := by decide +kernel
theorem dL_law_342 : decode cL_law 342 = .ok (.iload_n 3, 1) := by decide +kernel
theorem dL_law_343 : decode cL_law 343 = .ok (.iconst 1, 1) := by decide +kernel
theorem dL_law_344 : decode cL_law 344 = .ok (.iadd, 1) := by decide +kernel
theorem dL_law_345 : decode cL_law 345 = .ok (.iaload, 1) := by decide +kernel
theorem dL_law_346 : decode cL_law 346 = .ok (.invokevirtual 58, 3) := by decide +kernel
theorem dL_law_349 : decode cL_law 349 = .ok (.aload_n 2, 1) := by decide +kernel
theorem dL_law_350 : decode cL_law 350 = .ok (.aload_n 0, 1) := by decide +kernel
theorem dL_law_351 : decode cL_law 351 = .ok (.iload_n 3, 1) := by decide +kernel
theorem dL_law_352 : decode cL_law 352 = .ok (.iconst 1, 1) := by decide +kernel
theorem dL_law_353 : decode cL_law 353 = .ok (.iadd, 1) := by decide +kernel
theorem dL_law_354 : decode cL_law 354 = .ok (.iaload, 1) := by decide +kernel
theorem dL_law_355 : decode cL_law 355 = .ok (.invokevirtual 61, 3) := by decide +kernel
theorem dL_law_358 : decode cL_law 358 = .ok (.if_icmp .eq 225, 3) := by decide +kernel
theorem dL_law_361 : decode cL_law 361 = .ok (.iconst 0, 1) := by decide +kernel
theorem dL_law_362 : decode cL_law 362 = .ok (.ireturn, 1) := by decide +kernel
theorem dL_law_363 : decode cL_law 363 = .ok (.aload_n 1, 1) := by decide +kernel
theorem dL_law_364 : decode cL_law 364 = .ok (.invokevirtual 62, 3) := by decide +kernel
theorem dL_law_367 : decode cL_law 367 = .ok (.aload_n 2, 1) := by decide +kernel
theorem dL_law_368 : decode cL_law 368 = .ok (.invokevirtual 65, 3) := by decide +kernel
theorem dL_law_371 : decode cL_law 371 = .ok (.if_icmp .eq 212, 3) := by decide +kernel
theorem dL_law_374 : decode cL_law 374 = .ok (.iconst 0, 1) := by decide +kernel
theorem dL_law_375 : decode cL_law 375 = .ok (.ireturn, 1) := by decide +kernel
theorem dL_law_376 : decode cL_law 376 = .ok (.aload_n 1, 1) := by decide +kernel
theorem dL_law_377 : decode cL_law 377 = .ok (.invokevirtual 66, 3) := by decide +kernel
theorem dL_law_380 : decode cL_law 380 = .ok (.aload_n 2, 1) := by decide +kernel
theorem dL_law_381 : decode cL_law 381 = .ok (.invokevirtual 69, 3) := by decide +kernel
theorem dL_law_384 : decode cL_law 384 = .ok (.if_icmp .eq 199, 3) := by decide +kernel
theorem dL_law_387 : decode cL_law 387 = .ok (.iconst 0, 1) := by decide +kernel
theorem dL_law_388 : decode cL_law 388 = .ok (.ireturn, 1) := by decide +kernel
theorem dL_law_389 : decode cL_law 389 = .ok (.aload_n 1, 1) := by decide +kernel
theorem dL_law_390 : decode cL_law 390 = .ok (.invokevirtual 70, 3) := by decide +kernel
theorem dL_law_393 : decode cL_law 393 = .ok (.aload_n 2, 1) := by decide +kernel
theorem dL_law_394 : decode cL_law 394 = .ok (.invokevirtual 73, 3) := by decide +kernel
theorem dL_law_397 : decode cL_law 397 = .ok (.if_icmp .eq 186, 3) := by decide +kernel
theorem dL_law_400 : decode cL_law 400 = .ok (.iconst 0, 1) := by decide +kernel
theorem dL_law_401 : decode cL_law 401 = .ok (.ireturn, 1) := by decide +kernel
theorem dL_law_402 : decode cL_law 402 = .ok (.aload_n 1, 1) := by decide +kernel
theorem dL_law_403 : decode cL_law 403 = .ok (.aload_n 0, 1) := by decide +kernel
theorem dL_law_404 : decode cL_law 404 = .ok (.iload_n 3, 1) := by decide +kernel
theorem dL_law_405 : decode cL_law 405 = .ok (.iconst 1, 1) := by decide +kernel
theorem dL_law_406 : decode cL_law 406 = .ok (.iadd, 1) := by decide +kernel
theorem dL_law_407 : decode cL_law 407 = .ok (.iaload, 1) := by decide +kernel
theorem dL_law_408 : decode cL_law 408 = .ok (.invokevirtual 74, 3) := by decide +kernel
theorem dL_law_411 : decode cL_law 411 = .ok (.aload_n 2, 1) := by decide +kernel
theorem dL_law_412 : decode cL_law 412 = .ok (.aload_n 0, 1) := by decide +kernel
theorem dL_law_413 : decode cL_law 413 = .ok (.iload_n 3, 1) := by decide +kernel
theorem dL_law_414 : decode cL_law 414 = .ok (.iconst 1, 1) := by decide +kernel
theorem dL_law_415 : decode cL_law 415 = .ok (.iadd, 1) := by decide +kernel
theorem dL_law_416 : decode cL_law 416 = .ok (.iaload, 1) := by decide +kernel
theorem dL_law_417 : decode cL_law 417 = .ok (.invokevirtual 77, 3) := by decide +kernel
theorem dL_law_420 : decode cL_law 420 = .ok (.if_icmp .eq 163, 3) := by decide +kernel
theorem dL_law_423 : decode cL_law 423 = .ok (.iconst 0, 1) := by decide +kernel
theorem dL_law_424 : decode cL_law 424 = .ok (.ireturn, 1) := by decide +kernel
theorem dL_law_425 : decode cL_law 425 = .ok (.aload_n 1, 1) := by decide +kernel
theorem dL_law_426 : decode cL_law 426 = .ok (.aload_n 0, 1) := by decide +kernel
theorem dL_law_427 : decode cL_law 427 = .ok (.iload_n 3, 1) := by decide +kernel
theorem dL_law_428 : decode cL_law 428 = .ok (.iconst 1, 1) := by decide +kernel
theorem dL_law_429 : decode cL_law 429 = .ok (.iadd, 1) := by decide +kernel
theorem dL_law_430 : decode cL_law 430 = .ok (.iaload, 1) := by decide +kernel
theorem dL_law_431 : decode cL_law 431 = .ok (.aload_n 0, 1) := by decide +kernel
theorem dL_law_432 : decode cL_law 432 = .ok (.iload_n 3, 1) := by decide +kernel
theorem dL_law_433 : decode cL_law 433 = .ok (.iconst 2, 1) := by decide +kernel
theorem dL_law_434 : decode cL_law 434 = .ok (.iadd, 1) := by decide +kernel
theorem dL_law_435 : decode cL_law 435 = .ok (.iaload, 1) := by decide +kernel
theorem dL_law_436 : decode cL_law 436 = .ok (.invokevirtual 78, 3) := by decide +kernel
theorem dL_law_439 : decode cL_law 439 = .ok (.aload_n 2, 1) := by decide +kernel
theorem dL_law_440 : decode cL_law 440 = .ok (.aload_n 0, 1) := by decide +kernel
theorem dL_law_441 : decode cL_law 441 = .ok (.iload_n 3, 1) := by decide +kernel
theorem dL_law_442 : decode cL_law 442 = .ok (.iconst 1, 1) := by decide +kernel
theorem dL_law_443 : decode cL_law 443 = .ok (.iadd, 1) := by decide +kernel
theorem dL_law_444 : decode cL_law 444 = .ok (.iaload, 1) := by decide +kernel
theorem dL_law_445 : decode cL_law 445 = .ok (.aload_n 0, 1) := by decide +kernel
theorem dL_law_446 : decode cL_law 446 = .ok (.iload_n 3, 1) := by decide +kernel
theorem dL_law_447 : decode cL_law 447 = .ok (.iconst 2, 1) := by decide +kernel
theorem dL_law_448 : decode cL_law 448 = .ok (.iadd, 1) := by decide +kernel
theorem dL_law_449 : decode cL_law 449 = .ok (.iaload, 1) := by decide +kernel
theorem dL_law_450 : decode cL_law 450 = .ok (.invokevirtual 81, 3) := by decide +kernel
theorem dL_law_453 : decode cL_law 453 = .ok (.if_icmp .eq 130, 3) := by decide +kernel
theorem dL_law_456 : decode cL_law 456 = .ok (.iconst 0, 1) := by decide +kernel
theorem dL_law_457 : decode cL_law 457 = .ok (.ireturn, 1) := by decide +kernel
theorem dL_law_458 : decode cL_law 458 = .ok (.aload_n 1, 1) := by decide +kernel
theorem dL_law_459 : decode cL_law 459 = .ok (.invokevirtual 82, 3) := by decide +kernel
theorem dL_law_462 : decode cL_law 462 = .ok (.aload_n 2, 1) := by decide +kernel
theorem dL_law_463 : decode cL_law 463 = .ok (.invokevirtual 85, 3) := by decide +kernel
theorem dL_law_466 : decode cL_law 466 = .ok (.if_icmp .eq 117, 3) := by decide +kernel
theorem dL_law_469 : decode cL_law 469 = .ok (.iconst 0, 1) := by decide +kernel
theorem dL_law_470 : decode cL_law 470 = .ok (.ireturn, 1) := by decide +kernel
theorem dL_law_471 : decode cL_law 471 = .ok (.aload_n 1, 1) := by decide +kernel
theorem dL_law_472 : decode cL_law 472 = .ok (.aload_n 0, 1) := by decide +kernel
theorem dL_law_473 : decode cL_law 473 = .ok (.iload_n 3, 1) := by decide +kernel
theorem dL_law_474 : decode cL_law 474 = .ok (.iconst 1, 1) := by decide +kernel
theorem dL_law_475 : decode cL_law 475 = .ok (.iadd, 1) := by decide +kernel
theorem dL_law_476 : decode cL_law 476 = .ok (.iaload, 1) := by decide +kernel
theorem dL_law_477 : decode cL_law 477 = .ok (.aload_n 0, 1) := by decide +kernel
theorem dL_law_478 : decode cL_law 478 = .ok (.iload_n 3, 1) := by decide +kernel
theorem dL_law_479 : decode cL_law 479 = .ok (.iconst 2, 1) := by decide +kernel
theorem dL_law_480 : decode cL_law 480 = .ok (.iadd, 1) := by decide +kernel
theorem dL_law_481 : decode cL_law 481 = .ok (.iaload, 1) := by decide +kernel
theorem dL_law_482 : decode cL_law 482 = .ok (.invokevirtual 86, 3) := by decide +kernel
theorem dL_law_485 : decode cL_law 485 = .ok (.aload_n 2, 1) := by decide +kernel
theorem dL_law_486 : decode cL_law 486 = .ok (.aload_n 0, 1) := by decide +kernel
theorem dL_law_487 : decode cL_law 487 = .ok (.iload_n 3, 1) := by decide +kernel
theorem dL_law_488 : decode cL_law 488 = .ok (.iconst 1, 1) := by decide +kernel
theorem dL_law_489 : decode cL_law 489 = .ok (.iadd, 1) := by decide +kernel
theorem dL_law_490 : decode cL_law 490 = .ok (.iaload, 1) := by decide +kernel
theorem dL_law_491 : decode cL_law 491 = .ok (.aload_n 0, 1) := by decide +kernel
theorem dL_law_492 : decode cL_law 492 = .ok (.iload_n 3, 1) := by decide +kernel
theorem dL_law_493 : decode cL_law 493 = .ok (.iconst 2, 1) := by decide +kernel
theorem dL_law_494 : decode cL_law 494 = .ok (.iadd, 1) := by decide +kernel
theorem dL_law_495 : decode cL_law 495 = .ok (.iaload, 1) := by decide +kernel
theorem dL_law_496 : decode cL_law 496 = .ok (.invokevirtual 89, 3) := by decide +kernel
theorem dL_law_499 : decode cL_law 499 = .ok (.if_icmp .eq 84, 3) := by decide +kernel
theorem dL_law_502 : decode cL_law 502 = .ok (.iconst 0, 1) := by decide +kernel
theorem dL_law_503 : decode cL_law 503 = .ok (.ireturn, 1) := by decide +kernel
theorem dL_law_504 : decode cL_law 504 = .ok (.aload_n 1, 1) := by decide +kernel
theorem dL_law_505 : decode cL_law 505 = .ok (.aload_n 0, 1) := by decide +kernel
theorem dL_law_506 : decode cL_law 506 = .ok (.iload_n 3, 1) := by decide +kernel
theorem dL_law_507 : decode cL_law 507 = .ok (.iconst 1, 1) := by decide +kernel
theorem dL_law_508 : decode cL_law 508 = .ok (.iadd, 1) := by decide +kernel
theorem dL_law_509 : decode cL_law 509 = .ok (.iaload, 1) := by decide +kernel
theorem dL_law_510 : decode cL_law 510 = .ok (.invokevirtual 90, 3) := by decide +kernel
theorem dL_law_513 : decode cL_law 513 = .ok (.aload_n 2, 1) := by decide +kernel
theorem dL_law_514 : decode cL_law 514 = .ok (.aload_n 0, 1) := by decide +kernel
theorem dL_law_515 : decode cL_law 515 = .ok (.iload_n 3, 1) := by decide +kernel
theorem dL_law_516 : decode cL_law 516 = .ok (.iconst 1, 1) := by decide +kernel
theorem dL_law_517 : decode cL_law 517 = .ok (.iadd, 1) := by decide +kernel
theorem dL_law_518 : decode cL_law 518 = .ok (.iaload, 1) := by decide +kernel
theorem dL_law_519 : decode cL_law 519 = .ok (.invokevirtual 93, 3) := by decide +kernel
theorem dL_law_522 : decode cL_law 522 = .ok (.if_icmp .eq 61, 3) := by decide +kernel
theorem dL_law_525 : decode cL_law 525 = .ok (.iconst 0, 1) := by decide +kernel
theorem dL_law_526 : decode cL_law 526 = .ok (.ireturn, 1) := by decide +kernel
theorem dL_law_527 : decode cL_law 527 = .ok (.aload_n 1, 1) := by decide +kernel
theorem dL_law_528 : decode cL_law 528 = .ok (.aload_n 0, 1) := by decide +kernel
theorem dL_law_529 : decode cL_law 529 = .ok (.iload_n 3, 1) := by decide +kernel
theorem dL_law_530 : decode cL_law 530 = .ok (.iconst 1, 1) := by decide +kernel
theorem dL_law_531 : decode cL_law 531 = .ok (.iadd, 1) := by decide +kernel
theorem dL_law_532 : decode cL_law 532 = .ok (.iaload, 1) := by decide +kernel
theorem dL_law_533 : decode cL_law 533 = .ok (.aload_n 0, 1) := by decide +kernel
theorem dL_law_534 : decode cL_law 534 = .ok (.iload_n 3, 1) := by decide +kernel
theorem dL_law_535 : decode cL_law 535 = .ok (.iconst 2, 1) := by decide +kernel
theorem dL_law_536 : decode cL_law 536 = .ok (.iadd, 1) := by decide +kernel
theorem dL_law_537 : decode cL_law 537 = .ok (.iaload, 1) := by decide +kernel
theorem dL_law_538 : decode cL_law 538 = .ok (.invokevirtual 94, 3) := by decide +kernel
theorem dL_law_541 : decode cL_law 541 = .ok (.aload_n 2, 1) := by decide +kernel
theorem dL_law_542 : decode cL_law 542 = .ok (.aload_n 0, 1) := by decide +kernel
theorem dL_law_543 : decode cL_law 543 = .ok (.iload_n 3, 1) := by decide +kernel
theorem dL_law_544 : decode cL_law 544 = .ok (.iconst 1, 1) := by decide +kernel
theorem dL_law_545 : decode cL_law 545 = .ok (.iadd, 1) := by decide +kernel
theorem dL_law_546 : decode cL_law 546 = .ok (.iaload, 1) := by decide +kernel
theorem dL_law_547 : decode cL_law 547 = .ok (.aload_n 0, 1) := by decide +kernel
theorem dL_law_548 : decode cL_law 548 = .ok (.iload_n 3, 1) := by decide +kernel
theorem dL_law_549 : decode cL_law 549 = .ok (.iconst 2, 1) := by decide +kernel
theorem dL_law_550 : decode cL_law 550 = .ok (.iadd, 1) := by decide +kernel
theorem dL_law_551 : decode cL_law 551 = .ok (.iaload, 1) := by decide +kernel
theorem dL_law_552 : decode cL_law 552 = .ok (.invokevirtual 97, 3) := by decide +kernel
theorem dL_law_555 : decode cL_law 555 = .ok (.if_icmp .eq 28, 3) := by decide +kernel
theorem dL_law_558 : decode cL_law 558 = .ok (.iconst 0, 1) := by decide +kernel
theorem dL_law_559 : decode cL_law 559 = .ok (.ireturn, 1) := by decide +kernel
theorem dL_law_560 : decode cL_law 560 = .ok (.aload_n 1, 1) := by decide +kernel
theorem dL_law_561 : decode cL_law 561 = .ok (.aload_n 0, 1) := by decide +kernel
theorem dL_law_562 : decode cL_law 562 = .ok (.iload_n 3, 1) := by decide +kernel
theorem dL_law_563 : decode cL_law 563 = .ok (.iconst 1, 1) := by decide +kernel
theorem dL_law_564 : decode cL_law 564 = .ok (.iadd, 1) := by decide +kernel
theorem dL_law_565 : decode cL_law 565 = .ok (.iaload, 1) := by decide +kernel
theorem dL_law_566 : decode cL_law 566 = .ok (.invokevirtual 98, 3) := by decide +kernel
theorem dL_law_569 : decode cL_law 569 = .ok (.aload_n 2, 1) := by decide +kernel
theorem dL_law_570 : decode cL_law 570 = .ok (.aload_n 0, 1) := by decide +kernel
theorem dL_law_571 : decode cL_law 571 = .ok (.iload_n 3, 1) := by decide +kernel
theorem dL_law_572 : decode cL_law 572 = .ok (.iconst 1, 1) := by decide +kernel
theorem dL_law_573 : decode cL_law 573 = .ok (.iadd, 1) := by decide +kernel
theorem dL_law_574 : decode cL_law 574 = .ok (.iaload, 1) := by decide +kernel
theorem dL_law_575 : decode cL_law 575 = .ok (.invokevirtual 101, 3) := by decide +kernel
theorem dL_law_578 : decode cL_law 578 = .ok (.if_icmp .eq 5, 3) := by decide +kernel
theorem dL_law_581 : decode cL_law 581 = .ok (.iconst 0, 1) := by decide +kernel
theorem dL_law_582 : decode cL_law 582 = .ok (.ireturn, 1) := by decide +kernel
theorem dL_law_583 : decode cL_law 583 = .ok (.iinc 3 3, 3) := by decide +kernel
theorem dL_law_586 : decode cL_law 586 = .ok (.goto (-568), 3) := by decide +kernel
theorem dL_law_589 : decode cL_law 589 = .ok (.iconst 1, 1) := by decide +kernel
theorem dL_law_590 : decode cL_law 590 = .ok (.ireturn, 1) := by decide +kernel
end
section
/-- the words that every contract takes: the tables' words that go through a call -/
def tblG : List Cond := lw_tbl.filter goodWord
theorem tblG_tbl {w : Cond} (h : w ∈ tblG) : w ∈ lw_tbl := (List.mem_filter.mp h).1
theorem tblG_ok {w : Cond} (h : w ∈ tblG) : (w.onTables && w.keeps) = true ∨ ∃ ty, w = .arrayClass ty := good_of_word (List.mem_filter.mp h).2
theorem tblG_of {w : Cond} (h : w ∈ lw_tbl) (h2 : goodWord w = true) : w ∈ tblG := List.mem_filter.mpr ⟨h, h2⟩

theorem kw_0 : (.code yX0_init cX0_init 1 none : Cond) ∈ tblG := tblG_of (by decide +kernel) (by decide +kernel)
theorem kw_1 : (.methodLink RX0 3 objectInit : Cond) ∈ tblG := tblG_of (by decide +kernel) (by decide +kernel)
theorem kw_2 : (.instanceMethod objectInit : Cond) ∈ tblG := tblG_of (by decide +kernel) (by decide +kernel)
theorem kw_3 : (.code objectInit ⟨#[0xb1]⟩ 1 none : Cond) ∈ tblG := tblG_of (by decide +kernel) (by decide +kernel)
theorem kw_4 : (.arrayClass .int : Cond) ∈ tblG := tblG_of (by decide +kernel) (by decide +kernel)
theorem kw_5 : (.fieldLink RX0 9 "GrainLeg$Belt" "row" "[I" : Cond) ∈ tblG := tblG_of (by decide +kernel) (by decide +kernel)
theorem kw_6 : (.code yX0_become cX0_become 2 none : Cond) ∈ tblG := tblG_of (by decide +kernel) (by decide +kernel)
theorem kw_7 : (.methodLink RX0 15 arraycopyName : Cond) ∈ tblG := tblG_of (by decide +kernel) (by decide +kernel)
theorem kw_8 : (.native arraycopyName : Cond) ∈ tblG := tblG_of (by decide +kernel) (by decide +kernel)
theorem kw_9 : (.static arraycopyName : Cond) ∈ tblG := tblG_of (by decide +kernel) (by decide +kernel)
theorem kw_10 : (.initialized "java/lang/System" : Cond) ∈ tblG := tblG_of (by decide +kernel) (by decide +kernel)
theorem kw_11 : (.fieldLink RX0 21 "GrainLeg$Belt" "inBoot" "I" : Cond) ∈ tblG := tblG_of (by decide +kernel) (by decide +kernel)
theorem kw_12 : (.code yX6_isWithin cX6_isWithin 3 (some .boolean) : Cond) ∈ tblG := tblG_of (by decide +kernel) (by decide +kernel)
theorem kw_13 : (.code yX0_at cX0_at 2 (some .int) : Cond) ∈ tblG := tblG_of (by decide +kernel) (by decide +kernel)
theorem kw_14 : (.static yX6_isWithin : Cond) ∈ tblG := tblG_of (by decide +kernel) (by decide +kernel)
theorem kw_15 : (.initialized RX6 : Cond) ∈ tblG := tblG_of (by decide +kernel) (by decide +kernel)
theorem kw_16 : (.code yX0_moveOn cX0_moveOn 1 none : Cond) ∈ tblG := tblG_of (by decide +kernel) (by decide +kernel)
theorem kw_17 : (.code yX0_emptyAtHead cX0_emptyAtHead 3 (some .int) : Cond) ∈ tblG := tblG_of (by decide +kernel) (by decide +kernel)
theorem kw_18 : (.code yX0_fillInBoot cX0_fillInBoot 4 (some .int) : Cond) ∈ tblG := tblG_of (by decide +kernel) (by decide +kernel)
theorem kw_19 : (.methodLink RX0 29 Lib.Math.max.name : Cond) ∈ tblG := tblG_of (by decide +kernel) (by decide +kernel)
theorem kw_20 : (.static Lib.Math.max.name : Cond) ∈ tblG := tblG_of (by decide +kernel) (by decide +kernel)
theorem kw_21 : (.initialized "java/lang/Math" : Cond) ∈ tblG := tblG_of (by decide +kernel) (by decide +kernel)
theorem kw_22 : (.code Lib.Math.max.name Lib.Math.max.code 2 (some .int) : Cond) ∈ tblG := tblG_of (by decide +kernel) (by decide +kernel)
theorem kw_23 : (.methodLink RX0 35 Lib.Math.min.name : Cond) ∈ tblG := tblG_of (by decide +kernel) (by decide +kernel)
theorem kw_24 : (.static Lib.Math.min.name : Cond) ∈ tblG := tblG_of (by decide +kernel) (by decide +kernel)
theorem kw_25 : (.code Lib.Math.min.name Lib.Math.min.code 2 (some .int) : Cond) ∈ tblG := tblG_of (by decide +kernel) (by decide +kernel)
theorem kw_26 : (.code yX0_onTheWayUp cX0_onTheWayUp 3 (some .int) : Cond) ∈ tblG := tblG_of (by decide +kernel) (by decide +kernel)
theorem kw_27 : (.code yX0_onAll cX0_onAll 3 (some .int) : Cond) ∈ tblG := tblG_of (by decide +kernel) (by decide +kernel)
theorem kw_28 : (.code yX1_init cX1_init 1 none : Cond) ∈ tblG := tblG_of (by decide +kernel) (by decide +kernel)
theorem kw_29 : (.methodLink RX1 3 objectInit : Cond) ∈ tblG := tblG_of (by decide +kernel) (by decide +kernel)
theorem kw_30 : (.code yX1_become cX1_become 2 none : Cond) ∈ tblG := tblG_of (by decide +kernel) (by decide +kernel)
theorem kw_31 : (.fieldLink RX1 9 "GrainLeg$Grain" "boot" "I" : Cond) ∈ tblG := tblG_of (by decide +kernel) (by decide +kernel)
theorem kw_32 : (.fieldLink RX1 15 "GrainLeg$Grain" "given" "I" : Cond) ∈ tblG := tblG_of (by decide +kernel) (by decide +kernel)
theorem kw_33 : (.fieldLink RX1 18 "GrainLeg$Grain" "spilt" "I" : Cond) ∈ tblG := tblG_of (by decide +kernel) (by decide +kernel)
theorem kw_34 : (.fieldLink RX1 21 "GrainLeg$Grain" "fed" "I" : Cond) ∈ tblG := tblG_of (by decide +kernel) (by decide +kernel)
theorem kw_35 : (.fieldLink RX1 24 "GrainLeg$Grain" "takenByHand" "I" : Cond) ∈ tblG := tblG_of (by decide +kernel) (by decide +kernel)
theorem kw_36 : (.fieldLink RX1 27 "GrainLeg$Grain" "fallenBack" "I" : Cond) ∈ tblG := tblG_of (by decide +kernel) (by decide +kernel)
theorem kw_37 : (.code yX1_pourIntoBoot cX1_pourIntoBoot 3 none : Cond) ∈ tblG := tblG_of (by decide +kernel) (by decide +kernel)
theorem kw_38 : (.methodLink RX1 34 Lib.Math.min.name : Cond) ∈ tblG := tblG_of (by decide +kernel) (by decide +kernel)
theorem kw_39 : (.code yX1_feedIn cX1_feedIn 2 none : Cond) ∈ tblG := tblG_of (by decide +kernel) (by decide +kernel)
theorem kw_40 : (.methodLink RX1 30 yX1_pourIntoBoot : Cond) ∈ tblG := tblG_of (by decide +kernel) (by decide +kernel)
theorem kw_41 : (.instanceMethod yX1_pourIntoBoot : Cond) ∈ tblG := tblG_of (by decide +kernel) (by decide +kernel)
theorem kw_42 : (.selects RX1 yX1_pourIntoBoot yX1_pourIntoBoot : Cond) ∈ tblG := tblG_of (by decide +kernel) (by decide +kernel)
theorem kw_43 : (.initialized RX1 : Cond) ∈ tblG := tblG_of (by decide +kernel) (by decide +kernel)
theorem kw_44 : (.code yX1_fallBack cX1_fallBack 2 none : Cond) ∈ tblG := tblG_of (by decide +kernel) (by decide +kernel)
theorem kw_45 : (.code yX5_init cX5_init 1 none : Cond) ∈ tblG := tblG_of (by decide +kernel) (by decide +kernel)
theorem kw_46 : (.methodLink RX5 3 objectInit : Cond) ∈ tblG := tblG_of (by decide +kernel) (by decide +kernel)
theorem kw_47 : (.fieldLink RX5 9 "GrainLeg$Trips" "ticks" "[I" : Cond) ∈ tblG := tblG_of (by decide +kernel) (by decide +kernel)
theorem kw_48 : (.fieldLink RX5 15 "GrainLeg$Trips" "sensors" "[I" : Cond) ∈ tblG := tblG_of (by decide +kernel) (by decide +kernel)
theorem kw_49 : (.fieldLink RX5 18 "GrainLeg$Trips" "loads" "[I" : Cond) ∈ tblG := tblG_of (by decide +kernel) (by decide +kernel)
theorem kw_50 : (.methodLink RX3 3 objectInit : Cond) ∈ tblG := tblG_of (by decide +kernel) (by decide +kernel)
theorem kw_51 : (.methodLink RX3 13 ⟨"[I", "clone", "()Ljava/lang/Object;"⟩ : Cond) ∈ tblG := tblG_of (by decide +kernel) (by decide +kernel)
theorem kw_52 : (.sameMethod "[I" "java/lang/Object" "clone" "()Ljava/lang/Object;" : Cond) ∈ tblG := tblG_of (by decide +kernel) (by decide +kernel)
theorem kw_53 : (.native ⟨"java/lang/Object", "clone", "()Ljava/lang/Object;"⟩ : Cond) ∈ tblG := tblG_of (by decide +kernel) (by decide +kernel)
theorem kw_54 : (.instanceMethod ⟨"java/lang/Object", "clone", "()Ljava/lang/Object;"⟩ : Cond) ∈ tblG := tblG_of (by decide +kernel) (by decide +kernel)
theorem kw_55 : (.selects "[I" ⟨"[I", "clone", "()Ljava/lang/Object;"⟩ ⟨"java/lang/Object", "clone", "()Ljava/lang/Object;"⟩ : Cond) ∈ tblG := tblG_of (by decide +kernel) (by decide +kernel)
theorem kw_56 : (.classLink RX3 14 "[I" : Cond) ∈ tblG := tblG_of (by decide +kernel) (by decide +kernel)
theorem kw_57 : (.fieldLink RX3 18 "GrainLeg$Leg" "numbers" "[I" : Cond) ∈ tblG := tblG_of (by decide +kernel) (by decide +kernel)
theorem kw_58 : (.classLink RX3 23 RX0 : Cond) ∈ tblG := tblG_of (by decide +kernel) (by decide +kernel)
theorem kw_59 : (.instantiable RX0 2 : Cond) ∈ tblG := tblG_of (by decide +kernel) (by decide +kernel)
theorem kw_60 : (.initialized RX0 : Cond) ∈ tblG := tblG_of (by decide +kernel) (by decide +kernel)
theorem kw_61 : (.fieldLink RX3 26 "GrainLeg$Leg" "belt" "LGrainLeg$Belt;" : Cond) ∈ tblG := tblG_of (by decide +kernel) (by decide +kernel)
theorem kw_62 : (.classLink RX3 30 RX1 : Cond) ∈ tblG := tblG_of (by decide +kernel) (by decide +kernel)
theorem kw_63 : (.instantiable RX1 6 : Cond) ∈ tblG := tblG_of (by decide +kernel) (by decide +kernel)
theorem kw_64 : (.fieldLink RX3 33 "GrainLeg$Leg" "grain" "LGrainLeg$Grain;" : Cond) ∈ tblG := tblG_of (by decide +kernel) (by decide +kernel)
theorem kw_65 : (.classLink RX3 37 RX5 : Cond) ∈ tblG := tblG_of (by decide +kernel) (by decide +kernel)
theorem kw_66 : (.instantiable RX5 4 : Cond) ∈ tblG := tblG_of (by decide +kernel) (by decide +kernel)
theorem kw_67 : (.initialized RX5 : Cond) ∈ tblG := tblG_of (by decide +kernel) (by decide +kernel)
theorem kw_68 : (.fieldLink RX3 40 "GrainLeg$Leg" "trips" "LGrainLeg$Trips;" : Cond) ∈ tblG := tblG_of (by decide +kernel) (by decide +kernel)
theorem kw_69 : (.fieldLink RX3 44 "GrainLeg$Leg" "tooLong" "[I" : Cond) ∈ tblG := tblG_of (by decide +kernel) (by decide +kernel)
theorem kw_70 : (.fieldLink RX3 47 "GrainLeg$Leg" "tripsOf" "[I" : Cond) ∈ tblG := tblG_of (by decide +kernel) (by decide +kernel)
theorem kw_71 : (.fieldLink RX3 50 "GrainLeg$Leg" "reason" "I" : Cond) ∈ tblG := tblG_of (by decide +kernel) (by decide +kernel)
theorem kw_72 : (.instanceMethod yX0_init : Cond) ∈ tblG := tblG_of (by decide +kernel) (by decide +kernel)
theorem kw_73 : (.instanceMethod yX1_init : Cond) ∈ tblG := tblG_of (by decide +kernel) (by decide +kernel)
theorem kw_74 : (.instanceMethod yX5_init : Cond) ∈ tblG := tblG_of (by decide +kernel) (by decide +kernel)
theorem kw_75 : (.code yX3_init cX3_init 1 none : Cond) ∈ tblG := tblG_of (by decide +kernel) (by decide +kernel)
theorem kw_76 : (.methodLink RX2 3 objectInit : Cond) ∈ tblG := tblG_of (by decide +kernel) (by decide +kernel)
theorem kw_77 : (.classLink RX2 9 RX3 : Cond) ∈ tblG := tblG_of (by decide +kernel) (by decide +kernel)
theorem kw_78 : (.fieldLink RX2 11 "GrainLeg$History" "states" "[LGrainLeg$Leg;" : Cond) ∈ tblG := tblG_of (by decide +kernel) (by decide +kernel)
theorem kw_79 : (.instantiable RX3 13 : Cond) ∈ tblG := tblG_of (by decide +kernel) (by decide +kernel)
theorem kw_80 : (.initialized RX3 : Cond) ∈ tblG := tblG_of (by decide +kernel) (by decide +kernel)
theorem kw_81 : (.instanceMethod yX3_init : Cond) ∈ tblG := tblG_of (by decide +kernel) (by decide +kernel)
theorem kw_82 : (.code yX2_init cX2_init 2 none : Cond) ∈ tblG := tblG_of (by decide +kernel) (by decide +kernel)
theorem kw_83 : (.code yJ9_floorMod_7cf53 cJ9_floorMod_7cf53 3 (some .int) : Cond) ∈ tblG := tblG_of (by decide +kernel) (by decide +kernel)
theorem kw_84 : (.code yX2_indexOf cX2_indexOf 2 (some .int) : Cond) ∈ tblG := tblG_of (by decide +kernel) (by decide +kernel)
theorem kw_85 : (.fieldLink RX2 18 "GrainLeg$History" "oldest" "I" : Cond) ∈ tblG := tblG_of (by decide +kernel) (by decide +kernel)
theorem kw_86 : (.methodLink RX2 22 yJ9_floorMod_7cf53 : Cond) ∈ tblG := tblG_of (by decide +kernel) (by decide +kernel)
theorem kw_87 : (.static yJ9_floorMod_7cf53 : Cond) ∈ tblG := tblG_of (by decide +kernel) (by decide +kernel)
theorem kw_88 : (.initialized RJ9 : Cond) ∈ tblG := tblG_of (by decide +kernel) (by decide +kernel)
theorem kw_89 : (.code yX5_become cX5_become 2 none : Cond) ∈ tblG := tblG_of (by decide +kernel) (by decide +kernel)
theorem kw_90 : (.methodLink RX5 21 arraycopyName : Cond) ∈ tblG := tblG_of (by decide +kernel) (by decide +kernel)
theorem kw_91 : (.fieldLink RX5 27 "GrainLeg$Trips" "size" "I" : Cond) ∈ tblG := tblG_of (by decide +kernel) (by decide +kernel)
theorem kw_92 : (.methodLink RX3 54 arraycopyName : Cond) ∈ tblG := tblG_of (by decide +kernel) (by decide +kernel)
theorem kw_93 : (.fieldLink RX3 70 "GrainLeg$Leg" "runs" "Z" : Cond) ∈ tblG := tblG_of (by decide +kernel) (by decide +kernel)
theorem kw_94 : (.fieldLink RX3 74 "GrainLeg$Leg" "gateOpen" "Z" : Cond) ∈ tblG := tblG_of (by decide +kernel) (by decide +kernel)
theorem kw_95 : (.fieldLink RX3 77 "GrainLeg$Leg" "slip" "I" : Cond) ∈ tblG := tblG_of (by decide +kernel) (by decide +kernel)
theorem kw_96 : (.fieldLink RX3 80 "GrainLeg$Leg" "cells" "I" : Cond) ∈ tblG := tblG_of (by decide +kernel) (by decide +kernel)
theorem kw_97 : (.fieldLink RX3 83 "GrainLeg$Leg" "warmth" "I" : Cond) ∈ tblG := tblG_of (by decide +kernel) (by decide +kernel)
theorem kw_98 : (.fieldLink RX3 86 "GrainLeg$Leg" "ticks" "I" : Cond) ∈ tblG := tblG_of (by decide +kernel) (by decide +kernel)
theorem kw_99 : (.methodLink RX3 60 yX0_become : Cond) ∈ tblG := tblG_of (by decide +kernel) (by decide +kernel)
theorem kw_100 : (.instanceMethod yX0_become : Cond) ∈ tblG := tblG_of (by decide +kernel) (by decide +kernel)
theorem kw_101 : (.selects RX0 yX0_become yX0_become : Cond) ∈ tblG := tblG_of (by decide +kernel) (by decide +kernel)
theorem kw_102 : (.methodLink RX3 64 yX1_become : Cond) ∈ tblG := tblG_of (by decide +kernel) (by decide +kernel)
theorem kw_103 : (.instanceMethod yX1_become : Cond) ∈ tblG := tblG_of (by decide +kernel) (by decide +kernel)
theorem kw_104 : (.selects RX1 yX1_become yX1_become : Cond) ∈ tblG := tblG_of (by decide +kernel) (by decide +kernel)
theorem kw_105 : (.methodLink RX3 67 yX5_become : Cond) ∈ tblG := tblG_of (by decide +kernel) (by decide +kernel)
theorem kw_106 : (.instanceMethod yX5_become : Cond) ∈ tblG := tblG_of (by decide +kernel) (by decide +kernel)
theorem kw_107 : (.selects RX5 yX5_become yX5_become : Cond) ∈ tblG := tblG_of (by decide +kernel) (by decide +kernel)
theorem kw_108 : (.code yX3_become cX3_become 2 none : Cond) ∈ tblG := tblG_of (by decide +kernel) (by decide +kernel)
theorem kw_109 : (.fieldLink RX2 28 "GrainLeg$History" "size" "I" : Cond) ∈ tblG := tblG_of (by decide +kernel) (by decide +kernel)
theorem kw_110 : (.methodLink RX2 31 yX2_indexOf : Cond) ∈ tblG := tblG_of (by decide +kernel) (by decide +kernel)
theorem kw_111 : (.instanceMethod yX2_indexOf : Cond) ∈ tblG := tblG_of (by decide +kernel) (by decide +kernel)
theorem kw_112 : (.selects RX2 yX2_indexOf yX2_indexOf : Cond) ∈ tblG := tblG_of (by decide +kernel) (by decide +kernel)
theorem kw_113 : (.initialized RX2 : Cond) ∈ tblG := tblG_of (by decide +kernel) (by decide +kernel)
theorem kw_114 : (.methodLink RX2 35 yX3_become : Cond) ∈ tblG := tblG_of (by decide +kernel) (by decide +kernel)
theorem kw_115 : (.instanceMethod yX3_become : Cond) ∈ tblG := tblG_of (by decide +kernel) (by decide +kernel)
theorem kw_116 : (.selects RX3 yX3_become yX3_become : Cond) ∈ tblG := tblG_of (by decide +kernel) (by decide +kernel)
theorem kw_117 : (.code yX2_remember cX2_remember 3 none : Cond) ∈ tblG := tblG_of (by decide +kernel) (by decide +kernel)
theorem kw_118 : (.code yX2_takeBack cX2_takeBack 3 (some .boolean) : Cond) ∈ tblG := tblG_of (by decide +kernel) (by decide +kernel)
theorem kw_119 : (.code yX3_setNumber cX3_setNumber 4 (some .int) : Cond) ∈ tblG := tblG_of (by decide +kernel) (by decide +kernel)
theorem kw_120 : (.code yX3_moveGate cX3_moveGate 2 (some .int) : Cond) ∈ tblG := tblG_of (by decide +kernel) (by decide +kernel)
theorem kw_121 : (.fieldLink RX3 99 "GrainLeg$Grain" "boot" "I" : Cond) ∈ tblG := tblG_of (by decide +kernel) (by decide +kernel)
theorem kw_122 : (.code yX3_load cX3_load 1 (some .int) : Cond) ∈ tblG := tblG_of (by decide +kernel) (by decide +kernel)
theorem kw_123 : (.methodLink RX3 126 Lib.Math.max.name : Cond) ∈ tblG := tblG_of (by decide +kernel) (by decide +kernel)
theorem kw_124 : (.methodLink RX3 123 yX0_onTheWayUp : Cond) ∈ tblG := tblG_of (by decide +kernel) (by decide +kernel)
theorem kw_125 : (.instanceMethod yX0_onTheWayUp : Cond) ∈ tblG := tblG_of (by decide +kernel) (by decide +kernel)
theorem kw_126 : (.selects RX0 yX0_onTheWayUp yX0_onTheWayUp : Cond) ∈ tblG := tblG_of (by decide +kernel) (by decide +kernel)
theorem kw_127 : (.code yX3_switchOn cX3_switchOn 1 (some .int) : Cond) ∈ tblG := tblG_of (by decide +kernel) (by decide +kernel)
theorem kw_128 : (.methodLink RX3 102 yX3_load : Cond) ∈ tblG := tblG_of (by decide +kernel) (by decide +kernel)
theorem kw_129 : (.instanceMethod yX3_load : Cond) ∈ tblG := tblG_of (by decide +kernel) (by decide +kernel)
theorem kw_130 : (.selects RX3 yX3_load yX3_load : Cond) ∈ tblG := tblG_of (by decide +kernel) (by decide +kernel)
theorem kw_131 : (.code yX3_switchOff cX3_switchOff 1 (some .int) : Cond) ∈ tblG := tblG_of (by decide +kernel) (by decide +kernel)
theorem kw_132 : (.methodLink RX3 106 yX0_onAll : Cond) ∈ tblG := tblG_of (by decide +kernel) (by decide +kernel)
theorem kw_133 : (.instanceMethod yX0_onAll : Cond) ∈ tblG := tblG_of (by decide +kernel) (by decide +kernel)
theorem kw_134 : (.selects RX0 yX0_onAll yX0_onAll : Cond) ∈ tblG := tblG_of (by decide +kernel) (by decide +kernel)
theorem kw_135 : (.code yX3_mayBeReset cX3_mayBeReset 1 (some .boolean) : Cond) ∈ tblG := tblG_of (by decide +kernel) (by decide +kernel)
theorem kw_136 : (.methodLink RX3 109 yX3_mayBeReset : Cond) ∈ tblG := tblG_of (by decide +kernel) (by decide +kernel)
theorem kw_137 : (.instanceMethod yX3_mayBeReset : Cond) ∈ tblG := tblG_of (by decide +kernel) (by decide +kernel)
theorem kw_138 : (.selects RX3 yX3_mayBeReset yX3_mayBeReset : Cond) ∈ tblG := tblG_of (by decide +kernel) (by decide +kernel)
theorem kw_139 : (.code yX3_forgetReason cX3_forgetReason 2 (some .int) : Cond) ∈ tblG := tblG_of (by decide +kernel) (by decide +kernel)
theorem kw_140 : (.code yX3_takeByHand cX3_takeByHand 2 (some .int) : Cond) ∈ tblG := tblG_of (by decide +kernel) (by decide +kernel)
theorem kw_141 : (.fieldLink RX3 113 "GrainLeg$Grain" "takenByHand" "I" : Cond) ∈ tblG := tblG_of (by decide +kernel) (by decide +kernel)
theorem kw_142 : (.code yX3_slipOf cX3_slipOf 3 (some .int) : Cond) ∈ tblG := tblG_of (by decide +kernel) (by decide +kernel)
theorem kw_143 : (.methodLink RX3 149 Lib.Math.min.name : Cond) ∈ tblG := tblG_of (by decide +kernel) (by decide +kernel)
theorem kw_144 : (.fieldLink RX3 117 "GrainLeg$Grain" "given" "I" : Cond) ∈ tblG := tblG_of (by decide +kernel) (by decide +kernel)
theorem kw_145 : (.methodLink RX3 152 yX0_moveOn : Cond) ∈ tblG := tblG_of (by decide +kernel) (by decide +kernel)
theorem kw_146 : (.instanceMethod yX0_moveOn : Cond) ∈ tblG := tblG_of (by decide +kernel) (by decide +kernel)
theorem kw_147 : (.selects RX0 yX0_moveOn yX0_moveOn : Cond) ∈ tblG := tblG_of (by decide +kernel) (by decide +kernel)
theorem kw_148 : (.methodLink RX3 155 yX0_emptyAtHead : Cond) ∈ tblG := tblG_of (by decide +kernel) (by decide +kernel)
theorem kw_149 : (.instanceMethod yX0_emptyAtHead : Cond) ∈ tblG := tblG_of (by decide +kernel) (by decide +kernel)
theorem kw_150 : (.selects RX0 yX0_emptyAtHead yX0_emptyAtHead : Cond) ∈ tblG := tblG_of (by decide +kernel) (by decide +kernel)
theorem kw_151 : (.methodLink RX3 158 yX1_fallBack : Cond) ∈ tblG := tblG_of (by decide +kernel) (by decide +kernel)
theorem kw_152 : (.instanceMethod yX1_fallBack : Cond) ∈ tblG := tblG_of (by decide +kernel) (by decide +kernel)
theorem kw_153 : (.selects RX1 yX1_fallBack yX1_fallBack : Cond) ∈ tblG := tblG_of (by decide +kernel) (by decide +kernel)
theorem kw_154 : (.methodLink RX3 161 yX0_fillInBoot : Cond) ∈ tblG := tblG_of (by decide +kernel) (by decide +kernel)
theorem kw_155 : (.instanceMethod yX0_fillInBoot : Cond) ∈ tblG := tblG_of (by decide +kernel) (by decide +kernel)
theorem kw_156 : (.selects RX0 yX0_fillInBoot yX0_fillInBoot : Cond) ∈ tblG := tblG_of (by decide +kernel) (by decide +kernel)
theorem kw_157 : (.code yX3_moveOneCell cX3_moveOneCell 3 none : Cond) ∈ tblG := tblG_of (by decide +kernel) (by decide +kernel)
theorem kw_158 : (.code yX3_rub cX3_rub 2 none : Cond) ∈ tblG := tblG_of (by decide +kernel) (by decide +kernel)
theorem kw_159 : (.methodLink RX3 164 Lib.Math.abs.name : Cond) ∈ tblG := tblG_of (by decide +kernel) (by decide +kernel)
theorem kw_160 : (.static Lib.Math.abs.name : Cond) ∈ tblG := tblG_of (by decide +kernel) (by decide +kernel)
theorem kw_161 : (.code Lib.Math.abs.name Lib.Math.abs.code 1 (some .int) : Cond) ∈ tblG := tblG_of (by decide +kernel) (by decide +kernel)
theorem kw_162 : (.code yX3_seenBy cX3_seenBy 2 (some .int) : Cond) ∈ tblG := tblG_of (by decide +kernel) (by decide +kernel)
theorem kw_163 : (.code yX5_note cX5_note 5 none : Cond) ∈ tblG := tblG_of (by decide +kernel) (by decide +kernel)
theorem kw_164 : (.methodLink RX5 31 Lib.Math.min.name : Cond) ∈ tblG := tblG_of (by decide +kernel) (by decide +kernel)
theorem kw_165 : (.methodLink RX3 179 yX5_note : Cond) ∈ tblG := tblG_of (by decide +kernel) (by decide +kernel)
theorem kw_166 : (.instanceMethod yX5_note : Cond) ∈ tblG := tblG_of (by decide +kernel) (by decide +kernel)
theorem kw_167 : (.selects RX5 yX5_note yX5_note : Cond) ∈ tblG := tblG_of (by decide +kernel) (by decide +kernel)
theorem kw_168 : (.code yX3_tripBy cX3_tripBy 2 none : Cond) ∈ tblG := tblG_of (by decide +kernel) (by decide +kernel)
theorem kw_169 : (.methodLink RX3 167 yX3_seenBy : Cond) ∈ tblG := tblG_of (by decide +kernel) (by decide +kernel)
theorem kw_170 : (.instanceMethod yX3_seenBy : Cond) ∈ tblG := tblG_of (by decide +kernel) (by decide +kernel)
theorem kw_171 : (.selects RX3 yX3_seenBy yX3_seenBy : Cond) ∈ tblG := tblG_of (by decide +kernel) (by decide +kernel)
theorem kw_172 : (.methodLink RX3 176 yX3_tripBy : Cond) ∈ tblG := tblG_of (by decide +kernel) (by decide +kernel)
theorem kw_173 : (.instanceMethod yX3_tripBy : Cond) ∈ tblG := tblG_of (by decide +kernel) (by decide +kernel)
theorem kw_174 : (.selects RX3 yX3_tripBy yX3_tripBy : Cond) ∈ tblG := tblG_of (by decide +kernel) (by decide +kernel)
theorem kw_175 : (.code yX3_watch cX3_watch 2 none : Cond) ∈ tblG := tblG_of (by decide +kernel) (by decide +kernel)
theorem kw_176 : (.methodLink RX3 132 yX1_feedIn : Cond) ∈ tblG := tblG_of (by decide +kernel) (by decide +kernel)
theorem kw_177 : (.instanceMethod yX1_feedIn : Cond) ∈ tblG := tblG_of (by decide +kernel) (by decide +kernel)
theorem kw_178 : (.selects RX1 yX1_feedIn yX1_feedIn : Cond) ∈ tblG := tblG_of (by decide +kernel) (by decide +kernel)
theorem kw_179 : (.methodLink RX3 136 yX3_slipOf : Cond) ∈ tblG := tblG_of (by decide +kernel) (by decide +kernel)
theorem kw_180 : (.instanceMethod yX3_slipOf : Cond) ∈ tblG := tblG_of (by decide +kernel) (by decide +kernel)
theorem kw_181 : (.selects RX3 yX3_slipOf yX3_slipOf : Cond) ∈ tblG := tblG_of (by decide +kernel) (by decide +kernel)
theorem kw_182 : (.methodLink RX3 140 yX3_moveOneCell : Cond) ∈ tblG := tblG_of (by decide +kernel) (by decide +kernel)
theorem kw_183 : (.instanceMethod yX3_moveOneCell : Cond) ∈ tblG := tblG_of (by decide +kernel) (by decide +kernel)
theorem kw_184 : (.selects RX3 yX3_moveOneCell yX3_moveOneCell : Cond) ∈ tblG := tblG_of (by decide +kernel) (by decide +kernel)
theorem kw_185 : (.methodLink RX3 143 yX3_rub : Cond) ∈ tblG := tblG_of (by decide +kernel) (by decide +kernel)
theorem kw_186 : (.instanceMethod yX3_rub : Cond) ∈ tblG := tblG_of (by decide +kernel) (by decide +kernel)
theorem kw_187 : (.selects RX3 yX3_rub yX3_rub : Cond) ∈ tblG := tblG_of (by decide +kernel) (by decide +kernel)
theorem kw_188 : (.methodLink RX3 146 yX3_watch : Cond) ∈ tblG := tblG_of (by decide +kernel) (by decide +kernel)
theorem kw_189 : (.instanceMethod yX3_watch : Cond) ∈ tblG := tblG_of (by decide +kernel) (by decide +kernel)
theorem kw_190 : (.selects RX3 yX3_watch yX3_watch : Cond) ∈ tblG := tblG_of (by decide +kernel) (by decide +kernel)
theorem kw_191 : (.code yX3_tick cX3_tick 2 none : Cond) ∈ tblG := tblG_of (by decide +kernel) (by decide +kernel)
theorem kw_192 : (.constant RX3 116 (99999) : Cond) ∈ tblG := tblG_of (by decide +kernel) (by decide +kernel)
theorem kw_193 : (.methodLink RX3 120 yX3_tick : Cond) ∈ tblG := tblG_of (by decide +kernel) (by decide +kernel)
theorem kw_194 : (.instanceMethod yX3_tick : Cond) ∈ tblG := tblG_of (by decide +kernel) (by decide +kernel)
theorem kw_195 : (.selects RX3 yX3_tick yX3_tick : Cond) ∈ tblG := tblG_of (by decide +kernel) (by decide +kernel)
theorem kw_196 : (.code yX3_passTicks cX3_passTicks 4 (some .int) : Cond) ∈ tblG := tblG_of (by decide +kernel) (by decide +kernel)
theorem kw_197 : (.code yX3_ticksUntilTrip cX3_ticksUntilTrip 3 (some .int) : Cond) ∈ tblG := tblG_of (by decide +kernel) (by decide +kernel)
theorem kw_198 : (.code yX4_init cX4_init 1 none : Cond) ∈ tblG := tblG_of (by decide +kernel) (by decide +kernel)
theorem kw_199 : (.methodLink RX4 3 objectInit : Cond) ∈ tblG := tblG_of (by decide +kernel) (by decide +kernel)
theorem kw_200 : (.arrayClass .char : Cond) ∈ tblG := tblG_of (by decide +kernel) (by decide +kernel)
theorem kw_201 : (.fieldLink RX4 9 "GrainLeg$Text" "characters" "[C" : Cond) ∈ tblG := tblG_of (by decide +kernel) (by decide +kernel)
theorem kw_202 : (.fieldLink RX4 15 "GrainLeg$Text" "letters" "[C" : Cond) ∈ tblG := tblG_of (by decide +kernel) (by decide +kernel)
theorem kw_203 : (.fieldLink RX4 18 "GrainLeg$Text" "values" "[I" : Cond) ∈ tblG := tblG_of (by decide +kernel) (by decide +kernel)
theorem kw_204 : (.code yX4_append cX4_append 2 (some .int) : Cond) ∈ tblG := tblG_of (by decide +kernel) (by decide +kernel)
theorem kw_205 : (.fieldLink RX4 22 "GrainLeg$Text" "length" "I" : Cond) ∈ tblG := tblG_of (by decide +kernel) (by decide +kernel)
theorem kw_206 : (.code yX4_empty cX4_empty 2 (some .int) : Cond) ∈ tblG := tblG_of (by decide +kernel) (by decide +kernel)
theorem kw_207 : (.code yX4_letterOf cX4_letterOf 2 (some .char) : Cond) ∈ tblG := tblG_of (by decide +kernel) (by decide +kernel)
theorem kw_208 : (.fieldLink RX4 30 "GrainLeg$Text" "commands" "I" : Cond) ∈ tblG := tblG_of (by decide +kernel) (by decide +kernel)
theorem kw_209 : (.code yX4_valueOf cX4_valueOf 2 (some .int) : Cond) ∈ tblG := tblG_of (by decide +kernel) (by decide +kernel)
theorem kw_210 : (.code yX4_next cX4_next 1 (some .int) : Cond) ∈ tblG := tblG_of (by decide +kernel) (by decide +kernel)
theorem kw_211 : (.fieldLink RX4 33 "GrainLeg$Text" "reading" "I" : Cond) ∈ tblG := tblG_of (by decide +kernel) (by decide +kernel)
theorem kw_212 : (.methodLink RX4 43 Lib.Math.min.name : Cond) ∈ tblG := tblG_of (by decide +kernel) (by decide +kernel)
theorem kw_213 : (.code yX4_isLetterOfCommand cX4_isLetterOfCommand 1 (some .boolean) : Cond) ∈ tblG := tblG_of (by decide +kernel) (by decide +kernel)
theorem kw_214 : (.code yX4_nextDigit cX4_nextDigit 2 (some .int) : Cond) ∈ tblG := tblG_of (by decide +kernel) (by decide +kernel)
theorem kw_215 : (.methodLink RX4 49 yX4_next : Cond) ∈ tblG := tblG_of (by decide +kernel) (by decide +kernel)
theorem kw_216 : (.instanceMethod yX4_next : Cond) ∈ tblG := tblG_of (by decide +kernel) (by decide +kernel)
theorem kw_217 : (.selects RX4 yX4_next yX4_next : Cond) ∈ tblG := tblG_of (by decide +kernel) (by decide +kernel)
theorem kw_218 : (.initialized RX4 : Cond) ∈ tblG := tblG_of (by decide +kernel) (by decide +kernel)
theorem kw_219 : (.code yX4_readNumber cX4_readNumber 6 (some .boolean) : Cond) ∈ tblG := tblG_of (by decide +kernel) (by decide +kernel)
theorem kw_220 : (.methodLink RX4 73 yX4_nextDigit : Cond) ∈ tblG := tblG_of (by decide +kernel) (by decide +kernel)
theorem kw_221 : (.instanceMethod yX4_nextDigit : Cond) ∈ tblG := tblG_of (by decide +kernel) (by decide +kernel)
theorem kw_222 : (.selects RX4 yX4_nextDigit yX4_nextDigit : Cond) ∈ tblG := tblG_of (by decide +kernel) (by decide +kernel)
theorem kw_223 : (.code yX4_readAlignment cX4_readAlignment 3 (some .boolean) : Cond) ∈ tblG := tblG_of (by decide +kernel) (by decide +kernel)
theorem kw_224 : (.methodLink RX4 66 yX4_readNumber : Cond) ∈ tblG := tblG_of (by decide +kernel) (by decide +kernel)
theorem kw_225 : (.instanceMethod yX4_readNumber : Cond) ∈ tblG := tblG_of (by decide +kernel) (by decide +kernel)
theorem kw_226 : (.selects RX4 yX4_readNumber yX4_readNumber : Cond) ∈ tblG := tblG_of (by decide +kernel) (by decide +kernel)
theorem kw_227 : (.methodLink RX4 70 yX4_readAlignment : Cond) ∈ tblG := tblG_of (by decide +kernel) (by decide +kernel)
theorem kw_228 : (.instanceMethod yX4_readAlignment : Cond) ∈ tblG := tblG_of (by decide +kernel) (by decide +kernel)
theorem kw_229 : (.selects RX4 yX4_readAlignment yX4_readAlignment : Cond) ∈ tblG := tblG_of (by decide +kernel) (by decide +kernel)
theorem kw_230 : (.code yX4_readValue cX4_readValue 2 (some .boolean) : Cond) ∈ tblG := tblG_of (by decide +kernel) (by decide +kernel)
theorem kw_231 : (.methodLink RX4 53 yX4_isLetterOfCommand : Cond) ∈ tblG := tblG_of (by decide +kernel) (by decide +kernel)
theorem kw_232 : (.static yX4_isLetterOfCommand : Cond) ∈ tblG := tblG_of (by decide +kernel) (by decide +kernel)
theorem kw_233 : (.methodLink RX4 57 yX4_readValue : Cond) ∈ tblG := tblG_of (by decide +kernel) (by decide +kernel)
theorem kw_234 : (.instanceMethod yX4_readValue : Cond) ∈ tblG := tblG_of (by decide +kernel) (by decide +kernel)
theorem kw_235 : (.selects RX4 yX4_readValue yX4_readValue : Cond) ∈ tblG := tblG_of (by decide +kernel) (by decide +kernel)
theorem kw_236 : (.code yX4_readCommand cX4_readCommand 3 (some .boolean) : Cond) ∈ tblG := tblG_of (by decide +kernel) (by decide +kernel)
theorem kw_237 : (.code yX4_readComma cX4_readComma 1 (some .boolean) : Cond) ∈ tblG := tblG_of (by decide +kernel) (by decide +kernel)
theorem kw_238 : (.methodLink RX4 36 yX4_readCommand : Cond) ∈ tblG := tblG_of (by decide +kernel) (by decide +kernel)
theorem kw_239 : (.instanceMethod yX4_readCommand : Cond) ∈ tblG := tblG_of (by decide +kernel) (by decide +kernel)
theorem kw_240 : (.selects RX4 yX4_readCommand yX4_readCommand : Cond) ∈ tblG := tblG_of (by decide +kernel) (by decide +kernel)
theorem kw_241 : (.methodLink RX4 40 yX4_readComma : Cond) ∈ tblG := tblG_of (by decide +kernel) (by decide +kernel)
theorem kw_242 : (.instanceMethod yX4_readComma : Cond) ∈ tblG := tblG_of (by decide +kernel) (by decide +kernel)
theorem kw_243 : (.selects RX4 yX4_readComma yX4_readComma : Cond) ∈ tblG := tblG_of (by decide +kernel) (by decide +kernel)
theorem kw_244 : (.code yX4_read cX4_read 3 (some .int) : Cond) ∈ tblG := tblG_of (by decide +kernel) (by decide +kernel)
theorem kw_245 : (.code yX5_told cX5_told 3 (some .int) : Cond) ∈ tblG := tblG_of (by decide +kernel) (by decide +kernel)
theorem kw_246 : (.code yX5_tickOf cX5_tickOf 2 (some .int) : Cond) ∈ tblG := tblG_of (by decide +kernel) (by decide +kernel)
theorem kw_247 : (.methodLink RX5 37 yX5_told : Cond) ∈ tblG := tblG_of (by decide +kernel) (by decide +kernel)
theorem kw_248 : (.instanceMethod yX5_told : Cond) ∈ tblG := tblG_of (by decide +kernel) (by decide +kernel)
theorem kw_249 : (.selects RX5 yX5_told yX5_told : Cond) ∈ tblG := tblG_of (by decide +kernel) (by decide +kernel)
theorem kw_250 : (.code yX5_sensorOf cX5_sensorOf 2 (some .int) : Cond) ∈ tblG := tblG_of (by decide +kernel) (by decide +kernel)
theorem kw_251 : (.code yX5_loadOf cX5_loadOf 2 (some .int) : Cond) ∈ tblG := tblG_of (by decide +kernel) (by decide +kernel)
theorem kw_252 : (.methodLink RX6 1 objectInit : Cond) ∈ tblG := tblG_of (by decide +kernel) (by decide +kernel)
theorem kw_253 : (.classLink RX6 7 RX3 : Cond) ∈ tblG := tblG_of (by decide +kernel) (by decide +kernel)
theorem kw_254 : (.fieldLink RX6 10 "GrainLeg" "leg" "LGrainLeg$Leg;" : Cond) ∈ tblG := tblG_of (by decide +kernel) (by decide +kernel)
theorem kw_255 : (.fieldLink RX6 16 "GrainLeg" "before" "LGrainLeg$Leg;" : Cond) ∈ tblG := tblG_of (by decide +kernel) (by decide +kernel)
theorem kw_256 : (.fieldLink RX6 19 "GrainLeg" "trial" "LGrainLeg$Leg;" : Cond) ∈ tblG := tblG_of (by decide +kernel) (by decide +kernel)
theorem kw_257 : (.classLink RX6 22 RX2 : Cond) ∈ tblG := tblG_of (by decide +kernel) (by decide +kernel)
theorem kw_258 : (.instantiable RX2 3 : Cond) ∈ tblG := tblG_of (by decide +kernel) (by decide +kernel)
theorem kw_259 : (.fieldLink RX6 25 "GrainLeg" "history" "LGrainLeg$History;" : Cond) ∈ tblG := tblG_of (by decide +kernel) (by decide +kernel)
theorem kw_260 : (.fieldLink RX6 29 "GrainLeg" "snapshot" "LGrainLeg$Leg;" : Cond) ∈ tblG := tblG_of (by decide +kernel) (by decide +kernel)
theorem kw_261 : (.classLink RX6 32 RX4 : Cond) ∈ tblG := tblG_of (by decide +kernel) (by decide +kernel)
theorem kw_262 : (.instantiable RX4 6 : Cond) ∈ tblG := tblG_of (by decide +kernel) (by decide +kernel)
theorem kw_263 : (.fieldLink RX6 35 "GrainLeg" "text" "LGrainLeg$Text;" : Cond) ∈ tblG := tblG_of (by decide +kernel) (by decide +kernel)
theorem kw_264 : (.fieldLink RX6 39 "GrainLeg" "stopCommand" "I" : Cond) ∈ tblG := tblG_of (by decide +kernel) (by decide +kernel)
theorem kw_265 : (.fieldLink RX6 43 "GrainLeg" "stopError" "I" : Cond) ∈ tblG := tblG_of (by decide +kernel) (by decide +kernel)
theorem kw_266 : (.methodLink RX6 24 yX2_init : Cond) ∈ tblG := tblG_of (by decide +kernel) (by decide +kernel)
theorem kw_267 : (.instanceMethod yX2_init : Cond) ∈ tblG := tblG_of (by decide +kernel) (by decide +kernel)
theorem kw_268 : (.instanceMethod yX4_init : Cond) ∈ tblG := tblG_of (by decide +kernel) (by decide +kernel)
theorem kw_269 : (.code yX6_init cX6_init 1 none : Cond) ∈ tblG := tblG_of (by decide +kernel) (by decide +kernel)
theorem kw_270 : (.code yX6_isError cX6_isError 1 (some .boolean) : Cond) ∈ tblG := tblG_of (by decide +kernel) (by decide +kernel)
theorem kw_271 : (.methodLink RX6 102 yX6_isError : Cond) ∈ tblG := tblG_of (by decide +kernel) (by decide +kernel)
theorem kw_272 : (.static yX6_isError : Cond) ∈ tblG := tblG_of (by decide +kernel) (by decide +kernel)
theorem kw_273 : (.methodLink RX6 224 yX2_remember : Cond) ∈ tblG := tblG_of (by decide +kernel) (by decide +kernel)
theorem kw_274 : (.instanceMethod yX2_remember : Cond) ∈ tblG := tblG_of (by decide +kernel) (by decide +kernel)
theorem kw_275 : (.selects RX2 yX2_remember yX2_remember : Cond) ∈ tblG := tblG_of (by decide +kernel) (by decide +kernel)
theorem kw_276 : (.code yX6_recorded cX6_recorded 2 (some .int) : Cond) ∈ tblG := tblG_of (by decide +kernel) (by decide +kernel)
theorem kw_277 : (.methodLink RX6 46 yX3_become : Cond) ∈ tblG := tblG_of (by decide +kernel) (by decide +kernel)
theorem kw_278 : (.methodLink RX6 50 yX3_setNumber : Cond) ∈ tblG := tblG_of (by decide +kernel) (by decide +kernel)
theorem kw_279 : (.instanceMethod yX3_setNumber : Cond) ∈ tblG := tblG_of (by decide +kernel) (by decide +kernel)
theorem kw_280 : (.selects RX3 yX3_setNumber yX3_setNumber : Cond) ∈ tblG := tblG_of (by decide +kernel) (by decide +kernel)
theorem kw_281 : (.methodLink RX6 54 yX6_recorded : Cond) ∈ tblG := tblG_of (by decide +kernel) (by decide +kernel)
theorem kw_282 : (.instanceMethod yX6_recorded : Cond) ∈ tblG := tblG_of (by decide +kernel) (by decide +kernel)
theorem kw_283 : (.selects RX6 yX6_recorded yX6_recorded : Cond) ∈ tblG := tblG_of (by decide +kernel) (by decide +kernel)
theorem kw_284 : (.code yX6_set cX6_set 3 (some .int) : Cond) ∈ tblG := tblG_of (by decide +kernel) (by decide +kernel)
theorem kw_285 : (.methodLink RX6 58 yX3_moveGate : Cond) ∈ tblG := tblG_of (by decide +kernel) (by decide +kernel)
theorem kw_286 : (.instanceMethod yX3_moveGate : Cond) ∈ tblG := tblG_of (by decide +kernel) (by decide +kernel)
theorem kw_287 : (.selects RX3 yX3_moveGate yX3_moveGate : Cond) ∈ tblG := tblG_of (by decide +kernel) (by decide +kernel)
theorem kw_288 : (.code yX6_gate cX6_gate 2 (some .int) : Cond) ∈ tblG := tblG_of (by decide +kernel) (by decide +kernel)
theorem kw_289 : (.methodLink RX6 62 yX3_switchOn : Cond) ∈ tblG := tblG_of (by decide +kernel) (by decide +kernel)
theorem kw_290 : (.instanceMethod yX3_switchOn : Cond) ∈ tblG := tblG_of (by decide +kernel) (by decide +kernel)
theorem kw_291 : (.selects RX3 yX3_switchOn yX3_switchOn : Cond) ∈ tblG := tblG_of (by decide +kernel) (by decide +kernel)
theorem kw_292 : (.code yX6_start cX6_start 1 (some .int) : Cond) ∈ tblG := tblG_of (by decide +kernel) (by decide +kernel)
theorem kw_293 : (.methodLink RX6 66 yX3_switchOff : Cond) ∈ tblG := tblG_of (by decide +kernel) (by decide +kernel)
theorem kw_294 : (.instanceMethod yX3_switchOff : Cond) ∈ tblG := tblG_of (by decide +kernel) (by decide +kernel)
theorem kw_295 : (.selects RX3 yX3_switchOff yX3_switchOff : Cond) ∈ tblG := tblG_of (by decide +kernel) (by decide +kernel)
theorem kw_296 : (.code yX6_stop cX6_stop 1 (some .int) : Cond) ∈ tblG := tblG_of (by decide +kernel) (by decide +kernel)
theorem kw_297 : (.methodLink RX6 69 yX3_forgetReason : Cond) ∈ tblG := tblG_of (by decide +kernel) (by decide +kernel)
theorem kw_298 : (.instanceMethod yX3_forgetReason : Cond) ∈ tblG := tblG_of (by decide +kernel) (by decide +kernel)
theorem kw_299 : (.selects RX3 yX3_forgetReason yX3_forgetReason : Cond) ∈ tblG := tblG_of (by decide +kernel) (by decide +kernel)
theorem kw_300 : (.code yX6_reset cX6_reset 1 (some .int) : Cond) ∈ tblG := tblG_of (by decide +kernel) (by decide +kernel)
theorem kw_301 : (.methodLink RX6 72 yX3_takeByHand : Cond) ∈ tblG := tblG_of (by decide +kernel) (by decide +kernel)
theorem kw_302 : (.instanceMethod yX3_takeByHand : Cond) ∈ tblG := tblG_of (by decide +kernel) (by decide +kernel)
theorem kw_303 : (.selects RX3 yX3_takeByHand yX3_takeByHand : Cond) ∈ tblG := tblG_of (by decide +kernel) (by decide +kernel)
theorem kw_304 : (.code yX6_clean cX6_clean 2 (some .int) : Cond) ∈ tblG := tblG_of (by decide +kernel) (by decide +kernel)
theorem kw_305 : (.methodLink RX6 75 yX3_passTicks : Cond) ∈ tblG := tblG_of (by decide +kernel) (by decide +kernel)
theorem kw_306 : (.instanceMethod yX3_passTicks : Cond) ∈ tblG := tblG_of (by decide +kernel) (by decide +kernel)
theorem kw_307 : (.selects RX3 yX3_passTicks yX3_passTicks : Cond) ∈ tblG := tblG_of (by decide +kernel) (by decide +kernel)
theorem kw_308 : (.code yX6_run cX6_run 2 (some .int) : Cond) ∈ tblG := tblG_of (by decide +kernel) (by decide +kernel)
theorem kw_309 : (.code yX6_type cX6_type 2 (some .int) : Cond) ∈ tblG := tblG_of (by decide +kernel) (by decide +kernel)
theorem kw_310 : (.methodLink RX6 78 yX4_append : Cond) ∈ tblG := tblG_of (by decide +kernel) (by decide +kernel)
theorem kw_311 : (.instanceMethod yX4_append : Cond) ∈ tblG := tblG_of (by decide +kernel) (by decide +kernel)
theorem kw_312 : (.selects RX4 yX4_append yX4_append : Cond) ∈ tblG := tblG_of (by decide +kernel) (by decide +kernel)
theorem kw_313 : (.code yX6_clearText cX6_clearText 1 (some .int) : Cond) ∈ tblG := tblG_of (by decide +kernel) (by decide +kernel)
theorem kw_314 : (.methodLink RX6 82 yX4_empty : Cond) ∈ tblG := tblG_of (by decide +kernel) (by decide +kernel)
theorem kw_315 : (.instanceMethod yX4_empty : Cond) ∈ tblG := tblG_of (by decide +kernel) (by decide +kernel)
theorem kw_316 : (.selects RX4 yX4_empty yX4_empty : Cond) ∈ tblG := tblG_of (by decide +kernel) (by decide +kernel)
theorem kw_317 : (.code yX6_carryOut cX6_carryOut 3 (some .int) : Cond) ∈ tblG := tblG_of (by decide +kernel) (by decide +kernel)
theorem kw_318 : (.fieldLink RX6 88 "GrainLeg$Text" "commands" "I" : Cond) ∈ tblG := tblG_of (by decide +kernel) (by decide +kernel)
theorem kw_319 : (.methodLink RX6 85 yX4_read : Cond) ∈ tblG := tblG_of (by decide +kernel) (by decide +kernel)
theorem kw_320 : (.instanceMethod yX4_read : Cond) ∈ tblG := tblG_of (by decide +kernel) (by decide +kernel)
theorem kw_321 : (.selects RX4 yX4_read yX4_read : Cond) ∈ tblG := tblG_of (by decide +kernel) (by decide +kernel)
theorem kw_322 : (.methodLink RX6 91 yX4_letterOf : Cond) ∈ tblG := tblG_of (by decide +kernel) (by decide +kernel)
theorem kw_323 : (.instanceMethod yX4_letterOf : Cond) ∈ tblG := tblG_of (by decide +kernel) (by decide +kernel)
theorem kw_324 : (.selects RX4 yX4_letterOf yX4_letterOf : Cond) ∈ tblG := tblG_of (by decide +kernel) (by decide +kernel)
theorem kw_325 : (.methodLink RX6 95 yX4_valueOf : Cond) ∈ tblG := tblG_of (by decide +kernel) (by decide +kernel)
theorem kw_326 : (.instanceMethod yX4_valueOf : Cond) ∈ tblG := tblG_of (by decide +kernel) (by decide +kernel)
theorem kw_327 : (.selects RX4 yX4_valueOf yX4_valueOf : Cond) ∈ tblG := tblG_of (by decide +kernel) (by decide +kernel)
theorem kw_328 : (.methodLink RX6 98 yX6_carryOut : Cond) ∈ tblG := tblG_of (by decide +kernel) (by decide +kernel)
theorem kw_329 : (.instanceMethod yX6_carryOut : Cond) ∈ tblG := tblG_of (by decide +kernel) (by decide +kernel)
theorem kw_330 : (.selects RX6 yX6_carryOut yX6_carryOut : Cond) ∈ tblG := tblG_of (by decide +kernel) (by decide +kernel)
theorem kw_331 : (.code yX6_perform cX6_perform 4 (some .int) : Cond) ∈ tblG := tblG_of (by decide +kernel) (by decide +kernel)
theorem kw_332 : (.code yX6_stopped cX6_stopped 2 (some .int) : Cond) ∈ tblG := tblG_of (by decide +kernel) (by decide +kernel)
theorem kw_333 : (.fieldLink RX6 110 "GrainLeg$History" "size" "I" : Cond) ∈ tblG := tblG_of (by decide +kernel) (by decide +kernel)
theorem kw_334 : (.methodLink RX6 106 yX2_takeBack : Cond) ∈ tblG := tblG_of (by decide +kernel) (by decide +kernel)
theorem kw_335 : (.instanceMethod yX2_takeBack : Cond) ∈ tblG := tblG_of (by decide +kernel) (by decide +kernel)
theorem kw_336 : (.selects RX2 yX2_takeBack yX2_takeBack : Cond) ∈ tblG := tblG_of (by decide +kernel) (by decide +kernel)
theorem kw_337 : (.code yX6_undo cX6_undo 1 (some .int) : Cond) ∈ tblG := tblG_of (by decide +kernel) (by decide +kernel)
theorem kw_338 : (.fieldLink RX6 113 "GrainLeg" "hasSnapshot" "Z" : Cond) ∈ tblG := tblG_of (by decide +kernel) (by decide +kernel)
theorem kw_339 : (.fieldLink RX6 117 "GrainLeg$Leg" "ticks" "I" : Cond) ∈ tblG := tblG_of (by decide +kernel) (by decide +kernel)
theorem kw_340 : (.code yX6_keep cX6_keep 1 (some .int) : Cond) ∈ tblG := tblG_of (by decide +kernel) (by decide +kernel)
theorem kw_341 : (.code yX6_restore cX6_restore 1 (some .int) : Cond) ∈ tblG := tblG_of (by decide +kernel) (by decide +kernel)
theorem kw_342 : (.code yX6_bucket cX6_bucket 2 (some .int) : Cond) ∈ tblG := tblG_of (by decide +kernel) (by decide +kernel)
theorem kw_343 : (.fieldLink RX6 120 "GrainLeg$Leg" "belt" "LGrainLeg$Belt;" : Cond) ∈ tblG := tblG_of (by decide +kernel) (by decide +kernel)
theorem kw_344 : (.methodLink RX6 124 yX0_at : Cond) ∈ tblG := tblG_of (by decide +kernel) (by decide +kernel)
theorem kw_345 : (.instanceMethod yX0_at : Cond) ∈ tblG := tblG_of (by decide +kernel) (by decide +kernel)
theorem kw_346 : (.selects RX0 yX0_at yX0_at : Cond) ∈ tblG := tblG_of (by decide +kernel) (by decide +kernel)
theorem kw_347 : (.code yX6_sensor cX6_sensor 3 (some .int) : Cond) ∈ tblG := tblG_of (by decide +kernel) (by decide +kernel)
theorem kw_348 : (.fieldLink RX6 136 "GrainLeg$Leg" "tooLong" "[I" : Cond) ∈ tblG := tblG_of (by decide +kernel) (by decide +kernel)
theorem kw_349 : (.fieldLink RX6 140 "GrainLeg" "WAITS" "[I" : Cond) ∈ tblG := tblG_of (by decide +kernel) (by decide +kernel)
theorem kw_350 : (.fieldLink RX6 143 "GrainLeg$Leg" "tripsOf" "[I" : Cond) ∈ tblG := tblG_of (by decide +kernel) (by decide +kernel)
theorem kw_351 : (.methodLink RX6 129 yX6_isWithin : Cond) ∈ tblG := tblG_of (by decide +kernel) (by decide +kernel)
theorem kw_352 : (.methodLink RX6 133 yX3_seenBy : Cond) ∈ tblG := tblG_of (by decide +kernel) (by decide +kernel)
theorem kw_353 : (.fieldLink RX6 146 "GrainLeg$Leg" "runs" "Z" : Cond) ∈ tblG := tblG_of (by decide +kernel) (by decide +kernel)
theorem kw_354 : (.methodLink RX6 149 yX3_ticksUntilTrip : Cond) ∈ tblG := tblG_of (by decide +kernel) (by decide +kernel)
theorem kw_355 : (.instanceMethod yX3_ticksUntilTrip : Cond) ∈ tblG := tblG_of (by decide +kernel) (by decide +kernel)
theorem kw_356 : (.selects RX3 yX3_ticksUntilTrip yX3_ticksUntilTrip : Cond) ∈ tblG := tblG_of (by decide +kernel) (by decide +kernel)
theorem kw_357 : (.code yX6_tripsIn cX6_tripsIn 1 (some .int) : Cond) ∈ tblG := tblG_of (by decide +kernel) (by decide +kernel)
theorem kw_358 : (.fieldLink RX6 152 "GrainLeg" "LEAST" "[I" : Cond) ∈ tblG := tblG_of (by decide +kernel) (by decide +kernel)
theorem kw_359 : (.fieldLink RX6 155 "GrainLeg" "MOST" "[I" : Cond) ∈ tblG := tblG_of (by decide +kernel) (by decide +kernel)
theorem kw_360 : (.fieldLink RX6 158 "GrainLeg$Leg" "numbers" "[I" : Cond) ∈ tblG := tblG_of (by decide +kernel) (by decide +kernel)
theorem kw_361 : (.code yX6_ifTension cX6_ifTension 3 (some .int) : Cond) ∈ tblG := tblG_of (by decide +kernel) (by decide +kernel)
theorem kw_362 : (.code yX6_leastTension cX6_leastTension 3 (some .int) : Cond) ∈ tblG := tblG_of (by decide +kernel) (by decide +kernel)
theorem kw_363 : (.fieldLink RX6 161 "GrainLeg$Leg" "trips" "LGrainLeg$Trips;" : Cond) ∈ tblG := tblG_of (by decide +kernel) (by decide +kernel)
theorem kw_364 : (.methodLink RX6 165 yX5_tickOf : Cond) ∈ tblG := tblG_of (by decide +kernel) (by decide +kernel)
theorem kw_365 : (.instanceMethod yX5_tickOf : Cond) ∈ tblG := tblG_of (by decide +kernel) (by decide +kernel)
theorem kw_366 : (.selects RX5 yX5_tickOf yX5_tickOf : Cond) ∈ tblG := tblG_of (by decide +kernel) (by decide +kernel)
theorem kw_367 : (.methodLink RX6 170 yX5_sensorOf : Cond) ∈ tblG := tblG_of (by decide +kernel) (by decide +kernel)
theorem kw_368 : (.instanceMethod yX5_sensorOf : Cond) ∈ tblG := tblG_of (by decide +kernel) (by decide +kernel)
theorem kw_369 : (.selects RX5 yX5_sensorOf yX5_sensorOf : Cond) ∈ tblG := tblG_of (by decide +kernel) (by decide +kernel)
theorem kw_370 : (.methodLink RX6 173 yX5_loadOf : Cond) ∈ tblG := tblG_of (by decide +kernel) (by decide +kernel)
theorem kw_371 : (.instanceMethod yX5_loadOf : Cond) ∈ tblG := tblG_of (by decide +kernel) (by decide +kernel)
theorem kw_372 : (.selects RX5 yX5_loadOf yX5_loadOf : Cond) ∈ tblG := tblG_of (by decide +kernel) (by decide +kernel)
theorem kw_373 : (.code yX6_trip cX6_trip 3 (some .int) : Cond) ∈ tblG := tblG_of (by decide +kernel) (by decide +kernel)
theorem kw_374 : (.fieldLink RX6 176 "GrainLeg$Leg" "grain" "LGrainLeg$Grain;" : Cond) ∈ tblG := tblG_of (by decide +kernel) (by decide +kernel)
theorem kw_375 : (.fieldLink RX6 180 "GrainLeg$Grain" "boot" "I" : Cond) ∈ tblG := tblG_of (by decide +kernel) (by decide +kernel)
theorem kw_376 : (.fieldLink RX6 188 "GrainLeg$Grain" "given" "I" : Cond) ∈ tblG := tblG_of (by decide +kernel) (by decide +kernel)
theorem kw_377 : (.fieldLink RX6 191 "GrainLeg$Grain" "spilt" "I" : Cond) ∈ tblG := tblG_of (by decide +kernel) (by decide +kernel)
theorem kw_378 : (.fieldLink RX6 194 "GrainLeg$Grain" "fed" "I" : Cond) ∈ tblG := tblG_of (by decide +kernel) (by decide +kernel)
theorem kw_379 : (.fieldLink RX6 197 "GrainLeg$Grain" "takenByHand" "I" : Cond) ∈ tblG := tblG_of (by decide +kernel) (by decide +kernel)
theorem kw_380 : (.fieldLink RX6 200 "GrainLeg$Grain" "fallenBack" "I" : Cond) ∈ tblG := tblG_of (by decide +kernel) (by decide +kernel)
theorem kw_381 : (.fieldLink RX6 206 "GrainLeg$Leg" "slip" "I" : Cond) ∈ tblG := tblG_of (by decide +kernel) (by decide +kernel)
theorem kw_382 : (.fieldLink RX6 209 "GrainLeg$Leg" "cells" "I" : Cond) ∈ tblG := tblG_of (by decide +kernel) (by decide +kernel)
theorem kw_383 : (.fieldLink RX6 212 "GrainLeg$Leg" "warmth" "I" : Cond) ∈ tblG := tblG_of (by decide +kernel) (by decide +kernel)
theorem kw_384 : (.fieldLink RX6 215 "GrainLeg$Leg" "gateOpen" "Z" : Cond) ∈ tblG := tblG_of (by decide +kernel) (by decide +kernel)
theorem kw_385 : (.fieldLink RX6 218 "GrainLeg$Leg" "reason" "I" : Cond) ∈ tblG := tblG_of (by decide +kernel) (by decide +kernel)
theorem kw_386 : (.fieldLink RX6 221 "GrainLeg$Text" "length" "I" : Cond) ∈ tblG := tblG_of (by decide +kernel) (by decide +kernel)
theorem kw_387 : (.methodLink RX6 185 yX0_onAll : Cond) ∈ tblG := tblG_of (by decide +kernel) (by decide +kernel)
theorem kw_388 : (.methodLink RX6 203 yX3_load : Cond) ∈ tblG := tblG_of (by decide +kernel) (by decide +kernel)
theorem kw_389 : (.code yX6_count cX6_count 2 (some .int) : Cond) ∈ tblG := tblG_of (by decide +kernel) (by decide +kernel)
theorem kw_390 : (.code yX7_init cX7_init 1 none : Cond) ∈ tblG := tblG_of (by decide +kernel) (by decide +kernel)
theorem kw_391 : (.methodLink RX7 1 objectInit : Cond) ∈ tblG := tblG_of (by decide +kernel) (by decide +kernel)
theorem kw_392 : (.fieldLink RX7 7 "GrainLegModel" "s" "[I" : Cond) ∈ tblG := tblG_of (by decide +kernel) (by decide +kernel)
theorem kw_393 : (.fieldLink RX7 13 "GrainLegModel" "aside" "[I" : Cond) ∈ tblG := tblG_of (by decide +kernel) (by decide +kernel)
theorem kw_394 : (.fieldLink RX7 16 "GrainLegModel" "saved" "[I" : Cond) ∈ tblG := tblG_of (by decide +kernel) (by decide +kernel)
theorem kw_395 : (.fieldLink RX7 19 "GrainLegModel" "snapshot" "[I" : Cond) ∈ tblG := tblG_of (by decide +kernel) (by decide +kernel)
theorem kw_396 : (.fieldLink RX7 22 "GrainLegModel" "text" "[I" : Cond) ∈ tblG := tblG_of (by decide +kernel) (by decide +kernel)
theorem kw_397 : (.fieldLink RX7 25 "GrainLegModel" "commands" "[I" : Cond) ∈ tblG := tblG_of (by decide +kernel) (by decide +kernel)
theorem kw_398 : (.fieldLink RX7 28 "GrainLegModel" "thrown" "I" : Cond) ∈ tblG := tblG_of (by decide +kernel) (by decide +kernel)
theorem kw_399 : (.fieldLink RX7 32 "GrainLegModel" "stoppedAt" "I" : Cond) ∈ tblG := tblG_of (by decide +kernel) (by decide +kernel)
theorem kw_400 : (.fieldLink RX7 35 "GrainLegModel" "stoppedBy" "I" : Cond) ∈ tblG := tblG_of (by decide +kernel) (by decide +kernel)
theorem kw_401 : (.code yX7_in cX7_in 3 (some .boolean) : Cond) ∈ tblG := tblG_of (by decide +kernel) (by decide +kernel)
theorem kw_402 : (.code yX7_records cX7_records 2 none : Cond) ∈ tblG := tblG_of (by decide +kernel) (by decide +kernel)
theorem kw_403 : (.fieldLink RX7 38 "GrainLegModel" "savedMany" "I" : Cond) ∈ tblG := tblG_of (by decide +kernel) (by decide +kernel)
theorem kw_404 : (.code yX7_putAside cX7_putAside 2 none : Cond) ∈ tblG := tblG_of (by decide +kernel) (by decide +kernel)
theorem kw_405 : (.code yX7_takeBack cX7_takeBack 2 none : Cond) ∈ tblG := tblG_of (by decide +kernel) (by decide +kernel)
theorem kw_406 : (.code yX7_load cX7_load 3 (some .int) : Cond) ∈ tblG := tblG_of (by decide +kernel) (by decide +kernel)
theorem kw_407 : (.code yX7_comes cX7_comes 3 none : Cond) ∈ tblG := tblG_of (by decide +kernel) (by decide +kernel)
theorem kw_408 : (.code yX7_moves cX7_moves 6 none : Cond) ∈ tblG := tblG_of (by decide +kernel) (by decide +kernel)
theorem kw_409 : (.methodLink RX7 41 yX7_comes : Cond) ∈ tblG := tblG_of (by decide +kernel) (by decide +kernel)
theorem kw_410 : (.instanceMethod yX7_comes : Cond) ∈ tblG := tblG_of (by decide +kernel) (by decide +kernel)
theorem kw_411 : (.selects RX7 yX7_comes yX7_comes : Cond) ∈ tblG := tblG_of (by decide +kernel) (by decide +kernel)
theorem kw_412 : (.initialized RX7 : Cond) ∈ tblG := tblG_of (by decide +kernel) (by decide +kernel)
theorem kw_413 : (.code yX7_beyond cX7_beyond 2 (some .int) : Cond) ∈ tblG := tblG_of (by decide +kernel) (by decide +kernel)
theorem kw_414 : (.code yX7_seesTooMuch cX7_seesTooMuch 2 (some .boolean) : Cond) ∈ tblG := tblG_of (by decide +kernel) (by decide +kernel)
theorem kw_415 : (.code yX7_trips cX7_trips 3 none : Cond) ∈ tblG := tblG_of (by decide +kernel) (by decide +kernel)
theorem kw_416 : (.methodLink RX7 45 yX7_load : Cond) ∈ tblG := tblG_of (by decide +kernel) (by decide +kernel)
theorem kw_417 : (.instanceMethod yX7_load : Cond) ∈ tblG := tblG_of (by decide +kernel) (by decide +kernel)
theorem kw_418 : (.selects RX7 yX7_load yX7_load : Cond) ∈ tblG := tblG_of (by decide +kernel) (by decide +kernel)
theorem kw_419 : (.code yX7_watches cX7_watches 2 none : Cond) ∈ tblG := tblG_of (by decide +kernel) (by decide +kernel)
theorem kw_420 : (.methodLink RX7 49 yX7_seesTooMuch : Cond) ∈ tblG := tblG_of (by decide +kernel) (by decide +kernel)
theorem kw_421 : (.instanceMethod yX7_seesTooMuch : Cond) ∈ tblG := tblG_of (by decide +kernel) (by decide +kernel)
theorem kw_422 : (.selects RX7 yX7_seesTooMuch yX7_seesTooMuch : Cond) ∈ tblG := tblG_of (by decide +kernel) (by decide +kernel)
theorem kw_423 : (.methodLink RX7 53 yX7_trips : Cond) ∈ tblG := tblG_of (by decide +kernel) (by decide +kernel)
theorem kw_424 : (.instanceMethod yX7_trips : Cond) ∈ tblG := tblG_of (by decide +kernel) (by decide +kernel)
theorem kw_425 : (.selects RX7 yX7_trips yX7_trips : Cond) ∈ tblG := tblG_of (by decide +kernel) (by decide +kernel)
theorem kw_426 : (.methodLink RX7 56 yX7_moves : Cond) ∈ tblG := tblG_of (by decide +kernel) (by decide +kernel)
theorem kw_427 : (.instanceMethod yX7_moves : Cond) ∈ tblG := tblG_of (by decide +kernel) (by decide +kernel)
theorem kw_428 : (.selects RX7 yX7_moves yX7_moves : Cond) ∈ tblG := tblG_of (by decide +kernel) (by decide +kernel)
theorem kw_429 : (.methodLink RX7 59 yX7_beyond : Cond) ∈ tblG := tblG_of (by decide +kernel) (by decide +kernel)
theorem kw_430 : (.instanceMethod yX7_beyond : Cond) ∈ tblG := tblG_of (by decide +kernel) (by decide +kernel)
theorem kw_431 : (.selects RX7 yX7_beyond yX7_beyond : Cond) ∈ tblG := tblG_of (by decide +kernel) (by decide +kernel)
theorem kw_432 : (.methodLink RX7 62 yX7_watches : Cond) ∈ tblG := tblG_of (by decide +kernel) (by decide +kernel)
theorem kw_433 : (.instanceMethod yX7_watches : Cond) ∈ tblG := tblG_of (by decide +kernel) (by decide +kernel)
theorem kw_434 : (.selects RX7 yX7_watches yX7_watches : Cond) ∈ tblG := tblG_of (by decide +kernel) (by decide +kernel)
theorem kw_435 : (.code yX7_tick cX7_tick 3 none : Cond) ∈ tblG := tblG_of (by decide +kernel) (by decide +kernel)
theorem kw_436 : (.methodLink RX7 65 yX7_tick : Cond) ∈ tblG := tblG_of (by decide +kernel) (by decide +kernel)
theorem kw_437 : (.instanceMethod yX7_tick : Cond) ∈ tblG := tblG_of (by decide +kernel) (by decide +kernel)
theorem kw_438 : (.selects RX7 yX7_tick yX7_tick : Cond) ∈ tblG := tblG_of (by decide +kernel) (by decide +kernel)
theorem kw_439 : (.code yX7_ticks cX7_ticks 4 (some .int) : Cond) ∈ tblG := tblG_of (by decide +kernel) (by decide +kernel)
theorem kw_440 : (.code yX7_isNumber cX7_isNumber 2 (some .boolean) : Cond) ∈ tblG := tblG_of (by decide +kernel) (by decide +kernel)
theorem kw_441 : (.methodLink RX7 68 yX7_in : Cond) ∈ tblG := tblG_of (by decide +kernel) (by decide +kernel)
theorem kw_442 : (.static yX7_in : Cond) ∈ tblG := tblG_of (by decide +kernel) (by decide +kernel)
theorem kw_443 : (.code yX7_refusesSet cX7_refusesSet 3 (some .int) : Cond) ∈ tblG := tblG_of (by decide +kernel) (by decide +kernel)
theorem kw_444 : (.methodLink RX7 72 yX7_isNumber : Cond) ∈ tblG := tblG_of (by decide +kernel) (by decide +kernel)
theorem kw_445 : (.static yX7_isNumber : Cond) ∈ tblG := tblG_of (by decide +kernel) (by decide +kernel)
theorem kw_446 : (.code yX7_refusesGate cX7_refusesGate 2 (some .int) : Cond) ∈ tblG := tblG_of (by decide +kernel) (by decide +kernel)
theorem kw_447 : (.code yX7_refusesStart cX7_refusesStart 1 (some .int) : Cond) ∈ tblG := tblG_of (by decide +kernel) (by decide +kernel)
theorem kw_448 : (.code yX7_refusesReset cX7_refusesReset 1 (some .int) : Cond) ∈ tblG := tblG_of (by decide +kernel) (by decide +kernel)
theorem kw_449 : (.code yX7_refusesRun cX7_refusesRun 2 (some .int) : Cond) ∈ tblG := tblG_of (by decide +kernel) (by decide +kernel)
theorem kw_450 : (.constant RX7 76 (99999) : Cond) ∈ tblG := tblG_of (by decide +kernel) (by decide +kernel)
theorem kw_451 : (.code yX7_inBuckets cX7_inBuckets 3 (some .int) : Cond) ∈ tblG := tblG_of (by decide +kernel) (by decide +kernel)
theorem kw_452 : (.code yX7_set cX7_set 5 (some .int) : Cond) ∈ tblG := tblG_of (by decide +kernel) (by decide +kernel)
theorem kw_453 : (.methodLink RX7 77 yX7_refusesSet : Cond) ∈ tblG := tblG_of (by decide +kernel) (by decide +kernel)
theorem kw_454 : (.instanceMethod yX7_refusesSet : Cond) ∈ tblG := tblG_of (by decide +kernel) (by decide +kernel)
theorem kw_455 : (.selects RX7 yX7_refusesSet yX7_refusesSet : Cond) ∈ tblG := tblG_of (by decide +kernel) (by decide +kernel)
theorem kw_456 : (.methodLink RX7 81 yX7_records : Cond) ∈ tblG := tblG_of (by decide +kernel) (by decide +kernel)
theorem kw_457 : (.instanceMethod yX7_records : Cond) ∈ tblG := tblG_of (by decide +kernel) (by decide +kernel)
theorem kw_458 : (.selects RX7 yX7_records yX7_records : Cond) ∈ tblG := tblG_of (by decide +kernel) (by decide +kernel)
theorem kw_459 : (.code yX7_gate cX7_gate 3 (some .int) : Cond) ∈ tblG := tblG_of (by decide +kernel) (by decide +kernel)
theorem kw_460 : (.methodLink RX7 84 yX7_refusesGate : Cond) ∈ tblG := tblG_of (by decide +kernel) (by decide +kernel)
theorem kw_461 : (.instanceMethod yX7_refusesGate : Cond) ∈ tblG := tblG_of (by decide +kernel) (by decide +kernel)
theorem kw_462 : (.selects RX7 yX7_refusesGate yX7_refusesGate : Cond) ∈ tblG := tblG_of (by decide +kernel) (by decide +kernel)
theorem kw_463 : (.code yX7_start cX7_start 2 (some .int) : Cond) ∈ tblG := tblG_of (by decide +kernel) (by decide +kernel)
theorem kw_464 : (.methodLink RX7 88 yX7_refusesStart : Cond) ∈ tblG := tblG_of (by decide +kernel) (by decide +kernel)
theorem kw_465 : (.instanceMethod yX7_refusesStart : Cond) ∈ tblG := tblG_of (by decide +kernel) (by decide +kernel)
theorem kw_466 : (.selects RX7 yX7_refusesStart yX7_refusesStart : Cond) ∈ tblG := tblG_of (by decide +kernel) (by decide +kernel)
theorem kw_467 : (.code yX7_stop cX7_stop 1 (some .int) : Cond) ∈ tblG := tblG_of (by decide +kernel) (by decide +kernel)
theorem kw_468 : (.methodLink RX7 91 yX7_inBuckets : Cond) ∈ tblG := tblG_of (by decide +kernel) (by decide +kernel)
theorem kw_469 : (.instanceMethod yX7_inBuckets : Cond) ∈ tblG := tblG_of (by decide +kernel) (by decide +kernel)
theorem kw_470 : (.selects RX7 yX7_inBuckets yX7_inBuckets : Cond) ∈ tblG := tblG_of (by decide +kernel) (by decide +kernel)
theorem kw_471 : (.code yX7_reset cX7_reset 3 (some .int) : Cond) ∈ tblG := tblG_of (by decide +kernel) (by decide +kernel)
theorem kw_472 : (.methodLink RX7 94 yX7_refusesReset : Cond) ∈ tblG := tblG_of (by decide +kernel) (by decide +kernel)
theorem kw_473 : (.instanceMethod yX7_refusesReset : Cond) ∈ tblG := tblG_of (by decide +kernel) (by decide +kernel)
theorem kw_474 : (.selects RX7 yX7_refusesReset yX7_refusesReset : Cond) ∈ tblG := tblG_of (by decide +kernel) (by decide +kernel)
theorem kw_475 : (.code yX7_clean cX7_clean 2 (some .int) : Cond) ∈ tblG := tblG_of (by decide +kernel) (by decide +kernel)
theorem kw_476 : (.methodLink RX7 97 yX7_refusesRun : Cond) ∈ tblG := tblG_of (by decide +kernel) (by decide +kernel)
theorem kw_477 : (.instanceMethod yX7_refusesRun : Cond) ∈ tblG := tblG_of (by decide +kernel) (by decide +kernel)
theorem kw_478 : (.selects RX7 yX7_refusesRun yX7_refusesRun : Cond) ∈ tblG := tblG_of (by decide +kernel) (by decide +kernel)
theorem kw_479 : (.methodLink RX7 101 yX7_ticks : Cond) ∈ tblG := tblG_of (by decide +kernel) (by decide +kernel)
theorem kw_480 : (.instanceMethod yX7_ticks : Cond) ∈ tblG := tblG_of (by decide +kernel) (by decide +kernel)
theorem kw_481 : (.selects RX7 yX7_ticks yX7_ticks : Cond) ∈ tblG := tblG_of (by decide +kernel) (by decide +kernel)
theorem kw_482 : (.code yX7_run cX7_run 3 (some .int) : Cond) ∈ tblG := tblG_of (by decide +kernel) (by decide +kernel)
theorem kw_483 : (.code yX7_type cX7_type 2 (some .int) : Cond) ∈ tblG := tblG_of (by decide +kernel) (by decide +kernel)
theorem kw_484 : (.fieldLink RX7 104 "GrainLegModel" "length" "I" : Cond) ∈ tblG := tblG_of (by decide +kernel) (by decide +kernel)
theorem kw_485 : (.code yX7_clearText cX7_clearText 2 (some .int) : Cond) ∈ tblG := tblG_of (by decide +kernel) (by decide +kernel)
theorem kw_486 : (.code yX7_sign cX7_sign 1 (some .int) : Cond) ∈ tblG := tblG_of (by decide +kernel) (by decide +kernel)
theorem kw_487 : (.fieldLink RX7 107 "GrainLegModel" "at" "I" : Cond) ∈ tblG := tblG_of (by decide +kernel) (by decide +kernel)
theorem kw_488 : (.code yX7_number cX7_number 4 (some .int) : Cond) ∈ tblG := tblG_of (by decide +kernel) (by decide +kernel)
theorem kw_489 : (.fieldLink RX7 110 "GrainLegModel" "isWell" "Z" : Cond) ∈ tblG := tblG_of (by decide +kernel) (by decide +kernel)
theorem kw_490 : (.methodLink RX7 114 yX7_sign : Cond) ∈ tblG := tblG_of (by decide +kernel) (by decide +kernel)
theorem kw_491 : (.instanceMethod yX7_sign : Cond) ∈ tblG := tblG_of (by decide +kernel) (by decide +kernel)
theorem kw_492 : (.selects RX7 yX7_sign yX7_sign : Cond) ∈ tblG := tblG_of (by decide +kernel) (by decide +kernel)
theorem kw_493 : (.code yX7_alignment cX7_alignment 3 (some .int) : Cond) ∈ tblG := tblG_of (by decide +kernel) (by decide +kernel)
theorem kw_494 : (.methodLink RX7 117 yX7_number : Cond) ∈ tblG := tblG_of (by decide +kernel) (by decide +kernel)
theorem kw_495 : (.instanceMethod yX7_number : Cond) ∈ tblG := tblG_of (by decide +kernel) (by decide +kernel)
theorem kw_496 : (.selects RX7 yX7_number yX7_number : Cond) ∈ tblG := tblG_of (by decide +kernel) (by decide +kernel)
theorem kw_497 : (.code yX7_valueOf cX7_valueOf 2 (some .int) : Cond) ∈ tblG := tblG_of (by decide +kernel) (by decide +kernel)
theorem kw_498 : (.methodLink RX7 120 yX7_alignment : Cond) ∈ tblG := tblG_of (by decide +kernel) (by decide +kernel)
theorem kw_499 : (.instanceMethod yX7_alignment : Cond) ∈ tblG := tblG_of (by decide +kernel) (by decide +kernel)
theorem kw_500 : (.selects RX7 yX7_alignment yX7_alignment : Cond) ∈ tblG := tblG_of (by decide +kernel) (by decide +kernel)
theorem kw_501 : (.code yX7_isLetter cX7_isLetter 1 (some .boolean) : Cond) ∈ tblG := tblG_of (by decide +kernel) (by decide +kernel)
theorem kw_502 : (.fieldLink RX7 126 "GrainLegModel" "commandMany" "I" : Cond) ∈ tblG := tblG_of (by decide +kernel) (by decide +kernel)
theorem kw_503 : (.methodLink RX7 123 yX7_isLetter : Cond) ∈ tblG := tblG_of (by decide +kernel) (by decide +kernel)
theorem kw_504 : (.static yX7_isLetter : Cond) ∈ tblG := tblG_of (by decide +kernel) (by decide +kernel)
theorem kw_505 : (.methodLink RX7 129 yX7_valueOf : Cond) ∈ tblG := tblG_of (by decide +kernel) (by decide +kernel)
theorem kw_506 : (.instanceMethod yX7_valueOf : Cond) ∈ tblG := tblG_of (by decide +kernel) (by decide +kernel)
theorem kw_507 : (.selects RX7 yX7_valueOf yX7_valueOf : Cond) ∈ tblG := tblG_of (by decide +kernel) (by decide +kernel)
theorem kw_508 : (.code yX7_readsCommand cX7_readsCommand 2 none : Cond) ∈ tblG := tblG_of (by decide +kernel) (by decide +kernel)
theorem kw_509 : (.methodLink RX7 132 yX7_readsCommand : Cond) ∈ tblG := tblG_of (by decide +kernel) (by decide +kernel)
theorem kw_510 : (.instanceMethod yX7_readsCommand : Cond) ∈ tblG := tblG_of (by decide +kernel) (by decide +kernel)
theorem kw_511 : (.selects RX7 yX7_readsCommand yX7_readsCommand : Cond) ∈ tblG := tblG_of (by decide +kernel) (by decide +kernel)
theorem kw_512 : (.code yX7_reads cX7_reads 1 (some .int) : Cond) ∈ tblG := tblG_of (by decide +kernel) (by decide +kernel)
theorem kw_513 : (.code yX7_whichOf cX7_whichOf 1 (some .int) : Cond) ∈ tblG := tblG_of (by decide +kernel) (by decide +kernel)
theorem kw_514 : (.methodLink RX7 135 yX7_whichOf : Cond) ∈ tblG := tblG_of (by decide +kernel) (by decide +kernel)
theorem kw_515 : (.static yX7_whichOf : Cond) ∈ tblG := tblG_of (by decide +kernel) (by decide +kernel)
theorem kw_516 : (.code yX7_does cX7_does 4 (some .int) : Cond) ∈ tblG := tblG_of (by decide +kernel) (by decide +kernel)
theorem kw_517 : (.code yX7_swapsAside cX7_swapsAside 3 none : Cond) ∈ tblG := tblG_of (by decide +kernel) (by decide +kernel)
theorem kw_518 : (.methodLink RX7 138 yX7_reads : Cond) ∈ tblG := tblG_of (by decide +kernel) (by decide +kernel)
theorem kw_519 : (.instanceMethod yX7_reads : Cond) ∈ tblG := tblG_of (by decide +kernel) (by decide +kernel)
theorem kw_520 : (.selects RX7 yX7_reads yX7_reads : Cond) ∈ tblG := tblG_of (by decide +kernel) (by decide +kernel)
theorem kw_521 : (.methodLink RX7 141 yX7_putAside : Cond) ∈ tblG := tblG_of (by decide +kernel) (by decide +kernel)
theorem kw_522 : (.instanceMethod yX7_putAside : Cond) ∈ tblG := tblG_of (by decide +kernel) (by decide +kernel)
theorem kw_523 : (.selects RX7 yX7_putAside yX7_putAside : Cond) ∈ tblG := tblG_of (by decide +kernel) (by decide +kernel)
theorem kw_524 : (.methodLink RX7 144 yX7_does : Cond) ∈ tblG := tblG_of (by decide +kernel) (by decide +kernel)
theorem kw_525 : (.instanceMethod yX7_does : Cond) ∈ tblG := tblG_of (by decide +kernel) (by decide +kernel)
theorem kw_526 : (.selects RX7 yX7_does yX7_does : Cond) ∈ tblG := tblG_of (by decide +kernel) (by decide +kernel)
theorem kw_527 : (.methodLink RX7 147 yX7_takeBack : Cond) ∈ tblG := tblG_of (by decide +kernel) (by decide +kernel)
theorem kw_528 : (.instanceMethod yX7_takeBack : Cond) ∈ tblG := tblG_of (by decide +kernel) (by decide +kernel)
theorem kw_529 : (.selects RX7 yX7_takeBack yX7_takeBack : Cond) ∈ tblG := tblG_of (by decide +kernel) (by decide +kernel)
theorem kw_530 : (.methodLink RX7 150 yX7_swapsAside : Cond) ∈ tblG := tblG_of (by decide +kernel) (by decide +kernel)
theorem kw_531 : (.instanceMethod yX7_swapsAside : Cond) ∈ tblG := tblG_of (by decide +kernel) (by decide +kernel)
theorem kw_532 : (.selects RX7 yX7_swapsAside yX7_swapsAside : Cond) ∈ tblG := tblG_of (by decide +kernel) (by decide +kernel)
theorem kw_533 : (.code yX7_perform cX7_perform 4 (some .int) : Cond) ∈ tblG := tblG_of (by decide +kernel) (by decide +kernel)
theorem kw_534 : (.code yX7_stopped cX7_stopped 2 (some .int) : Cond) ∈ tblG := tblG_of (by decide +kernel) (by decide +kernel)
theorem kw_535 : (.code yX7_undo cX7_undo 2 (some .int) : Cond) ∈ tblG := tblG_of (by decide +kernel) (by decide +kernel)
theorem kw_536 : (.code yX7_keep cX7_keep 2 (some .int) : Cond) ∈ tblG := tblG_of (by decide +kernel) (by decide +kernel)
theorem kw_537 : (.fieldLink RX7 153 "GrainLegModel" "hasSnapshot" "Z" : Cond) ∈ tblG := tblG_of (by decide +kernel) (by decide +kernel)
theorem kw_538 : (.code yX7_restore cX7_restore 2 (some .int) : Cond) ∈ tblG := tblG_of (by decide +kernel) (by decide +kernel)
theorem kw_539 : (.code yX7_bucket cX7_bucket 2 (some .int) : Cond) ∈ tblG := tblG_of (by decide +kernel) (by decide +kernel)
theorem kw_540 : (.code yX7_sensor cX7_sensor 3 (some .int) : Cond) ∈ tblG := tblG_of (by decide +kernel) (by decide +kernel)
theorem kw_541 : (.code yX7_untilTrip cX7_untilTrip 3 (some .int) : Cond) ∈ tblG := tblG_of (by decide +kernel) (by decide +kernel)
theorem kw_542 : (.methodLink RX7 156 yX7_untilTrip : Cond) ∈ tblG := tblG_of (by decide +kernel) (by decide +kernel)
theorem kw_543 : (.instanceMethod yX7_untilTrip : Cond) ∈ tblG := tblG_of (by decide +kernel) (by decide +kernel)
theorem kw_544 : (.selects RX7 yX7_untilTrip yX7_untilTrip : Cond) ∈ tblG := tblG_of (by decide +kernel) (by decide +kernel)
theorem kw_545 : (.code yX7_tripsIn cX7_tripsIn 2 (some .int) : Cond) ∈ tblG := tblG_of (by decide +kernel) (by decide +kernel)
theorem kw_546 : (.code yX7_ifTension cX7_ifTension 4 (some .int) : Cond) ∈ tblG := tblG_of (by decide +kernel) (by decide +kernel)
theorem kw_547 : (.code yX7_leastTension cX7_leastTension 4 (some .int) : Cond) ∈ tblG := tblG_of (by decide +kernel) (by decide +kernel)
theorem kw_548 : (.code yX7_trip cX7_trip 3 (some .int) : Cond) ∈ tblG := tblG_of (by decide +kernel) (by decide +kernel)
theorem kw_549 : (.code yX7_count cX7_count 2 (some .int) : Cond) ∈ tblG := tblG_of (by decide +kernel) (by decide +kernel)
theorem kw_550 : (.code yJ9_abs_0f7a4 cJ9_abs_0f7a4 1 (some .int) : Cond) ∈ tblG := tblG_of (by decide +kernel) (by decide +kernel)
theorem kw_551 : (.code yJ9_max_7cf53 cJ9_max_7cf53 2 (some .int) : Cond) ∈ tblG := tblG_of (by decide +kernel) (by decide +kernel)
theorem kw_552 : (.code yJ9_min_7cf53 cJ9_min_7cf53 2 (some .int) : Cond) ∈ tblG := tblG_of (by decide +kernel) (by decide +kernel)
theorem kw_553 : (.classLink RL 7 RX6 : Cond) ∈ tblG := tblG_of (by decide +kernel) (by decide +kernel)
theorem kw_554 : (.instantiable RX6 9 : Cond) ∈ tblG := tblG_of (by decide +kernel) (by decide +kernel)
theorem kw_555 : (.classLink RL 10 RX7 : Cond) ∈ tblG := tblG_of (by decide +kernel) (by decide +kernel)
theorem kw_556 : (.instantiable RX7 15 : Cond) ∈ tblG := tblG_of (by decide +kernel) (by decide +kernel)
theorem kw_557 : (.methodLink RL 9 yX6_init : Cond) ∈ tblG := tblG_of (by decide +kernel) (by decide +kernel)
theorem kw_558 : (.instanceMethod yX6_init : Cond) ∈ tblG := tblG_of (by decide +kernel) (by decide +kernel)
theorem kw_559 : (.methodLink RL 12 yX7_init : Cond) ∈ tblG := tblG_of (by decide +kernel) (by decide +kernel)
theorem kw_560 : (.instanceMethod yX7_init : Cond) ∈ tblG := tblG_of (by decide +kernel) (by decide +kernel)
theorem kw_561 : (.methodLink RL 13 yX6_set : Cond) ∈ tblG := tblG_of (by decide +kernel) (by decide +kernel)
theorem kw_562 : (.instanceMethod yX6_set : Cond) ∈ tblG := tblG_of (by decide +kernel) (by decide +kernel)
theorem kw_563 : (.selects RX6 yX6_set yX6_set : Cond) ∈ tblG := tblG_of (by decide +kernel) (by decide +kernel)
theorem kw_564 : (.methodLink RL 17 yX7_set : Cond) ∈ tblG := tblG_of (by decide +kernel) (by decide +kernel)
theorem kw_565 : (.instanceMethod yX7_set : Cond) ∈ tblG := tblG_of (by decide +kernel) (by decide +kernel)
theorem kw_566 : (.selects RX7 yX7_set yX7_set : Cond) ∈ tblG := tblG_of (by decide +kernel) (by decide +kernel)
theorem kw_567 : (.methodLink RL 18 yX6_gate : Cond) ∈ tblG := tblG_of (by decide +kernel) (by decide +kernel)
theorem kw_568 : (.instanceMethod yX6_gate : Cond) ∈ tblG := tblG_of (by decide +kernel) (by decide +kernel)
theorem kw_569 : (.selects RX6 yX6_gate yX6_gate : Cond) ∈ tblG := tblG_of (by decide +kernel) (by decide +kernel)
theorem kw_570 : (.methodLink RL 22 yX7_gate : Cond) ∈ tblG := tblG_of (by decide +kernel) (by decide +kernel)
theorem kw_571 : (.instanceMethod yX7_gate : Cond) ∈ tblG := tblG_of (by decide +kernel) (by decide +kernel)
theorem kw_572 : (.selects RX7 yX7_gate yX7_gate : Cond) ∈ tblG := tblG_of (by decide +kernel) (by decide +kernel)
theorem kw_573 : (.methodLink RL 23 yX6_start : Cond) ∈ tblG := tblG_of (by decide +kernel) (by decide +kernel)
theorem kw_574 : (.instanceMethod yX6_start : Cond) ∈ tblG := tblG_of (by decide +kernel) (by decide +kernel)
theorem kw_575 : (.selects RX6 yX6_start yX6_start : Cond) ∈ tblG := tblG_of (by decide +kernel) (by decide +kernel)
theorem kw_576 : (.methodLink RL 27 yX7_start : Cond) ∈ tblG := tblG_of (by decide +kernel) (by decide +kernel)
theorem kw_577 : (.instanceMethod yX7_start : Cond) ∈ tblG := tblG_of (by decide +kernel) (by decide +kernel)
theorem kw_578 : (.selects RX7 yX7_start yX7_start : Cond) ∈ tblG := tblG_of (by decide +kernel) (by decide +kernel)
theorem kw_579 : (.methodLink RL 28 yX6_stop : Cond) ∈ tblG := tblG_of (by decide +kernel) (by decide +kernel)
theorem kw_580 : (.instanceMethod yX6_stop : Cond) ∈ tblG := tblG_of (by decide +kernel) (by decide +kernel)
theorem kw_581 : (.selects RX6 yX6_stop yX6_stop : Cond) ∈ tblG := tblG_of (by decide +kernel) (by decide +kernel)
theorem kw_582 : (.methodLink RL 31 yX7_stop : Cond) ∈ tblG := tblG_of (by decide +kernel) (by decide +kernel)
theorem kw_583 : (.instanceMethod yX7_stop : Cond) ∈ tblG := tblG_of (by decide +kernel) (by decide +kernel)
theorem kw_584 : (.selects RX7 yX7_stop yX7_stop : Cond) ∈ tblG := tblG_of (by decide +kernel) (by decide +kernel)
theorem kw_585 : (.methodLink RL 32 yX6_reset : Cond) ∈ tblG := tblG_of (by decide +kernel) (by decide +kernel)
theorem kw_586 : (.instanceMethod yX6_reset : Cond) ∈ tblG := tblG_of (by decide +kernel) (by decide +kernel)
theorem kw_587 : (.selects RX6 yX6_reset yX6_reset : Cond) ∈ tblG := tblG_of (by decide +kernel) (by decide +kernel)
theorem kw_588 : (.methodLink RL 35 yX7_reset : Cond) ∈ tblG := tblG_of (by decide +kernel) (by decide +kernel)
theorem kw_589 : (.instanceMethod yX7_reset : Cond) ∈ tblG := tblG_of (by decide +kernel) (by decide +kernel)
theorem kw_590 : (.selects RX7 yX7_reset yX7_reset : Cond) ∈ tblG := tblG_of (by decide +kernel) (by decide +kernel)
theorem kw_591 : (.methodLink RL 36 yX6_clean : Cond) ∈ tblG := tblG_of (by decide +kernel) (by decide +kernel)
theorem kw_592 : (.instanceMethod yX6_clean : Cond) ∈ tblG := tblG_of (by decide +kernel) (by decide +kernel)
theorem kw_593 : (.selects RX6 yX6_clean yX6_clean : Cond) ∈ tblG := tblG_of (by decide +kernel) (by decide +kernel)
theorem kw_594 : (.methodLink RL 40 yX7_clean : Cond) ∈ tblG := tblG_of (by decide +kernel) (by decide +kernel)
theorem kw_595 : (.instanceMethod yX7_clean : Cond) ∈ tblG := tblG_of (by decide +kernel) (by decide +kernel)
theorem kw_596 : (.selects RX7 yX7_clean yX7_clean : Cond) ∈ tblG := tblG_of (by decide +kernel) (by decide +kernel)
theorem kw_597 : (.methodLink RL 41 yX6_run : Cond) ∈ tblG := tblG_of (by decide +kernel) (by decide +kernel)
theorem kw_598 : (.instanceMethod yX6_run : Cond) ∈ tblG := tblG_of (by decide +kernel) (by decide +kernel)
theorem kw_599 : (.selects RX6 yX6_run yX6_run : Cond) ∈ tblG := tblG_of (by decide +kernel) (by decide +kernel)
theorem kw_600 : (.methodLink RL 44 yX7_run : Cond) ∈ tblG := tblG_of (by decide +kernel) (by decide +kernel)
theorem kw_601 : (.instanceMethod yX7_run : Cond) ∈ tblG := tblG_of (by decide +kernel) (by decide +kernel)
theorem kw_602 : (.selects RX7 yX7_run yX7_run : Cond) ∈ tblG := tblG_of (by decide +kernel) (by decide +kernel)
theorem kw_603 : (.methodLink RL 45 yX6_type : Cond) ∈ tblG := tblG_of (by decide +kernel) (by decide +kernel)
theorem kw_604 : (.instanceMethod yX6_type : Cond) ∈ tblG := tblG_of (by decide +kernel) (by decide +kernel)
theorem kw_605 : (.selects RX6 yX6_type yX6_type : Cond) ∈ tblG := tblG_of (by decide +kernel) (by decide +kernel)
theorem kw_606 : (.methodLink RL 49 yX7_type : Cond) ∈ tblG := tblG_of (by decide +kernel) (by decide +kernel)
theorem kw_607 : (.instanceMethod yX7_type : Cond) ∈ tblG := tblG_of (by decide +kernel) (by decide +kernel)
theorem kw_608 : (.selects RX7 yX7_type yX7_type : Cond) ∈ tblG := tblG_of (by decide +kernel) (by decide +kernel)
theorem kw_609 : (.methodLink RL 50 yX6_clearText : Cond) ∈ tblG := tblG_of (by decide +kernel) (by decide +kernel)
theorem kw_610 : (.instanceMethod yX6_clearText : Cond) ∈ tblG := tblG_of (by decide +kernel) (by decide +kernel)
theorem kw_611 : (.selects RX6 yX6_clearText yX6_clearText : Cond) ∈ tblG := tblG_of (by decide +kernel) (by decide +kernel)
theorem kw_612 : (.methodLink RL 53 yX7_clearText : Cond) ∈ tblG := tblG_of (by decide +kernel) (by decide +kernel)
theorem kw_613 : (.instanceMethod yX7_clearText : Cond) ∈ tblG := tblG_of (by decide +kernel) (by decide +kernel)
theorem kw_614 : (.selects RX7 yX7_clearText yX7_clearText : Cond) ∈ tblG := tblG_of (by decide +kernel) (by decide +kernel)
theorem kw_615 : (.methodLink RL 54 yX6_perform : Cond) ∈ tblG := tblG_of (by decide +kernel) (by decide +kernel)
theorem kw_616 : (.instanceMethod yX6_perform : Cond) ∈ tblG := tblG_of (by decide +kernel) (by decide +kernel)
theorem kw_617 : (.selects RX6 yX6_perform yX6_perform : Cond) ∈ tblG := tblG_of (by decide +kernel) (by decide +kernel)
theorem kw_618 : (.methodLink RL 57 yX7_perform : Cond) ∈ tblG := tblG_of (by decide +kernel) (by decide +kernel)
theorem kw_619 : (.instanceMethod yX7_perform : Cond) ∈ tblG := tblG_of (by decide +kernel) (by decide +kernel)
theorem kw_620 : (.selects RX7 yX7_perform yX7_perform : Cond) ∈ tblG := tblG_of (by decide +kernel) (by decide +kernel)
theorem kw_621 : (.methodLink RL 58 yX6_stopped : Cond) ∈ tblG := tblG_of (by decide +kernel) (by decide +kernel)
theorem kw_622 : (.instanceMethod yX6_stopped : Cond) ∈ tblG := tblG_of (by decide +kernel) (by decide +kernel)
theorem kw_623 : (.selects RX6 yX6_stopped yX6_stopped : Cond) ∈ tblG := tblG_of (by decide +kernel) (by decide +kernel)
theorem kw_624 : (.methodLink RL 61 yX7_stopped : Cond) ∈ tblG := tblG_of (by decide +kernel) (by decide +kernel)
theorem kw_625 : (.instanceMethod yX7_stopped : Cond) ∈ tblG := tblG_of (by decide +kernel) (by decide +kernel)
theorem kw_626 : (.selects RX7 yX7_stopped yX7_stopped : Cond) ∈ tblG := tblG_of (by decide +kernel) (by decide +kernel)
theorem kw_627 : (.methodLink RL 62 yX6_undo : Cond) ∈ tblG := tblG_of (by decide +kernel) (by decide +kernel)
theorem kw_628 : (.instanceMethod yX6_undo : Cond) ∈ tblG := tblG_of (by decide +kernel) (by decide +kernel)
theorem kw_629 : (.selects RX6 yX6_undo yX6_undo : Cond) ∈ tblG := tblG_of (by decide +kernel) (by decide +kernel)
theorem kw_630 : (.methodLink RL 65 yX7_undo : Cond) ∈ tblG := tblG_of (by decide +kernel) (by decide +kernel)
theorem kw_631 : (.instanceMethod yX7_undo : Cond) ∈ tblG := tblG_of (by decide +kernel) (by decide +kernel)
theorem kw_632 : (.selects RX7 yX7_undo yX7_undo : Cond) ∈ tblG := tblG_of (by decide +kernel) (by decide +kernel)
theorem kw_633 : (.methodLink RL 66 yX6_keep : Cond) ∈ tblG := tblG_of (by decide +kernel) (by decide +kernel)
theorem kw_634 : (.instanceMethod yX6_keep : Cond) ∈ tblG := tblG_of (by decide +kernel) (by decide +kernel)
theorem kw_635 : (.selects RX6 yX6_keep yX6_keep : Cond) ∈ tblG := tblG_of (by decide +kernel) (by decide +kernel)
theorem kw_636 : (.methodLink RL 69 yX7_keep : Cond) ∈ tblG := tblG_of (by decide +kernel) (by decide +kernel)
theorem kw_637 : (.instanceMethod yX7_keep : Cond) ∈ tblG := tblG_of (by decide +kernel) (by decide +kernel)
theorem kw_638 : (.selects RX7 yX7_keep yX7_keep : Cond) ∈ tblG := tblG_of (by decide +kernel) (by decide +kernel)
theorem kw_639 : (.methodLink RL 70 yX6_restore : Cond) ∈ tblG := tblG_of (by decide +kernel) (by decide +kernel)
theorem kw_640 : (.instanceMethod yX6_restore : Cond) ∈ tblG := tblG_of (by decide +kernel) (by decide +kernel)
theorem kw_641 : (.selects RX6 yX6_restore yX6_restore : Cond) ∈ tblG := tblG_of (by decide +kernel) (by decide +kernel)
theorem kw_642 : (.methodLink RL 73 yX7_restore : Cond) ∈ tblG := tblG_of (by decide +kernel) (by decide +kernel)
theorem kw_643 : (.instanceMethod yX7_restore : Cond) ∈ tblG := tblG_of (by decide +kernel) (by decide +kernel)
theorem kw_644 : (.selects RX7 yX7_restore yX7_restore : Cond) ∈ tblG := tblG_of (by decide +kernel) (by decide +kernel)
theorem kw_645 : (.methodLink RL 74 yX6_bucket : Cond) ∈ tblG := tblG_of (by decide +kernel) (by decide +kernel)
theorem kw_646 : (.instanceMethod yX6_bucket : Cond) ∈ tblG := tblG_of (by decide +kernel) (by decide +kernel)
theorem kw_647 : (.selects RX6 yX6_bucket yX6_bucket : Cond) ∈ tblG := tblG_of (by decide +kernel) (by decide +kernel)
theorem kw_648 : (.methodLink RL 77 yX7_bucket : Cond) ∈ tblG := tblG_of (by decide +kernel) (by decide +kernel)
theorem kw_649 : (.instanceMethod yX7_bucket : Cond) ∈ tblG := tblG_of (by decide +kernel) (by decide +kernel)
theorem kw_650 : (.selects RX7 yX7_bucket yX7_bucket : Cond) ∈ tblG := tblG_of (by decide +kernel) (by decide +kernel)
theorem kw_651 : (.methodLink RL 78 yX6_sensor : Cond) ∈ tblG := tblG_of (by decide +kernel) (by decide +kernel)
theorem kw_652 : (.instanceMethod yX6_sensor : Cond) ∈ tblG := tblG_of (by decide +kernel) (by decide +kernel)
theorem kw_653 : (.selects RX6 yX6_sensor yX6_sensor : Cond) ∈ tblG := tblG_of (by decide +kernel) (by decide +kernel)
theorem kw_654 : (.methodLink RL 81 yX7_sensor : Cond) ∈ tblG := tblG_of (by decide +kernel) (by decide +kernel)
theorem kw_655 : (.instanceMethod yX7_sensor : Cond) ∈ tblG := tblG_of (by decide +kernel) (by decide +kernel)
theorem kw_656 : (.selects RX7 yX7_sensor yX7_sensor : Cond) ∈ tblG := tblG_of (by decide +kernel) (by decide +kernel)
theorem kw_657 : (.methodLink RL 82 yX6_tripsIn : Cond) ∈ tblG := tblG_of (by decide +kernel) (by decide +kernel)
theorem kw_658 : (.instanceMethod yX6_tripsIn : Cond) ∈ tblG := tblG_of (by decide +kernel) (by decide +kernel)
theorem kw_659 : (.selects RX6 yX6_tripsIn yX6_tripsIn : Cond) ∈ tblG := tblG_of (by decide +kernel) (by decide +kernel)
theorem kw_660 : (.methodLink RL 85 yX7_tripsIn : Cond) ∈ tblG := tblG_of (by decide +kernel) (by decide +kernel)
theorem kw_661 : (.instanceMethod yX7_tripsIn : Cond) ∈ tblG := tblG_of (by decide +kernel) (by decide +kernel)
theorem kw_662 : (.selects RX7 yX7_tripsIn yX7_tripsIn : Cond) ∈ tblG := tblG_of (by decide +kernel) (by decide +kernel)
theorem kw_663 : (.methodLink RL 86 yX6_ifTension : Cond) ∈ tblG := tblG_of (by decide +kernel) (by decide +kernel)
theorem kw_664 : (.instanceMethod yX6_ifTension : Cond) ∈ tblG := tblG_of (by decide +kernel) (by decide +kernel)
theorem kw_665 : (.selects RX6 yX6_ifTension yX6_ifTension : Cond) ∈ tblG := tblG_of (by decide +kernel) (by decide +kernel)
theorem kw_666 : (.methodLink RL 89 yX7_ifTension : Cond) ∈ tblG := tblG_of (by decide +kernel) (by decide +kernel)
theorem kw_667 : (.instanceMethod yX7_ifTension : Cond) ∈ tblG := tblG_of (by decide +kernel) (by decide +kernel)
theorem kw_668 : (.selects RX7 yX7_ifTension yX7_ifTension : Cond) ∈ tblG := tblG_of (by decide +kernel) (by decide +kernel)
theorem kw_669 : (.methodLink RL 90 yX6_leastTension : Cond) ∈ tblG := tblG_of (by decide +kernel) (by decide +kernel)
theorem kw_670 : (.instanceMethod yX6_leastTension : Cond) ∈ tblG := tblG_of (by decide +kernel) (by decide +kernel)
theorem kw_671 : (.selects RX6 yX6_leastTension yX6_leastTension : Cond) ∈ tblG := tblG_of (by decide +kernel) (by decide +kernel)
theorem kw_672 : (.methodLink RL 93 yX7_leastTension : Cond) ∈ tblG := tblG_of (by decide +kernel) (by decide +kernel)
theorem kw_673 : (.instanceMethod yX7_leastTension : Cond) ∈ tblG := tblG_of (by decide +kernel) (by decide +kernel)
theorem kw_674 : (.selects RX7 yX7_leastTension yX7_leastTension : Cond) ∈ tblG := tblG_of (by decide +kernel) (by decide +kernel)
theorem kw_675 : (.methodLink RL 94 yX6_trip : Cond) ∈ tblG := tblG_of (by decide +kernel) (by decide +kernel)
theorem kw_676 : (.instanceMethod yX6_trip : Cond) ∈ tblG := tblG_of (by decide +kernel) (by decide +kernel)
theorem kw_677 : (.selects RX6 yX6_trip yX6_trip : Cond) ∈ tblG := tblG_of (by decide +kernel) (by decide +kernel)
theorem kw_678 : (.methodLink RL 97 yX7_trip : Cond) ∈ tblG := tblG_of (by decide +kernel) (by decide +kernel)
theorem kw_679 : (.instanceMethod yX7_trip : Cond) ∈ tblG := tblG_of (by decide +kernel) (by decide +kernel)
theorem kw_680 : (.selects RX7 yX7_trip yX7_trip : Cond) ∈ tblG := tblG_of (by decide +kernel) (by decide +kernel)
theorem kw_681 : (.methodLink RL 98 yX6_count : Cond) ∈ tblG := tblG_of (by decide +kernel) (by decide +kernel)
theorem kw_682 : (.instanceMethod yX6_count : Cond) ∈ tblG := tblG_of (by decide +kernel) (by decide +kernel)
theorem kw_683 : (.selects RX6 yX6_count yX6_count : Cond) ∈ tblG := tblG_of (by decide +kernel) (by decide +kernel)
theorem kw_684 : (.methodLink RL 101 yX7_count : Cond) ∈ tblG := tblG_of (by decide +kernel) (by decide +kernel)
theorem kw_685 : (.instanceMethod yX7_count : Cond) ∈ tblG := tblG_of (by decide +kernel) (by decide +kernel)
theorem kw_686 : (.selects RX7 yX7_count yX7_count : Cond) ∈ tblG := tblG_of (by decide +kernel) (by decide +kernel)
theorem kin_0 : ∀ w ∈ u_ws RX0 TX0 2, w ∈ tblG := by
  have h : ∀ w ∈ u_ws RX0 TX0 2, w ∈ lw_tbl ∧ goodWord w = true := by decide +kernel
  exact fun w hw => tblG_of (h w hw).1 (h w hw).2
theorem kin_1 : ∀ w ∈ u_ws RX1 TX1 6, w ∈ tblG := by
  have h : ∀ w ∈ u_ws RX1 TX1 6, w ∈ lw_tbl ∧ goodWord w = true := by decide +kernel
  exact fun w hw => tblG_of (h w hw).1 (h w hw).2
theorem kin_2 : ∀ w ∈ u_ws RX2 TX2 3, w ∈ tblG := by
  have h : ∀ w ∈ u_ws RX2 TX2 3, w ∈ lw_tbl ∧ goodWord w = true := by decide +kernel
  exact fun w hw => tblG_of (h w hw).1 (h w hw).2
theorem kin_3 : ∀ w ∈ u_ws RX3 TX3 13, w ∈ tblG := by
  have h : ∀ w ∈ u_ws RX3 TX3 13, w ∈ lw_tbl ∧ goodWord w = true := by decide +kernel
  exact fun w hw => tblG_of (h w hw).1 (h w hw).2
theorem kin_4 : ∀ w ∈ u_ws RX4 TX4 6, w ∈ tblG := by
  have h : ∀ w ∈ u_ws RX4 TX4 6, w ∈ lw_tbl ∧ goodWord w = true := by decide +kernel
  exact fun w hw => tblG_of (h w hw).1 (h w hw).2
theorem kin_5 : ∀ w ∈ u_ws RX5 TX5 4, w ∈ tblG := by
  have h : ∀ w ∈ u_ws RX5 TX5 4, w ∈ lw_tbl ∧ goodWord w = true := by decide +kernel
  exact fun w hw => tblG_of (h w hw).1 (h w hw).2
theorem kin_6 : ∀ w ∈ u_ws RX6 TX6 9, w ∈ tblG := by
  have h : ∀ w ∈ u_ws RX6 TX6 9, w ∈ lw_tbl ∧ goodWord w = true := by decide +kernel
  exact fun w hw => tblG_of (h w hw).1 (h w hw).2
theorem kin_7 : ∀ w ∈ u_ws RX7 TX7 15, w ∈ tblG := by
  have h : ∀ w ∈ u_ws RX7 TX7 15, w ∈ lw_tbl ∧ goodWord w = true := by decide +kernel
  exact fun w hw => tblG_of (h w hw).1 (h w hw).2
end
section
/-! ===== my own layer over the kit: one world per method, contracts that leave the rest of the world (the tail Y) alone ===== -/
/-- the launch's own numbers: class ids and slots, the first address that is ours, the statics' arrays, the array classes (int, char, Leg) -/
abbrev Gp : Type := va_G × Nat × (Nat → Nat) × (Nat → ClassId)
def gA (G : Gp) : Nat → Prop := fun q => G.2.1 ≤ q
abbrev gTys (G : Gp) : List (ClassId × FieldType) := [(G.2.2.2 0, .int), (G.2.2.2 1, .char), (G.2.2.2 2, .object "GrainLeg$Leg")]
def isNst : Cond → Bool
  | .fieldLinkNest .. => true
  | .methodLinkNest .. => true
  | .castable .. => true
  | _ => false
def tblN : List Cond := lw_tbl.filter isNst
theorem tblN_of {w : Cond} (h : w ∈ lw_tbl) (h2 : isNst w = true) : w ∈ tblN := List.mem_filter.mpr ⟨h, h2⟩
theorem nst_on {w : Cond} (h : isNst w = true) : w.onTables = true := by
  cases w <;> first | rfl | exact absurd h (by simp [isNst])
theorem nst_warm {w : Cond} {s U : State} (h : isNst w = true) (hW : s.WarmedH U.vm) (hZ : va_Nw w s) : va_Nw w U := by
  cases w <;> first | exact va_Nw.warmF hW hZ | exact va_Nw.warmM hW hZ | exact va_Nw.warmC hW hZ | exact absurd h (by simp [isNst])
/-- what the tables say of our classes, at any state -/
def Knd (G : Gp) (U : State) : Prop := va_K G.1 vwCl (gTys G) U ∧ (∀ w ∈ tblN, va_Nw w U) ∧ va_AO "GrainLeg$Leg" U ∧ U.vm.findClass "[I" = some (G.2.2.2 0)
theorem Knd.warm {G : Gp} {s U : State} (h : Knd G s) (hW : s.WarmedH U.vm) : Knd G U :=
  ⟨va_K.moved hW.alike h.1, fun w hw => nst_warm (List.mem_filter.mp hw).2 hW (h.2.1 w hw), va_AO.moved hW.alike h.2.2.1, by rw [hW.alike.findClass]; exact h.2.2.2⟩
theorem Knd.same {G : Gp} {s U : State} (h : Knd G s) (hv : s.vm = U.vm) : Knd G U :=
  ⟨va_K.moved (by rw [hv]; exact Vm.Alike.refl _) h.1, fun w hw => va_Nw.same (nst_on (List.mem_filter.mp hw).2) hv (h.2.1 w hw), va_AO.moved (by rw [hv]; exact Vm.Alike.refl _) h.2.2.1, by rw [← hv]; exact h.2.2.2⟩
/-- a static that holds an int array, and the array -/
def Tbl (G : Gp) (U : State) (H : Heap) (t n : Nat) (f : Nat → Int32) : Prop := ∃ cell : Cell, H[t]? = some cell ∧ U.isArrayOf cell .int ∧ cell.vm ≠ .unknown ∧ cell.vm.isStatics = false ∧ cell.cls = G.2.2.2 0 ∧ cell.slots.size = n ∧ (∀ j : Nat, j < n → cell.slots[j]? = some (.int (f j))) ∧ ¬ gA G t
def St1 (G : Gp) (U : State) (H : Heap) (k : Nat) (nm : String) (n : Nat) (f : Nat → Int32) : Prop := va_Z RX6 nm "[I" (.ref (G.2.2.1 k)) (gA G) U H ∧ Tbl G U H (G.2.2.1 k) n f
def tFirst : Nat → Int32 := fun j => match j with | 0 => 3 | 1 => 60 | 2 => 6 | 3 => 8 | _ => 0
def tLeast : Nat → Int32 := fun j => match j with | 0 => 0 | 1 => 0 | 2 => 0 | 3 => 1 | _ => -9
def tMost : Nat → Int32 := fun j => match j with | 0 => 6 | 1 => 200 | 2 => 40 | 3 => 20 | _ => 9
def tToo : Nat → Int32 := fun j => match j with | 0 => 21 | 1 => 250 | _ => 100
def tWaits : Nat → Int32 := fun j => match j with | 0 => 3 | 1 => 2 | _ => 1
def Stt (G : Gp) (U : State) (H : Heap) : Prop := St1 G U H 0 "FIRST" 5 tFirst ∧ St1 G U H 1 "LEAST" 5 tLeast ∧ St1 G U H 2 "MOST" 5 tMost ∧ St1 G U H 3 "TOO_MUCH" 3 tToo ∧ St1 G U H 4 "WAITS" 3 tWaits
theorem St1.go {G : Gp} {u U : State} {H H1 : Heap} {k n : Nat} {nm : String} {f : Nat → Int32} (h : St1 G u H k nm n f) (hvm : u.vm.Alike U.vm) (hq : ∀ a : Nat, a < H.size → ¬ gA G a → H1[a]? = H[a]?) : St1 G U H1 k nm n f := by
  obtain ⟨hZ, cell, h1, h2, h3, h4, h5, h6, h7, h8⟩ := h
  exact ⟨va_Z.kept (va_Z.moved hvm hZ) hq, cell, by rw [hq _ (Array.getElem?_eq_some_iff.mp h1).1 h8]; exact h1, State.isArrayOf_alike hvm h2, h3, h4, h5, h6, h7, h8⟩
theorem Stt.go {G : Gp} {u U : State} {H H1 : Heap} (h : Stt G u H) (hvm : u.vm.Alike U.vm) (hq : ∀ a : Nat, a < H.size → ¬ gA G a → H1[a]? = H[a]?) : Stt G U H1 :=
  ⟨h.1.go hvm hq, h.2.1.go hvm hq, h.2.2.1.go hvm hq, h.2.2.2.1.go hvm hq, h.2.2.2.2.go hvm hq⟩
/-- the world inside a method that began at s -/
def Wd (G : Gp) (s : State) (w : va_W) (H : Heap) (locs : List Loc) : Prop := va_P G.1 vwCl w H ∧ va_D (gA G) w ∧ va_S (gA G) s.heap H locs
/-- a method's start -/
def Pre0 (G : Gp) (w : va_W) (U : State) : Prop := Knd G U ∧ Stt G U U.heap ∧ va_P G.1 vwCl w U.heap ∧ va_D (gA G) w ∧ G.2.1 ≤ U.heap.size
def rmd (d mc ms : Nat) : Room := { frames := d, cells := mc, slots := ms, locals := 26 * d }
def QE (G : Gp) (Q : Option Value → va_W → Prop) : Array Value → State → Outcome → State → Prop := fun _ st o t => (∃ (v : Option Value) (w1 : va_W), o = .returned v ∧ Q v w1 ∧ va_P G.1 vwCl w1 t.heap ∧ va_D (gA G) w1) ∧ va_F (gA G) st t
/-- a contract: from the world w, with the arguments as, the method returns v with the world w1, where Q v w1 -/
def CnE (l : Launch) (G : Gp) (y : MethodName) (cc : ByteArray) (nL : Nat) (ret : Option FieldType) (d mc ms : Nat) (as : List Value) (w : va_W) (Q : Option Value → va_W → Prop) : Prop :=
  Met l y (.code y cc nL ret :: tblG) (rmd d mc ms) (va_Pc as (Pre0 G w)) (QE G Q) mc ms (gA G)
def Cn (l : Launch) (G : Gp) (y : MethodName) (cc : ByteArray) (nL : Nat) (ret : Option FieldType) (d : Nat) (as : List Value) (w : va_W) (v : Option Value) (w1 : va_W) : Prop :=
  CnE l G y cc nL ret d 0 0 as w (fun v' w' => v' = v ∧ w' = w1)
/-- what a method's walk stands on -/
def Mx (G : Gp) (p : Program) (s : State) (m : MethodId) (args : Array Value) (meth : Method) (c : Code) (cc : ByteArray) (nL : Nat) (ret : Option FieldType) (own : String) : Prop :=
  p.tables.exec = Jvm.exec ∧ c.code = cc ∧ meth.sig.returnType = ret ∧ c.maxLocals = nL ∧ s.vm.findClass own = some m.cls ∧ (∀ w ∈ tblG, w.before args s = true) ∧ meth.locks = false ∧ Knd G s ∧ Stt G s s.heap ∧ G.2.1 ≤ s.heap.size
theorem Pre0.blind {G : Gp} {w : va_W} {as : List Value} : FrameBlind (va_Pc as (Pre0 G w)) := by
  intro a U g mk q
  obtain ⟨h1, h2, h3, h4, h5, h6⟩ := q
  exact ⟨h1, Knd.same h2 rfl, Stt.go (U := U.calling g mk a) h3 (Vm.Alike.refl U.vm) (fun _ _ _ => rfl), h4, h5, h6⟩
theorem Pre0.at {G : Gp} {p : Program} {s : State} {m : MethodId} {args : Array Value} {meth : Method} {c : Code} {cc : ByteArray} {nL : Nat} {ret : Option FieldType} {own : String} (M : Mx G p s m args meth c cc nL ret own) {w : va_W} {H : Heap} {locs : List Loc} (hW : Wd G s w H locs) {U : State} (hU : U.heap = H) (hv : s.WarmedH U.vm) : Pre0 G w U := by
  obtain ⟨-, -, -, -, -, -, -, hK, hS, hB⟩ := M
  refine ⟨hK.warm hv, hS.go hv.alike (fun a h1 h2 => by rw [hU]; exact hW.2.2.2.1 a h1 h2), by rw [hU]; exact hW.1, hW.2.1, by rw [hU]; exact Nat.le_trans hB hW.2.2.1⟩
theorem CnE.of {l : Launch} {G : Gp} {y : MethodName} {cc : ByteArray} {nL : Nat} {ret : Option FieldType} {d mc ms : Nat} {as : List Value} {w : va_W} {Q : Option Value → va_W → Prop} (hy : plainName y.cls = true) (hl : (lg_sl as).length ≤ nL)
    (body : ∀ (p : Program) (e : Env) (s : State) (m : MethodId) (below : List Frame) (meth : Method) (c : Code) (ls : Array Slot), Mx G p s m as.toArray meth c cc nL ret y.cls → meth.name = y.name → lv_has ls nL (lv_args 0 as) → Wd G s w s.heap [] →
      W p l e (rmd d mc ms) s m as.toArray below meth c s.heap [] 0 0 (MQ below (QE G Q) as.toArray s mc ms (gA G)) (F0 m 0 ls [])) : CnE l G y cc nL ret d mc ms as w Q := by
  refine Met.ofW (cc := cc) (maxL := nL) (ret := ret) hy rfl ?_
  intro p e s m args below meth c s₁ B hml hv
  obtain ⟨rfl, hK, hS, hP, hD, hB⟩ := hv
  have hts := atoms_spec (ws := .code y cc nL ret :: tblG) B.pre
  rw [lg_entry_eq]
  exact body p e s m below meth c _ ⟨B.exec, B.bytes, B.returns, hml, findClass_of_methodNamed B.named, fun w hw => hts w (List.mem_cons_of_mem _ hw), B.notSynchronized, hK, hS, hB⟩ (name_of_methodNamed B.named B.method).1 (lv_entry as hl) ⟨hP, hD, va_S.rf⟩
section MYR
variable {p : Program} {l : Launch} {e : Env} {R : Room} {s : State} {m : MethodId} {args : Array Value} {below : List Frame} {meth : Method} {c : Code} {H : Heap} {locs : List Loc} {cells slots : Nat} {Q : State → Prop}
variable {G : Gp} {cc : ByteArray} {nL : Nat} {ret : Option FieldType} {own : String} {pc : Nat} {ls : Array Slot} {rest : List Value} {w : va_W} {a : Nat}
theorem r_reti {Qc : Option Value → va_W → Prop} {mc ms : Nat} {x : Int32} {w1 : va_W} (M : Mx G p s m args meth c cc nL (some .int) own) (hW : Wd G s w H locs) (hw : w = w1) (hQ : Qc (some (.int x)) w1) (hc : cells ≤ mc) (hs : slots ≤ ms) (hd : decode cc pc = .ok (.ireturn, 1)) :
    W p l e R s m args below meth c H locs cells slots (MQ below (QE G Qc) args s mc ms (gA G)) (F0 m pc ls [.int x]) := by
  subst hw
  exact W.widen hc hs (W.iret M.1 M.2.1 M.2.2.1 (fun t ht hv => ⟨⟨_, w, rfl, hQ, by rw [ht]; exact hW.1, hW.2.1⟩, hW.2.2.F ht⟩) hW.2.2.2.2 hd (hlocks := M.2.2.2.2.2.2.1))
theorem r_retz {Qc : Option Value → va_W → Prop} {mc ms : Nat} {x : Int32} {w1 : va_W} {ty : FieldType} (M : Mx G p s m args meth c cc nL (some ty) own) (hn : narrow ty (.int x) = .int x) (hW : Wd G s w H locs) (hw : w = w1) (hQ : Qc (some (.int x)) w1) (hc : cells ≤ mc) (hs : slots ≤ ms) (hd : decode cc pc = .ok (.ireturn, 1)) :
    W p l e R s m args below meth c H locs cells slots (MQ below (QE G Qc) args s mc ms (gA G)) (F0 m pc ls [.int x]) := by
  subst hw
  exact W.widen hc hs (W.zret M.1 M.2.1 M.2.2.1 hn (fun t ht hv => ⟨⟨_, w, rfl, hQ, by rw [ht]; exact hW.1, hW.2.1⟩, hW.2.2.F ht⟩) hW.2.2.2.2 hd (hlocks := M.2.2.2.2.2.2.1))
theorem r_retv {Qc : Option Value → va_W → Prop} {mc ms : Nat} {w1 : va_W} (M : Mx G p s m args meth c cc nL none own) (hW : Wd G s w H locs) (hw : w = w1) (hQ : Qc none w1) (hc : cells ≤ mc) (hs : slots ≤ ms) (hd : decode cc pc = .ok (.return_, 1)) :
    W p l e R s m args below meth c H locs cells slots (MQ below (QE G Qc) args s mc ms (gA G)) (F0 m pc ls []) := by
  subst hw
  exact W.widen hc hs (W.vret M.1 M.2.1 M.2.2.1 (fun t ht hv => ⟨⟨_, w, rfl, hQ, by rw [ht]; exact hW.1, hW.2.1⟩, hW.2.2.F ht⟩) hW.2.2.2.2 hd (hlocks := M.2.2.2.2.2.2.1))
/-- a name for the number on top, or another form of it -/
theorem r_top {x y : Int32} (h : x = y) (k : W p l e R s m args below meth c H locs cells slots Q (F0 m pc ls (.int y :: rest))) : W p l e R s m args below meth c H locs cells slots Q (F0 m pc ls (.int x :: rest)) := h ▸ k
theorem r_top2 {x y : Int32} {v : Value} (h : x = y) (k : W p l e R s m args below meth c H locs cells slots Q (F0 m pc ls (v :: .int y :: rest))) : W p l e R s m args below meth c H locs cells slots Q (F0 m pc ls (v :: .int x :: rest)) := h ▸ k
/-- where two ways meet, or a loop begins -/
theorem r_cut {σ : Type} {g : JFrame} (I : σ → Heap → List Loc → Prop) (f : σ → JFrame) (k : ∀ u H1 l1, I u H1 l1 → W p l e R s m args below meth c H1 l1 cells slots Q (f u)) (h : (∀ u H1 l1, I u H1 l1 → W p l e R s m args below meth c H1 l1 cells slots Q (f u)) → W p l e R s m args below meth c H locs cells slots Q g) : W p l e R s m args below meth c H locs cells slots Q g := h k
/-- two ways meet with one number more on the stack -/
theorem r_cuti {pc2 : Nat} {ls2 : Array Slot} {st : List Value} {g : JFrame} (v : Int32) (k : ∀ x, x = v → W p l e R s m args below meth c H locs cells slots Q (F0 m pc2 ls2 (.int x :: st))) (h : (∀ x, x = v → W p l e R s m args below meth c H locs cells slots Q (F0 m pc2 ls2 (.int x :: st))) → W p l e R s m args below meth c H locs cells slots Q g) : W p l e R s m args below meth c H locs cells slots Q g := h k
theorem r_loop {σ : Type} (I : Nat → σ → Heap → List Loc → Prop) (f : σ → JFrame) (h0 : ∀ u H1 l1, I 0 u H1 l1 → W p l e R s m args below meth c H1 l1 cells slots Q (f u))
    (hs : ∀ n, (∀ u H1 l1, I n u H1 l1 → W p l e R s m args below meth c H1 l1 cells slots Q (f u)) → ∀ u H1 l1, I (n + 1) u H1 l1 → W p l e R s m args below meth c H1 l1 cells slots Q (f u)) : ∀ n u H1 l1, I n u H1 l1 → W p l e R s m args below meth c H1 l1 cells slots Q (f u) := by
  intro n
  induction n with
  | zero => exact h0
  | succ n ih => exact hs n ih
theorem r_get (M : Mx G p s m args meth c cc nL ret own) (hW : Wd G s w H locs) (q0 : Nat) {ci N k index : Nat} {C : String} {T : u_T} {fs : List Value} {v : Value} (he : w[q0]? = some (a, .inr (ci, fs))) (hc : vwCl[ci]? = some (C, T, N)) (hin : ∀ x ∈ u_ws C T N, x ∈ tblG) (hk : k < N) (hl : Cond.fieldLink own index (T k).1 (T k).2.1 (T k).2.2.1 ∈ tblG) (hv : fs[k]? = some v) (hd : decode cc pc = .ok (.getfield index, 3))
    (kk : W p l e R s m args below meth c H locs cells slots Q (F0 m (pc + 3) ls (v :: rest))) : W p l e R s m args below meth c H locs cells slots Q (F0 m pc ls (.ref a :: rest)) :=
  va_get M.1 M.2.1 M.2.2.2.2.2.1 hin M.2.2.2.2.1 M.2.2.2.2.2.2.2.1.1 hW.1 q0 he hc k hk (M.2.2.2.2.2.1 _ hl) (fun _ h9 => h9) hv hd kk
theorem r_put (M : Mx G p s m args meth c cc nL ret own) (hW : Wd G s w H locs) (q0 : Nat) {ci N k index : Nat} {C : String} {T : u_T} {ty0 : Nat → FieldType} {fs : List Value} {v : Value} {ty : FieldType} (he : w[q0]? = some (a, .inr (ci, fs))) (hc : vwCl[ci]? = some (C, T, N)) (hin : ∀ x ∈ u_ws C T N, x ∈ tblG) (hty : ∀ k, k < N → parseFieldDescriptor (T k).2.2.1 = some (ty0 k)) (hnm : ∀ a, a < N → ∀ b, b < N → a ≠ b → (T a).2.1 ≠ (T b).2.1) (hk : k < N) (hl : Cond.fieldLink own index (T k).1 (T k).2.1 (T k).2.2.1 ∈ tblG) (hfin : (T k).2.2.2 = false) (hpd : parseFieldDescriptor (T k).2.2.1 = some ty) (hn : narrow ty v = v) (hf : fits ty v = true) (hlen : k < fs.length) (w1 : va_W) (h1 : w.set q0 (a, .inr (ci, fs.set k v)) = w1) (hd : decode cc pc = .ok (.putfield index, 3))
    (kk : ∀ (H1 : Heap) (locs1 : List Loc), Wd G s w1 H1 locs1 → W p l e R s m args below meth c H1 locs1 cells slots Q (F0 m (pc + 3) ls rest)) : W p l e R s m args below meth c H locs cells slots Q (F0 m pc ls (v :: .ref a :: rest)) := by
  subst h1
  exact va_put M.1 M.2.1 M.2.2.2.2.2.1 hin ty0 hty hnm M.2.2.2.2.1 M.2.2.2.2.2.2.2.1.1 hW.1 hW.2.1 hW.2.2 q0 he hc k hk (M.2.2.2.2.2.1 _ hl) (fun _ h9 => h9) hfin hpd hn hf hlen hd (fun H1 l1 a1 a2 a3 => kk H1 l1 ⟨a1, a2, a3⟩)
theorem r_putF (M : Mx G p s m args meth c cc nL ret own) (hin2 : meth.name = "<init>") (hW : Wd G s w H locs) (q0 : Nat) {ci N k index : Nat} {C : String} {T : u_T} {ty0 : Nat → FieldType} {fs : List Value} {v : Value} {ty : FieldType} (he : w[q0]? = some (a, .inr (ci, fs))) (hc : vwCl[ci]? = some (C, T, N)) (hin : ∀ x ∈ u_ws C T N, x ∈ tblG) (hty : ∀ k, k < N → parseFieldDescriptor (T k).2.2.1 = some (ty0 k)) (hnm : ∀ a, a < N → ∀ b, b < N → a ≠ b → (T a).2.1 ≠ (T b).2.1) (hk : k < N) (hl : Cond.fieldLink own index (T k).1 (T k).2.1 (T k).2.2.1 ∈ tblG) (hfin : (T k).2.2.2 = true) (hdecl : (T k).1 = own) (hpd : parseFieldDescriptor (T k).2.2.1 = some ty) (hn : narrow ty v = v) (hf : fits ty v = true) (hlen : k < fs.length) (w1 : va_W) (h1 : w.set q0 (a, .inr (ci, fs.set k v)) = w1) (hd : decode cc pc = .ok (.putfield index, 3))
    (kk : ∀ (H1 : Heap) (locs1 : List Loc), Wd G s w1 H1 locs1 → W p l e R s m args below meth c H1 locs1 cells slots Q (F0 m (pc + 3) ls rest)) : W p l e R s m args below meth c H locs cells slots Q (F0 m pc ls (v :: .ref a :: rest)) := by
  subst h1
  exact va_putF M.1 M.2.1 M.2.2.2.2.2.1 hin ty0 hty hnm M.2.2.2.2.1 M.2.2.2.2.2.2.2.1.1 hW.1 hW.2.1 hW.2.2 q0 he hc k hk (M.2.2.2.2.2.1 _ hl) (fun _ h9 => h9) hfin hin2 hdecl hpd hn hf hlen hd (fun H1 l1 a1 a2 a3 => kk H1 l1 ⟨a1, a2, a3⟩)
theorem r_iald (M : Mx G p s m args meth c cc nL ret own) (hW : Wd G s w H locs) (q0 : Nat) {n : Nat} {f : Nat → Int32} (he : w[q0]? = some (a, .inl (G.2.2.2 0, n, .inl f))) {i : Int32} (k : Nat) (hi : i = nI k) (hk : k < n) (hn : n < 2 ^ 31) {x : Int32} (hx : f k = x) (hd : decode cc pc = .ok (.iaload, 1))
    (kk : W p l e R s m args below meth c H locs cells slots Q (F0 m (pc + 1) ls (.int x :: rest))) : W p l e R s m args below meth c H locs cells slots Q (F0 m pc ls (.int i :: .ref a :: rest)) := by
  subst hi
  subst hx
  refine va_iald M.1 M.2.1 M.2.2.2.2.2.2.2.1.1 hW.1 q0 0 he rfl (vp_in_nI hk hn) hd ?_
  rw [nI_clamp (Nat.lt_trans hk hn)]
  exact kk
theorem r_cald (M : Mx G p s m args meth c cc nL ret own) (hW : Wd G s w H locs) (q0 : Nat) {n : Nat} {f : Nat → Int32} (he : w[q0]? = some (a, .inl (G.2.2.2 1, n, .inl f))) {i : Int32} (k : Nat) (hi : i = nI k) (hk : k < n) (hn : n < 2 ^ 31) {x : Int32} (hx : f k = x) (hd : decode cc pc = .ok (.caload, 1))
    (kk : W p l e R s m args below meth c H locs cells slots Q (F0 m (pc + 1) ls (.int x :: rest))) : W p l e R s m args below meth c H locs cells slots Q (F0 m pc ls (.int i :: .ref a :: rest)) := by
  subst hi
  subst hx
  refine va_cald M.1 M.2.1 M.2.2.2.2.2.2.2.1.1 hW.1 q0 1 he rfl (vp_in_nI hk hn) hd ?_
  rw [nI_clamp (Nat.lt_trans hk hn)]
  exact kk
theorem r_iast (M : Mx G p s m args meth c cc nL ret own) (hW : Wd G s w H locs) (q0 : Nat) {n : Nat} {f : Nat → Int32} (he : w[q0]? = some (a, .inl (G.2.2.2 0, n, .inl f))) {i x : Int32} (k : Nat) (hi : i = nI k) (hk : k < n) (hn : n < 2 ^ 31) (w1 : va_W) (h1 : w.set q0 (a, .inl (G.2.2.2 0, n, .inl (upd f k x))) = w1) (hd : decode cc pc = .ok (.iastore, 1))
    (kk : ∀ (H1 : Heap) (locs1 : List Loc), Wd G s w1 H1 locs1 → W p l e R s m args below meth c H1 locs1 cells slots Q (F0 m (pc + 1) ls rest)) : W p l e R s m args below meth c H locs cells slots Q (F0 m pc ls (.int x :: .int i :: .ref a :: rest)) := by
  subst hi
  subst h1
  refine va_iast M.1 M.2.1 M.2.2.2.2.2.2.2.1.1 hW.1 hW.2.1 hW.2.2 q0 0 he rfl (vp_in_nI hk hn) hd (fun H1 l1 a1 a2 a3 => ?_)
  rw [nI_clamp (Nat.lt_trans hk hn)] at a1 a2
  exact kk H1 l1 ⟨a1, a2, a3⟩
theorem r_cast (M : Mx G p s m args meth c cc nL ret own) (hW : Wd G s w H locs) (q0 : Nat) {n : Nat} {f : Nat → Int32} (he : w[q0]? = some (a, .inl (G.2.2.2 1, n, .inl f))) {i x : Int32} (k : Nat) (hi : i = nI k) (hk : k < n) (hn : n < 2 ^ 31) (hx : vp_nar .char x = x) (w1 : va_W) (h1 : w.set q0 (a, .inl (G.2.2.2 1, n, .inl (upd f k x))) = w1) (hd : decode cc pc = .ok (.castore, 1))
    (kk : ∀ (H1 : Heap) (locs1 : List Loc), Wd G s w1 H1 locs1 → W p l e R s m args below meth c H1 locs1 cells slots Q (F0 m (pc + 1) ls rest)) : W p l e R s m args below meth c H locs cells slots Q (F0 m pc ls (.int x :: .int i :: .ref a :: rest)) := by
  subst hi
  subst h1
  refine va_cast M.1 M.2.1 M.2.2.2.2.2.2.2.1.1 hW.1 hW.2.1 hW.2.2 q0 1 he rfl (vp_in_nI hk hn) hd (fun H1 l1 a1 a2 a3 => ?_)
  rw [nI_clamp (Nat.lt_trans hk hn), hx] at a1 a2
  exact kk H1 l1 ⟨a1, a2, a3⟩
/-- a static array of ours: its reference, by a link of the class itself, or of a nest mate -/
theorem r_gets (M : Mx G p s m args meth c cc nL ret own) (hW : Wd G s w H locs) {k n index : Nat} {nm : String} {f : Nat → Int32} (hT : St1 G s s.heap k nm n f) (hl : Cond.fieldLink own index RX6 nm "[I" ∈ tblG) (hd : decode cc pc = .ok (.getstatic index, 3))
    (kk : W p l e R s m args below meth c H locs cells slots Q (F0 m (pc + 3) ls (.ref (G.2.2.1 k) :: rest))) : W p l e R s m args below meth c H locs cells slots Q (F0 m pc ls rest) :=
  va_gets M.1 M.2.1 hT.1 hW.2.2 M.2.2.2.2.1 (M.2.2.2.2.2.1 _ hl) (fun _ h9 => h9) hd kk
theorem r_getsN (M : Mx G p s m args meth c cc nL ret own) (hW : Wd G s w H locs) {k n index : Nat} {nm : String} {f : Nat → Int32} (hT : St1 G s s.heap k nm n f) (hl : Cond.fieldLinkNest own index RX6 nm "[I" RX6 ∈ tblN) (hd : decode cc pc = .ok (.getstatic index, 3))
    (kk : W p l e R s m args below meth c H locs cells slots Q (F0 m (pc + 3) ls (.ref (G.2.2.1 k) :: rest))) : W p l e R s m args below meth c H locs cells slots Q (F0 m pc ls rest) :=
  va_getsN M.1 M.2.1 hT.1 hW.2.2 M.2.2.2.2.1 (va_Nw.use rfl (M.2.2.2.2.2.2.2.1.2.1 _ hl)) (fun _ h9 => h9) hd kk
theorem r_tald (M : Mx G p s m args meth c cc nL ret own) (hW : Wd G s w H locs) {k n : Nat} {nm : String} {f : Nat → Int32} (hT : St1 G s s.heap k nm n f) {i : Int32} (j : Nat) (hi : i = nI j) (hj : j < n) (hn : n < 2 ^ 31) {x : Int32} (hx : f j = x) (hd : decode cc pc = .ok (.iaload, 1))
    (kk : W p l e R s m args below meth c H locs cells slots Q (F0 m (pc + 1) ls (.int x :: rest))) : W p l e R s m args below meth c H locs cells slots Q (F0 m pc ls (.int i :: .ref (G.2.2.1 k) :: rest)) := by
  subst hi
  subst hx
  obtain ⟨-, cell, h1, h2, h3, h4, h5, h6, h7, h8⟩ := hT
  refine W.iald (v := .int (f j)) M.1 M.2.1 (by rw [hW.2.2.2.1 _ (Array.getElem?_eq_some_iff.mp h1).1 h8]; exact h1) h2 h3 (by rw [h6]; exact vp_in_nI hj hn) (by rw [nI_clamp (Nat.lt_trans hj hn)]; exact h7 j hj) rfl rfl hd kk
end MYR
end
section
/-! ===== calls, Math, arraycopy, fresh cells ===== -/
theorem goodAll {ws : List Cond} (h : ∀ w ∈ ws, w ∈ tblG) : GoodIn tblG ws := fun w hw => ⟨h w hw, tblG_ok (h w hw)⟩
theorem code_tbl {w0 : Cond} (h : w0 ∈ tblG) : ∀ w ∈ (w0 :: tblG), w ∈ tblG := fun w hw => (List.mem_cons.mp hw).elim (fun e => e ▸ h) id
def plainY (y : MethodName) (n : Nat) : Prop := y.cls ≠ "java/lang/invoke/MethodHandle" ∧ y.cls ≠ "java/lang/invoke/VarHandle" ∧ (parseMethodDescriptor y.desc).map (fun d => d.parameters.length) = some n
section MYC
variable {p : Program} {l : Launch} {e : Env} {R : Room} {s : State} {m : MethodId} {args : Array Value} {below : List Frame} {meth : Method} {c : Code} {H : Heap} {locs : List Loc} {cells slots : Nat} {Q : State → Prop}
variable {G : Gp} {cc : ByteArray} {nL : Nat} {ret : Option FieldType} {own : String} {pc : Nat} {ls : Array Slot} {rest : List Value} {w : va_W} {a : Nat}
theorem r_back {Qy : Option Value → va_W → Prop} {mc ms : Nat} {st : List Value} {as : Array Value} (hr : va_Run p l e R s m args below meth c H locs cells slots mc ms (F0 m pc ls st) rest (QE G Qy as) (gA G)) (hW : Wd G s w H locs)
    (kk : ∀ (v : Option Value) (w1 : va_W) (H1 : Heap) (locs1 : List Loc), Qy v w1 → Wd G s w1 H1 locs1 → W p l e R s m args below meth c H1 locs1 (cells + mc) (slots + ms) Q (F0 m (pc + 3) ls (v.toList ++ rest))) : W p l e R s m args below meth c H locs cells slots Q (F0 m pc ls st) := by
  have hS := hW.2.2
  intro T hT X
  obtain ⟨v, st₀, t, T', L, h0, X', hL, e1, e2, ⟨⟨v', w1, hv, hp, hb1, hb2⟩, hz, hk⟩, stp⟩ := hr T hT X
  cases hv
  rw [h0] at hz hk
  obtain ⟨t2, a1, b1⟩ := kk v w1 T'.heap (locs ++ L) hp ⟨by rw [e1]; exact hb1, hb2, Nat.le_trans hS.1 (by rw [e1]; exact hz), fun q h1 h2 => by rw [e1, hk q (Nat.lt_of_lt_of_le h1 hS.1) h2]; exact hS.2.1 q h1 h2, fun q hq => by
      rcases List.mem_append.mp hq with h | h
      · exact hS.2.2 q h
      · exact hL q h⟩ T' rfl X'
  exact ⟨t2, stp t2 a1, b1⟩
theorem r_callVE (M : Mx G p s m args meth c cc nL ret own) (hW : Wd G s w H locs) {y : MethodName} {cc' : ByteArray} {nL' d' mc' ms' index b : Nat} {ret' : Option FieldType} {as st : List Value} {w0 : va_W} {Qy : Option Value → va_W → Prop} (hC : CnE l G y cc' nL' ret' d' mc' ms' (.ref b :: as) w0 Qy) (hw : w = w0)
    (h1 : Cond.methodLink own index y ∈ tblG) (h2 : Cond.instanceMethod y ∈ tblG) (h3 : Cond.selects y.cls y y ∈ tblG) (h4 : Cond.initialized y.cls ∈ tblG) (h5 : Cond.code y cc' nL' ret' ∈ tblG) (hno : plainY y as.length) (q0 : Nat) {ci N : Nat} {T : u_T} {fs : List Value} (he : w[q0]? = some (b, .inr (ci, fs))) (hc : vwCl[ci]? = some (y.cls, T, N))
    (hR : d' + 1 ≤ R.frames ∧ 8 + (nL' + 11) + 26 * d' ≤ R.locals) (hf : cells + mc' ≤ R.cells ∧ slots + ms' ≤ R.slots) (hls : ls.size = nL) (hst : st = as.reverse ++ .ref b :: rest) (hcat : (rest.map fun v => v.category).sum ≤ 8) (hd : decode cc pc = .ok (.invokevirtual index, 3))
    (kk : ∀ (v : Option Value) (w1 : va_W) (H1 : Heap) (locs1 : List Loc), Qy v w1 → Wd G s w1 H1 locs1 → W p l e R s m args below meth c H1 locs1 (cells + mc') (slots + ms') Q (F0 m (pc + 3) ls (v.toList ++ rest))) : W p l e R s m args below meth c H locs cells slots Q (F0 m pc ls st) := by
  subst hw
  have hG : GoodIn tblG (wsV own index y.cls y (.code y cc' nL' ret' :: tblG)) := goodAll (fun x hx => by
    rcases List.mem_append.mp hx with h | h
    · simp only [List.mem_cons, List.not_mem_nil, or_false] at h
      rcases h with rfl | rfl | rfl | rfl <;> assumption
    · exact code_tbl h5 x h)
  exact r_back (va_runV (As := as) (rest := rest) ⟨M.1, M.2.1, M.2.2.2.1, M.2.2.2.2.1, M.2.2.2.2.2.1⟩ hC (cwV as.length M.2.2.2.2.2.1 hG rfl rfl rfl ⟨rfl, hno⟩ hR) ⟨Pre0.blind, va_recv M.2.2.2.2.2.2.2.1.1 hW.1 hc he, fun U hU hv => ⟨rfl, Pre0.at M hW hU hv⟩⟩ rfl rfl hls hst (lv_room hcat) hd hf) hW kk
theorem r_callV (M : Mx G p s m args meth c cc nL ret own) (hW : Wd G s w H locs) {y : MethodName} {cc' : ByteArray} {nL' d' index b : Nat} {ret' : Option FieldType} {as st : List Value} {w0 w1 : va_W} {v : Option Value} (hC : Cn l G y cc' nL' ret' d' (.ref b :: as) w0 v w1) (hw : w = w0)
    (h1 : Cond.methodLink own index y ∈ tblG) (h2 : Cond.instanceMethod y ∈ tblG) (h3 : Cond.selects y.cls y y ∈ tblG) (h4 : Cond.initialized y.cls ∈ tblG) (h5 : Cond.code y cc' nL' ret' ∈ tblG) (hno : plainY y as.length) (q0 : Nat) {ci N : Nat} {T : u_T} {fs : List Value} (he : w[q0]? = some (b, .inr (ci, fs))) (hc : vwCl[ci]? = some (y.cls, T, N))
    (hR : d' + 1 ≤ R.frames ∧ 8 + (nL' + 11) + 26 * d' ≤ R.locals) (hf : cells ≤ R.cells ∧ slots ≤ R.slots) (hls : ls.size = nL) (hst : st = as.reverse ++ .ref b :: rest) (hcat : (rest.map fun v => v.category).sum ≤ 8) (hd : decode cc pc = .ok (.invokevirtual index, 3))
    (kk : ∀ (H1 : Heap) (locs1 : List Loc), Wd G s w1 H1 locs1 → W p l e R s m args below meth c H1 locs1 cells slots Q (F0 m (pc + 3) ls (v.toList ++ rest))) : W p l e R s m args below meth c H locs cells slots Q (F0 m pc ls st) :=
  r_callVE M hW hC hw h1 h2 h3 h4 h5 hno q0 he hc hR hf hls hst hcat hd (fun v' w' H1 l1 q hW1 => by obtain ⟨rfl, rfl⟩ := q; exact kk H1 l1 hW1)
theorem r_callS (M : Mx G p s m args meth c cc nL ret own) (hW : Wd G s w H locs) {y : MethodName} {cc' : ByteArray} {nL' d' index : Nat} {ret' : Option FieldType} {as st : List Value} {w0 w1 : va_W} {v : Option Value} (hC : Cn l G y cc' nL' ret' d' as w0 v w1) (hw : w = w0)
    (h1 : Cond.methodLink own index y ∈ tblG) (h2 : Cond.static y ∈ tblG) (h4 : Cond.initialized y.cls ∈ tblG) (h5 : Cond.code y cc' nL' ret' ∈ tblG) (hno : plainY y as.length)
    (hR : d' + 1 ≤ R.frames ∧ 8 + (nL' + 11) + 26 * d' ≤ R.locals) (hf : cells ≤ R.cells ∧ slots ≤ R.slots) (hls : ls.size = nL) (hst : st = as.reverse ++ rest) (hcat : (rest.map fun v => v.category).sum ≤ 8) (hd : decode cc pc = .ok (.invokestatic index, 3))
    (kk : ∀ (H1 : Heap) (locs1 : List Loc), Wd G s w1 H1 locs1 → W p l e R s m args below meth c H1 locs1 cells slots Q (F0 m (pc + 3) ls (v.toList ++ rest))) : W p l e R s m args below meth c H locs cells slots Q (F0 m pc ls st) := by
  subst hw
  have hG : GoodIn tblG (va_wsS own index y (.code y cc' nL' ret' :: tblG)) := goodAll (fun x hx => by
    rcases List.mem_append.mp hx with h | h
    · simp only [List.mem_cons, List.not_mem_nil, or_false] at h
      rcases h with rfl | rfl | rfl <;> assumption
    · exact code_tbl h5 x h)
  exact r_back (va_runS (As := as) (rest := rest) ⟨M.1, M.2.1, M.2.2.2.1, M.2.2.2.2.1, M.2.2.2.2.2.1⟩ hC (va_cwS as.length M.2.2.2.2.2.1 hG rfl rfl rfl hno hR) ⟨Pre0.blind, fun U hU hv => ⟨rfl, Pre0.at M hW hU hv⟩⟩ rfl rfl hls hst (lv_room hcat) hd hf) hW (fun v' w' H1 l1 q hW1 => by obtain ⟨rfl, rfl⟩ := q; exact kk H1 l1 hW1)
/-- a static method of a nest mate -/
theorem r_callSN (M : Mx G p s m args meth c cc nL ret own) (hW : Wd G s w H locs) {y : MethodName} {host : String} {cc' : ByteArray} {nL' d' index : Nat} {ret' : Option FieldType} {as st : List Value} {w0 w1 : va_W} {v : Option Value} (hC : Cn l G y cc' nL' ret' d' as w0 v w1) (hw : w = w0)
    (h1 : Cond.methodLinkNest own index y host ∈ tblN) (h2 : Cond.static y ∈ tblG) (h4 : Cond.initialized y.cls ∈ tblG) (h5 : Cond.code y cc' nL' ret' ∈ tblG) (hno : plainY y as.length)
    (hR : d' + 1 ≤ R.frames ∧ 8 + (nL' + 11) + 26 * d' ≤ R.locals) (hf : cells ≤ R.cells ∧ slots ≤ R.slots) (hls : ls.size = nL) (hst : st = as.reverse ++ rest) (hcat : (rest.map fun v => v.category).sum ≤ 8) (hd : decode cc pc = .ok (.invokestatic index, 3))
    (kk : ∀ (H1 : Heap) (locs1 : List Loc), Wd G s w1 H1 locs1 → W p l e R s m args below meth c H1 locs1 cells slots Q (F0 m (pc + 3) ls (v.toList ++ rest))) : W p l e R s m args below meth c H locs cells slots Q (F0 m pc ls st) := by
  subst hw
  have hts := M.2.2.2.2.2.1
  exact r_back (va_runSN (As := as) (rest := rest) ⟨M.1, M.2.1, M.2.2.2.1, M.2.2.2.2.1, M.2.2.2.2.2.1⟩ hC ⟨va_cnB as.length hts (goodAll (code_tbl h5)) rfl rfl rfl (M.2.2.2.2.2.2.2.1.2.1 _ h1) (hts _ h4) hno hR, hts _ h2, trivial⟩ ⟨Pre0.blind, fun U hU hv => ⟨rfl, Pre0.at M hW hU hv⟩⟩ rfl rfl hls hst (lv_room hcat) hd hf) hW (fun v' w' H1 l1 q hW1 => by obtain ⟨rfl, rfl⟩ := q; exact kk H1 l1 hW1)
/-- a constructor: of the class itself or a public one; and of a nest mate -/
theorem r_callI (M : Mx G p s m args meth c cc nL ret own) (hW : Wd G s w H locs) {y : MethodName} {cc' : ByteArray} {nL' d' mc' ms' index b : Nat} {as st : List Value} {w0 : va_W} {Qy : Option Value → va_W → Prop} (hC : CnE l G y cc' nL' none d' mc' ms' (.ref b :: as) w0 Qy) (hw : w = w0)
    (h1 : Cond.methodLink own index y ∈ tblG) (h2 : Cond.instanceMethod y ∈ tblG) (hy1 : y.name = "<init>") (h4 : Cond.initialized y.cls ∈ tblG) (h5 : Cond.code y cc' nL' none ∈ tblG) (hno : plainY y as.length)
    (hR : d' + 1 ≤ R.frames ∧ 8 + (nL' + 11) + 26 * d' ≤ R.locals) (hf : cells + mc' ≤ R.cells ∧ slots + ms' ≤ R.slots) (hls : ls.size = nL) (hst : st = as.reverse ++ .ref b :: rest) (hcat : (rest.map fun v => v.category).sum ≤ 8) (hd : decode cc pc = .ok (.invokespecial index, 3))
    (kk : ∀ (v : Option Value) (w1 : va_W) (H1 : Heap) (locs1 : List Loc), Qy v w1 → Wd G s w1 H1 locs1 → W p l e R s m args below meth c H1 locs1 (cells + mc') (slots + ms') Q (F0 m (pc + 3) ls (v.toList ++ rest))) : W p l e R s m args below meth c H locs cells slots Q (F0 m pc ls st) := by
  subst hw
  have hts := M.2.2.2.2.2.1
  exact r_back (va_runI (As := as) (rest := rest) ⟨M.1, M.2.1, M.2.2.2.1, M.2.2.2.2.1, M.2.2.2.2.2.1⟩ hC (cwI as.length hts (goodAll (code_tbl h5)) rfl rfl rfl (hts _ h4) (hts _ h1) (hts _ h2) hy1 hno hR) ⟨Pre0.blind, fun U hU hv => ⟨rfl, Pre0.at M hW hU hv⟩⟩ rfl rfl hls hst (lv_room hcat) hd hf) hW kk
theorem r_callIN (M : Mx G p s m args meth c cc nL ret own) (hW : Wd G s w H locs) {y : MethodName} {host : String} {cc' : ByteArray} {nL' d' mc' ms' index b : Nat} {as st : List Value} {w0 : va_W} {Qy : Option Value → va_W → Prop} (hC : CnE l G y cc' nL' none d' mc' ms' (.ref b :: as) w0 Qy) (hw : w = w0)
    (h1 : Cond.methodLinkNest own index y host ∈ tblN) (h2 : Cond.instanceMethod y ∈ tblG) (hy1 : y.name = "<init>") (h4 : Cond.initialized y.cls ∈ tblG) (h5 : Cond.code y cc' nL' none ∈ tblG) (hno : plainY y as.length)
    (hR : d' + 1 ≤ R.frames ∧ 8 + (nL' + 11) + 26 * d' ≤ R.locals) (hf : cells + mc' ≤ R.cells ∧ slots + ms' ≤ R.slots) (hls : ls.size = nL) (hst : st = as.reverse ++ .ref b :: rest) (hcat : (rest.map fun v => v.category).sum ≤ 8) (hd : decode cc pc = .ok (.invokespecial index, 3))
    (kk : ∀ (v : Option Value) (w1 : va_W) (H1 : Heap) (locs1 : List Loc), Qy v w1 → Wd G s w1 H1 locs1 → W p l e R s m args below meth c H1 locs1 (cells + mc') (slots + ms') Q (F0 m (pc + 3) ls (v.toList ++ rest))) : W p l e R s m args below meth c H locs cells slots Q (F0 m pc ls st) := by
  subst hw
  have hts := M.2.2.2.2.2.1
  exact r_back (va_runIN (As := as) (rest := rest) ⟨M.1, M.2.1, M.2.2.2.1, M.2.2.2.2.1, M.2.2.2.2.2.1⟩ hC ⟨va_cnB as.length hts (goodAll (code_tbl h5)) rfl rfl rfl (M.2.2.2.2.2.2.2.1.2.1 _ h1) (hts _ h4) hno hR, hy1, hts _ h2⟩ ⟨Pre0.blind, fun U hU hv => ⟨rfl, Pre0.at M hW hU hv⟩⟩ rfl rfl hls hst (lv_room hcat) hd hf) hW kk
def imax (x y : Int32) : Int32 := if x < y then y else x
def imin (x y : Int32) : Int32 := if y < x then y else x
def iabs (x : Int32) : Int32 := if 0 ≤ x then x else 0 - x
theorem r_max (M : Mx G p s m args meth c cc nL ret own) {index : Nat} (h1 : Cond.methodLink own index Lib.Math.max.name ∈ tblG) (h2 : Cond.static Lib.Math.max.name ∈ tblG) (h3 : Cond.initialized "java/lang/Math" ∈ tblG) (h4 : Cond.code Lib.Math.max.name Lib.Math.max.code 2 (some .int) ∈ tblG) (hls : ls.size = nL) (hR : 1 ≤ R.frames ∧ 21 ≤ R.locals) (hcat : (rest.map fun v => v.category).sum ≤ 8) (hf : cells ≤ R.cells ∧ slots ≤ R.slots) {x y : Int32} (hd : decode cc pc = .ok (.invokestatic index, 3))
    (kk : W p l e R s m args below meth c H locs cells slots Q (F0 m (pc + 3) ls (.int (imax x y) :: rest))) : W p l e R s m args below meth c H locs cells slots Q (F0 m pc ls (.int y :: .int x :: rest)) := by
  have hts := M.2.2.2.2.2.1
  exact va_mmax M.1 M.2.1 (M.2.2.2.1.trans hls.symm) M.2.2.2.2.1 (hts _ h1) (hts _ h2) (hts _ h3) (hts _ h4) hR.1 (by omega) hf.1 hf.2 hd kk
theorem r_min (M : Mx G p s m args meth c cc nL ret own) {index : Nat} (h1 : Cond.methodLink own index Lib.Math.min.name ∈ tblG) (h2 : Cond.static Lib.Math.min.name ∈ tblG) (h3 : Cond.initialized "java/lang/Math" ∈ tblG) (h4 : Cond.code Lib.Math.min.name Lib.Math.min.code 2 (some .int) ∈ tblG) (hls : ls.size = nL) (hR : 1 ≤ R.frames ∧ 21 ≤ R.locals) (hcat : (rest.map fun v => v.category).sum ≤ 8) (hf : cells ≤ R.cells ∧ slots ≤ R.slots) {x y : Int32} (hd : decode cc pc = .ok (.invokestatic index, 3))
    (kk : W p l e R s m args below meth c H locs cells slots Q (F0 m (pc + 3) ls (.int (imin x y) :: rest))) : W p l e R s m args below meth c H locs cells slots Q (F0 m pc ls (.int y :: .int x :: rest)) := by
  have hts := M.2.2.2.2.2.1
  exact va_mmin M.1 M.2.1 (M.2.2.2.1.trans hls.symm) M.2.2.2.2.1 (hts _ h1) (hts _ h2) (hts _ h3) (hts _ h4) hR.1 (by omega) hf.1 hf.2 hd kk
theorem r_abs (M : Mx G p s m args meth c cc nL ret own) {index : Nat} (h1 : Cond.methodLink own index Lib.Math.abs.name ∈ tblG) (h2 : Cond.static Lib.Math.abs.name ∈ tblG) (h3 : Cond.initialized "java/lang/Math" ∈ tblG) (h4 : Cond.code Lib.Math.abs.name Lib.Math.abs.code 1 (some .int) ∈ tblG) (hls : ls.size = nL) (hR : 1 ≤ R.frames ∧ 21 ≤ R.locals) (hcat : (rest.map fun v => v.category).sum ≤ 8) (hf : cells ≤ R.cells ∧ slots ≤ R.slots) {x : Int32} (hd : decode cc pc = .ok (.invokestatic index, 3))
    (kk : W p l e R s m args below meth c H locs cells slots Q (F0 m (pc + 3) ls (.int (iabs x) :: rest))) : W p l e R s m args below meth c H locs cells slots Q (F0 m pc ls (.int x :: rest)) := by
  have hts := M.2.2.2.2.2.1
  exact va_mabs M.1 M.2.1 (M.2.2.2.1.trans hls.symm) M.2.2.2.2.1 (hts _ h1) (hts _ h2) (hts _ h3) (hts _ h4) hR.1 (by omega) hf.1 hf.2 hd kk
/-- System.arraycopy(a0, 0, a, 0, n) between int arrays of our world -/
theorem r_copy (M : Mx G p s m args meth c cc nL ret own) (hW : Wd G s w H locs) {index : Nat} (h1 : Cond.methodLink own index arraycopyName ∈ tblG) (h2 : Cond.native arraycopyName ∈ tblG) (h3 : Cond.static arraycopyName ∈ tblG) (h4 : Cond.initialized "java/lang/System" ∈ tblG) (hls : ls.size = nL) (q0 q1 : Nat) {a0 n0 n1 : Nat} {f g : Nat → Int32} (ha0 : w[q0]? = some (a0, .inl (G.2.2.2 0, n0, .inl f))) (ha1 : w[q1]? = some (a, .inl (G.2.2.2 0, n1, .inl g))) {n : Int32} (k : Nat) (hn : n = nI k) (hk0 : k ≤ n0) (hk1 : k ≤ n1) (hk : k < 2 ^ 31)
    (hR : 1 ≤ R.frames ∧ 8 + (nativeFrameWords "java/lang/System" "arraycopy" 5 + 11) ≤ R.locals) (hcat : (rest.map fun v => v.category).sum ≤ 8) (w1 : va_W) (hw1 : w.set q1 (a, .inl (G.2.2.2 0, n1, .inl (va_cpy f g 0 0 k))) = w1) (hd : decode cc pc = .ok (.invokestatic index, 3))
    (kk : ∀ (H1 : Heap) (locs1 : List Loc), Wd G s w1 H1 locs1 → W p l e R s m args below meth c H1 locs1 cells slots Q (F0 m (pc + 3) ls rest)) : W p l e R s m args below meth c H locs cells slots Q (F0 m pc ls (.int n :: .int 0 :: .ref a :: .int 0 :: .ref a0 :: rest)) := by
  subst hn
  subst hw1
  have hts := M.2.2.2.2.2.1
  have z0 : (0 : Int32).toNatClampNeg = 0 := rfl
  have zk : (nI k).toNatClampNeg = k := nI_clamp hk
  refine va_copyi M.1 M.2.1 (M.2.2.2.1.trans hls.symm) M.2.2.2.2.1 (hts _ h1) (hts _ h2) (hts _ h3) (hts _ h4) M.2.2.2.2.2.2.2.1.1 hW.1 hW.2.1 hW.2.2 q0 q1 0 0 (ty := .int) ha0 ha1 rfl rfl rfl (by decide) (by decide) (nI_pos hk) (by rw [zk, z0]; omega) (by rw [zk, z0]; omega) (fun i hi => rfl) hR.1 (by omega) hd (fun H1 l1 a1 a2 a3 => ?_)
  rw [zk, z0] at a1 a2
  exact kk H1 l1 ⟨a1, a2, a3⟩
end MYC
end
section
/-! ===== the parts of the world, their states as tables of numbers (cell, slot) ===== -/
def up2 (g : Nat → Nat → Int32) (c i : Nat) (v : Int32) : Nat → Nat → Int32 := fun a => if a = c then upd (g c) i v else g a
def cp2 (g : Nat → Nat → Int32) (c : Nat) (f : Nat → Int32) : Nat → Nat → Int32 := fun a => if a = c then f else g a
theorem pfI : parseFieldDescriptor "I" = some .int := by decide +kernel
theorem pfZ : parseFieldDescriptor "Z" = some .boolean := by decide +kernel
theorem nar_z {x : Int32} (h : x = 0 ∨ x = 1) : narrow .boolean (.int x) = .int x := by rcases h with rfl | rfl <;> rfl
theorem fit_z {x : Int32} (h : x = 0 ∨ x = 1) : fits .boolean (.int x) = true := by rcases h with rfl | rfl <;> rfl
theorem tbl_out {x : Int32} (lo hi : Int) (h : ∀ k : Int, lo ≤ k → k ≤ hi → x ≠ Int32.ofInt k) : x.toInt < lo ∨ hi < x.toInt := by
  by_cases h1 : x.toInt < lo
  · exact Or.inl h1
  · by_cases h2 : hi < x.toInt
    · exact Or.inr h2
    · exact absurd (Int32.ofInt_toInt x).symm (h x.toInt (by omega) (by omega))

def LegW (G : Gp) (a : Nat → Nat) (g : Nat → Nat → Int32) : va_W := [(a 0, .inr (3, [.ref (a 1), .ref (a 2), .ref (a 4), .ref (a 5), .ref (a 9), .ref (a 10), .int (g 0 6), .int (g 0 7), .int (g 0 8), .int (g 0 9), .int (g 0 10), .int (g 0 11), .int (g 0 12)])), (a 1, .inl (G.2.2.2 0, 5, .inl (g 1))), (a 2, .inr (0, [.ref (a 3), .int (g 2 1)])), (a 3, .inl (G.2.2.2 0, 12, .inl (g 3))), (a 4, .inr (1, [.int (g 4 0), .int (g 4 1), .int (g 4 2), .int (g 4 3), .int (g 4 4), .int (g 4 5)])), (a 5, .inr (5, [.ref (a 6), .ref (a 7), .ref (a 8), .int (g 5 3)])), (a 6, .inl (G.2.2.2 0, 6, .inl (g 6))), (a 7, .inl (G.2.2.2 0, 6, .inl (g 7))), (a 8, .inl (G.2.2.2 0, 6, .inl (g 8))), (a 9, .inl (G.2.2.2 0, 3, .inl (g 9))), (a 10, .inl (G.2.2.2 0, 3, .inl (g 10)))]
def TextW (G : Gp) (a : Nat → Nat) (g : Nat → Nat → Int32) : va_W := [(a 0, .inr (4, [.ref (a 1), .int (g 0 1), .ref (a 2), .ref (a 3), .int (g 0 4), .int (g 0 5)])), (a 1, .inl (G.2.2.2 1, 60, .inl (g 1))), (a 2, .inl (G.2.2.2 1, 60, .inl (g 2))), (a 3, .inl (G.2.2.2 0, 60, .inl (g 3)))]
def ModW (G : Gp) (a : Nat → Nat) (g : Nat → Nat → Int32) : va_W := [(a 0, .inr (7, [.int (g 0 0), .ref (a 1), .ref (a 2), .ref (a 3), .int (g 0 4), .ref (a 4), .int (g 0 6), .ref (a 5), .int (g 0 8), .int (g 0 9), .int (g 0 10), .int (g 0 11), .int (g 0 12), .ref (a 6), .int (g 0 14)])), (a 1, .inl (G.2.2.2 0, 56, .inl (g 1))), (a 2, .inl (G.2.2.2 0, 56, .inl (g 2))), (a 3, .inl (G.2.2.2 0, 224, .inl (g 3))), (a 4, .inl (G.2.2.2 0, 56, .inl (g 4))), (a 5, .inl (G.2.2.2 0, 60, .inl (g 5))), (a 6, .inl (G.2.2.2 0, 64, .inl (g 6)))]
section MYC2
variable {p : Program} {l : Launch} {e : Env} {R : Room} {s : State} {m : MethodId} {args : Array Value} {below : List Frame} {meth : Method} {c : Code} {H : Heap} {locs : List Loc} {cells slots : Nat} {Q : State → Prop}
variable {G : Gp} {cc : ByteArray} {nL : Nat} {ret : Option FieldType} {own : String} {pc : Nat} {ls : Array Slot} {rest : List Value} {w : va_W} {a : Nat}
theorem r_callVi (M : Mx G p s m args meth c cc nL ret own) (hW : Wd G s w H locs) {y : MethodName} {cc' : ByteArray} {nL' d' index b : Nat} {ret' : Option FieldType} {as st : List Value} {w0 w1 : va_W} {r : Int32} (hC : Cn l G y cc' nL' ret' d' (.ref b :: as) w0 (some (.int r)) w1) (hw : w = w0)
    (h1 : Cond.methodLink own index y ∈ tblG) (h2 : Cond.instanceMethod y ∈ tblG) (h3 : Cond.selects y.cls y y ∈ tblG) (h4 : Cond.initialized y.cls ∈ tblG) (h5 : Cond.code y cc' nL' ret' ∈ tblG) (hno : plainY y as.length) (q0 : Nat) {ci N : Nat} {T : u_T} {fs : List Value} (he : w[q0]? = some (b, .inr (ci, fs))) (hc : vwCl[ci]? = some (y.cls, T, N))
    (hR : d' + 1 ≤ R.frames ∧ 8 + (nL' + 11) + 26 * d' ≤ R.locals) (hf : cells ≤ R.cells ∧ slots ≤ R.slots) (hls : ls.size = nL) (hst : st = as.reverse ++ .ref b :: rest) (hcat : (rest.map fun v => v.category).sum ≤ 8) (hd : decode cc pc = .ok (.invokevirtual index, 3))
    (kk : ∀ (H1 : Heap) (locs1 : List Loc), Wd G s w1 H1 locs1 → W p l e R s m args below meth c H1 locs1 cells slots Q (F0 m (pc + 3) ls (.int r :: rest))) : W p l e R s m args below meth c H locs cells slots Q (F0 m pc ls st) :=
  r_callV M hW hC hw h1 h2 h3 h4 h5 hno q0 he hc hR hf hls hst hcat hd kk
theorem r_callVv (M : Mx G p s m args meth c cc nL ret own) (hW : Wd G s w H locs) {y : MethodName} {cc' : ByteArray} {nL' d' index b : Nat} {ret' : Option FieldType} {as st : List Value} {w0 w1 : va_W} (hC : Cn l G y cc' nL' ret' d' (.ref b :: as) w0 (none) w1) (hw : w = w0)
    (h1 : Cond.methodLink own index y ∈ tblG) (h2 : Cond.instanceMethod y ∈ tblG) (h3 : Cond.selects y.cls y y ∈ tblG) (h4 : Cond.initialized y.cls ∈ tblG) (h5 : Cond.code y cc' nL' ret' ∈ tblG) (hno : plainY y as.length) (q0 : Nat) {ci N : Nat} {T : u_T} {fs : List Value} (he : w[q0]? = some (b, .inr (ci, fs))) (hc : vwCl[ci]? = some (y.cls, T, N))
    (hR : d' + 1 ≤ R.frames ∧ 8 + (nL' + 11) + 26 * d' ≤ R.locals) (hf : cells ≤ R.cells ∧ slots ≤ R.slots) (hls : ls.size = nL) (hst : st = as.reverse ++ .ref b :: rest) (hcat : (rest.map fun v => v.category).sum ≤ 8) (hd : decode cc pc = .ok (.invokevirtual index, 3))
    (kk : ∀ (H1 : Heap) (locs1 : List Loc), Wd G s w1 H1 locs1 → W p l e R s m args below meth c H1 locs1 cells slots Q (F0 m (pc + 3) ls (rest))) : W p l e R s m args below meth c H locs cells slots Q (F0 m pc ls st) :=
  r_callV M hW hC hw h1 h2 h3 h4 h5 hno q0 he hc hR hf hls hst hcat hd kk
theorem r_callSi (M : Mx G p s m args meth c cc nL ret own) (hW : Wd G s w H locs) {y : MethodName} {cc' : ByteArray} {nL' d' index : Nat} {ret' : Option FieldType} {as st : List Value} {w0 w1 : va_W} {r : Int32} (hC : Cn l G y cc' nL' ret' d' as w0 (some (.int r)) w1) (hw : w = w0)
    (h1 : Cond.methodLink own index y ∈ tblG) (h2 : Cond.static y ∈ tblG) (h4 : Cond.initialized y.cls ∈ tblG) (h5 : Cond.code y cc' nL' ret' ∈ tblG) (hno : plainY y as.length)
    (hR : d' + 1 ≤ R.frames ∧ 8 + (nL' + 11) + 26 * d' ≤ R.locals) (hf : cells ≤ R.cells ∧ slots ≤ R.slots) (hls : ls.size = nL) (hst : st = as.reverse ++ rest) (hcat : (rest.map fun v => v.category).sum ≤ 8) (hd : decode cc pc = .ok (.invokestatic index, 3))
    (kk : ∀ (H1 : Heap) (locs1 : List Loc), Wd G s w1 H1 locs1 → W p l e R s m args below meth c H1 locs1 cells slots Q (F0 m (pc + 3) ls (.int r :: rest))) : W p l e R s m args below meth c H locs cells slots Q (F0 m pc ls st) :=
  r_callS M hW hC hw h1 h2 h4 h5 hno hR hf hls hst hcat hd kk
theorem r_callSNi (M : Mx G p s m args meth c cc nL ret own) (hW : Wd G s w H locs) {y : MethodName} {host : String} {cc' : ByteArray} {nL' d' index : Nat} {ret' : Option FieldType} {as st : List Value} {w0 w1 : va_W} {r : Int32} (hC : Cn l G y cc' nL' ret' d' as w0 (some (.int r)) w1) (hw : w = w0)
    (h1 : Cond.methodLinkNest own index y host ∈ tblN) (h2 : Cond.static y ∈ tblG) (h4 : Cond.initialized y.cls ∈ tblG) (h5 : Cond.code y cc' nL' ret' ∈ tblG) (hno : plainY y as.length)
    (hR : d' + 1 ≤ R.frames ∧ 8 + (nL' + 11) + 26 * d' ≤ R.locals) (hf : cells ≤ R.cells ∧ slots ≤ R.slots) (hls : ls.size = nL) (hst : st = as.reverse ++ rest) (hcat : (rest.map fun v => v.category).sum ≤ 8) (hd : decode cc pc = .ok (.invokestatic index, 3))
    (kk : ∀ (H1 : Heap) (locs1 : List Loc), Wd G s w1 H1 locs1 → W p l e R s m args below meth c H1 locs1 cells slots Q (F0 m (pc + 3) ls (.int r :: rest))) : W p l e R s m args below meth c H locs cells slots Q (F0 m pc ls st) :=
  r_callSN M hW hC hw h1 h2 h4 h5 hno hR hf hls hst hcat hd kk
end MYC2
theorem pl_X0_init : plainY yX0_init 0 := ⟨by decide +kernel, by decide +kernel, by decide +kernel⟩
theorem pl_X0_become : plainY yX0_become 1 := ⟨by decide +kernel, by decide +kernel, by decide +kernel⟩
theorem pl_X0_at : plainY yX0_at 1 := ⟨by decide +kernel, by decide +kernel, by decide +kernel⟩
theorem pl_X0_moveOn : plainY yX0_moveOn 0 := ⟨by decide +kernel, by decide +kernel, by decide +kernel⟩
theorem pl_X0_emptyAtHead : plainY yX0_emptyAtHead 0 := ⟨by decide +kernel, by decide +kernel, by decide +kernel⟩
theorem pl_X0_fillInBoot : plainY yX0_fillInBoot 2 := ⟨by decide +kernel, by decide +kernel, by decide +kernel⟩
theorem pl_X0_onTheWayUp : plainY yX0_onTheWayUp 0 := ⟨by decide +kernel, by decide +kernel, by decide +kernel⟩
theorem pl_X0_onAll : plainY yX0_onAll 0 := ⟨by decide +kernel, by decide +kernel, by decide +kernel⟩
theorem pl_X1_init : plainY yX1_init 0 := ⟨by decide +kernel, by decide +kernel, by decide +kernel⟩
theorem pl_X1_become : plainY yX1_become 1 := ⟨by decide +kernel, by decide +kernel, by decide +kernel⟩
theorem pl_X1_feedIn : plainY yX1_feedIn 1 := ⟨by decide +kernel, by decide +kernel, by decide +kernel⟩
theorem pl_X1_fallBack : plainY yX1_fallBack 1 := ⟨by decide +kernel, by decide +kernel, by decide +kernel⟩
theorem pl_X1_pourIntoBoot : plainY yX1_pourIntoBoot 1 := ⟨by decide +kernel, by decide +kernel, by decide +kernel⟩
theorem pl_X2_init : plainY yX2_init 0 := ⟨by decide +kernel, by decide +kernel, by decide +kernel⟩
theorem pl_X2_indexOf : plainY yX2_indexOf 1 := ⟨by decide +kernel, by decide +kernel, by decide +kernel⟩
theorem pl_X2_remember : plainY yX2_remember 1 := ⟨by decide +kernel, by decide +kernel, by decide +kernel⟩
theorem pl_X2_takeBack : plainY yX2_takeBack 1 := ⟨by decide +kernel, by decide +kernel, by decide +kernel⟩
theorem pl_X3_init : plainY yX3_init 0 := ⟨by decide +kernel, by decide +kernel, by decide +kernel⟩
theorem pl_X3_become : plainY yX3_become 1 := ⟨by decide +kernel, by decide +kernel, by decide +kernel⟩
theorem pl_X3_setNumber : plainY yX3_setNumber 2 := ⟨by decide +kernel, by decide +kernel, by decide +kernel⟩
theorem pl_X3_moveGate : plainY yX3_moveGate 1 := ⟨by decide +kernel, by decide +kernel, by decide +kernel⟩
theorem pl_X3_switchOn : plainY yX3_switchOn 0 := ⟨by decide +kernel, by decide +kernel, by decide +kernel⟩
theorem pl_X3_switchOff : plainY yX3_switchOff 0 := ⟨by decide +kernel, by decide +kernel, by decide +kernel⟩
theorem pl_X3_forgetReason : plainY yX3_forgetReason 0 := ⟨by decide +kernel, by decide +kernel, by decide +kernel⟩
theorem pl_X3_mayBeReset : plainY yX3_mayBeReset 0 := ⟨by decide +kernel, by decide +kernel, by decide +kernel⟩
theorem pl_X3_takeByHand : plainY yX3_takeByHand 1 := ⟨by decide +kernel, by decide +kernel, by decide +kernel⟩
theorem pl_X3_passTicks : plainY yX3_passTicks 1 := ⟨by decide +kernel, by decide +kernel, by decide +kernel⟩
theorem pl_X3_ticksUntilTrip : plainY yX3_ticksUntilTrip 1 := ⟨by decide +kernel, by decide +kernel, by decide +kernel⟩
theorem pl_X3_load : plainY yX3_load 0 := ⟨by decide +kernel, by decide +kernel, by decide +kernel⟩
theorem pl_X3_seenBy : plainY yX3_seenBy 1 := ⟨by decide +kernel, by decide +kernel, by decide +kernel⟩
theorem pl_X3_tick : plainY yX3_tick 0 := ⟨by decide +kernel, by decide +kernel, by decide +kernel⟩
theorem pl_X3_slipOf : plainY yX3_slipOf 1 := ⟨by decide +kernel, by decide +kernel, by decide +kernel⟩
theorem pl_X3_moveOneCell : plainY yX3_moveOneCell 0 := ⟨by decide +kernel, by decide +kernel, by decide +kernel⟩
theorem pl_X3_rub : plainY yX3_rub 0 := ⟨by decide +kernel, by decide +kernel, by decide +kernel⟩
theorem pl_X3_watch : plainY yX3_watch 0 := ⟨by decide +kernel, by decide +kernel, by decide +kernel⟩
theorem pl_X3_tripBy : plainY yX3_tripBy 1 := ⟨by decide +kernel, by decide +kernel, by decide +kernel⟩
theorem pl_X4_init : plainY yX4_init 0 := ⟨by decide +kernel, by decide +kernel, by decide +kernel⟩
theorem pl_X4_append : plainY yX4_append 1 := ⟨by decide +kernel, by decide +kernel, by decide +kernel⟩
theorem pl_X4_empty : plainY yX4_empty 0 := ⟨by decide +kernel, by decide +kernel, by decide +kernel⟩
theorem pl_X4_letterOf : plainY yX4_letterOf 1 := ⟨by decide +kernel, by decide +kernel, by decide +kernel⟩
theorem pl_X4_valueOf : plainY yX4_valueOf 1 := ⟨by decide +kernel, by decide +kernel, by decide +kernel⟩
theorem pl_X4_read : plainY yX4_read 0 := ⟨by decide +kernel, by decide +kernel, by decide +kernel⟩
theorem pl_X4_next : plainY yX4_next 0 := ⟨by decide +kernel, by decide +kernel, by decide +kernel⟩
theorem pl_X4_nextDigit : plainY yX4_nextDigit 0 := ⟨by decide +kernel, by decide +kernel, by decide +kernel⟩
theorem pl_X4_readComma : plainY yX4_readComma 0 := ⟨by decide +kernel, by decide +kernel, by decide +kernel⟩
theorem pl_X4_readCommand : plainY yX4_readCommand 0 := ⟨by decide +kernel, by decide +kernel, by decide +kernel⟩
theorem pl_X4_isLetterOfCommand : plainY yX4_isLetterOfCommand 1 := ⟨by decide +kernel, by decide +kernel, by decide +kernel⟩
theorem pl_X4_readValue : plainY yX4_readValue 1 := ⟨by decide +kernel, by decide +kernel, by decide +kernel⟩
theorem pl_X4_readNumber : plainY yX4_readNumber 2 := ⟨by decide +kernel, by decide +kernel, by decide +kernel⟩
theorem pl_X4_readAlignment : plainY yX4_readAlignment 0 := ⟨by decide +kernel, by decide +kernel, by decide +kernel⟩
theorem pl_X5_init : plainY yX5_init 0 := ⟨by decide +kernel, by decide +kernel, by decide +kernel⟩
theorem pl_X5_become : plainY yX5_become 1 := ⟨by decide +kernel, by decide +kernel, by decide +kernel⟩
theorem pl_X5_note : plainY yX5_note 3 := ⟨by decide +kernel, by decide +kernel, by decide +kernel⟩
theorem pl_X5_tickOf : plainY yX5_tickOf 1 := ⟨by decide +kernel, by decide +kernel, by decide +kernel⟩
theorem pl_X5_sensorOf : plainY yX5_sensorOf 1 := ⟨by decide +kernel, by decide +kernel, by decide +kernel⟩
theorem pl_X5_loadOf : plainY yX5_loadOf 1 := ⟨by decide +kernel, by decide +kernel, by decide +kernel⟩
theorem pl_X5_told : plainY yX5_told 2 := ⟨by decide +kernel, by decide +kernel, by decide +kernel⟩
theorem pl_X6_init : plainY yX6_init 0 := ⟨by decide +kernel, by decide +kernel, by decide +kernel⟩
theorem pl_X6_set : plainY yX6_set 2 := ⟨by decide +kernel, by decide +kernel, by decide +kernel⟩
theorem pl_X6_gate : plainY yX6_gate 1 := ⟨by decide +kernel, by decide +kernel, by decide +kernel⟩
theorem pl_X6_start : plainY yX6_start 0 := ⟨by decide +kernel, by decide +kernel, by decide +kernel⟩
theorem pl_X6_stop : plainY yX6_stop 0 := ⟨by decide +kernel, by decide +kernel, by decide +kernel⟩
theorem pl_X6_reset : plainY yX6_reset 0 := ⟨by decide +kernel, by decide +kernel, by decide +kernel⟩
theorem pl_X6_clean : plainY yX6_clean 1 := ⟨by decide +kernel, by decide +kernel, by decide +kernel⟩
theorem pl_X6_run : plainY yX6_run 1 := ⟨by decide +kernel, by decide +kernel, by decide +kernel⟩
theorem pl_X6_type : plainY yX6_type 1 := ⟨by decide +kernel, by decide +kernel, by decide +kernel⟩
theorem pl_X6_clearText : plainY yX6_clearText 0 := ⟨by decide +kernel, by decide +kernel, by decide +kernel⟩
theorem pl_X6_perform : plainY yX6_perform 0 := ⟨by decide +kernel, by decide +kernel, by decide +kernel⟩
theorem pl_X6_stopped : plainY yX6_stopped 1 := ⟨by decide +kernel, by decide +kernel, by decide +kernel⟩
theorem pl_X6_undo : plainY yX6_undo 0 := ⟨by decide +kernel, by decide +kernel, by decide +kernel⟩
theorem pl_X6_keep : plainY yX6_keep 0 := ⟨by decide +kernel, by decide +kernel, by decide +kernel⟩
theorem pl_X6_restore : plainY yX6_restore 0 := ⟨by decide +kernel, by decide +kernel, by decide +kernel⟩
theorem pl_X6_bucket : plainY yX6_bucket 1 := ⟨by decide +kernel, by decide +kernel, by decide +kernel⟩
theorem pl_X6_sensor : plainY yX6_sensor 2 := ⟨by decide +kernel, by decide +kernel, by decide +kernel⟩
theorem pl_X6_tripsIn : plainY yX6_tripsIn 0 := ⟨by decide +kernel, by decide +kernel, by decide +kernel⟩
theorem pl_X6_ifTension : plainY yX6_ifTension 2 := ⟨by decide +kernel, by decide +kernel, by decide +kernel⟩
theorem pl_X6_leastTension : plainY yX6_leastTension 1 := ⟨by decide +kernel, by decide +kernel, by decide +kernel⟩
theorem pl_X6_trip : plainY yX6_trip 2 := ⟨by decide +kernel, by decide +kernel, by decide +kernel⟩
theorem pl_X6_count : plainY yX6_count 1 := ⟨by decide +kernel, by decide +kernel, by decide +kernel⟩
theorem pl_X6_recorded : plainY yX6_recorded 1 := ⟨by decide +kernel, by decide +kernel, by decide +kernel⟩
theorem pl_X6_carryOut : plainY yX6_carryOut 2 := ⟨by decide +kernel, by decide +kernel, by decide +kernel⟩
theorem pl_X6_isError : plainY yX6_isError 1 := ⟨by decide +kernel, by decide +kernel, by decide +kernel⟩
theorem pl_X6_isWithin : plainY yX6_isWithin 3 := ⟨by decide +kernel, by decide +kernel, by decide +kernel⟩
theorem pl_X7_init : plainY yX7_init 0 := ⟨by decide +kernel, by decide +kernel, by decide +kernel⟩
theorem pl_X7_in : plainY yX7_in 3 := ⟨by decide +kernel, by decide +kernel, by decide +kernel⟩
theorem pl_X7_records : plainY yX7_records 0 := ⟨by decide +kernel, by decide +kernel, by decide +kernel⟩
theorem pl_X7_putAside : plainY yX7_putAside 0 := ⟨by decide +kernel, by decide +kernel, by decide +kernel⟩
theorem pl_X7_takeBack : plainY yX7_takeBack 0 := ⟨by decide +kernel, by decide +kernel, by decide +kernel⟩
theorem pl_X7_load : plainY yX7_load 0 := ⟨by decide +kernel, by decide +kernel, by decide +kernel⟩
theorem pl_X7_comes : plainY yX7_comes 1 := ⟨by decide +kernel, by decide +kernel, by decide +kernel⟩
theorem pl_X7_moves : plainY yX7_moves 0 := ⟨by decide +kernel, by decide +kernel, by decide +kernel⟩
theorem pl_X7_beyond : plainY yX7_beyond 0 := ⟨by decide +kernel, by decide +kernel, by decide +kernel⟩
theorem pl_X7_seesTooMuch : plainY yX7_seesTooMuch 1 := ⟨by decide +kernel, by decide +kernel, by decide +kernel⟩
theorem pl_X7_trips : plainY yX7_trips 1 := ⟨by decide +kernel, by decide +kernel, by decide +kernel⟩
theorem pl_X7_watches : plainY yX7_watches 0 := ⟨by decide +kernel, by decide +kernel, by decide +kernel⟩
theorem pl_X7_tick : plainY yX7_tick 0 := ⟨by decide +kernel, by decide +kernel, by decide +kernel⟩
theorem pl_X7_ticks : plainY yX7_ticks 1 := ⟨by decide +kernel, by decide +kernel, by decide +kernel⟩
theorem pl_X7_isNumber : plainY yX7_isNumber 2 := ⟨by decide +kernel, by decide +kernel, by decide +kernel⟩
theorem pl_X7_refusesSet : plainY yX7_refusesSet 2 := ⟨by decide +kernel, by decide +kernel, by decide +kernel⟩
theorem pl_X7_refusesGate : plainY yX7_refusesGate 1 := ⟨by decide +kernel, by decide +kernel, by decide +kernel⟩
theorem pl_X7_refusesStart : plainY yX7_refusesStart 0 := ⟨by decide +kernel, by decide +kernel, by decide +kernel⟩
theorem pl_X7_refusesReset : plainY yX7_refusesReset 0 := ⟨by decide +kernel, by decide +kernel, by decide +kernel⟩
theorem pl_X7_refusesRun : plainY yX7_refusesRun 1 := ⟨by decide +kernel, by decide +kernel, by decide +kernel⟩
theorem pl_X7_inBuckets : plainY yX7_inBuckets 0 := ⟨by decide +kernel, by decide +kernel, by decide +kernel⟩
theorem pl_X7_set : plainY yX7_set 2 := ⟨by decide +kernel, by decide +kernel, by decide +kernel⟩
theorem pl_X7_gate : plainY yX7_gate 1 := ⟨by decide +kernel, by decide +kernel, by decide +kernel⟩
theorem pl_X7_start : plainY yX7_start 0 := ⟨by decide +kernel, by decide +kernel, by decide +kernel⟩
theorem pl_X7_stop : plainY yX7_stop 0 := ⟨by decide +kernel, by decide +kernel, by decide +kernel⟩
theorem pl_X7_reset : plainY yX7_reset 0 := ⟨by decide +kernel, by decide +kernel, by decide +kernel⟩
theorem pl_X7_clean : plainY yX7_clean 1 := ⟨by decide +kernel, by decide +kernel, by decide +kernel⟩
theorem pl_X7_run : plainY yX7_run 1 := ⟨by decide +kernel, by decide +kernel, by decide +kernel⟩
theorem pl_X7_type : plainY yX7_type 1 := ⟨by decide +kernel, by decide +kernel, by decide +kernel⟩
theorem pl_X7_clearText : plainY yX7_clearText 0 := ⟨by decide +kernel, by decide +kernel, by decide +kernel⟩
theorem pl_X7_sign : plainY yX7_sign 0 := ⟨by decide +kernel, by decide +kernel, by decide +kernel⟩
theorem pl_X7_number : plainY yX7_number 2 := ⟨by decide +kernel, by decide +kernel, by decide +kernel⟩
theorem pl_X7_alignment : plainY yX7_alignment 0 := ⟨by decide +kernel, by decide +kernel, by decide +kernel⟩
theorem pl_X7_valueOf : plainY yX7_valueOf 1 := ⟨by decide +kernel, by decide +kernel, by decide +kernel⟩
theorem pl_X7_isLetter : plainY yX7_isLetter 1 := ⟨by decide +kernel, by decide +kernel, by decide +kernel⟩
theorem pl_X7_readsCommand : plainY yX7_readsCommand 0 := ⟨by decide +kernel, by decide +kernel, by decide +kernel⟩
theorem pl_X7_reads : plainY yX7_reads 0 := ⟨by decide +kernel, by decide +kernel, by decide +kernel⟩
theorem pl_X7_whichOf : plainY yX7_whichOf 1 := ⟨by decide +kernel, by decide +kernel, by decide +kernel⟩
theorem pl_X7_does : plainY yX7_does 2 := ⟨by decide +kernel, by decide +kernel, by decide +kernel⟩
theorem pl_X7_perform : plainY yX7_perform 0 := ⟨by decide +kernel, by decide +kernel, by decide +kernel⟩
theorem pl_X7_swapsAside : plainY yX7_swapsAside 0 := ⟨by decide +kernel, by decide +kernel, by decide +kernel⟩
theorem pl_X7_stopped : plainY yX7_stopped 1 := ⟨by decide +kernel, by decide +kernel, by decide +kernel⟩
theorem pl_X7_undo : plainY yX7_undo 0 := ⟨by decide +kernel, by decide +kernel, by decide +kernel⟩
theorem pl_X7_keep : plainY yX7_keep 0 := ⟨by decide +kernel, by decide +kernel, by decide +kernel⟩
theorem pl_X7_restore : plainY yX7_restore 0 := ⟨by decide +kernel, by decide +kernel, by decide +kernel⟩
theorem pl_X7_bucket : plainY yX7_bucket 1 := ⟨by decide +kernel, by decide +kernel, by decide +kernel⟩
theorem pl_X7_sensor : plainY yX7_sensor 2 := ⟨by decide +kernel, by decide +kernel, by decide +kernel⟩
theorem pl_X7_untilTrip : plainY yX7_untilTrip 1 := ⟨by decide +kernel, by decide +kernel, by decide +kernel⟩
theorem pl_X7_tripsIn : plainY yX7_tripsIn 0 := ⟨by decide +kernel, by decide +kernel, by decide +kernel⟩
theorem pl_X7_ifTension : plainY yX7_ifTension 2 := ⟨by decide +kernel, by decide +kernel, by decide +kernel⟩
theorem pl_X7_leastTension : plainY yX7_leastTension 1 := ⟨by decide +kernel, by decide +kernel, by decide +kernel⟩
theorem pl_X7_trip : plainY yX7_trip 2 := ⟨by decide +kernel, by decide +kernel, by decide +kernel⟩
theorem pl_X7_count : plainY yX7_count 1 := ⟨by decide +kernel, by decide +kernel, by decide +kernel⟩
theorem pl_J9_floorMod_7cf53 : plainY yJ9_floorMod_7cf53 2 := ⟨by decide +kernel, by decide +kernel, by decide +kernel⟩
theorem pl_J9_abs_0f7a4 : plainY yJ9_abs_0f7a4 1 := ⟨by decide +kernel, by decide +kernel, by decide +kernel⟩
theorem pl_J9_max_7cf53 : plainY yJ9_max_7cf53 2 := ⟨by decide +kernel, by decide +kernel, by decide +kernel⟩
theorem pl_J9_min_7cf53 : plainY yJ9_min_7cf53 2 := ⟨by decide +kernel, by decide +kernel, by decide +kernel⟩
theorem kn_X6_9 : Cond.methodLinkNest RX6 9 yX3_init "GrainLeg" ∈ tblN := tblN_of (by decide +kernel) rfl
theorem kn_X3_25 : Cond.methodLinkNest RX3 25 yX0_init "GrainLeg" ∈ tblN := tblN_of (by decide +kernel) rfl
theorem kn_X3_32 : Cond.methodLinkNest RX3 32 yX1_init "GrainLeg" ∈ tblN := tblN_of (by decide +kernel) rfl
theorem kn_X3_39 : Cond.methodLinkNest RX3 39 yX5_init "GrainLeg" ∈ tblN := tblN_of (by decide +kernel) rfl
theorem kn_X2_17 : Cond.methodLinkNest RX2 17 yX3_init "GrainLeg" ∈ tblN := tblN_of (by decide +kernel) rfl
theorem kn_X6_34 : Cond.methodLinkNest RX6 34 yX4_init "GrainLeg" ∈ tblN := tblN_of (by decide +kernel) rfl
theorem kn_X3_89 : Cond.methodLinkNest RX3 89 yX6_isWithin "GrainLeg" ∈ tblN := tblN_of (by decide +kernel) rfl
theorem kn_X4_26 : Cond.methodLinkNest RX4 26 yX6_isWithin "GrainLeg" ∈ tblN := tblN_of (by decide +kernel) rfl
theorem kn_X0_25 : Cond.methodLinkNest RX0 25 yX6_isWithin "GrainLeg" ∈ tblN := tblN_of (by decide +kernel) rfl
theorem kn_X5_41 : Cond.methodLinkNest RX5 41 yX6_isWithin "GrainLeg" ∈ tblN := tblN_of (by decide +kernel) rfl
theorem kn_X3_9 : Cond.fieldLinkNest RX3 9 RX6 "FIRST" "[I" RX6 ∈ tblN := tblN_of (by decide +kernel) rfl
theorem kn_X3_93 : Cond.fieldLinkNest RX3 93 RX6 "LEAST" "[I" RX6 ∈ tblN := tblN_of (by decide +kernel) rfl
theorem kn_X3_96 : Cond.fieldLinkNest RX3 96 RX6 "MOST" "[I" RX6 ∈ tblN := tblN_of (by decide +kernel) rfl
theorem kn_X3_170 : Cond.fieldLinkNest RX3 170 RX6 "TOO_MUCH" "[I" RX6 ∈ tblN := tblN_of (by decide +kernel) rfl
theorem kn_X3_173 : Cond.fieldLinkNest RX3 173 RX6 "WAITS" "[I" RX6 ∈ tblN := tblN_of (by decide +kernel) rfl
theorem kn_X4_60 : Cond.fieldLinkNest RX4 60 RX6 "LEAST" "[I" RX6 ∈ tblN := tblN_of (by decide +kernel) rfl
theorem kn_X4_63 : Cond.fieldLinkNest RX4 63 RX6 "MOST" "[I" RX6 ∈ tblN := tblN_of (by decide +kernel) rfl
end
section
theorem Wd.drop {G : Gp} {s : State} {X w : va_W} {H : Heap} {locs : List Loc} (h : Wd G s (X ++ w) H locs) : Wd G s w H locs := by
  have key : ∀ (k : Nat) (q : Nat × va_E), w[k]? = some q → (X ++ w)[X.length + k]? = some q := fun k q hk => by rw [List.getElem?_append_right (Nat.le_add_right _ _), Nat.add_sub_cancel_left]; exact hk
  refine ⟨fun k q hk => h.1 _ q (key k q hk), ⟨fun i j p q hi hj e => ?_, fun k q hk => h.2.1.2 _ q (key k q hk)⟩, h.2.2⟩
  have := h.2.1.1 _ _ p q (key i p hi) (key j q hj) e
  omega
theorem vp_cell_congr {cA : ClassId} {n : Nat} {f f' : Nat → Int32} (h : ∀ i, i < n → f i = f' i) : vp_cell cA (n, .inl f) = vp_cell cA (n, .inl f') := by
  show arrV cA n (fun j => .int (f j)) = arrV cA n (fun j => .int (f' j))
  unfold arrV
  congr 2
  funext j
  exact congrArg Value.int (h j.val j.isLt)
theorem va_D.fst {A : Nat → Prop} {w w' : va_W} (h : va_D A w) (e : w.map Prod.fst = w'.map Prod.fst) : va_D A w' := by
  have key : ∀ (k : Nat) (q : Nat × va_E), w'[k]? = some q → ∃ q0, w[k]? = some q0 ∧ q0.1 = q.1 := by
    intro k q hk
    have h1 : (w.map Prod.fst)[k]? = some q.1 := by rw [e, List.getElem?_map, hk]; rfl
    rw [List.getElem?_map] at h1
    cases hw : w[k]? with
    | none => rw [hw] at h1; cases h1
    | some x => rw [hw] at h1; exact ⟨x, rfl, Option.some.inj h1⟩
  refine ⟨fun i j p q hi hj hpq => ?_, fun k q hk => ?_⟩
  · obtain ⟨p0, a1, a2⟩ := key i p hi
    obtain ⟨q0, b1, b2⟩ := key j q hj
    exact h.1 i j p0 q0 a1 b1 (a2.trans (hpq.trans b2.symm))
  · obtain ⟨q0, a1, a2⟩ := key k q hk
    rw [← a2]
    exact h.2 k q0 a1
theorem at_arr {D : va_G} {cl : List vw_C} {a : Nat} {cA : ClassId} {n : Nat} {f f' : Nat → Int32} {H : Heap} (h : va_at D cl (a, .inl (cA, n, .inl f)) H) (e : ∀ i, i < n → f i = f' i) : va_at D cl (a, .inl (cA, n, .inl f')) H := h.trans (congrArg some (vp_cell_congr e))
def LegEq (g g' : Nat → Nat → Int32) : Prop := (∀ k, 6 ≤ k → k < 13 → g 0 k = g' 0 k) ∧ (∀ i, i < 5 → g 1 i = g' 1 i) ∧ g 2 1 = g' 2 1 ∧ (∀ i, i < 12 → g 3 i = g' 3 i) ∧ (∀ i, i < 6 → g 4 i = g' 4 i) ∧ g 5 3 = g' 5 3 ∧ (∀ i, i < 6 → g 6 i = g' 6 i) ∧ (∀ i, i < 6 → g 7 i = g' 7 i) ∧ (∀ i, i < 6 → g 8 i = g' 8 i) ∧ (∀ i, i < 3 → g 9 i = g' 9 i) ∧ (∀ i, i < 3 → g 10 i = g' 10 i)
theorem Wd.leg {G : Gp} {s : State} {b : Nat → Nat} {g g' : Nat → Nat → Int32} {Y : va_W} {H : Heap} {locs : List Loc} (hW : Wd G s (LegW G b g ++ Y) H locs) (h : LegEq g g') : Wd G s (LegW G b g' ++ Y) H locs := by
  obtain ⟨h0, h1, h2, h3, h4, h5, h6, h7, h8, h9, h10⟩ := h
  refine ⟨fun k q hk => ?_, va_D.fst hW.2.1 rfl, hW.2.2⟩
  match k, hk with
  | 0, hk =>
    have z := hW.1 0 _ rfl
    cases hk
    rw [← h0 6 (by decide) (by decide), ← h0 7 (by decide) (by decide), ← h0 8 (by decide) (by decide), ← h0 9 (by decide) (by decide), ← h0 10 (by decide) (by decide), ← h0 11 (by decide) (by decide), ← h0 12 (by decide) (by decide)]
    exact z
  | 1, hk => have z := hW.1 1 _ rfl; cases hk; exact at_arr z h1
  | 2, hk => have z := hW.1 2 _ rfl; cases hk; rw [← h2]; exact z
  | 3, hk => have z := hW.1 3 _ rfl; cases hk; exact at_arr z h3
  | 4, hk =>
    have z := hW.1 4 _ rfl
    cases hk
    rw [← h4 0 (by decide), ← h4 1 (by decide), ← h4 2 (by decide), ← h4 3 (by decide), ← h4 4 (by decide), ← h4 5 (by decide)]
    exact z
  | 5, hk => have z := hW.1 5 _ rfl; cases hk; rw [← h5]; exact z
  | 6, hk => have z := hW.1 6 _ rfl; cases hk; exact at_arr z h6
  | 7, hk => have z := hW.1 7 _ rfl; cases hk; exact at_arr z h7
  | 8, hk => have z := hW.1 8 _ rfl; cases hk; exact at_arr z h8
  | 9, hk => have z := hW.1 9 _ rfl; cases hk; exact at_arr z h9
  | 10, hk => have z := hW.1 10 _ rfl; cases hk; exact at_arr z h10
  | k + 11, hk => exact hW.1 (k + 11) q hk
section ROWS
variable {p : Program} {l : Launch} {e : Env} {R : Room} {s : State} {m : MethodId} {args : Array Value} {below : List Frame} {meth : Method} {c : Code} {H : Heap} {locs : List Loc} {cells slots : Nat} {Q : State → Prop}
variable {G : Gp} {cc : ByteArray} {nL : Nat} {ret : Option FieldType} {own : String} {pc : Nat} {ls : Array Slot} {rest : List Value} {Y : va_W} {b : Nat → Nat} {g : Nat → Nat → Int32}
theorem gt_Leg_0_0 (M : Mx G p s m args meth c cc nL ret own) (hW : Wd G s (LegW G b g ++ Y) H locs) {index : Nat} (hl : Cond.fieldLink own index "GrainLeg$Leg" "numbers" "[I" ∈ tblG) (hd : decode cc pc = .ok (.getfield index, 3)) (kk : W p l e R s m args below meth c H locs cells slots Q (F0 m (pc + 3) ls (.ref (b 1) :: rest))) : W p l e R s m args below meth c H locs cells slots Q (F0 m pc ls (.ref (b 0) :: rest)) :=
  r_get M hW 0 (k := 0) rfl rfl kin_3 (by decide) hl rfl hd kk
theorem gt_Leg_0_1 (M : Mx G p s m args meth c cc nL ret own) (hW : Wd G s (LegW G b g ++ Y) H locs) {index : Nat} (hl : Cond.fieldLink own index "GrainLeg$Leg" "belt" "LGrainLeg$Belt;" ∈ tblG) (hd : decode cc pc = .ok (.getfield index, 3)) (kk : W p l e R s m args below meth c H locs cells slots Q (F0 m (pc + 3) ls (.ref (b 2) :: rest))) : W p l e R s m args below meth c H locs cells slots Q (F0 m pc ls (.ref (b 0) :: rest)) :=
  r_get M hW 0 (k := 1) rfl rfl kin_3 (by decide) hl rfl hd kk
theorem gt_Leg_0_2 (M : Mx G p s m args meth c cc nL ret own) (hW : Wd G s (LegW G b g ++ Y) H locs) {index : Nat} (hl : Cond.fieldLink own index "GrainLeg$Leg" "grain" "LGrainLeg$Grain;" ∈ tblG) (hd : decode cc pc = .ok (.getfield index, 3)) (kk : W p l e R s m args below meth c H locs cells slots Q (F0 m (pc + 3) ls (.ref (b 4) :: rest))) : W p l e R s m args below meth c H locs cells slots Q (F0 m pc ls (.ref (b 0) :: rest)) :=
  r_get M hW 0 (k := 2) rfl rfl kin_3 (by decide) hl rfl hd kk
theorem gt_Leg_0_3 (M : Mx G p s m args meth c cc nL ret own) (hW : Wd G s (LegW G b g ++ Y) H locs) {index : Nat} (hl : Cond.fieldLink own index "GrainLeg$Leg" "trips" "LGrainLeg$Trips;" ∈ tblG) (hd : decode cc pc = .ok (.getfield index, 3)) (kk : W p l e R s m args below meth c H locs cells slots Q (F0 m (pc + 3) ls (.ref (b 5) :: rest))) : W p l e R s m args below meth c H locs cells slots Q (F0 m pc ls (.ref (b 0) :: rest)) :=
  r_get M hW 0 (k := 3) rfl rfl kin_3 (by decide) hl rfl hd kk
theorem gt_Leg_0_4 (M : Mx G p s m args meth c cc nL ret own) (hW : Wd G s (LegW G b g ++ Y) H locs) {index : Nat} (hl : Cond.fieldLink own index "GrainLeg$Leg" "tooLong" "[I" ∈ tblG) (hd : decode cc pc = .ok (.getfield index, 3)) (kk : W p l e R s m args below meth c H locs cells slots Q (F0 m (pc + 3) ls (.ref (b 9) :: rest))) : W p l e R s m args below meth c H locs cells slots Q (F0 m pc ls (.ref (b 0) :: rest)) :=
  r_get M hW 0 (k := 4) rfl rfl kin_3 (by decide) hl rfl hd kk
theorem gt_Leg_0_5 (M : Mx G p s m args meth c cc nL ret own) (hW : Wd G s (LegW G b g ++ Y) H locs) {index : Nat} (hl : Cond.fieldLink own index "GrainLeg$Leg" "tripsOf" "[I" ∈ tblG) (hd : decode cc pc = .ok (.getfield index, 3)) (kk : W p l e R s m args below meth c H locs cells slots Q (F0 m (pc + 3) ls (.ref (b 10) :: rest))) : W p l e R s m args below meth c H locs cells slots Q (F0 m pc ls (.ref (b 0) :: rest)) :=
  r_get M hW 0 (k := 5) rfl rfl kin_3 (by decide) hl rfl hd kk
theorem gt_Leg_0_6 (M : Mx G p s m args meth c cc nL ret own) (hW : Wd G s (LegW G b g ++ Y) H locs) {index : Nat} (hl : Cond.fieldLink own index "GrainLeg$Leg" "runs" "Z" ∈ tblG) {x : Int32} (hx : g 0 6 = x) (hd : decode cc pc = .ok (.getfield index, 3)) (kk : W p l e R s m args below meth c H locs cells slots Q (F0 m (pc + 3) ls (.int x :: rest))) : W p l e R s m args below meth c H locs cells slots Q (F0 m pc ls (.ref (b 0) :: rest)) :=
  r_get M hW 0 (k := 6) (v := .int x) rfl rfl kin_3 (by decide) hl (by subst hx; rfl) hd kk
theorem pt_Leg_0_6 (M : Mx G p s m args meth c cc nL ret own) (hW : Wd G s (LegW G b g ++ Y) H locs) {index : Nat} (hl : Cond.fieldLink own index "GrainLeg$Leg" "runs" "Z" ∈ tblG) {x : Int32} (hz : x = 0 ∨ x = 1) (hd : decode cc pc = .ok (.putfield index, 3)) (kk : ∀ (H1 : Heap) (locs1 : List Loc), Wd G s (LegW G b (up2 g 0 6 x) ++ Y) H1 locs1 → W p l e R s m args below meth c H1 locs1 cells slots Q (F0 m (pc + 3) ls rest)) : W p l e R s m args below meth c H locs cells slots Q (F0 m pc ls (.int x :: .ref (b 0) :: rest)) :=
  r_put M hW 0 (k := 6) rfl rfl kin_3 tyX3_ok nmX3 (by decide) hl rfl pfZ (nar_z hz) (fit_z hz) (Nat.le_of_ble_eq_true rfl) (LegW G b (up2 g 0 6 x) ++ Y) rfl hd kk
theorem gt_Leg_0_7 (M : Mx G p s m args meth c cc nL ret own) (hW : Wd G s (LegW G b g ++ Y) H locs) {index : Nat} (hl : Cond.fieldLink own index "GrainLeg$Leg" "gateOpen" "Z" ∈ tblG) {x : Int32} (hx : g 0 7 = x) (hd : decode cc pc = .ok (.getfield index, 3)) (kk : W p l e R s m args below meth c H locs cells slots Q (F0 m (pc + 3) ls (.int x :: rest))) : W p l e R s m args below meth c H locs cells slots Q (F0 m pc ls (.ref (b 0) :: rest)) :=
  r_get M hW 0 (k := 7) (v := .int x) rfl rfl kin_3 (by decide) hl (by subst hx; rfl) hd kk
theorem pt_Leg_0_7 (M : Mx G p s m args meth c cc nL ret own) (hW : Wd G s (LegW G b g ++ Y) H locs) {index : Nat} (hl : Cond.fieldLink own index "GrainLeg$Leg" "gateOpen" "Z" ∈ tblG) {x : Int32} (hz : x = 0 ∨ x = 1) (hd : decode cc pc = .ok (.putfield index, 3)) (kk : ∀ (H1 : Heap) (locs1 : List Loc), Wd G s (LegW G b (up2 g 0 7 x) ++ Y) H1 locs1 → W p l e R s m args below meth c H1 locs1 cells slots Q (F0 m (pc + 3) ls rest)) : W p l e R s m args below meth c H locs cells slots Q (F0 m pc ls (.int x :: .ref (b 0) :: rest)) :=
  r_put M hW 0 (k := 7) rfl rfl kin_3 tyX3_ok nmX3 (by decide) hl rfl pfZ (nar_z hz) (fit_z hz) (Nat.le_of_ble_eq_true rfl) (LegW G b (up2 g 0 7 x) ++ Y) rfl hd kk
theorem gt_Leg_0_8 (M : Mx G p s m args meth c cc nL ret own) (hW : Wd G s (LegW G b g ++ Y) H locs) {index : Nat} (hl : Cond.fieldLink own index "GrainLeg$Leg" "slip" "I" ∈ tblG) {x : Int32} (hx : g 0 8 = x) (hd : decode cc pc = .ok (.getfield index, 3)) (kk : W p l e R s m args below meth c H locs cells slots Q (F0 m (pc + 3) ls (.int x :: rest))) : W p l e R s m args below meth c H locs cells slots Q (F0 m pc ls (.ref (b 0) :: rest)) :=
  r_get M hW 0 (k := 8) (v := .int x) rfl rfl kin_3 (by decide) hl (by subst hx; rfl) hd kk
theorem pt_Leg_0_8 (M : Mx G p s m args meth c cc nL ret own) (hW : Wd G s (LegW G b g ++ Y) H locs) {index : Nat} (hl : Cond.fieldLink own index "GrainLeg$Leg" "slip" "I" ∈ tblG) {x : Int32} (hd : decode cc pc = .ok (.putfield index, 3)) (kk : ∀ (H1 : Heap) (locs1 : List Loc), Wd G s (LegW G b (up2 g 0 8 x) ++ Y) H1 locs1 → W p l e R s m args below meth c H1 locs1 cells slots Q (F0 m (pc + 3) ls rest)) : W p l e R s m args below meth c H locs cells slots Q (F0 m pc ls (.int x :: .ref (b 0) :: rest)) :=
  r_put M hW 0 (k := 8) rfl rfl kin_3 tyX3_ok nmX3 (by decide) hl rfl pfI rfl rfl (Nat.le_of_ble_eq_true rfl) (LegW G b (up2 g 0 8 x) ++ Y) rfl hd kk
theorem gt_Leg_0_9 (M : Mx G p s m args meth c cc nL ret own) (hW : Wd G s (LegW G b g ++ Y) H locs) {index : Nat} (hl : Cond.fieldLink own index "GrainLeg$Leg" "cells" "I" ∈ tblG) {x : Int32} (hx : g 0 9 = x) (hd : decode cc pc = .ok (.getfield index, 3)) (kk : W p l e R s m args below meth c H locs cells slots Q (F0 m (pc + 3) ls (.int x :: rest))) : W p l e R s m args below meth c H locs cells slots Q (F0 m pc ls (.ref (b 0) :: rest)) :=
  r_get M hW 0 (k := 9) (v := .int x) rfl rfl kin_3 (by decide) hl (by subst hx; rfl) hd kk
theorem pt_Leg_0_9 (M : Mx G p s m args meth c cc nL ret own) (hW : Wd G s (LegW G b g ++ Y) H locs) {index : Nat} (hl : Cond.fieldLink own index "GrainLeg$Leg" "cells" "I" ∈ tblG) {x : Int32} (hd : decode cc pc = .ok (.putfield index, 3)) (kk : ∀ (H1 : Heap) (locs1 : List Loc), Wd G s (LegW G b (up2 g 0 9 x) ++ Y) H1 locs1 → W p l e R s m args below meth c H1 locs1 cells slots Q (F0 m (pc + 3) ls rest)) : W p l e R s m args below meth c H locs cells slots Q (F0 m pc ls (.int x :: .ref (b 0) :: rest)) :=
  r_put M hW 0 (k := 9) rfl rfl kin_3 tyX3_ok nmX3 (by decide) hl rfl pfI rfl rfl (Nat.le_of_ble_eq_true rfl) (LegW G b (up2 g 0 9 x) ++ Y) rfl hd kk
theorem gt_Leg_0_10 (M : Mx G p s m args meth c cc nL ret own) (hW : Wd G s (LegW G b g ++ Y) H locs) {index : Nat} (hl : Cond.fieldLink own index "GrainLeg$Leg" "warmth" "I" ∈ tblG) {x : Int32} (hx : g 0 10 = x) (hd : decode cc pc = .ok (.getfield index, 3)) (kk : W p l e R s m args below meth c H locs cells slots Q (F0 m (pc + 3) ls (.int x :: rest))) : W p l e R s m args below meth c H locs cells slots Q (F0 m pc ls (.ref (b 0) :: rest)) :=
  r_get M hW 0 (k := 10) (v := .int x) rfl rfl kin_3 (by decide) hl (by subst hx; rfl) hd kk
theorem pt_Leg_0_10 (M : Mx G p s m args meth c cc nL ret own) (hW : Wd G s (LegW G b g ++ Y) H locs) {index : Nat} (hl : Cond.fieldLink own index "GrainLeg$Leg" "warmth" "I" ∈ tblG) {x : Int32} (hd : decode cc pc = .ok (.putfield index, 3)) (kk : ∀ (H1 : Heap) (locs1 : List Loc), Wd G s (LegW G b (up2 g 0 10 x) ++ Y) H1 locs1 → W p l e R s m args below meth c H1 locs1 cells slots Q (F0 m (pc + 3) ls rest)) : W p l e R s m args below meth c H locs cells slots Q (F0 m pc ls (.int x :: .ref (b 0) :: rest)) :=
  r_put M hW 0 (k := 10) rfl rfl kin_3 tyX3_ok nmX3 (by decide) hl rfl pfI rfl rfl (Nat.le_of_ble_eq_true rfl) (LegW G b (up2 g 0 10 x) ++ Y) rfl hd kk
theorem gt_Leg_0_11 (M : Mx G p s m args meth c cc nL ret own) (hW : Wd G s (LegW G b g ++ Y) H locs) {index : Nat} (hl : Cond.fieldLink own index "GrainLeg$Leg" "reason" "I" ∈ tblG) {x : Int32} (hx : g 0 11 = x) (hd : decode cc pc = .ok (.getfield index, 3)) (kk : W p l e R s m args below meth c H locs cells slots Q (F0 m (pc + 3) ls (.int x :: rest))) : W p l e R s m args below meth c H locs cells slots Q (F0 m pc ls (.ref (b 0) :: rest)) :=
  r_get M hW 0 (k := 11) (v := .int x) rfl rfl kin_3 (by decide) hl (by subst hx; rfl) hd kk
theorem pt_Leg_0_11 (M : Mx G p s m args meth c cc nL ret own) (hW : Wd G s (LegW G b g ++ Y) H locs) {index : Nat} (hl : Cond.fieldLink own index "GrainLeg$Leg" "reason" "I" ∈ tblG) {x : Int32} (hd : decode cc pc = .ok (.putfield index, 3)) (kk : ∀ (H1 : Heap) (locs1 : List Loc), Wd G s (LegW G b (up2 g 0 11 x) ++ Y) H1 locs1 → W p l e R s m args below meth c H1 locs1 cells slots Q (F0 m (pc + 3) ls rest)) : W p l e R s m args below meth c H locs cells slots Q (F0 m pc ls (.int x :: .ref (b 0) :: rest)) :=
  r_put M hW 0 (k := 11) rfl rfl kin_3 tyX3_ok nmX3 (by decide) hl rfl pfI rfl rfl (Nat.le_of_ble_eq_true rfl) (LegW G b (up2 g 0 11 x) ++ Y) rfl hd kk
theorem gt_Leg_0_12 (M : Mx G p s m args meth c cc nL ret own) (hW : Wd G s (LegW G b g ++ Y) H locs) {index : Nat} (hl : Cond.fieldLink own index "GrainLeg$Leg" "ticks" "I" ∈ tblG) {x : Int32} (hx : g 0 12 = x) (hd : decode cc pc = .ok (.getfield index, 3)) (kk : W p l e R s m args below meth c H locs cells slots Q (F0 m (pc + 3) ls (.int x :: rest))) : W p l e R s m args below meth c H locs cells slots Q (F0 m pc ls (.ref (b 0) :: rest)) :=
  r_get M hW 0 (k := 12) (v := .int x) rfl rfl kin_3 (by decide) hl (by subst hx; rfl) hd kk
theorem pt_Leg_0_12 (M : Mx G p s m args meth c cc nL ret own) (hW : Wd G s (LegW G b g ++ Y) H locs) {index : Nat} (hl : Cond.fieldLink own index "GrainLeg$Leg" "ticks" "I" ∈ tblG) {x : Int32} (hd : decode cc pc = .ok (.putfield index, 3)) (kk : ∀ (H1 : Heap) (locs1 : List Loc), Wd G s (LegW G b (up2 g 0 12 x) ++ Y) H1 locs1 → W p l e R s m args below meth c H1 locs1 cells slots Q (F0 m (pc + 3) ls rest)) : W p l e R s m args below meth c H locs cells slots Q (F0 m pc ls (.int x :: .ref (b 0) :: rest)) :=
  r_put M hW 0 (k := 12) rfl rfl kin_3 tyX3_ok nmX3 (by decide) hl rfl pfI rfl rfl (Nat.le_of_ble_eq_true rfl) (LegW G b (up2 g 0 12 x) ++ Y) rfl hd kk
theorem al_Leg_1 (M : Mx G p s m args meth c cc nL ret own) (hW : Wd G s (LegW G b g ++ Y) H locs) {i : Int32} (k : Nat) (hi : i = nI k) (hk : k < 5) {x : Int32} (hx : g 1 k = x) (hd : decode cc pc = .ok (.iaload, 1)) (kk : W p l e R s m args below meth c H locs cells slots Q (F0 m (pc + 1) ls (.int x :: rest))) : W p l e R s m args below meth c H locs cells slots Q (F0 m pc ls (.int i :: .ref (b 1) :: rest)) :=
  r_iald M hW 1 rfl k hi hk (by decide) hx hd kk
theorem as_Leg_1 (M : Mx G p s m args meth c cc nL ret own) (hW : Wd G s (LegW G b g ++ Y) H locs) {i x : Int32} (k : Nat) (hi : i = nI k) (hk : k < 5) (hd : decode cc pc = .ok (.iastore, 1)) (kk : ∀ (H1 : Heap) (locs1 : List Loc), Wd G s (LegW G b (up2 g 1 k x) ++ Y) H1 locs1 → W p l e R s m args below meth c H1 locs1 cells slots Q (F0 m (pc + 1) ls rest)) : W p l e R s m args below meth c H locs cells slots Q (F0 m pc ls (.int x :: .int i :: .ref (b 1) :: rest)) :=
  r_iast M hW 1 rfl k hi hk (by decide) (LegW G b (up2 g 1 k x) ++ Y) rfl hd kk
theorem gt_Leg_2_0 (M : Mx G p s m args meth c cc nL ret own) (hW : Wd G s (LegW G b g ++ Y) H locs) {index : Nat} (hl : Cond.fieldLink own index "GrainLeg$Belt" "row" "[I" ∈ tblG) (hd : decode cc pc = .ok (.getfield index, 3)) (kk : W p l e R s m args below meth c H locs cells slots Q (F0 m (pc + 3) ls (.ref (b 3) :: rest))) : W p l e R s m args below meth c H locs cells slots Q (F0 m pc ls (.ref (b 2) :: rest)) :=
  r_get M hW 2 (k := 0) rfl rfl kin_0 (by decide) hl rfl hd kk
theorem gt_Leg_2_1 (M : Mx G p s m args meth c cc nL ret own) (hW : Wd G s (LegW G b g ++ Y) H locs) {index : Nat} (hl : Cond.fieldLink own index "GrainLeg$Belt" "inBoot" "I" ∈ tblG) {x : Int32} (hx : g 2 1 = x) (hd : decode cc pc = .ok (.getfield index, 3)) (kk : W p l e R s m args below meth c H locs cells slots Q (F0 m (pc + 3) ls (.int x :: rest))) : W p l e R s m args below meth c H locs cells slots Q (F0 m pc ls (.ref (b 2) :: rest)) :=
  r_get M hW 2 (k := 1) (v := .int x) rfl rfl kin_0 (by decide) hl (by subst hx; rfl) hd kk
theorem pt_Leg_2_1 (M : Mx G p s m args meth c cc nL ret own) (hW : Wd G s (LegW G b g ++ Y) H locs) {index : Nat} (hl : Cond.fieldLink own index "GrainLeg$Belt" "inBoot" "I" ∈ tblG) {x : Int32} (hd : decode cc pc = .ok (.putfield index, 3)) (kk : ∀ (H1 : Heap) (locs1 : List Loc), Wd G s (LegW G b (up2 g 2 1 x) ++ Y) H1 locs1 → W p l e R s m args below meth c H1 locs1 cells slots Q (F0 m (pc + 3) ls rest)) : W p l e R s m args below meth c H locs cells slots Q (F0 m pc ls (.int x :: .ref (b 2) :: rest)) :=
  r_put M hW 2 (k := 1) rfl rfl kin_0 tyX0_ok nmX0 (by decide) hl rfl pfI rfl rfl (Nat.le_of_ble_eq_true rfl) (LegW G b (up2 g 2 1 x) ++ Y) rfl hd kk
theorem al_Leg_3 (M : Mx G p s m args meth c cc nL ret own) (hW : Wd G s (LegW G b g ++ Y) H locs) {i : Int32} (k : Nat) (hi : i = nI k) (hk : k < 12) {x : Int32} (hx : g 3 k = x) (hd : decode cc pc = .ok (.iaload, 1)) (kk : W p l e R s m args below meth c H locs cells slots Q (F0 m (pc + 1) ls (.int x :: rest))) : W p l e R s m args below meth c H locs cells slots Q (F0 m pc ls (.int i :: .ref (b 3) :: rest)) :=
  r_iald M hW 3 rfl k hi hk (by decide) hx hd kk
theorem as_Leg_3 (M : Mx G p s m args meth c cc nL ret own) (hW : Wd G s (LegW G b g ++ Y) H locs) {i x : Int32} (k : Nat) (hi : i = nI k) (hk : k < 12) (hd : decode cc pc = .ok (.iastore, 1)) (kk : ∀ (H1 : Heap) (locs1 : List Loc), Wd G s (LegW G b (up2 g 3 k x) ++ Y) H1 locs1 → W p l e R s m args below meth c H1 locs1 cells slots Q (F0 m (pc + 1) ls rest)) : W p l e R s m args below meth c H locs cells slots Q (F0 m pc ls (.int x :: .int i :: .ref (b 3) :: rest)) :=
  r_iast M hW 3 rfl k hi hk (by decide) (LegW G b (up2 g 3 k x) ++ Y) rfl hd kk
theorem gt_Leg_4_0 (M : Mx G p s m args meth c cc nL ret own) (hW : Wd G s (LegW G b g ++ Y) H locs) {index : Nat} (hl : Cond.fieldLink own index "GrainLeg$Grain" "boot" "I" ∈ tblG) {x : Int32} (hx : g 4 0 = x) (hd : decode cc pc = .ok (.getfield index, 3)) (kk : W p l e R s m args below meth c H locs cells slots Q (F0 m (pc + 3) ls (.int x :: rest))) : W p l e R s m args below meth c H locs cells slots Q (F0 m pc ls (.ref (b 4) :: rest)) :=
  r_get M hW 4 (k := 0) (v := .int x) rfl rfl kin_1 (by decide) hl (by subst hx; rfl) hd kk
theorem pt_Leg_4_0 (M : Mx G p s m args meth c cc nL ret own) (hW : Wd G s (LegW G b g ++ Y) H locs) {index : Nat} (hl : Cond.fieldLink own index "GrainLeg$Grain" "boot" "I" ∈ tblG) {x : Int32} (hd : decode cc pc = .ok (.putfield index, 3)) (kk : ∀ (H1 : Heap) (locs1 : List Loc), Wd G s (LegW G b (up2 g 4 0 x) ++ Y) H1 locs1 → W p l e R s m args below meth c H1 locs1 cells slots Q (F0 m (pc + 3) ls rest)) : W p l e R s m args below meth c H locs cells slots Q (F0 m pc ls (.int x :: .ref (b 4) :: rest)) :=
  r_put M hW 4 (k := 0) rfl rfl kin_1 tyX1_ok nmX1 (by decide) hl rfl pfI rfl rfl (Nat.le_of_ble_eq_true rfl) (LegW G b (up2 g 4 0 x) ++ Y) rfl hd kk
theorem gt_Leg_4_1 (M : Mx G p s m args meth c cc nL ret own) (hW : Wd G s (LegW G b g ++ Y) H locs) {index : Nat} (hl : Cond.fieldLink own index "GrainLeg$Grain" "given" "I" ∈ tblG) {x : Int32} (hx : g 4 1 = x) (hd : decode cc pc = .ok (.getfield index, 3)) (kk : W p l e R s m args below meth c H locs cells slots Q (F0 m (pc + 3) ls (.int x :: rest))) : W p l e R s m args below meth c H locs cells slots Q (F0 m pc ls (.ref (b 4) :: rest)) :=
  r_get M hW 4 (k := 1) (v := .int x) rfl rfl kin_1 (by decide) hl (by subst hx; rfl) hd kk
theorem pt_Leg_4_1 (M : Mx G p s m args meth c cc nL ret own) (hW : Wd G s (LegW G b g ++ Y) H locs) {index : Nat} (hl : Cond.fieldLink own index "GrainLeg$Grain" "given" "I" ∈ tblG) {x : Int32} (hd : decode cc pc = .ok (.putfield index, 3)) (kk : ∀ (H1 : Heap) (locs1 : List Loc), Wd G s (LegW G b (up2 g 4 1 x) ++ Y) H1 locs1 → W p l e R s m args below meth c H1 locs1 cells slots Q (F0 m (pc + 3) ls rest)) : W p l e R s m args below meth c H locs cells slots Q (F0 m pc ls (.int x :: .ref (b 4) :: rest)) :=
  r_put M hW 4 (k := 1) rfl rfl kin_1 tyX1_ok nmX1 (by decide) hl rfl pfI rfl rfl (Nat.le_of_ble_eq_true rfl) (LegW G b (up2 g 4 1 x) ++ Y) rfl hd kk
theorem gt_Leg_4_2 (M : Mx G p s m args meth c cc nL ret own) (hW : Wd G s (LegW G b g ++ Y) H locs) {index : Nat} (hl : Cond.fieldLink own index "GrainLeg$Grain" "spilt" "I" ∈ tblG) {x : Int32} (hx : g 4 2 = x) (hd : decode cc pc = .ok (.getfield index, 3)) (kk : W p l e R s m args below meth c H locs cells slots Q (F0 m (pc + 3) ls (.int x :: rest))) : W p l e R s m args below meth c H locs cells slots Q (F0 m pc ls (.ref (b 4) :: rest)) :=
  r_get M hW 4 (k := 2) (v := .int x) rfl rfl kin_1 (by decide) hl (by subst hx; rfl) hd kk
theorem pt_Leg_4_2 (M : Mx G p s m args meth c cc nL ret own) (hW : Wd G s (LegW G b g ++ Y) H locs) {index : Nat} (hl : Cond.fieldLink own index "GrainLeg$Grain" "spilt" "I" ∈ tblG) {x : Int32} (hd : decode cc pc = .ok (.putfield index, 3)) (kk : ∀ (H1 : Heap) (locs1 : List Loc), Wd G s (LegW G b (up2 g 4 2 x) ++ Y) H1 locs1 → W p l e R s m args below meth c H1 locs1 cells slots Q (F0 m (pc + 3) ls rest)) : W p l e R s m args below meth c H locs cells slots Q (F0 m pc ls (.int x :: .ref (b 4) :: rest)) :=
  r_put M hW 4 (k := 2) rfl rfl kin_1 tyX1_ok nmX1 (by decide) hl rfl pfI rfl rfl (Nat.le_of_ble_eq_true rfl) (LegW G b (up2 g 4 2 x) ++ Y) rfl hd kk
theorem gt_Leg_4_3 (M : Mx G p s m args meth c cc nL ret own) (hW : Wd G s (LegW G b g ++ Y) H locs) {index : Nat} (hl : Cond.fieldLink own index "GrainLeg$Grain" "fed" "I" ∈ tblG) {x : Int32} (hx : g 4 3 = x) (hd : decode cc pc = .ok (.getfield index, 3)) (kk : W p l e R s m args below meth c H locs cells slots Q (F0 m (pc + 3) ls (.int x :: rest))) : W p l e R s m args below meth c H locs cells slots Q (F0 m pc ls (.ref (b 4) :: rest)) :=
  r_get M hW 4 (k := 3) (v := .int x) rfl rfl kin_1 (by decide) hl (by subst hx; rfl) hd kk
theorem pt_Leg_4_3 (M : Mx G p s m args meth c cc nL ret own) (hW : Wd G s (LegW G b g ++ Y) H locs) {index : Nat} (hl : Cond.fieldLink own index "GrainLeg$Grain" "fed" "I" ∈ tblG) {x : Int32} (hd : decode cc pc = .ok (.putfield index, 3)) (kk : ∀ (H1 : Heap) (locs1 : List Loc), Wd G s (LegW G b (up2 g 4 3 x) ++ Y) H1 locs1 → W p l e R s m args below meth c H1 locs1 cells slots Q (F0 m (pc + 3) ls rest)) : W p l e R s m args below meth c H locs cells slots Q (F0 m pc ls (.int x :: .ref (b 4) :: rest)) :=
  r_put M hW 4 (k := 3) rfl rfl kin_1 tyX1_ok nmX1 (by decide) hl rfl pfI rfl rfl (Nat.le_of_ble_eq_true rfl) (LegW G b (up2 g 4 3 x) ++ Y) rfl hd kk
theorem gt_Leg_4_4 (M : Mx G p s m args meth c cc nL ret own) (hW : Wd G s (LegW G b g ++ Y) H locs) {index : Nat} (hl : Cond.fieldLink own index "GrainLeg$Grain" "takenByHand" "I" ∈ tblG) {x : Int32} (hx : g 4 4 = x) (hd : decode cc pc = .ok (.getfield index, 3)) (kk : W p l e R s m args below meth c H locs cells slots Q (F0 m (pc + 3) ls (.int x :: rest))) : W p l e R s m args below meth c H locs cells slots Q (F0 m pc ls (.ref (b 4) :: rest)) :=
  r_get M hW 4 (k := 4) (v := .int x) rfl rfl kin_1 (by decide) hl (by subst hx; rfl) hd kk
theorem pt_Leg_4_4 (M : Mx G p s m args meth c cc nL ret own) (hW : Wd G s (LegW G b g ++ Y) H locs) {index : Nat} (hl : Cond.fieldLink own index "GrainLeg$Grain" "takenByHand" "I" ∈ tblG) {x : Int32} (hd : decode cc pc = .ok (.putfield index, 3)) (kk : ∀ (H1 : Heap) (locs1 : List Loc), Wd G s (LegW G b (up2 g 4 4 x) ++ Y) H1 locs1 → W p l e R s m args below meth c H1 locs1 cells slots Q (F0 m (pc + 3) ls rest)) : W p l e R s m args below meth c H locs cells slots Q (F0 m pc ls (.int x :: .ref (b 4) :: rest)) :=
  r_put M hW 4 (k := 4) rfl rfl kin_1 tyX1_ok nmX1 (by decide) hl rfl pfI rfl rfl (Nat.le_of_ble_eq_true rfl) (LegW G b (up2 g 4 4 x) ++ Y) rfl hd kk
theorem gt_Leg_4_5 (M : Mx G p s m args meth c cc nL ret own) (hW : Wd G s (LegW G b g ++ Y) H locs) {index : Nat} (hl : Cond.fieldLink own index "GrainLeg$Grain" "fallenBack" "I" ∈ tblG) {x : Int32} (hx : g 4 5 = x) (hd : decode cc pc = .ok (.getfield index, 3)) (kk : W p l e R s m args below meth c H locs cells slots Q (F0 m (pc + 3) ls (.int x :: rest))) : W p l e R s m args below meth c H locs cells slots Q (F0 m pc ls (.ref (b 4) :: rest)) :=
  r_get M hW 4 (k := 5) (v := .int x) rfl rfl kin_1 (by decide) hl (by subst hx; rfl) hd kk
theorem pt_Leg_4_5 (M : Mx G p s m args meth c cc nL ret own) (hW : Wd G s (LegW G b g ++ Y) H locs) {index : Nat} (hl : Cond.fieldLink own index "GrainLeg$Grain" "fallenBack" "I" ∈ tblG) {x : Int32} (hd : decode cc pc = .ok (.putfield index, 3)) (kk : ∀ (H1 : Heap) (locs1 : List Loc), Wd G s (LegW G b (up2 g 4 5 x) ++ Y) H1 locs1 → W p l e R s m args below meth c H1 locs1 cells slots Q (F0 m (pc + 3) ls rest)) : W p l e R s m args below meth c H locs cells slots Q (F0 m pc ls (.int x :: .ref (b 4) :: rest)) :=
  r_put M hW 4 (k := 5) rfl rfl kin_1 tyX1_ok nmX1 (by decide) hl rfl pfI rfl rfl (Nat.le_of_ble_eq_true rfl) (LegW G b (up2 g 4 5 x) ++ Y) rfl hd kk
theorem gt_Leg_5_0 (M : Mx G p s m args meth c cc nL ret own) (hW : Wd G s (LegW G b g ++ Y) H locs) {index : Nat} (hl : Cond.fieldLink own index "GrainLeg$Trips" "ticks" "[I" ∈ tblG) (hd : decode cc pc = .ok (.getfield index, 3)) (kk : W p l e R s m args below meth c H locs cells slots Q (F0 m (pc + 3) ls (.ref (b 6) :: rest))) : W p l e R s m args below meth c H locs cells slots Q (F0 m pc ls (.ref (b 5) :: rest)) :=
  r_get M hW 5 (k := 0) rfl rfl kin_5 (by decide) hl rfl hd kk
theorem gt_Leg_5_1 (M : Mx G p s m args meth c cc nL ret own) (hW : Wd G s (LegW G b g ++ Y) H locs) {index : Nat} (hl : Cond.fieldLink own index "GrainLeg$Trips" "sensors" "[I" ∈ tblG) (hd : decode cc pc = .ok (.getfield index, 3)) (kk : W p l e R s m args below meth c H locs cells slots Q (F0 m (pc + 3) ls (.ref (b 7) :: rest))) : W p l e R s m args below meth c H locs cells slots Q (F0 m pc ls (.ref (b 5) :: rest)) :=
  r_get M hW 5 (k := 1) rfl rfl kin_5 (by decide) hl rfl hd kk
theorem gt_Leg_5_2 (M : Mx G p s m args meth c cc nL ret own) (hW : Wd G s (LegW G b g ++ Y) H locs) {index : Nat} (hl : Cond.fieldLink own index "GrainLeg$Trips" "loads" "[I" ∈ tblG) (hd : decode cc pc = .ok (.getfield index, 3)) (kk : W p l e R s m args below meth c H locs cells slots Q (F0 m (pc + 3) ls (.ref (b 8) :: rest))) : W p l e R s m args below meth c H locs cells slots Q (F0 m pc ls (.ref (b 5) :: rest)) :=
  r_get M hW 5 (k := 2) rfl rfl kin_5 (by decide) hl rfl hd kk
theorem gt_Leg_5_3 (M : Mx G p s m args meth c cc nL ret own) (hW : Wd G s (LegW G b g ++ Y) H locs) {index : Nat} (hl : Cond.fieldLink own index "GrainLeg$Trips" "size" "I" ∈ tblG) {x : Int32} (hx : g 5 3 = x) (hd : decode cc pc = .ok (.getfield index, 3)) (kk : W p l e R s m args below meth c H locs cells slots Q (F0 m (pc + 3) ls (.int x :: rest))) : W p l e R s m args below meth c H locs cells slots Q (F0 m pc ls (.ref (b 5) :: rest)) :=
  r_get M hW 5 (k := 3) (v := .int x) rfl rfl kin_5 (by decide) hl (by subst hx; rfl) hd kk
theorem pt_Leg_5_3 (M : Mx G p s m args meth c cc nL ret own) (hW : Wd G s (LegW G b g ++ Y) H locs) {index : Nat} (hl : Cond.fieldLink own index "GrainLeg$Trips" "size" "I" ∈ tblG) {x : Int32} (hd : decode cc pc = .ok (.putfield index, 3)) (kk : ∀ (H1 : Heap) (locs1 : List Loc), Wd G s (LegW G b (up2 g 5 3 x) ++ Y) H1 locs1 → W p l e R s m args below meth c H1 locs1 cells slots Q (F0 m (pc + 3) ls rest)) : W p l e R s m args below meth c H locs cells slots Q (F0 m pc ls (.int x :: .ref (b 5) :: rest)) :=
  r_put M hW 5 (k := 3) rfl rfl kin_5 tyX5_ok nmX5 (by decide) hl rfl pfI rfl rfl (Nat.le_of_ble_eq_true rfl) (LegW G b (up2 g 5 3 x) ++ Y) rfl hd kk
theorem al_Leg_6 (M : Mx G p s m args meth c cc nL ret own) (hW : Wd G s (LegW G b g ++ Y) H locs) {i : Int32} (k : Nat) (hi : i = nI k) (hk : k < 6) {x : Int32} (hx : g 6 k = x) (hd : decode cc pc = .ok (.iaload, 1)) (kk : W p l e R s m args below meth c H locs cells slots Q (F0 m (pc + 1) ls (.int x :: rest))) : W p l e R s m args below meth c H locs cells slots Q (F0 m pc ls (.int i :: .ref (b 6) :: rest)) :=
  r_iald M hW 6 rfl k hi hk (by decide) hx hd kk
theorem as_Leg_6 (M : Mx G p s m args meth c cc nL ret own) (hW : Wd G s (LegW G b g ++ Y) H locs) {i x : Int32} (k : Nat) (hi : i = nI k) (hk : k < 6) (hd : decode cc pc = .ok (.iastore, 1)) (kk : ∀ (H1 : Heap) (locs1 : List Loc), Wd G s (LegW G b (up2 g 6 k x) ++ Y) H1 locs1 → W p l e R s m args below meth c H1 locs1 cells slots Q (F0 m (pc + 1) ls rest)) : W p l e R s m args below meth c H locs cells slots Q (F0 m pc ls (.int x :: .int i :: .ref (b 6) :: rest)) :=
  r_iast M hW 6 rfl k hi hk (by decide) (LegW G b (up2 g 6 k x) ++ Y) rfl hd kk
theorem al_Leg_7 (M : Mx G p s m args meth c cc nL ret own) (hW : Wd G s (LegW G b g ++ Y) H locs) {i : Int32} (k : Nat) (hi : i = nI k) (hk : k < 6) {x : Int32} (hx : g 7 k = x) (hd : decode cc pc = .ok (.iaload, 1)) (kk : W p l e R s m args below meth c H locs cells slots Q (F0 m (pc + 1) ls (.int x :: rest))) : W p l e R s m args below meth c H locs cells slots Q (F0 m pc ls (.int i :: .ref (b 7) :: rest)) :=
  r_iald M hW 7 rfl k hi hk (by decide) hx hd kk
theorem as_Leg_7 (M : Mx G p s m args meth c cc nL ret own) (hW : Wd G s (LegW G b g ++ Y) H locs) {i x : Int32} (k : Nat) (hi : i = nI k) (hk : k < 6) (hd : decode cc pc = .ok (.iastore, 1)) (kk : ∀ (H1 : Heap) (locs1 : List Loc), Wd G s (LegW G b (up2 g 7 k x) ++ Y) H1 locs1 → W p l e R s m args below meth c H1 locs1 cells slots Q (F0 m (pc + 1) ls rest)) : W p l e R s m args below meth c H locs cells slots Q (F0 m pc ls (.int x :: .int i :: .ref (b 7) :: rest)) :=
  r_iast M hW 7 rfl k hi hk (by decide) (LegW G b (up2 g 7 k x) ++ Y) rfl hd kk
theorem al_Leg_8 (M : Mx G p s m args meth c cc nL ret own) (hW : Wd G s (LegW G b g ++ Y) H locs) {i : Int32} (k : Nat) (hi : i = nI k) (hk : k < 6) {x : Int32} (hx : g 8 k = x) (hd : decode cc pc = .ok (.iaload, 1)) (kk : W p l e R s m args below meth c H locs cells slots Q (F0 m (pc + 1) ls (.int x :: rest))) : W p l e R s m args below meth c H locs cells slots Q (F0 m pc ls (.int i :: .ref (b 8) :: rest)) :=
  r_iald M hW 8 rfl k hi hk (by decide) hx hd kk
theorem as_Leg_8 (M : Mx G p s m args meth c cc nL ret own) (hW : Wd G s (LegW G b g ++ Y) H locs) {i x : Int32} (k : Nat) (hi : i = nI k) (hk : k < 6) (hd : decode cc pc = .ok (.iastore, 1)) (kk : ∀ (H1 : Heap) (locs1 : List Loc), Wd G s (LegW G b (up2 g 8 k x) ++ Y) H1 locs1 → W p l e R s m args below meth c H1 locs1 cells slots Q (F0 m (pc + 1) ls rest)) : W p l e R s m args below meth c H locs cells slots Q (F0 m pc ls (.int x :: .int i :: .ref (b 8) :: rest)) :=
  r_iast M hW 8 rfl k hi hk (by decide) (LegW G b (up2 g 8 k x) ++ Y) rfl hd kk
theorem al_Leg_9 (M : Mx G p s m args meth c cc nL ret own) (hW : Wd G s (LegW G b g ++ Y) H locs) {i : Int32} (k : Nat) (hi : i = nI k) (hk : k < 3) {x : Int32} (hx : g 9 k = x) (hd : decode cc pc = .ok (.iaload, 1)) (kk : W p l e R s m args below meth c H locs cells slots Q (F0 m (pc + 1) ls (.int x :: rest))) : W p l e R s m args below meth c H locs cells slots Q (F0 m pc ls (.int i :: .ref (b 9) :: rest)) :=
  r_iald M hW 9 rfl k hi hk (by decide) hx hd kk
theorem as_Leg_9 (M : Mx G p s m args meth c cc nL ret own) (hW : Wd G s (LegW G b g ++ Y) H locs) {i x : Int32} (k : Nat) (hi : i = nI k) (hk : k < 3) (hd : decode cc pc = .ok (.iastore, 1)) (kk : ∀ (H1 : Heap) (locs1 : List Loc), Wd G s (LegW G b (up2 g 9 k x) ++ Y) H1 locs1 → W p l e R s m args below meth c H1 locs1 cells slots Q (F0 m (pc + 1) ls rest)) : W p l e R s m args below meth c H locs cells slots Q (F0 m pc ls (.int x :: .int i :: .ref (b 9) :: rest)) :=
  r_iast M hW 9 rfl k hi hk (by decide) (LegW G b (up2 g 9 k x) ++ Y) rfl hd kk
theorem al_Leg_10 (M : Mx G p s m args meth c cc nL ret own) (hW : Wd G s (LegW G b g ++ Y) H locs) {i : Int32} (k : Nat) (hi : i = nI k) (hk : k < 3) {x : Int32} (hx : g 10 k = x) (hd : decode cc pc = .ok (.iaload, 1)) (kk : W p l e R s m args below meth c H locs cells slots Q (F0 m (pc + 1) ls (.int x :: rest))) : W p l e R s m args below meth c H locs cells slots Q (F0 m pc ls (.int i :: .ref (b 10) :: rest)) :=
  r_iald M hW 10 rfl k hi hk (by decide) hx hd kk
theorem as_Leg_10 (M : Mx G p s m args meth c cc nL ret own) (hW : Wd G s (LegW G b g ++ Y) H locs) {i x : Int32} (k : Nat) (hi : i = nI k) (hk : k < 3) (hd : decode cc pc = .ok (.iastore, 1)) (kk : ∀ (H1 : Heap) (locs1 : List Loc), Wd G s (LegW G b (up2 g 10 k x) ++ Y) H1 locs1 → W p l e R s m args below meth c H1 locs1 cells slots Q (F0 m (pc + 1) ls rest)) : W p l e R s m args below meth c H locs cells slots Q (F0 m pc ls (.int x :: .int i :: .ref (b 10) :: rest)) :=
  r_iast M hW 10 rfl k hi hk (by decide) (LegW G b (up2 g 10 k x) ++ Y) rfl hd kk
theorem gt_Text_0_0 (M : Mx G p s m args meth c cc nL ret own) (hW : Wd G s (TextW G b g ++ Y) H locs) {index : Nat} (hl : Cond.fieldLink own index "GrainLeg$Text" "characters" "[C" ∈ tblG) (hd : decode cc pc = .ok (.getfield index, 3)) (kk : W p l e R s m args below meth c H locs cells slots Q (F0 m (pc + 3) ls (.ref (b 1) :: rest))) : W p l e R s m args below meth c H locs cells slots Q (F0 m pc ls (.ref (b 0) :: rest)) :=
  r_get M hW 0 (k := 0) rfl rfl kin_4 (by decide) hl rfl hd kk
theorem gt_Text_0_1 (M : Mx G p s m args meth c cc nL ret own) (hW : Wd G s (TextW G b g ++ Y) H locs) {index : Nat} (hl : Cond.fieldLink own index "GrainLeg$Text" "length" "I" ∈ tblG) {x : Int32} (hx : g 0 1 = x) (hd : decode cc pc = .ok (.getfield index, 3)) (kk : W p l e R s m args below meth c H locs cells slots Q (F0 m (pc + 3) ls (.int x :: rest))) : W p l e R s m args below meth c H locs cells slots Q (F0 m pc ls (.ref (b 0) :: rest)) :=
  r_get M hW 0 (k := 1) (v := .int x) rfl rfl kin_4 (by decide) hl (by subst hx; rfl) hd kk
theorem pt_Text_0_1 (M : Mx G p s m args meth c cc nL ret own) (hW : Wd G s (TextW G b g ++ Y) H locs) {index : Nat} (hl : Cond.fieldLink own index "GrainLeg$Text" "length" "I" ∈ tblG) {x : Int32} (hd : decode cc pc = .ok (.putfield index, 3)) (kk : ∀ (H1 : Heap) (locs1 : List Loc), Wd G s (TextW G b (up2 g 0 1 x) ++ Y) H1 locs1 → W p l e R s m args below meth c H1 locs1 cells slots Q (F0 m (pc + 3) ls rest)) : W p l e R s m args below meth c H locs cells slots Q (F0 m pc ls (.int x :: .ref (b 0) :: rest)) :=
  r_put M hW 0 (k := 1) rfl rfl kin_4 tyX4_ok nmX4 (by decide) hl rfl pfI rfl rfl (Nat.le_of_ble_eq_true rfl) (TextW G b (up2 g 0 1 x) ++ Y) rfl hd kk
theorem gt_Text_0_2 (M : Mx G p s m args meth c cc nL ret own) (hW : Wd G s (TextW G b g ++ Y) H locs) {index : Nat} (hl : Cond.fieldLink own index "GrainLeg$Text" "letters" "[C" ∈ tblG) (hd : decode cc pc = .ok (.getfield index, 3)) (kk : W p l e R s m args below meth c H locs cells slots Q (F0 m (pc + 3) ls (.ref (b 2) :: rest))) : W p l e R s m args below meth c H locs cells slots Q (F0 m pc ls (.ref (b 0) :: rest)) :=
  r_get M hW 0 (k := 2) rfl rfl kin_4 (by decide) hl rfl hd kk
theorem gt_Text_0_3 (M : Mx G p s m args meth c cc nL ret own) (hW : Wd G s (TextW G b g ++ Y) H locs) {index : Nat} (hl : Cond.fieldLink own index "GrainLeg$Text" "values" "[I" ∈ tblG) (hd : decode cc pc = .ok (.getfield index, 3)) (kk : W p l e R s m args below meth c H locs cells slots Q (F0 m (pc + 3) ls (.ref (b 3) :: rest))) : W p l e R s m args below meth c H locs cells slots Q (F0 m pc ls (.ref (b 0) :: rest)) :=
  r_get M hW 0 (k := 3) rfl rfl kin_4 (by decide) hl rfl hd kk
theorem gt_Text_0_4 (M : Mx G p s m args meth c cc nL ret own) (hW : Wd G s (TextW G b g ++ Y) H locs) {index : Nat} (hl : Cond.fieldLink own index "GrainLeg$Text" "commands" "I" ∈ tblG) {x : Int32} (hx : g 0 4 = x) (hd : decode cc pc = .ok (.getfield index, 3)) (kk : W p l e R s m args below meth c H locs cells slots Q (F0 m (pc + 3) ls (.int x :: rest))) : W p l e R s m args below meth c H locs cells slots Q (F0 m pc ls (.ref (b 0) :: rest)) :=
  r_get M hW 0 (k := 4) (v := .int x) rfl rfl kin_4 (by decide) hl (by subst hx; rfl) hd kk
theorem pt_Text_0_4 (M : Mx G p s m args meth c cc nL ret own) (hW : Wd G s (TextW G b g ++ Y) H locs) {index : Nat} (hl : Cond.fieldLink own index "GrainLeg$Text" "commands" "I" ∈ tblG) {x : Int32} (hd : decode cc pc = .ok (.putfield index, 3)) (kk : ∀ (H1 : Heap) (locs1 : List Loc), Wd G s (TextW G b (up2 g 0 4 x) ++ Y) H1 locs1 → W p l e R s m args below meth c H1 locs1 cells slots Q (F0 m (pc + 3) ls rest)) : W p l e R s m args below meth c H locs cells slots Q (F0 m pc ls (.int x :: .ref (b 0) :: rest)) :=
  r_put M hW 0 (k := 4) rfl rfl kin_4 tyX4_ok nmX4 (by decide) hl rfl pfI rfl rfl (Nat.le_of_ble_eq_true rfl) (TextW G b (up2 g 0 4 x) ++ Y) rfl hd kk
theorem gt_Text_0_5 (M : Mx G p s m args meth c cc nL ret own) (hW : Wd G s (TextW G b g ++ Y) H locs) {index : Nat} (hl : Cond.fieldLink own index "GrainLeg$Text" "reading" "I" ∈ tblG) {x : Int32} (hx : g 0 5 = x) (hd : decode cc pc = .ok (.getfield index, 3)) (kk : W p l e R s m args below meth c H locs cells slots Q (F0 m (pc + 3) ls (.int x :: rest))) : W p l e R s m args below meth c H locs cells slots Q (F0 m pc ls (.ref (b 0) :: rest)) :=
  r_get M hW 0 (k := 5) (v := .int x) rfl rfl kin_4 (by decide) hl (by subst hx; rfl) hd kk
theorem pt_Text_0_5 (M : Mx G p s m args meth c cc nL ret own) (hW : Wd G s (TextW G b g ++ Y) H locs) {index : Nat} (hl : Cond.fieldLink own index "GrainLeg$Text" "reading" "I" ∈ tblG) {x : Int32} (hd : decode cc pc = .ok (.putfield index, 3)) (kk : ∀ (H1 : Heap) (locs1 : List Loc), Wd G s (TextW G b (up2 g 0 5 x) ++ Y) H1 locs1 → W p l e R s m args below meth c H1 locs1 cells slots Q (F0 m (pc + 3) ls rest)) : W p l e R s m args below meth c H locs cells slots Q (F0 m pc ls (.int x :: .ref (b 0) :: rest)) :=
  r_put M hW 0 (k := 5) rfl rfl kin_4 tyX4_ok nmX4 (by decide) hl rfl pfI rfl rfl (Nat.le_of_ble_eq_true rfl) (TextW G b (up2 g 0 5 x) ++ Y) rfl hd kk
theorem al_Text_1 (M : Mx G p s m args meth c cc nL ret own) (hW : Wd G s (TextW G b g ++ Y) H locs) {i : Int32} (k : Nat) (hi : i = nI k) (hk : k < 60) {x : Int32} (hx : g 1 k = x) (hd : decode cc pc = .ok (.caload, 1)) (kk : W p l e R s m args below meth c H locs cells slots Q (F0 m (pc + 1) ls (.int x :: rest))) : W p l e R s m args below meth c H locs cells slots Q (F0 m pc ls (.int i :: .ref (b 1) :: rest)) :=
  r_cald M hW 1 rfl k hi hk (by decide) hx hd kk
theorem as_Text_1 (M : Mx G p s m args meth c cc nL ret own) (hW : Wd G s (TextW G b g ++ Y) H locs) {i x : Int32} (k : Nat) (hi : i = nI k) (hk : k < 60) (hz : vp_nar .char x = x) (hd : decode cc pc = .ok (.castore, 1)) (kk : ∀ (H1 : Heap) (locs1 : List Loc), Wd G s (TextW G b (up2 g 1 k x) ++ Y) H1 locs1 → W p l e R s m args below meth c H1 locs1 cells slots Q (F0 m (pc + 1) ls rest)) : W p l e R s m args below meth c H locs cells slots Q (F0 m pc ls (.int x :: .int i :: .ref (b 1) :: rest)) :=
  r_cast M hW 1 rfl k hi hk (by decide) hz (TextW G b (up2 g 1 k x) ++ Y) rfl hd kk
theorem al_Text_2 (M : Mx G p s m args meth c cc nL ret own) (hW : Wd G s (TextW G b g ++ Y) H locs) {i : Int32} (k : Nat) (hi : i = nI k) (hk : k < 60) {x : Int32} (hx : g 2 k = x) (hd : decode cc pc = .ok (.caload, 1)) (kk : W p l e R s m args below meth c H locs cells slots Q (F0 m (pc + 1) ls (.int x :: rest))) : W p l e R s m args below meth c H locs cells slots Q (F0 m pc ls (.int i :: .ref (b 2) :: rest)) :=
  r_cald M hW 2 rfl k hi hk (by decide) hx hd kk
theorem as_Text_2 (M : Mx G p s m args meth c cc nL ret own) (hW : Wd G s (TextW G b g ++ Y) H locs) {i x : Int32} (k : Nat) (hi : i = nI k) (hk : k < 60) (hz : vp_nar .char x = x) (hd : decode cc pc = .ok (.castore, 1)) (kk : ∀ (H1 : Heap) (locs1 : List Loc), Wd G s (TextW G b (up2 g 2 k x) ++ Y) H1 locs1 → W p l e R s m args below meth c H1 locs1 cells slots Q (F0 m (pc + 1) ls rest)) : W p l e R s m args below meth c H locs cells slots Q (F0 m pc ls (.int x :: .int i :: .ref (b 2) :: rest)) :=
  r_cast M hW 2 rfl k hi hk (by decide) hz (TextW G b (up2 g 2 k x) ++ Y) rfl hd kk
theorem al_Text_3 (M : Mx G p s m args meth c cc nL ret own) (hW : Wd G s (TextW G b g ++ Y) H locs) {i : Int32} (k : Nat) (hi : i = nI k) (hk : k < 60) {x : Int32} (hx : g 3 k = x) (hd : decode cc pc = .ok (.iaload, 1)) (kk : W p l e R s m args below meth c H locs cells slots Q (F0 m (pc + 1) ls (.int x :: rest))) : W p l e R s m args below meth c H locs cells slots Q (F0 m pc ls (.int i :: .ref (b 3) :: rest)) :=
  r_iald M hW 3 rfl k hi hk (by decide) hx hd kk
theorem as_Text_3 (M : Mx G p s m args meth c cc nL ret own) (hW : Wd G s (TextW G b g ++ Y) H locs) {i x : Int32} (k : Nat) (hi : i = nI k) (hk : k < 60) (hd : decode cc pc = .ok (.iastore, 1)) (kk : ∀ (H1 : Heap) (locs1 : List Loc), Wd G s (TextW G b (up2 g 3 k x) ++ Y) H1 locs1 → W p l e R s m args below meth c H1 locs1 cells slots Q (F0 m (pc + 1) ls rest)) : W p l e R s m args below meth c H locs cells slots Q (F0 m pc ls (.int x :: .int i :: .ref (b 3) :: rest)) :=
  r_iast M hW 3 rfl k hi hk (by decide) (TextW G b (up2 g 3 k x) ++ Y) rfl hd kk
theorem gt_Mod_0_0 (M : Mx G p s m args meth c cc nL ret own) (hW : Wd G s (ModW G b g ++ Y) H locs) {index : Nat} (hl : Cond.fieldLink own index "GrainLegModel" "thrown" "I" ∈ tblG) {x : Int32} (hx : g 0 0 = x) (hd : decode cc pc = .ok (.getfield index, 3)) (kk : W p l e R s m args below meth c H locs cells slots Q (F0 m (pc + 3) ls (.int x :: rest))) : W p l e R s m args below meth c H locs cells slots Q (F0 m pc ls (.ref (b 0) :: rest)) :=
  r_get M hW 0 (k := 0) (v := .int x) rfl rfl kin_7 (by decide) hl (by subst hx; rfl) hd kk
theorem pt_Mod_0_0 (M : Mx G p s m args meth c cc nL ret own) (hW : Wd G s (ModW G b g ++ Y) H locs) {index : Nat} (hl : Cond.fieldLink own index "GrainLegModel" "thrown" "I" ∈ tblG) {x : Int32} (hd : decode cc pc = .ok (.putfield index, 3)) (kk : ∀ (H1 : Heap) (locs1 : List Loc), Wd G s (ModW G b (up2 g 0 0 x) ++ Y) H1 locs1 → W p l e R s m args below meth c H1 locs1 cells slots Q (F0 m (pc + 3) ls rest)) : W p l e R s m args below meth c H locs cells slots Q (F0 m pc ls (.int x :: .ref (b 0) :: rest)) :=
  r_put M hW 0 (k := 0) rfl rfl kin_7 tyX7_ok nmX7 (by decide) hl rfl pfI rfl rfl (Nat.le_of_ble_eq_true rfl) (ModW G b (up2 g 0 0 x) ++ Y) rfl hd kk
theorem gt_Mod_0_1 (M : Mx G p s m args meth c cc nL ret own) (hW : Wd G s (ModW G b g ++ Y) H locs) {index : Nat} (hl : Cond.fieldLink own index "GrainLegModel" "s" "[I" ∈ tblG) (hd : decode cc pc = .ok (.getfield index, 3)) (kk : W p l e R s m args below meth c H locs cells slots Q (F0 m (pc + 3) ls (.ref (b 1) :: rest))) : W p l e R s m args below meth c H locs cells slots Q (F0 m pc ls (.ref (b 0) :: rest)) :=
  r_get M hW 0 (k := 1) rfl rfl kin_7 (by decide) hl rfl hd kk
theorem gt_Mod_0_2 (M : Mx G p s m args meth c cc nL ret own) (hW : Wd G s (ModW G b g ++ Y) H locs) {index : Nat} (hl : Cond.fieldLink own index "GrainLegModel" "aside" "[I" ∈ tblG) (hd : decode cc pc = .ok (.getfield index, 3)) (kk : W p l e R s m args below meth c H locs cells slots Q (F0 m (pc + 3) ls (.ref (b 2) :: rest))) : W p l e R s m args below meth c H locs cells slots Q (F0 m pc ls (.ref (b 0) :: rest)) :=
  r_get M hW 0 (k := 2) rfl rfl kin_7 (by decide) hl rfl hd kk
theorem gt_Mod_0_3 (M : Mx G p s m args meth c cc nL ret own) (hW : Wd G s (ModW G b g ++ Y) H locs) {index : Nat} (hl : Cond.fieldLink own index "GrainLegModel" "saved" "[I" ∈ tblG) (hd : decode cc pc = .ok (.getfield index, 3)) (kk : W p l e R s m args below meth c H locs cells slots Q (F0 m (pc + 3) ls (.ref (b 3) :: rest))) : W p l e R s m args below meth c H locs cells slots Q (F0 m pc ls (.ref (b 0) :: rest)) :=
  r_get M hW 0 (k := 3) rfl rfl kin_7 (by decide) hl rfl hd kk
theorem gt_Mod_0_4 (M : Mx G p s m args meth c cc nL ret own) (hW : Wd G s (ModW G b g ++ Y) H locs) {index : Nat} (hl : Cond.fieldLink own index "GrainLegModel" "savedMany" "I" ∈ tblG) {x : Int32} (hx : g 0 4 = x) (hd : decode cc pc = .ok (.getfield index, 3)) (kk : W p l e R s m args below meth c H locs cells slots Q (F0 m (pc + 3) ls (.int x :: rest))) : W p l e R s m args below meth c H locs cells slots Q (F0 m pc ls (.ref (b 0) :: rest)) :=
  r_get M hW 0 (k := 4) (v := .int x) rfl rfl kin_7 (by decide) hl (by subst hx; rfl) hd kk
theorem pt_Mod_0_4 (M : Mx G p s m args meth c cc nL ret own) (hW : Wd G s (ModW G b g ++ Y) H locs) {index : Nat} (hl : Cond.fieldLink own index "GrainLegModel" "savedMany" "I" ∈ tblG) {x : Int32} (hd : decode cc pc = .ok (.putfield index, 3)) (kk : ∀ (H1 : Heap) (locs1 : List Loc), Wd G s (ModW G b (up2 g 0 4 x) ++ Y) H1 locs1 → W p l e R s m args below meth c H1 locs1 cells slots Q (F0 m (pc + 3) ls rest)) : W p l e R s m args below meth c H locs cells slots Q (F0 m pc ls (.int x :: .ref (b 0) :: rest)) :=
  r_put M hW 0 (k := 4) rfl rfl kin_7 tyX7_ok nmX7 (by decide) hl rfl pfI rfl rfl (Nat.le_of_ble_eq_true rfl) (ModW G b (up2 g 0 4 x) ++ Y) rfl hd kk
theorem gt_Mod_0_5 (M : Mx G p s m args meth c cc nL ret own) (hW : Wd G s (ModW G b g ++ Y) H locs) {index : Nat} (hl : Cond.fieldLink own index "GrainLegModel" "snapshot" "[I" ∈ tblG) (hd : decode cc pc = .ok (.getfield index, 3)) (kk : W p l e R s m args below meth c H locs cells slots Q (F0 m (pc + 3) ls (.ref (b 4) :: rest))) : W p l e R s m args below meth c H locs cells slots Q (F0 m pc ls (.ref (b 0) :: rest)) :=
  r_get M hW 0 (k := 5) rfl rfl kin_7 (by decide) hl rfl hd kk
theorem gt_Mod_0_6 (M : Mx G p s m args meth c cc nL ret own) (hW : Wd G s (ModW G b g ++ Y) H locs) {index : Nat} (hl : Cond.fieldLink own index "GrainLegModel" "hasSnapshot" "Z" ∈ tblG) {x : Int32} (hx : g 0 6 = x) (hd : decode cc pc = .ok (.getfield index, 3)) (kk : W p l e R s m args below meth c H locs cells slots Q (F0 m (pc + 3) ls (.int x :: rest))) : W p l e R s m args below meth c H locs cells slots Q (F0 m pc ls (.ref (b 0) :: rest)) :=
  r_get M hW 0 (k := 6) (v := .int x) rfl rfl kin_7 (by decide) hl (by subst hx; rfl) hd kk
theorem pt_Mod_0_6 (M : Mx G p s m args meth c cc nL ret own) (hW : Wd G s (ModW G b g ++ Y) H locs) {index : Nat} (hl : Cond.fieldLink own index "GrainLegModel" "hasSnapshot" "Z" ∈ tblG) {x : Int32} (hz : x = 0 ∨ x = 1) (hd : decode cc pc = .ok (.putfield index, 3)) (kk : ∀ (H1 : Heap) (locs1 : List Loc), Wd G s (ModW G b (up2 g 0 6 x) ++ Y) H1 locs1 → W p l e R s m args below meth c H1 locs1 cells slots Q (F0 m (pc + 3) ls rest)) : W p l e R s m args below meth c H locs cells slots Q (F0 m pc ls (.int x :: .ref (b 0) :: rest)) :=
  r_put M hW 0 (k := 6) rfl rfl kin_7 tyX7_ok nmX7 (by decide) hl rfl pfZ (nar_z hz) (fit_z hz) (Nat.le_of_ble_eq_true rfl) (ModW G b (up2 g 0 6 x) ++ Y) rfl hd kk
theorem gt_Mod_0_7 (M : Mx G p s m args meth c cc nL ret own) (hW : Wd G s (ModW G b g ++ Y) H locs) {index : Nat} (hl : Cond.fieldLink own index "GrainLegModel" "text" "[I" ∈ tblG) (hd : decode cc pc = .ok (.getfield index, 3)) (kk : W p l e R s m args below meth c H locs cells slots Q (F0 m (pc + 3) ls (.ref (b 5) :: rest))) : W p l e R s m args below meth c H locs cells slots Q (F0 m pc ls (.ref (b 0) :: rest)) :=
  r_get M hW 0 (k := 7) rfl rfl kin_7 (by decide) hl rfl hd kk
theorem gt_Mod_0_8 (M : Mx G p s m args meth c cc nL ret own) (hW : Wd G s (ModW G b g ++ Y) H locs) {index : Nat} (hl : Cond.fieldLink own index "GrainLegModel" "length" "I" ∈ tblG) {x : Int32} (hx : g 0 8 = x) (hd : decode cc pc = .ok (.getfield index, 3)) (kk : W p l e R s m args below meth c H locs cells slots Q (F0 m (pc + 3) ls (.int x :: rest))) : W p l e R s m args below meth c H locs cells slots Q (F0 m pc ls (.ref (b 0) :: rest)) :=
  r_get M hW 0 (k := 8) (v := .int x) rfl rfl kin_7 (by decide) hl (by subst hx; rfl) hd kk
theorem pt_Mod_0_8 (M : Mx G p s m args meth c cc nL ret own) (hW : Wd G s (ModW G b g ++ Y) H locs) {index : Nat} (hl : Cond.fieldLink own index "GrainLegModel" "length" "I" ∈ tblG) {x : Int32} (hd : decode cc pc = .ok (.putfield index, 3)) (kk : ∀ (H1 : Heap) (locs1 : List Loc), Wd G s (ModW G b (up2 g 0 8 x) ++ Y) H1 locs1 → W p l e R s m args below meth c H1 locs1 cells slots Q (F0 m (pc + 3) ls rest)) : W p l e R s m args below meth c H locs cells slots Q (F0 m pc ls (.int x :: .ref (b 0) :: rest)) :=
  r_put M hW 0 (k := 8) rfl rfl kin_7 tyX7_ok nmX7 (by decide) hl rfl pfI rfl rfl (Nat.le_of_ble_eq_true rfl) (ModW G b (up2 g 0 8 x) ++ Y) rfl hd kk
theorem gt_Mod_0_9 (M : Mx G p s m args meth c cc nL ret own) (hW : Wd G s (ModW G b g ++ Y) H locs) {index : Nat} (hl : Cond.fieldLink own index "GrainLegModel" "stoppedAt" "I" ∈ tblG) {x : Int32} (hx : g 0 9 = x) (hd : decode cc pc = .ok (.getfield index, 3)) (kk : W p l e R s m args below meth c H locs cells slots Q (F0 m (pc + 3) ls (.int x :: rest))) : W p l e R s m args below meth c H locs cells slots Q (F0 m pc ls (.ref (b 0) :: rest)) :=
  r_get M hW 0 (k := 9) (v := .int x) rfl rfl kin_7 (by decide) hl (by subst hx; rfl) hd kk
theorem pt_Mod_0_9 (M : Mx G p s m args meth c cc nL ret own) (hW : Wd G s (ModW G b g ++ Y) H locs) {index : Nat} (hl : Cond.fieldLink own index "GrainLegModel" "stoppedAt" "I" ∈ tblG) {x : Int32} (hd : decode cc pc = .ok (.putfield index, 3)) (kk : ∀ (H1 : Heap) (locs1 : List Loc), Wd G s (ModW G b (up2 g 0 9 x) ++ Y) H1 locs1 → W p l e R s m args below meth c H1 locs1 cells slots Q (F0 m (pc + 3) ls rest)) : W p l e R s m args below meth c H locs cells slots Q (F0 m pc ls (.int x :: .ref (b 0) :: rest)) :=
  r_put M hW 0 (k := 9) rfl rfl kin_7 tyX7_ok nmX7 (by decide) hl rfl pfI rfl rfl (Nat.le_of_ble_eq_true rfl) (ModW G b (up2 g 0 9 x) ++ Y) rfl hd kk
theorem gt_Mod_0_10 (M : Mx G p s m args meth c cc nL ret own) (hW : Wd G s (ModW G b g ++ Y) H locs) {index : Nat} (hl : Cond.fieldLink own index "GrainLegModel" "stoppedBy" "I" ∈ tblG) {x : Int32} (hx : g 0 10 = x) (hd : decode cc pc = .ok (.getfield index, 3)) (kk : W p l e R s m args below meth c H locs cells slots Q (F0 m (pc + 3) ls (.int x :: rest))) : W p l e R s m args below meth c H locs cells slots Q (F0 m pc ls (.ref (b 0) :: rest)) :=
  r_get M hW 0 (k := 10) (v := .int x) rfl rfl kin_7 (by decide) hl (by subst hx; rfl) hd kk
theorem pt_Mod_0_10 (M : Mx G p s m args meth c cc nL ret own) (hW : Wd G s (ModW G b g ++ Y) H locs) {index : Nat} (hl : Cond.fieldLink own index "GrainLegModel" "stoppedBy" "I" ∈ tblG) {x : Int32} (hd : decode cc pc = .ok (.putfield index, 3)) (kk : ∀ (H1 : Heap) (locs1 : List Loc), Wd G s (ModW G b (up2 g 0 10 x) ++ Y) H1 locs1 → W p l e R s m args below meth c H1 locs1 cells slots Q (F0 m (pc + 3) ls rest)) : W p l e R s m args below meth c H locs cells slots Q (F0 m pc ls (.int x :: .ref (b 0) :: rest)) :=
  r_put M hW 0 (k := 10) rfl rfl kin_7 tyX7_ok nmX7 (by decide) hl rfl pfI rfl rfl (Nat.le_of_ble_eq_true rfl) (ModW G b (up2 g 0 10 x) ++ Y) rfl hd kk
theorem gt_Mod_0_11 (M : Mx G p s m args meth c cc nL ret own) (hW : Wd G s (ModW G b g ++ Y) H locs) {index : Nat} (hl : Cond.fieldLink own index "GrainLegModel" "at" "I" ∈ tblG) {x : Int32} (hx : g 0 11 = x) (hd : decode cc pc = .ok (.getfield index, 3)) (kk : W p l e R s m args below meth c H locs cells slots Q (F0 m (pc + 3) ls (.int x :: rest))) : W p l e R s m args below meth c H locs cells slots Q (F0 m pc ls (.ref (b 0) :: rest)) :=
  r_get M hW 0 (k := 11) (v := .int x) rfl rfl kin_7 (by decide) hl (by subst hx; rfl) hd kk
theorem pt_Mod_0_11 (M : Mx G p s m args meth c cc nL ret own) (hW : Wd G s (ModW G b g ++ Y) H locs) {index : Nat} (hl : Cond.fieldLink own index "GrainLegModel" "at" "I" ∈ tblG) {x : Int32} (hd : decode cc pc = .ok (.putfield index, 3)) (kk : ∀ (H1 : Heap) (locs1 : List Loc), Wd G s (ModW G b (up2 g 0 11 x) ++ Y) H1 locs1 → W p l e R s m args below meth c H1 locs1 cells slots Q (F0 m (pc + 3) ls rest)) : W p l e R s m args below meth c H locs cells slots Q (F0 m pc ls (.int x :: .ref (b 0) :: rest)) :=
  r_put M hW 0 (k := 11) rfl rfl kin_7 tyX7_ok nmX7 (by decide) hl rfl pfI rfl rfl (Nat.le_of_ble_eq_true rfl) (ModW G b (up2 g 0 11 x) ++ Y) rfl hd kk
theorem gt_Mod_0_12 (M : Mx G p s m args meth c cc nL ret own) (hW : Wd G s (ModW G b g ++ Y) H locs) {index : Nat} (hl : Cond.fieldLink own index "GrainLegModel" "isWell" "Z" ∈ tblG) {x : Int32} (hx : g 0 12 = x) (hd : decode cc pc = .ok (.getfield index, 3)) (kk : W p l e R s m args below meth c H locs cells slots Q (F0 m (pc + 3) ls (.int x :: rest))) : W p l e R s m args below meth c H locs cells slots Q (F0 m pc ls (.ref (b 0) :: rest)) :=
  r_get M hW 0 (k := 12) (v := .int x) rfl rfl kin_7 (by decide) hl (by subst hx; rfl) hd kk
theorem pt_Mod_0_12 (M : Mx G p s m args meth c cc nL ret own) (hW : Wd G s (ModW G b g ++ Y) H locs) {index : Nat} (hl : Cond.fieldLink own index "GrainLegModel" "isWell" "Z" ∈ tblG) {x : Int32} (hz : x = 0 ∨ x = 1) (hd : decode cc pc = .ok (.putfield index, 3)) (kk : ∀ (H1 : Heap) (locs1 : List Loc), Wd G s (ModW G b (up2 g 0 12 x) ++ Y) H1 locs1 → W p l e R s m args below meth c H1 locs1 cells slots Q (F0 m (pc + 3) ls rest)) : W p l e R s m args below meth c H locs cells slots Q (F0 m pc ls (.int x :: .ref (b 0) :: rest)) :=
  r_put M hW 0 (k := 12) rfl rfl kin_7 tyX7_ok nmX7 (by decide) hl rfl pfZ (nar_z hz) (fit_z hz) (Nat.le_of_ble_eq_true rfl) (ModW G b (up2 g 0 12 x) ++ Y) rfl hd kk
theorem gt_Mod_0_13 (M : Mx G p s m args meth c cc nL ret own) (hW : Wd G s (ModW G b g ++ Y) H locs) {index : Nat} (hl : Cond.fieldLink own index "GrainLegModel" "commands" "[I" ∈ tblG) (hd : decode cc pc = .ok (.getfield index, 3)) (kk : W p l e R s m args below meth c H locs cells slots Q (F0 m (pc + 3) ls (.ref (b 6) :: rest))) : W p l e R s m args below meth c H locs cells slots Q (F0 m pc ls (.ref (b 0) :: rest)) :=
  r_get M hW 0 (k := 13) rfl rfl kin_7 (by decide) hl rfl hd kk
theorem gt_Mod_0_14 (M : Mx G p s m args meth c cc nL ret own) (hW : Wd G s (ModW G b g ++ Y) H locs) {index : Nat} (hl : Cond.fieldLink own index "GrainLegModel" "commandMany" "I" ∈ tblG) {x : Int32} (hx : g 0 14 = x) (hd : decode cc pc = .ok (.getfield index, 3)) (kk : W p l e R s m args below meth c H locs cells slots Q (F0 m (pc + 3) ls (.int x :: rest))) : W p l e R s m args below meth c H locs cells slots Q (F0 m pc ls (.ref (b 0) :: rest)) :=
  r_get M hW 0 (k := 14) (v := .int x) rfl rfl kin_7 (by decide) hl (by subst hx; rfl) hd kk
theorem pt_Mod_0_14 (M : Mx G p s m args meth c cc nL ret own) (hW : Wd G s (ModW G b g ++ Y) H locs) {index : Nat} (hl : Cond.fieldLink own index "GrainLegModel" "commandMany" "I" ∈ tblG) {x : Int32} (hd : decode cc pc = .ok (.putfield index, 3)) (kk : ∀ (H1 : Heap) (locs1 : List Loc), Wd G s (ModW G b (up2 g 0 14 x) ++ Y) H1 locs1 → W p l e R s m args below meth c H1 locs1 cells slots Q (F0 m (pc + 3) ls rest)) : W p l e R s m args below meth c H locs cells slots Q (F0 m pc ls (.int x :: .ref (b 0) :: rest)) :=
  r_put M hW 0 (k := 14) rfl rfl kin_7 tyX7_ok nmX7 (by decide) hl rfl pfI rfl rfl (Nat.le_of_ble_eq_true rfl) (ModW G b (up2 g 0 14 x) ++ Y) rfl hd kk
theorem al_Mod_1 (M : Mx G p s m args meth c cc nL ret own) (hW : Wd G s (ModW G b g ++ Y) H locs) {i : Int32} (k : Nat) (hi : i = nI k) (hk : k < 56) {x : Int32} (hx : g 1 k = x) (hd : decode cc pc = .ok (.iaload, 1)) (kk : W p l e R s m args below meth c H locs cells slots Q (F0 m (pc + 1) ls (.int x :: rest))) : W p l e R s m args below meth c H locs cells slots Q (F0 m pc ls (.int i :: .ref (b 1) :: rest)) :=
  r_iald M hW 1 rfl k hi hk (by decide) hx hd kk
theorem as_Mod_1 (M : Mx G p s m args meth c cc nL ret own) (hW : Wd G s (ModW G b g ++ Y) H locs) {i x : Int32} (k : Nat) (hi : i = nI k) (hk : k < 56) (hd : decode cc pc = .ok (.iastore, 1)) (kk : ∀ (H1 : Heap) (locs1 : List Loc), Wd G s (ModW G b (up2 g 1 k x) ++ Y) H1 locs1 → W p l e R s m args below meth c H1 locs1 cells slots Q (F0 m (pc + 1) ls rest)) : W p l e R s m args below meth c H locs cells slots Q (F0 m pc ls (.int x :: .int i :: .ref (b 1) :: rest)) :=
  r_iast M hW 1 rfl k hi hk (by decide) (ModW G b (up2 g 1 k x) ++ Y) rfl hd kk
theorem al_Mod_2 (M : Mx G p s m args meth c cc nL ret own) (hW : Wd G s (ModW G b g ++ Y) H locs) {i : Int32} (k : Nat) (hi : i = nI k) (hk : k < 56) {x : Int32} (hx : g 2 k = x) (hd : decode cc pc = .ok (.iaload, 1)) (kk : W p l e R s m args below meth c H locs cells slots Q (F0 m (pc + 1) ls (.int x :: rest))) : W p l e R s m args below meth c H locs cells slots Q (F0 m pc ls (.int i :: .ref (b 2) :: rest)) :=
  r_iald M hW 2 rfl k hi hk (by decide) hx hd kk
theorem as_Mod_2 (M : Mx G p s m args meth c cc nL ret own) (hW : Wd G s (ModW G b g ++ Y) H locs) {i x : Int32} (k : Nat) (hi : i = nI k) (hk : k < 56) (hd : decode cc pc = .ok (.iastore, 1)) (kk : ∀ (H1 : Heap) (locs1 : List Loc), Wd G s (ModW G b (up2 g 2 k x) ++ Y) H1 locs1 → W p l e R s m args below meth c H1 locs1 cells slots Q (F0 m (pc + 1) ls rest)) : W p l e R s m args below meth c H locs cells slots Q (F0 m pc ls (.int x :: .int i :: .ref (b 2) :: rest)) :=
  r_iast M hW 2 rfl k hi hk (by decide) (ModW G b (up2 g 2 k x) ++ Y) rfl hd kk
theorem al_Mod_3 (M : Mx G p s m args meth c cc nL ret own) (hW : Wd G s (ModW G b g ++ Y) H locs) {i : Int32} (k : Nat) (hi : i = nI k) (hk : k < 224) {x : Int32} (hx : g 3 k = x) (hd : decode cc pc = .ok (.iaload, 1)) (kk : W p l e R s m args below meth c H locs cells slots Q (F0 m (pc + 1) ls (.int x :: rest))) : W p l e R s m args below meth c H locs cells slots Q (F0 m pc ls (.int i :: .ref (b 3) :: rest)) :=
  r_iald M hW 3 rfl k hi hk (by decide) hx hd kk
theorem as_Mod_3 (M : Mx G p s m args meth c cc nL ret own) (hW : Wd G s (ModW G b g ++ Y) H locs) {i x : Int32} (k : Nat) (hi : i = nI k) (hk : k < 224) (hd : decode cc pc = .ok (.iastore, 1)) (kk : ∀ (H1 : Heap) (locs1 : List Loc), Wd G s (ModW G b (up2 g 3 k x) ++ Y) H1 locs1 → W p l e R s m args below meth c H1 locs1 cells slots Q (F0 m (pc + 1) ls rest)) : W p l e R s m args below meth c H locs cells slots Q (F0 m pc ls (.int x :: .int i :: .ref (b 3) :: rest)) :=
  r_iast M hW 3 rfl k hi hk (by decide) (ModW G b (up2 g 3 k x) ++ Y) rfl hd kk
theorem al_Mod_4 (M : Mx G p s m args meth c cc nL ret own) (hW : Wd G s (ModW G b g ++ Y) H locs) {i : Int32} (k : Nat) (hi : i = nI k) (hk : k < 56) {x : Int32} (hx : g 4 k = x) (hd : decode cc pc = .ok (.iaload, 1)) (kk : W p l e R s m args below meth c H locs cells slots Q (F0 m (pc + 1) ls (.int x :: rest))) : W p l e R s m args below meth c H locs cells slots Q (F0 m pc ls (.int i :: .ref (b 4) :: rest)) :=
  r_iald M hW 4 rfl k hi hk (by decide) hx hd kk
theorem as_Mod_4 (M : Mx G p s m args meth c cc nL ret own) (hW : Wd G s (ModW G b g ++ Y) H locs) {i x : Int32} (k : Nat) (hi : i = nI k) (hk : k < 56) (hd : decode cc pc = .ok (.iastore, 1)) (kk : ∀ (H1 : Heap) (locs1 : List Loc), Wd G s (ModW G b (up2 g 4 k x) ++ Y) H1 locs1 → W p l e R s m args below meth c H1 locs1 cells slots Q (F0 m (pc + 1) ls rest)) : W p l e R s m args below meth c H locs cells slots Q (F0 m pc ls (.int x :: .int i :: .ref (b 4) :: rest)) :=
  r_iast M hW 4 rfl k hi hk (by decide) (ModW G b (up2 g 4 k x) ++ Y) rfl hd kk
theorem al_Mod_5 (M : Mx G p s m args meth c cc nL ret own) (hW : Wd G s (ModW G b g ++ Y) H locs) {i : Int32} (k : Nat) (hi : i = nI k) (hk : k < 60) {x : Int32} (hx : g 5 k = x) (hd : decode cc pc = .ok (.iaload, 1)) (kk : W p l e R s m args below meth c H locs cells slots Q (F0 m (pc + 1) ls (.int x :: rest))) : W p l e R s m args below meth c H locs cells slots Q (F0 m pc ls (.int i :: .ref (b 5) :: rest)) :=
  r_iald M hW 5 rfl k hi hk (by decide) hx hd kk
theorem as_Mod_5 (M : Mx G p s m args meth c cc nL ret own) (hW : Wd G s (ModW G b g ++ Y) H locs) {i x : Int32} (k : Nat) (hi : i = nI k) (hk : k < 60) (hd : decode cc pc = .ok (.iastore, 1)) (kk : ∀ (H1 : Heap) (locs1 : List Loc), Wd G s (ModW G b (up2 g 5 k x) ++ Y) H1 locs1 → W p l e R s m args below meth c H1 locs1 cells slots Q (F0 m (pc + 1) ls rest)) : W p l e R s m args below meth c H locs cells slots Q (F0 m pc ls (.int x :: .int i :: .ref (b 5) :: rest)) :=
  r_iast M hW 5 rfl k hi hk (by decide) (ModW G b (up2 g 5 k x) ++ Y) rfl hd kk
theorem al_Mod_6 (M : Mx G p s m args meth c cc nL ret own) (hW : Wd G s (ModW G b g ++ Y) H locs) {i : Int32} (k : Nat) (hi : i = nI k) (hk : k < 64) {x : Int32} (hx : g 6 k = x) (hd : decode cc pc = .ok (.iaload, 1)) (kk : W p l e R s m args below meth c H locs cells slots Q (F0 m (pc + 1) ls (.int x :: rest))) : W p l e R s m args below meth c H locs cells slots Q (F0 m pc ls (.int i :: .ref (b 6) :: rest)) :=
  r_iald M hW 6 rfl k hi hk (by decide) hx hd kk
theorem as_Mod_6 (M : Mx G p s m args meth c cc nL ret own) (hW : Wd G s (ModW G b g ++ Y) H locs) {i x : Int32} (k : Nat) (hi : i = nI k) (hk : k < 64) (hd : decode cc pc = .ok (.iastore, 1)) (kk : ∀ (H1 : Heap) (locs1 : List Loc), Wd G s (ModW G b (up2 g 6 k x) ++ Y) H1 locs1 → W p l e R s m args below meth c H1 locs1 cells slots Q (F0 m (pc + 1) ls rest)) : W p l e R s m args below meth c H locs cells slots Q (F0 m pc ls (.int x :: .int i :: .ref (b 6) :: rest)) :=
  r_iast M hW 6 rfl k hi hk (by decide) (ModW G b (up2 g 6 k x) ++ Y) rfl hd kk
variable {b2 : Nat → Nat} {g2 : Nat → Nat → Int32}
theorem cpy_Leg_1 (M : Mx G p s m args meth c cc nL ret own) (hW : Wd G s (LegW G b g ++ (LegW G b2 g2 ++ Y)) H locs) {index : Nat} (h1 : Cond.methodLink own index arraycopyName ∈ tblG) (hls : ls.size = nL) (hR : 1 ≤ R.frames ∧ 8 + (nativeFrameWords "java/lang/System" "arraycopy" 5 + 11) ≤ R.locals) (hcat : (rest.map fun v => v.category).sum ≤ 8) (hd : decode cc pc = .ok (.invokestatic index, 3))
    (kk : ∀ (H1 : Heap) (locs1 : List Loc), Wd G s (LegW G b (cp2 g 1 (g2 1)) ++ (LegW G b2 g2 ++ Y)) H1 locs1 → W p l e R s m args below meth c H1 locs1 cells slots Q (F0 m (pc + 3) ls rest)) : W p l e R s m args below meth c H locs cells slots Q (F0 m pc ls (.int 5 :: .int 0 :: .ref (b 1) :: .int 0 :: .ref (b2 1) :: rest)) := by
  refine r_copy M hW h1 kw_8 kw_9 kw_10 hls 12 1 rfl rfl 5 rfl (Nat.le_refl _) (Nat.le_refl _) (by decide) hR hcat (LegW G b (cp2 g 1 (va_cpy (g2 1) (g 1) 0 0 5)) ++ (LegW G b2 g2 ++ Y)) rfl hd (fun H1 l1 hW1 => kk H1 l1 (hW1.leg ?_))
  refine ⟨?_, ?_, ?_, ?_, ?_, ?_, ?_, ?_, ?_, ?_, ?_⟩ <;> first | rfl | (intro i hi; rfl) | (intro k h6 h13; rfl) | (intro i hi; simp [cp2, va_cpy, hi])
theorem cpy_Leg_3 (M : Mx G p s m args meth c cc nL ret own) (hW : Wd G s (LegW G b g ++ (LegW G b2 g2 ++ Y)) H locs) {index : Nat} (h1 : Cond.methodLink own index arraycopyName ∈ tblG) (hls : ls.size = nL) (hR : 1 ≤ R.frames ∧ 8 + (nativeFrameWords "java/lang/System" "arraycopy" 5 + 11) ≤ R.locals) (hcat : (rest.map fun v => v.category).sum ≤ 8) (hd : decode cc pc = .ok (.invokestatic index, 3))
    (kk : ∀ (H1 : Heap) (locs1 : List Loc), Wd G s (LegW G b (cp2 g 3 (g2 3)) ++ (LegW G b2 g2 ++ Y)) H1 locs1 → W p l e R s m args below meth c H1 locs1 cells slots Q (F0 m (pc + 3) ls rest)) : W p l e R s m args below meth c H locs cells slots Q (F0 m pc ls (.int 12 :: .int 0 :: .ref (b 3) :: .int 0 :: .ref (b2 3) :: rest)) := by
  refine r_copy M hW h1 kw_8 kw_9 kw_10 hls 14 3 rfl rfl 12 rfl (Nat.le_refl _) (Nat.le_refl _) (by decide) hR hcat (LegW G b (cp2 g 3 (va_cpy (g2 3) (g 3) 0 0 12)) ++ (LegW G b2 g2 ++ Y)) rfl hd (fun H1 l1 hW1 => kk H1 l1 (hW1.leg ?_))
  refine ⟨?_, ?_, ?_, ?_, ?_, ?_, ?_, ?_, ?_, ?_, ?_⟩ <;> first | rfl | (intro i hi; rfl) | (intro k h6 h13; rfl) | (intro i hi; simp [cp2, va_cpy, hi])
theorem cpy_Leg_6 (M : Mx G p s m args meth c cc nL ret own) (hW : Wd G s (LegW G b g ++ (LegW G b2 g2 ++ Y)) H locs) {index : Nat} (h1 : Cond.methodLink own index arraycopyName ∈ tblG) (hls : ls.size = nL) (hR : 1 ≤ R.frames ∧ 8 + (nativeFrameWords "java/lang/System" "arraycopy" 5 + 11) ≤ R.locals) (hcat : (rest.map fun v => v.category).sum ≤ 8) (hd : decode cc pc = .ok (.invokestatic index, 3))
    (kk : ∀ (H1 : Heap) (locs1 : List Loc), Wd G s (LegW G b (cp2 g 6 (g2 6)) ++ (LegW G b2 g2 ++ Y)) H1 locs1 → W p l e R s m args below meth c H1 locs1 cells slots Q (F0 m (pc + 3) ls rest)) : W p l e R s m args below meth c H locs cells slots Q (F0 m pc ls (.int 6 :: .int 0 :: .ref (b 6) :: .int 0 :: .ref (b2 6) :: rest)) := by
  refine r_copy M hW h1 kw_8 kw_9 kw_10 hls 17 6 rfl rfl 6 rfl (Nat.le_refl _) (Nat.le_refl _) (by decide) hR hcat (LegW G b (cp2 g 6 (va_cpy (g2 6) (g 6) 0 0 6)) ++ (LegW G b2 g2 ++ Y)) rfl hd (fun H1 l1 hW1 => kk H1 l1 (hW1.leg ?_))
  refine ⟨?_, ?_, ?_, ?_, ?_, ?_, ?_, ?_, ?_, ?_, ?_⟩ <;> first | rfl | (intro i hi; rfl) | (intro k h6 h13; rfl) | (intro i hi; simp [cp2, va_cpy, hi])
theorem cpy_Leg_7 (M : Mx G p s m args meth c cc nL ret own) (hW : Wd G s (LegW G b g ++ (LegW G b2 g2 ++ Y)) H locs) {index : Nat} (h1 : Cond.methodLink own index arraycopyName ∈ tblG) (hls : ls.size = nL) (hR : 1 ≤ R.frames ∧ 8 + (nativeFrameWords "java/lang/System" "arraycopy" 5 + 11) ≤ R.locals) (hcat : (rest.map fun v => v.category).sum ≤ 8) (hd : decode cc pc = .ok (.invokestatic index, 3))
    (kk : ∀ (H1 : Heap) (locs1 : List Loc), Wd G s (LegW G b (cp2 g 7 (g2 7)) ++ (LegW G b2 g2 ++ Y)) H1 locs1 → W p l e R s m args below meth c H1 locs1 cells slots Q (F0 m (pc + 3) ls rest)) : W p l e R s m args below meth c H locs cells slots Q (F0 m pc ls (.int 6 :: .int 0 :: .ref (b 7) :: .int 0 :: .ref (b2 7) :: rest)) := by
  refine r_copy M hW h1 kw_8 kw_9 kw_10 hls 18 7 rfl rfl 6 rfl (Nat.le_refl _) (Nat.le_refl _) (by decide) hR hcat (LegW G b (cp2 g 7 (va_cpy (g2 7) (g 7) 0 0 6)) ++ (LegW G b2 g2 ++ Y)) rfl hd (fun H1 l1 hW1 => kk H1 l1 (hW1.leg ?_))
  refine ⟨?_, ?_, ?_, ?_, ?_, ?_, ?_, ?_, ?_, ?_, ?_⟩ <;> first | rfl | (intro i hi; rfl) | (intro k h6 h13; rfl) | (intro i hi; simp [cp2, va_cpy, hi])
theorem cpy_Leg_8 (M : Mx G p s m args meth c cc nL ret own) (hW : Wd G s (LegW G b g ++ (LegW G b2 g2 ++ Y)) H locs) {index : Nat} (h1 : Cond.methodLink own index arraycopyName ∈ tblG) (hls : ls.size = nL) (hR : 1 ≤ R.frames ∧ 8 + (nativeFrameWords "java/lang/System" "arraycopy" 5 + 11) ≤ R.locals) (hcat : (rest.map fun v => v.category).sum ≤ 8) (hd : decode cc pc = .ok (.invokestatic index, 3))
    (kk : ∀ (H1 : Heap) (locs1 : List Loc), Wd G s (LegW G b (cp2 g 8 (g2 8)) ++ (LegW G b2 g2 ++ Y)) H1 locs1 → W p l e R s m args below meth c H1 locs1 cells slots Q (F0 m (pc + 3) ls rest)) : W p l e R s m args below meth c H locs cells slots Q (F0 m pc ls (.int 6 :: .int 0 :: .ref (b 8) :: .int 0 :: .ref (b2 8) :: rest)) := by
  refine r_copy M hW h1 kw_8 kw_9 kw_10 hls 19 8 rfl rfl 6 rfl (Nat.le_refl _) (Nat.le_refl _) (by decide) hR hcat (LegW G b (cp2 g 8 (va_cpy (g2 8) (g 8) 0 0 6)) ++ (LegW G b2 g2 ++ Y)) rfl hd (fun H1 l1 hW1 => kk H1 l1 (hW1.leg ?_))
  refine ⟨?_, ?_, ?_, ?_, ?_, ?_, ?_, ?_, ?_, ?_, ?_⟩ <;> first | rfl | (intro i hi; rfl) | (intro k h6 h13; rfl) | (intro i hi; simp [cp2, va_cpy, hi])
theorem cpy_Leg_9 (M : Mx G p s m args meth c cc nL ret own) (hW : Wd G s (LegW G b g ++ (LegW G b2 g2 ++ Y)) H locs) {index : Nat} (h1 : Cond.methodLink own index arraycopyName ∈ tblG) (hls : ls.size = nL) (hR : 1 ≤ R.frames ∧ 8 + (nativeFrameWords "java/lang/System" "arraycopy" 5 + 11) ≤ R.locals) (hcat : (rest.map fun v => v.category).sum ≤ 8) (hd : decode cc pc = .ok (.invokestatic index, 3))
    (kk : ∀ (H1 : Heap) (locs1 : List Loc), Wd G s (LegW G b (cp2 g 9 (g2 9)) ++ (LegW G b2 g2 ++ Y)) H1 locs1 → W p l e R s m args below meth c H1 locs1 cells slots Q (F0 m (pc + 3) ls rest)) : W p l e R s m args below meth c H locs cells slots Q (F0 m pc ls (.int 3 :: .int 0 :: .ref (b 9) :: .int 0 :: .ref (b2 9) :: rest)) := by
  refine r_copy M hW h1 kw_8 kw_9 kw_10 hls 20 9 rfl rfl 3 rfl (Nat.le_refl _) (Nat.le_refl _) (by decide) hR hcat (LegW G b (cp2 g 9 (va_cpy (g2 9) (g 9) 0 0 3)) ++ (LegW G b2 g2 ++ Y)) rfl hd (fun H1 l1 hW1 => kk H1 l1 (hW1.leg ?_))
  refine ⟨?_, ?_, ?_, ?_, ?_, ?_, ?_, ?_, ?_, ?_, ?_⟩ <;> first | rfl | (intro i hi; rfl) | (intro k h6 h13; rfl) | (intro i hi; simp [cp2, va_cpy, hi])
theorem cpy_Leg_10 (M : Mx G p s m args meth c cc nL ret own) (hW : Wd G s (LegW G b g ++ (LegW G b2 g2 ++ Y)) H locs) {index : Nat} (h1 : Cond.methodLink own index arraycopyName ∈ tblG) (hls : ls.size = nL) (hR : 1 ≤ R.frames ∧ 8 + (nativeFrameWords "java/lang/System" "arraycopy" 5 + 11) ≤ R.locals) (hcat : (rest.map fun v => v.category).sum ≤ 8) (hd : decode cc pc = .ok (.invokestatic index, 3))
    (kk : ∀ (H1 : Heap) (locs1 : List Loc), Wd G s (LegW G b (cp2 g 10 (g2 10)) ++ (LegW G b2 g2 ++ Y)) H1 locs1 → W p l e R s m args below meth c H1 locs1 cells slots Q (F0 m (pc + 3) ls rest)) : W p l e R s m args below meth c H locs cells slots Q (F0 m pc ls (.int 3 :: .int 0 :: .ref (b 10) :: .int 0 :: .ref (b2 10) :: rest)) := by
  refine r_copy M hW h1 kw_8 kw_9 kw_10 hls 21 10 rfl rfl 3 rfl (Nat.le_refl _) (Nat.le_refl _) (by decide) hR hcat (LegW G b (cp2 g 10 (va_cpy (g2 10) (g 10) 0 0 3)) ++ (LegW G b2 g2 ++ Y)) rfl hd (fun H1 l1 hW1 => kk H1 l1 (hW1.leg ?_))
  refine ⟨?_, ?_, ?_, ?_, ?_, ?_, ?_, ?_, ?_, ?_, ?_⟩ <;> first | rfl | (intro i hi; rfl) | (intro k h6 h13; rfl) | (intro i hi; simp [cp2, va_cpy, hi])
end ROWS
end
section
theorem up2_ne {g : Nat → Nat → Int32} {c i a : Nat} {v : Int32} (h : a ≠ c) : up2 g c i v a = g a := if_neg h
theorem up2_d {g : Nat → Nat → Int32} {c i a j : Nat} {v : Int32} (h : a ≠ c) : up2 g c i v a j = g a j := congrFun (if_neg h) j
theorem up2_k {g : Nat → Nat → Int32} {c i j : Nat} {v : Int32} (h : j ≠ i) : up2 g c i v c j = g c j := (congrFun (if_pos rfl : up2 g c i v c = upd (g c) i v) j).trans (if_neg h)
theorem up2_s {g : Nat → Nat → Int32} {c i : Nat} {v : Int32} : up2 g c i v c i = v := (congrFun (if_pos rfl : up2 g c i v c = upd (g c) i v) i).trans (if_pos rfl)
theorem cp2_d {g : Nat → Nat → Int32} {c a j : Nat} {f : Nat → Int32} (h : a ≠ c) : cp2 g c f a j = g a j := congrFun (if_neg h) j
theorem cp2_s {g : Nat → Nat → Int32} {c j : Nat} {f : Nat → Int32} : cp2 g c f c j = f j := congrFun (if_pos rfl) j
theorem up2_eq {g : Nat → Nat → Int32} {c i : Nat} {v : Int32} : up2 g c i v c = upd (g c) i v := if_pos rfl
/-- the place of the bucket that is in the boot -/
def jB (g : Nat → Nat → Int32) : Nat := (g 2 1).toNatClampNeg
def LegOK (g : Nat → Nat → Int32) : Prop := ∃ j : Nat, j < 12 ∧ g 2 1 = nI j
theorem LegOK.eq {g : Nat → Nat → Int32} (h : LegOK g) : g 2 1 = nI (jB g) ∧ jB g < 12 := by
  obtain ⟨j, h1, h2⟩ := h
  have e : jB g = j := by rw [jB, h2]; exact nI_clamp (by omega)
  rw [e]
  exact ⟨h2, h1⟩
theorem LegOK.ix {g : Nat → Nat → Int32} (h : LegOK g) (k : Nat) (hk : k < 1000) : (g 2 1 + nI k) - (g 2 1 + nI k) / 12 * 12 = nI ((jB g + k) % 12) := by
  have h2 := h.eq
  rw [h2.1, nI_add]
  exact pk_rem (d := 12) (by omega) (by decide) (by decide)
theorem LegOK.ixm {g : Nat → Nat → Int32} (h : LegOK g) : ((g 2 1 + 12) - 1) - ((g 2 1 + 12) - 1) / 12 * 12 = nI ((jB g + 11) % 12) := by
  have e : (g 2 1 + 12) - 1 = g 2 1 + nI 11 := by rw [h.eq.1, show (12 : Int32) = nI 12 from rfl, nI_add, nI_add]; exact nI_pred (jB g + 11)
  rw [e]
  exact h.ix 11 (by decide)
theorem LegOK.ixx {g : Nat → Nat → Int32} (h : LegOK g) {y : Int32} {k : Nat} (hy : y = nI k) (hk : k < 1000) : (g 2 1 + y) - (g 2 1 + y) / 12 * 12 = nI ((jB g + k) % 12) := by
  rw [hy]
  exact h.ix k hk

def rX6_isWithin (x : Int32) (lo : Int32) (hi : Int32) : Int32 := if x < lo then 0 else if hi < x then 0 else 1
set_option maxHeartbeats 4000000 in
set_option maxRecDepth 100000 in
/-- X6.isWithin -/
theorem c_X6_isWithin (l : Launch) (G : Gp) (x : Int32) (lo : Int32) (hi : Int32) (Y : va_W) : Cn l G yX6_isWithin cX6_isWithin 3 (some .boolean) 0 [.int x, .int lo, .int hi] (Y) (some (.int (rX6_isWithin x lo hi))) (Y) := by
  refine CnE.of (by decide) (Nat.le_of_ble_eq_true rfl) ?_
  intro p e s m below meth c ls M hnm hl hW
  have hx := M.1
  have hb := M.2.1
  have hl : lv_has ls 3 [(0, .int x), (1, .int lo), (2, .int hi)] := hl
  refine lv_iload_n hx hb dX6_isWithin_0 rfl (lv_at hl 0 rfl) ?_
  refine lv_iload_n hx hb dX6_isWithin_1 rfl (lv_at hl 1 rfl) ?_
  refine lv_icmp_lt (tgt := 14) hx hb dX6_isWithin_2 (by decide) (fun c_2 => ?_) (fun c_2 => ?_)
  · skip
    refine lv_iconst (v := 0) hx hb dX6_isWithin_14 (by decide) ?_
    exact r_retz M rfl hW rfl ⟨by rw [rX6_isWithin, if_pos c_2], rfl⟩ (Nat.zero_le _) (Nat.zero_le _) dX6_isWithin_15
  · skip
    refine lv_iload_n hx hb dX6_isWithin_5 rfl (lv_at hl 0 rfl) ?_
    refine lv_iload_n hx hb dX6_isWithin_6 rfl (lv_at hl 2 rfl) ?_
    refine lv_icmp_gt (tgt := 14) hx hb dX6_isWithin_7 (by decide) (fun c_7 => ?_) (fun c_7 => ?_)
    · skip
      refine lv_iconst (v := 0) hx hb dX6_isWithin_14 (by decide) ?_
      exact r_retz M rfl hW rfl ⟨by rw [rX6_isWithin, if_neg c_2, if_pos c_7], rfl⟩ (Nat.zero_le _) (Nat.zero_le _) dX6_isWithin_15
    · skip
      refine lv_iconst (v := 1) hx hb dX6_isWithin_10 (by decide) ?_
      refine lv_goto (tgt := 15) hx hb dX6_isWithin_11 (by decide) ?_
      exact r_retz M rfl hW rfl ⟨by rw [rX6_isWithin, if_neg c_2, if_neg c_7], rfl⟩ (Nat.zero_le _) (Nat.zero_le _) dX6_isWithin_15

theorem iw_0 {x lo hi : Int32} (h : rX6_isWithin x lo hi = 0) : x < lo ∨ hi < x := by
  unfold rX6_isWithin at h
  by_cases h1 : x < lo
  · exact Or.inl h1
  · by_cases h2 : hi < x
    · exact Or.inr h2
    · rw [if_neg h1, if_neg h2] at h; exact absurd h (by decide)
theorem iw_1 {x lo hi : Int32} (h : ¬ rX6_isWithin x lo hi = 0) : ¬ x < lo ∧ ¬ hi < x := by
  unfold rX6_isWithin at h
  by_cases h1 : x < lo
  · rw [if_pos h1] at h; exact absurd rfl h
  · by_cases h2 : hi < x
    · rw [if_neg h1, if_pos h2] at h; exact absurd rfl h
    · exact ⟨h1, h2⟩
/-- inside 0 .. n: it is its natural -/
theorem iw_c {x hi : Int32} {n : Nat} (hn : hi = nI n) (hb : n < 1000000) (h : ¬ rX6_isWithin x 0 hi = 0) : x = nI x.toNatClampNeg ∧ x.toNatClampNeg ≤ n := by
  obtain ⟨h1, h2⟩ := iw_1 h
  obtain ⟨k, hk, e⟩ := nI_of2 (by rw [hn]; exact nI_toInt (by omega)) h1 (Int32.not_lt.mp h2)
  have e2 : x.toNatClampNeg = k := by rw [e]; exact nI_clamp (by omega)
  rw [e2]
  exact ⟨e, hk⟩
/-- inside 0 .. n: a natural -/
theorem iw_n {x hi : Int32} {n : Nat} (hn : hi = nI n) (hb : n < 1000000) (h : ¬ rX6_isWithin x 0 hi = 0) : ∃ k : Nat, k ≤ n ∧ x = nI k := by
  obtain ⟨h1, h2⟩ := iw_1 h
  exact nI_of2 (by rw [hn]; exact nI_toInt (by omega)) h1 (Int32.not_lt.mp h2)

def sX1_pourIntoBoot (g : Nat → Nat → Int32) (x : Int32) : Nat → Nat → Int32 := up2 (up2 g 4 0 ((g 4 0) + (imin x (300 - (g 4 0))))) 4 2 ((g 4 2) + (x - (imin x (300 - (g 4 0)))))
set_option maxHeartbeats 4000000 in
set_option maxRecDepth 100000 in
/-- X1.pourIntoBoot -/
theorem c_X1_pourIntoBoot (l : Launch) (G : Gp) (a : Nat → Nat) (g : Nat → Nat → Int32) (x : Int32) (Y : va_W) : Cn l G yX1_pourIntoBoot cX1_pourIntoBoot 3 none 1 [.ref (a 4), .int x] (LegW G a g ++ Y) none (LegW G a (sX1_pourIntoBoot g x) ++ Y) := by
  refine CnE.of (by decide) (Nat.le_of_ble_eq_true rfl) ?_
  intro p e s m below meth c ls M hnm hl hW
  have hx := M.1
  have hb := M.2.1
  have hl : lv_has ls 3 [(0, .ref (a 4)), (1, .int x)] := hl
  refine lv_iload_n hx hb dX1_pourIntoBoot_0 rfl (lv_at hl 1 rfl) ?_
  refine lv_sipush (v := 300) hx hb dX1_pourIntoBoot_1 (by decide) ?_
  refine lv_aload_n hx hb dX1_pourIntoBoot_4 rfl (lv_at hl 0 rfl) ?_
  refine gt_Leg_4_0 M hW kw_31 (x := g 4 0) rfl dX1_pourIntoBoot_5 ?_
  refine lv_isub hx hb dX1_pourIntoBoot_8 ?_
  refine r_min M kw_38 kw_24 kw_21 kw_25 hl.1 (by decide) (Nat.le_of_ble_eq_true rfl) ⟨Nat.zero_le _, Nat.zero_le _⟩ dX1_pourIntoBoot_9 ?_
  refine lv_istore_n (lv' := [(2, .int (imin x (300 - (g 4 0)))), (0, .ref (a 4)), (1, .int x)]) hx hb dX1_pourIntoBoot_12 rfl hl (by decide) rfl (fun ls hl => ?_)
  refine lv_aload_n hx hb dX1_pourIntoBoot_13 rfl (lv_at hl 1 rfl) ?_
  refine lv_dup hx hb dX1_pourIntoBoot_14 rfl ?_
  refine gt_Leg_4_0 M hW kw_31 (x := g 4 0) rfl dX1_pourIntoBoot_15 ?_
  refine lv_iload_n hx hb dX1_pourIntoBoot_18 rfl (lv_at hl 0 rfl) ?_
  refine lv_iadd hx hb dX1_pourIntoBoot_19 ?_
  refine pt_Leg_4_0 M hW kw_31 dX1_pourIntoBoot_20 (fun H locs hW => ?_)
  refine lv_aload_n hx hb dX1_pourIntoBoot_23 rfl (lv_at hl 1 rfl) ?_
  refine lv_dup hx hb dX1_pourIntoBoot_24 rfl ?_
  refine gt_Leg_4_2 M hW kw_33 (x := g 4 2) (up2_k (by decide)) dX1_pourIntoBoot_25 ?_
  refine lv_iload_n hx hb dX1_pourIntoBoot_28 rfl (lv_at hl 2 rfl) ?_
  refine lv_iload_n hx hb dX1_pourIntoBoot_29 rfl (lv_at hl 0 rfl) ?_
  refine lv_isub hx hb dX1_pourIntoBoot_30 ?_
  refine lv_iadd hx hb dX1_pourIntoBoot_31 ?_
  refine pt_Leg_4_2 M hW kw_33 dX1_pourIntoBoot_32 (fun H locs hW => ?_)
  exact r_retv M hW (by rw [sX1_pourIntoBoot]) ⟨rfl, rfl⟩ (Nat.zero_le _) (Nat.zero_le _) dX1_pourIntoBoot_35

def sX1_feedIn (g : Nat → Nat → Int32) (x : Int32) : Nat → Nat → Int32 := sX1_pourIntoBoot (up2 g 4 3 ((g 4 3) + x)) x
set_option maxHeartbeats 4000000 in
set_option maxRecDepth 100000 in
/-- X1.feedIn -/
theorem c_X1_feedIn (l : Launch) (G : Gp) (a : Nat → Nat) (g : Nat → Nat → Int32) (x : Int32) (Y : va_W) : Cn l G yX1_feedIn cX1_feedIn 2 none 2 [.ref (a 4), .int x] (LegW G a g ++ Y) none (LegW G a (sX1_feedIn g x) ++ Y) := by
  refine CnE.of (by decide) (Nat.le_of_ble_eq_true rfl) ?_
  intro p e s m below meth c ls M hnm hl hW
  have hx := M.1
  have hb := M.2.1
  have hl : lv_has ls 2 [(0, .ref (a 4)), (1, .int x)] := hl
  refine lv_aload_n hx hb dX1_feedIn_0 rfl (lv_at hl 0 rfl) ?_
  refine lv_dup hx hb dX1_feedIn_1 rfl ?_
  refine gt_Leg_4_3 M hW kw_34 (x := g 4 3) rfl dX1_feedIn_2 ?_
  refine lv_iload_n hx hb dX1_feedIn_5 rfl (lv_at hl 1 rfl) ?_
  refine lv_iadd hx hb dX1_feedIn_6 ?_
  refine pt_Leg_4_3 M hW kw_34 dX1_feedIn_7 (fun H locs hW => ?_)
  refine lv_aload_n hx hb dX1_feedIn_10 rfl (lv_at hl 0 rfl) ?_
  refine lv_iload_n hx hb dX1_feedIn_11 rfl (lv_at hl 1 rfl) ?_
  refine r_callVv M hW (c_X1_pourIntoBoot l G a (up2 g 4 3 ((g 4 3) + x)) x (Y)) rfl kw_40 kw_41 kw_42 kw_43 kw_37 pl_X1_pourIntoBoot 4 rfl rfl ⟨by decide, by decide⟩ ⟨Nat.zero_le _, Nat.zero_le _⟩ hl.1 rfl (Nat.le_of_ble_eq_true rfl) dX1_feedIn_12 (fun H locs hW => ?_)
  exact r_retv M hW (by rw [sX1_feedIn]) ⟨rfl, rfl⟩ (Nat.zero_le _) (Nat.zero_le _) dX1_feedIn_15

def sX1_fallBack (g : Nat → Nat → Int32) (x : Int32) : Nat → Nat → Int32 := sX1_pourIntoBoot (up2 g 4 5 ((g 4 5) + x)) x
set_option maxHeartbeats 4000000 in
set_option maxRecDepth 100000 in
/-- X1.fallBack -/
theorem c_X1_fallBack (l : Launch) (G : Gp) (a : Nat → Nat) (g : Nat → Nat → Int32) (x : Int32) (Y : va_W) : Cn l G yX1_fallBack cX1_fallBack 2 none 2 [.ref (a 4), .int x] (LegW G a g ++ Y) none (LegW G a (sX1_fallBack g x) ++ Y) := by
  refine CnE.of (by decide) (Nat.le_of_ble_eq_true rfl) ?_
  intro p e s m below meth c ls M hnm hl hW
  have hx := M.1
  have hb := M.2.1
  have hl : lv_has ls 2 [(0, .ref (a 4)), (1, .int x)] := hl
  refine lv_aload_n hx hb dX1_fallBack_0 rfl (lv_at hl 0 rfl) ?_
  refine lv_dup hx hb dX1_fallBack_1 rfl ?_
  refine gt_Leg_4_5 M hW kw_36 (x := g 4 5) rfl dX1_fallBack_2 ?_
  refine lv_iload_n hx hb dX1_fallBack_5 rfl (lv_at hl 1 rfl) ?_
  refine lv_iadd hx hb dX1_fallBack_6 ?_
  refine pt_Leg_4_5 M hW kw_36 dX1_fallBack_7 (fun H locs hW => ?_)
  refine lv_aload_n hx hb dX1_fallBack_10 rfl (lv_at hl 0 rfl) ?_
  refine lv_iload_n hx hb dX1_fallBack_11 rfl (lv_at hl 1 rfl) ?_
  refine r_callVv M hW (c_X1_pourIntoBoot l G a (up2 g 4 5 ((g 4 5) + x)) x (Y)) rfl kw_40 kw_41 kw_42 kw_43 kw_37 pl_X1_pourIntoBoot 4 rfl rfl ⟨by decide, by decide⟩ ⟨Nat.zero_le _, Nat.zero_le _⟩ hl.1 rfl (Nat.le_of_ble_eq_true rfl) dX1_fallBack_12 (fun H locs hW => ?_)
  exact r_retv M hW (by rw [sX1_fallBack]) ⟨rfl, rfl⟩ (Nat.zero_le _) (Nat.zero_le _) dX1_fallBack_15

def sX1_become (g : Nat → Nat → Int32) (g2 : Nat → Nat → Int32) : Nat → Nat → Int32 := up2 (up2 (up2 (up2 (up2 (up2 g 4 0 (g2 4 0)) 4 1 (g2 4 1)) 4 2 (g2 4 2)) 4 3 (g2 4 3)) 4 4 (g2 4 4)) 4 5 (g2 4 5)
set_option maxHeartbeats 4000000 in
set_option maxRecDepth 100000 in
/-- X1.become -/
theorem c_X1_become (l : Launch) (G : Gp) (a : Nat → Nat) (a2 : Nat → Nat) (g : Nat → Nat → Int32) (g2 : Nat → Nat → Int32) (Y : va_W) : Cn l G yX1_become cX1_become 2 none 0 [.ref (a 4), .ref (a2 4)] (LegW G a g ++ (LegW G a2 g2 ++ Y)) none (LegW G a (sX1_become g g2) ++ (LegW G a2 g2 ++ Y)) := by
  refine CnE.of (by decide) (Nat.le_of_ble_eq_true rfl) ?_
  intro p e s m below meth c ls M hnm hl hW
  have hx := M.1
  have hb := M.2.1
  have hl : lv_has ls 2 [(0, .ref (a 4)), (1, .ref (a2 4))] := hl
  refine lv_aload_n hx hb dX1_become_0 rfl (lv_at hl 0 rfl) ?_
  refine lv_aload_n hx hb dX1_become_1 rfl (lv_at hl 1 rfl) ?_
  refine gt_Leg_4_0 M hW.drop kw_31 (x := g2 4 0) rfl dX1_become_2 ?_
  refine pt_Leg_4_0 M hW kw_31 dX1_become_5 (fun H locs hW => ?_)
  refine lv_aload_n hx hb dX1_become_8 rfl (lv_at hl 0 rfl) ?_
  refine lv_aload_n hx hb dX1_become_9 rfl (lv_at hl 1 rfl) ?_
  refine gt_Leg_4_1 M hW.drop kw_32 (x := g2 4 1) rfl dX1_become_10 ?_
  refine pt_Leg_4_1 M hW kw_32 dX1_become_13 (fun H locs hW => ?_)
  refine lv_aload_n hx hb dX1_become_16 rfl (lv_at hl 0 rfl) ?_
  refine lv_aload_n hx hb dX1_become_17 rfl (lv_at hl 1 rfl) ?_
  refine gt_Leg_4_2 M hW.drop kw_33 (x := g2 4 2) rfl dX1_become_18 ?_
  refine pt_Leg_4_2 M hW kw_33 dX1_become_21 (fun H locs hW => ?_)
  refine lv_aload_n hx hb dX1_become_24 rfl (lv_at hl 0 rfl) ?_
  refine lv_aload_n hx hb dX1_become_25 rfl (lv_at hl 1 rfl) ?_
  refine gt_Leg_4_3 M hW.drop kw_34 (x := g2 4 3) rfl dX1_become_26 ?_
  refine pt_Leg_4_3 M hW kw_34 dX1_become_29 (fun H locs hW => ?_)
  refine lv_aload_n hx hb dX1_become_32 rfl (lv_at hl 0 rfl) ?_
  refine lv_aload_n hx hb dX1_become_33 rfl (lv_at hl 1 rfl) ?_
  refine gt_Leg_4_4 M hW.drop kw_35 (x := g2 4 4) rfl dX1_become_34 ?_
  refine pt_Leg_4_4 M hW kw_35 dX1_become_37 (fun H locs hW => ?_)
  refine lv_aload_n hx hb dX1_become_40 rfl (lv_at hl 0 rfl) ?_
  refine lv_aload_n hx hb dX1_become_41 rfl (lv_at hl 1 rfl) ?_
  refine gt_Leg_4_5 M hW.drop kw_36 (x := g2 4 5) rfl dX1_become_42 ?_
  refine pt_Leg_4_5 M hW kw_36 dX1_become_45 (fun H locs hW => ?_)
  exact r_retv M hW (by rw [sX1_become]) ⟨rfl, rfl⟩ (Nat.zero_le _) (Nat.zero_le _) dX1_become_48

def sX0_become (g : Nat → Nat → Int32) (g2 : Nat → Nat → Int32) : Nat → Nat → Int32 := up2 (cp2 g 3 (g2 3)) 2 1 (g2 2 1)
set_option maxHeartbeats 4000000 in
set_option maxRecDepth 100000 in
/-- X0.become -/
theorem c_X0_become (l : Launch) (G : Gp) (a : Nat → Nat) (a2 : Nat → Nat) (g : Nat → Nat → Int32) (g2 : Nat → Nat → Int32) (Y : va_W) : Cn l G yX0_become cX0_become 2 none 2 [.ref (a 2), .ref (a2 2)] (LegW G a g ++ (LegW G a2 g2 ++ Y)) none (LegW G a (sX0_become g g2) ++ (LegW G a2 g2 ++ Y)) := by
  refine CnE.of (by decide) (Nat.le_of_ble_eq_true rfl) ?_
  intro p e s m below meth c ls M hnm hl hW
  have hx := M.1
  have hb := M.2.1
  have hl : lv_has ls 2 [(0, .ref (a 2)), (1, .ref (a2 2))] := hl
  refine lv_aload_n hx hb dX0_become_0 rfl (lv_at hl 1 rfl) ?_
  refine gt_Leg_2_0 M hW.drop kw_5 dX0_become_1 ?_
  refine lv_iconst (v := 0) hx hb dX0_become_4 (by decide) ?_
  refine lv_aload_n hx hb dX0_become_5 rfl (lv_at hl 0 rfl) ?_
  refine gt_Leg_2_0 M hW kw_5 dX0_become_6 ?_
  refine lv_iconst (v := 0) hx hb dX0_become_9 (by decide) ?_
  refine lv_bipush (v := 12) hx hb dX0_become_10 (by decide) ?_
  refine cpy_Leg_3 M hW kw_7 hl.1 (by decide) (Nat.le_of_ble_eq_true rfl) dX0_become_12 (fun H locs hW => ?_)
  refine lv_aload_n hx hb dX0_become_15 rfl (lv_at hl 0 rfl) ?_
  refine lv_aload_n hx hb dX0_become_16 rfl (lv_at hl 1 rfl) ?_
  refine gt_Leg_2_1 M hW.drop kw_11 (x := g2 2 1) rfl dX0_become_17 ?_
  refine pt_Leg_2_1 M hW kw_11 dX0_become_20 (fun H locs hW => ?_)
  exact r_retv M hW (by rw [sX0_become]) ⟨rfl, rfl⟩ (Nat.zero_le _) (Nat.zero_le _) dX0_become_23

def rX0_at (g : Nat → Nat → Int32) (x : Int32) : Int32 := if (rX6_isWithin x 0 11) = 0 then (-101) else g 3 ((jB g + x.toNatClampNeg) % 12)
set_option maxHeartbeats 4000000 in
set_option maxRecDepth 100000 in
/-- X0.at -/
theorem c_X0_at (l : Launch) (G : Gp) (a : Nat → Nat) (g : Nat → Nat → Int32) (x : Int32) (Y : va_W) (hOK : LegOK g) : Cn l G yX0_at cX0_at 2 (some .int) 1 [.ref (a 2), .int x] (LegW G a g ++ Y) (some (.int (rX0_at g x))) (LegW G a g ++ Y) := by
  refine CnE.of (by decide) (Nat.le_of_ble_eq_true rfl) ?_
  intro p e s m below meth c ls M hnm hl hW
  have hx := M.1
  have hb := M.2.1
  have hl : lv_has ls 2 [(0, .ref (a 2)), (1, .int x)] := hl
  refine lv_iload_n hx hb dX0_at_0 rfl (lv_at hl 1 rfl) ?_
  refine lv_iconst (v := 0) hx hb dX0_at_1 (by decide) ?_
  refine lv_bipush (v := 11) hx hb dX0_at_2 (by decide) ?_
  refine r_callSNi M hW (as := [.int x, .int 0, .int 11]) (c_X6_isWithin l G x 0 11 (LegW G a g ++ Y)) rfl kn_X0_25 kw_14 kw_15 kw_12 pl_X6_isWithin ⟨by decide, by decide⟩ ⟨Nat.zero_le _, Nat.zero_le _⟩ hl.1 rfl (Nat.le_of_ble_eq_true rfl) dX0_at_4 (fun H locs hW => ?_)
  refine lv_if_eq (tgt := 27) hx hb dX0_at_7 (by decide) (fun c_7 => ?_) (fun c_7 => ?_)
  · skip
    refine lv_bipush (v := (-101)) hx hb dX0_at_27 (by decide) ?_
    exact r_reti M hW rfl ⟨by rw [rX0_at, if_pos c_7], rfl⟩ (Nat.zero_le _) (Nat.zero_le _) dX0_at_29
  · skip
    have hk := iw_c (n := 11) rfl (by decide) c_7
    refine lv_aload_n hx hb dX0_at_10 rfl (lv_at hl 0 rfl) ?_
    refine gt_Leg_2_0 M hW kw_5 dX0_at_11 ?_
    refine lv_aload_n hx hb dX0_at_14 rfl (lv_at hl 0 rfl) ?_
    refine gt_Leg_2_1 M hW kw_11 (x := g 2 1) rfl dX0_at_15 ?_
    refine lv_iload_n hx hb dX0_at_18 rfl (lv_at hl 1 rfl) ?_
    refine lv_iadd hx hb dX0_at_19 ?_
    refine lv_bipush (v := 12) hx hb dX0_at_20 (by decide) ?_
    refine lv_irem hx hb dX0_at_22 (by decide) ?_
    refine r_top (y := nI ((jB g + x.toNatClampNeg) % 12)) (hOK.ixx hk.1 (by omega)) ?_
    refine al_Leg_3 M hW ((jB g + x.toNatClampNeg) % 12) rfl (Nat.mod_lt _ (by decide)) (x := g 3 ((jB g + x.toNatClampNeg) % 12)) rfl dX0_at_23 ?_
    refine lv_goto (tgt := 29) hx hb dX0_at_24 (by decide) ?_
    exact r_reti M hW rfl ⟨by rw [rX0_at, if_neg c_7], rfl⟩ (Nat.zero_le _) (Nat.zero_le _) dX0_at_29

def sX0_moveOn (g : Nat → Nat → Int32) : Nat → Nat → Int32 := up2 g 2 1 (nI ((jB g + 11) % 12))
set_option maxHeartbeats 4000000 in
set_option maxRecDepth 100000 in
/-- X0.moveOn -/
theorem c_X0_moveOn (l : Launch) (G : Gp) (a : Nat → Nat) (g : Nat → Nat → Int32) (Y : va_W) (hOK : LegOK g) : Cn l G yX0_moveOn cX0_moveOn 1 none 0 [.ref (a 2)] (LegW G a g ++ Y) none (LegW G a (sX0_moveOn g) ++ Y) := by
  refine CnE.of (by decide) (Nat.le_of_ble_eq_true rfl) ?_
  intro p e s m below meth c ls M hnm hl hW
  have hx := M.1
  have hb := M.2.1
  have hl : lv_has ls 1 [(0, .ref (a 2))] := hl
  refine lv_aload_n hx hb dX0_moveOn_0 rfl (lv_at hl 0 rfl) ?_
  refine lv_aload_n hx hb dX0_moveOn_1 rfl (lv_at hl 0 rfl) ?_
  refine gt_Leg_2_1 M hW kw_11 (x := g 2 1) rfl dX0_moveOn_2 ?_
  refine lv_bipush (v := 12) hx hb dX0_moveOn_5 (by decide) ?_
  refine lv_iadd hx hb dX0_moveOn_7 ?_
  refine lv_iconst (v := 1) hx hb dX0_moveOn_8 (by decide) ?_
  refine lv_isub hx hb dX0_moveOn_9 ?_
  refine lv_bipush (v := 12) hx hb dX0_moveOn_10 (by decide) ?_
  refine lv_irem hx hb dX0_moveOn_12 (by decide) ?_
  refine r_top (y := nI ((jB g + 11) % 12)) (hOK.ixm) ?_
  refine pt_Leg_2_1 M hW kw_11 dX0_moveOn_13 (fun H locs hW => ?_)
  exact r_retv M hW (by rw [sX0_moveOn]) ⟨rfl, rfl⟩ (Nat.zero_le _) (Nat.zero_le _) dX0_moveOn_16

def rX0_emptyAtHead (g : Nat → Nat → Int32) : Int32 := g 3 ((jB g + 6) % 12)
def sX0_emptyAtHead (g : Nat → Nat → Int32) : Nat → Nat → Int32 := up2 g 3 ((jB g + 6) % 12) 0
set_option maxHeartbeats 4000000 in
set_option maxRecDepth 100000 in
/-- X0.emptyAtHead -/
theorem c_X0_emptyAtHead (l : Launch) (G : Gp) (a : Nat → Nat) (g : Nat → Nat → Int32) (Y : va_W) (hOK : LegOK g) : Cn l G yX0_emptyAtHead cX0_emptyAtHead 3 (some .int) 0 [.ref (a 2)] (LegW G a g ++ Y) (some (.int (rX0_emptyAtHead g))) (LegW G a (sX0_emptyAtHead g) ++ Y) := by
  refine CnE.of (by decide) (Nat.le_of_ble_eq_true rfl) ?_
  intro p e s m below meth c ls M hnm hl hW
  have hx := M.1
  have hb := M.2.1
  have hl : lv_has ls 3 [(0, .ref (a 2))] := hl
  refine lv_aload_n hx hb dX0_emptyAtHead_0 rfl (lv_at hl 0 rfl) ?_
  refine gt_Leg_2_1 M hW kw_11 (x := g 2 1) rfl dX0_emptyAtHead_1 ?_
  refine lv_bipush (v := 6) hx hb dX0_emptyAtHead_4 (by decide) ?_
  refine lv_iadd hx hb dX0_emptyAtHead_6 ?_
  refine lv_bipush (v := 12) hx hb dX0_emptyAtHead_7 (by decide) ?_
  refine lv_irem hx hb dX0_emptyAtHead_9 (by decide) ?_
  refine r_top (y := nI ((jB g + 6) % 12)) (hOK.ix 6 (by decide)) ?_
  refine lv_istore_n (lv' := [(1, .int (nI ((jB g + 6) % 12))), (0, .ref (a 2))]) hx hb dX0_emptyAtHead_10 rfl hl (by decide) rfl (fun ls hl => ?_)
  refine lv_aload_n hx hb dX0_emptyAtHead_11 rfl (lv_at hl 1 rfl) ?_
  refine gt_Leg_2_0 M hW kw_5 dX0_emptyAtHead_12 ?_
  refine lv_iload_n hx hb dX0_emptyAtHead_15 rfl (lv_at hl 0 rfl) ?_
  refine al_Leg_3 M hW ((jB g + 6) % 12) rfl (Nat.mod_lt _ (by decide)) (x := g 3 ((jB g + 6) % 12)) rfl dX0_emptyAtHead_16 ?_
  refine lv_istore_n (lv' := [(2, .int (g 3 ((jB g + 6) % 12))), (1, .int (nI ((jB g + 6) % 12))), (0, .ref (a 2))]) hx hb dX0_emptyAtHead_17 rfl hl (by decide) rfl (fun ls hl => ?_)
  refine lv_aload_n hx hb dX0_emptyAtHead_18 rfl (lv_at hl 2 rfl) ?_
  refine gt_Leg_2_0 M hW kw_5 dX0_emptyAtHead_19 ?_
  refine lv_iload_n hx hb dX0_emptyAtHead_22 rfl (lv_at hl 1 rfl) ?_
  refine lv_iconst (v := 0) hx hb dX0_emptyAtHead_23 (by decide) ?_
  refine as_Leg_3 M hW ((jB g + 6) % 12) rfl (Nat.mod_lt _ (by decide)) dX0_emptyAtHead_24 (fun H locs hW => ?_)
  refine lv_iload_n hx hb dX0_emptyAtHead_25 rfl (lv_at hl 0 rfl) ?_
  exact r_reti M hW (by rw [sX0_emptyAtHead]) ⟨by rw [rX0_emptyAtHead], rfl⟩ (Nat.zero_le _) (Nat.zero_le _) dX0_emptyAtHead_26

def rX0_fillInBoot (g : Nat → Nat → Int32) (x : Int32) (y : Int32) : Int32 := imin x (imax 0 (y - (g 3 (jB g))))
def sX0_fillInBoot (g : Nat → Nat → Int32) (x : Int32) (y : Int32) : Nat → Nat → Int32 := up2 g 3 (jB g) ((g 3 (jB g)) + (imin x (imax 0 (y - (g 3 (jB g))))))
set_option maxHeartbeats 4000000 in
set_option maxRecDepth 100000 in
/-- X0.fillInBoot -/
theorem c_X0_fillInBoot (l : Launch) (G : Gp) (a : Nat → Nat) (g : Nat → Nat → Int32) (x : Int32) (y : Int32) (Y : va_W) (hOK : LegOK g) : Cn l G yX0_fillInBoot cX0_fillInBoot 4 (some .int) 1 [.ref (a 2), .int x, .int y] (LegW G a g ++ Y) (some (.int (rX0_fillInBoot g x y))) (LegW G a (sX0_fillInBoot g x y) ++ Y) := by
  refine CnE.of (by decide) (Nat.le_of_ble_eq_true rfl) ?_
  intro p e s m below meth c ls M hnm hl hW
  have hx := M.1
  have hb := M.2.1
  have hl : lv_has ls 4 [(0, .ref (a 2)), (1, .int x), (2, .int y)] := hl
  refine lv_iload_n hx hb dX0_fillInBoot_0 rfl (lv_at hl 1 rfl) ?_
  refine lv_iconst (v := 0) hx hb dX0_fillInBoot_1 (by decide) ?_
  refine lv_iload_n hx hb dX0_fillInBoot_2 rfl (lv_at hl 2 rfl) ?_
  refine lv_aload_n hx hb dX0_fillInBoot_3 rfl (lv_at hl 0 rfl) ?_
  refine gt_Leg_2_0 M hW kw_5 dX0_fillInBoot_4 ?_
  refine lv_aload_n hx hb dX0_fillInBoot_7 rfl (lv_at hl 0 rfl) ?_
  refine gt_Leg_2_1 M hW kw_11 (x := g 2 1) rfl dX0_fillInBoot_8 ?_
  refine al_Leg_3 M hW (jB g) hOK.eq.1 hOK.eq.2 (x := g 3 (jB g)) rfl dX0_fillInBoot_11 ?_
  refine lv_isub hx hb dX0_fillInBoot_12 ?_
  refine r_max M kw_19 kw_20 kw_21 kw_22 hl.1 (by decide) (Nat.le_of_ble_eq_true rfl) ⟨Nat.zero_le _, Nat.zero_le _⟩ dX0_fillInBoot_13 ?_
  refine r_min M kw_23 kw_24 kw_21 kw_25 hl.1 (by decide) (Nat.le_of_ble_eq_true rfl) ⟨Nat.zero_le _, Nat.zero_le _⟩ dX0_fillInBoot_16 ?_
  refine lv_istore_n (lv' := [(3, .int (imin x (imax 0 (y - (g 3 (jB g)))))), (0, .ref (a 2)), (1, .int x), (2, .int y)]) hx hb dX0_fillInBoot_19 rfl hl (by decide) rfl (fun ls hl => ?_)
  refine lv_aload_n hx hb dX0_fillInBoot_20 rfl (lv_at hl 1 rfl) ?_
  refine gt_Leg_2_0 M hW kw_5 dX0_fillInBoot_21 ?_
  refine lv_aload_n hx hb dX0_fillInBoot_24 rfl (lv_at hl 1 rfl) ?_
  refine gt_Leg_2_1 M hW kw_11 (x := g 2 1) rfl dX0_fillInBoot_25 ?_
  refine lv_dup2_11 hx hb dX0_fillInBoot_28 rfl rfl ?_
  refine al_Leg_3 M hW (jB g) hOK.eq.1 hOK.eq.2 (x := g 3 (jB g)) rfl dX0_fillInBoot_29 ?_
  refine lv_iload_n hx hb dX0_fillInBoot_30 rfl (lv_at hl 0 rfl) ?_
  refine lv_iadd hx hb dX0_fillInBoot_31 ?_
  refine as_Leg_3 M hW (jB g) hOK.eq.1 hOK.eq.2 dX0_fillInBoot_32 (fun H locs hW => ?_)
  refine lv_iload_n hx hb dX0_fillInBoot_33 rfl (lv_at hl 0 rfl) ?_
  exact r_reti M hW (by rw [sX0_fillInBoot]) ⟨by rw [rX0_fillInBoot], rfl⟩ (Nat.zero_le _) (Nat.zero_le _) dX0_fillInBoot_34

def rX0_onTheWayUp (g : Nat → Nat → Int32) : Int32 := (((((0 + (g 3 ((jB g + 1) % 12))) + (g 3 ((jB g + 2) % 12))) + (g 3 ((jB g + 3) % 12))) + (g 3 ((jB g + 4) % 12))) + (g 3 ((jB g + 5) % 12))) + (g 3 ((jB g + 6) % 12))
set_option maxHeartbeats 4000000 in
set_option maxRecDepth 100000 in
/-- X0.onTheWayUp -/
theorem c_X0_onTheWayUp (l : Launch) (G : Gp) (a : Nat → Nat) (g : Nat → Nat → Int32) (Y : va_W) (hOK : LegOK g) : Cn l G yX0_onTheWayUp cX0_onTheWayUp 3 (some .int) 0 [.ref (a 2)] (LegW G a g ++ Y) (some (.int (rX0_onTheWayUp g))) (LegW G a g ++ Y) := by
  refine CnE.of (by decide) (Nat.le_of_ble_eq_true rfl) ?_
  intro p e s m below meth c ls M hnm hl hW
  have hx := M.1
  have hb := M.2.1
  have hl : lv_has ls 3 [(0, .ref (a 2))] := hl
  refine lv_iconst (v := 0) hx hb dX0_onTheWayUp_0 (by decide) ?_
  refine lv_istore_n (lv' := [(1, .int 0), (0, .ref (a 2))]) hx hb dX0_onTheWayUp_1 rfl hl (by decide) rfl (fun ls hl => ?_)
  refine lv_iconst (v := 1) hx hb dX0_onTheWayUp_2 (by decide) ?_
  refine lv_istore_n (lv' := [(2, .int 1), (1, .int 0), (0, .ref (a 2))]) hx hb dX0_onTheWayUp_3 rfl hl (by decide) rfl (fun ls hl => ?_)
  refine lv_iload_n hx hb dX0_onTheWayUp_4 rfl (lv_at hl 0 rfl) ?_
  refine lv_bipush (v := 6) hx hb dX0_onTheWayUp_5 (by decide) ?_
  refine lv_icmp_gt (tgt := 33) hx hb dX0_onTheWayUp_7 (by decide) (fun c_7 => ?_) (fun c_7 => ?_)
  · skip
    exact absurd c_7 (by decide)
  · skip
    refine lv_iload_n hx hb dX0_onTheWayUp_10 rfl (lv_at hl 1 rfl) ?_
    refine lv_aload_n hx hb dX0_onTheWayUp_11 rfl (lv_at hl 2 rfl) ?_
    refine gt_Leg_2_0 M hW kw_5 dX0_onTheWayUp_12 ?_
    refine lv_aload_n hx hb dX0_onTheWayUp_15 rfl (lv_at hl 2 rfl) ?_
    refine gt_Leg_2_1 M hW kw_11 (x := g 2 1) rfl dX0_onTheWayUp_16 ?_
    refine lv_iload_n hx hb dX0_onTheWayUp_19 rfl (lv_at hl 0 rfl) ?_
    refine lv_iadd hx hb dX0_onTheWayUp_20 ?_
    refine lv_bipush (v := 12) hx hb dX0_onTheWayUp_21 (by decide) ?_
    refine lv_irem hx hb dX0_onTheWayUp_23 (by decide) ?_
    refine r_top (y := nI ((jB g + 1) % 12)) (hOK.ix 1 (by decide)) ?_
    refine al_Leg_3 M hW ((jB g + 1) % 12) rfl (Nat.mod_lt _ (by decide)) (x := g 3 ((jB g + 1) % 12)) rfl dX0_onTheWayUp_24 ?_
    refine lv_iadd hx hb dX0_onTheWayUp_25 ?_
    refine lv_istore_n (lv' := [(1, .int (0 + (g 3 ((jB g + 1) % 12)))), (2, .int 1), (0, .ref (a 2))]) hx hb dX0_onTheWayUp_26 rfl hl (by decide) rfl (fun ls hl => ?_)
    refine lv_iinc (v := 2) (lv' := [(2, .int 2), (1, .int (0 + (g 3 ((jB g + 1) % 12)))), (0, .ref (a 2))]) hx hb dX0_onTheWayUp_27 hl (k := 1) rfl (by decide) (by decide) rfl (fun ls hl => ?_)
    refine lv_goto (tgt := 4) hx hb dX0_onTheWayUp_30 (by decide) ?_
    refine lv_iload_n hx hb dX0_onTheWayUp_4 rfl (lv_at hl 0 rfl) ?_
    refine lv_bipush (v := 6) hx hb dX0_onTheWayUp_5 (by decide) ?_
    refine lv_icmp_gt (tgt := 33) hx hb dX0_onTheWayUp_7 (by decide) (fun c_7_2 => ?_) (fun c_7_2 => ?_)
    · skip
      exact absurd c_7_2 (by decide)
    · skip
      refine lv_iload_n hx hb dX0_onTheWayUp_10 rfl (lv_at hl 1 rfl) ?_
      refine lv_aload_n hx hb dX0_onTheWayUp_11 rfl (lv_at hl 2 rfl) ?_
      refine gt_Leg_2_0 M hW kw_5 dX0_onTheWayUp_12 ?_
      refine lv_aload_n hx hb dX0_onTheWayUp_15 rfl (lv_at hl 2 rfl) ?_
      refine gt_Leg_2_1 M hW kw_11 (x := g 2 1) rfl dX0_onTheWayUp_16 ?_
      refine lv_iload_n hx hb dX0_onTheWayUp_19 rfl (lv_at hl 0 rfl) ?_
      refine lv_iadd hx hb dX0_onTheWayUp_20 ?_
      refine lv_bipush (v := 12) hx hb dX0_onTheWayUp_21 (by decide) ?_
      refine lv_irem hx hb dX0_onTheWayUp_23 (by decide) ?_
      refine r_top (y := nI ((jB g + 2) % 12)) (hOK.ix 2 (by decide)) ?_
      refine al_Leg_3 M hW ((jB g + 2) % 12) rfl (Nat.mod_lt _ (by decide)) (x := g 3 ((jB g + 2) % 12)) rfl dX0_onTheWayUp_24 ?_
      refine lv_iadd hx hb dX0_onTheWayUp_25 ?_
      refine lv_istore_n (lv' := [(1, .int ((0 + (g 3 ((jB g + 1) % 12))) + (g 3 ((jB g + 2) % 12)))), (2, .int 2), (0, .ref (a 2))]) hx hb dX0_onTheWayUp_26 rfl hl (by decide) rfl (fun ls hl => ?_)
      refine lv_iinc (v := 3) (lv' := [(2, .int 3), (1, .int ((0 + (g 3 ((jB g + 1) % 12))) + (g 3 ((jB g + 2) % 12)))), (0, .ref (a 2))]) hx hb dX0_onTheWayUp_27 hl (k := 1) rfl (by decide) (by decide) rfl (fun ls hl => ?_)
      refine lv_goto (tgt := 4) hx hb dX0_onTheWayUp_30 (by decide) ?_
      refine lv_iload_n hx hb dX0_onTheWayUp_4 rfl (lv_at hl 0 rfl) ?_
      refine lv_bipush (v := 6) hx hb dX0_onTheWayUp_5 (by decide) ?_
      refine lv_icmp_gt (tgt := 33) hx hb dX0_onTheWayUp_7 (by decide) (fun c_7_3 => ?_) (fun c_7_3 => ?_)
      · skip
        exact absurd c_7_3 (by decide)
      · skip
        refine lv_iload_n hx hb dX0_onTheWayUp_10 rfl (lv_at hl 1 rfl) ?_
        refine lv_aload_n hx hb dX0_onTheWayUp_11 rfl (lv_at hl 2 rfl) ?_
        refine gt_Leg_2_0 M hW kw_5 dX0_onTheWayUp_12 ?_
        refine lv_aload_n hx hb dX0_onTheWayUp_15 rfl (lv_at hl 2 rfl) ?_
        refine gt_Leg_2_1 M hW kw_11 (x := g 2 1) rfl dX0_onTheWayUp_16 ?_
        refine lv_iload_n hx hb dX0_onTheWayUp_19 rfl (lv_at hl 0 rfl) ?_
        refine lv_iadd hx hb dX0_onTheWayUp_20 ?_
        refine lv_bipush (v := 12) hx hb dX0_onTheWayUp_21 (by decide) ?_
        refine lv_irem hx hb dX0_onTheWayUp_23 (by decide) ?_
        refine r_top (y := nI ((jB g + 3) % 12)) (hOK.ix 3 (by decide)) ?_
        refine al_Leg_3 M hW ((jB g + 3) % 12) rfl (Nat.mod_lt _ (by decide)) (x := g 3 ((jB g + 3) % 12)) rfl dX0_onTheWayUp_24 ?_
        refine lv_iadd hx hb dX0_onTheWayUp_25 ?_
        refine lv_istore_n (lv' := [(1, .int (((0 + (g 3 ((jB g + 1) % 12))) + (g 3 ((jB g + 2) % 12))) + (g 3 ((jB g + 3) % 12)))), (2, .int 3), (0, .ref (a 2))]) hx hb dX0_onTheWayUp_26 rfl hl (by decide) rfl (fun ls hl => ?_)
        refine lv_iinc (v := 4) (lv' := [(2, .int 4), (1, .int (((0 + (g 3 ((jB g + 1) % 12))) + (g 3 ((jB g + 2) % 12))) + (g 3 ((jB g + 3) % 12)))), (0, .ref (a 2))]) hx hb dX0_onTheWayUp_27 hl (k := 1) rfl (by decide) (by decide) rfl (fun ls hl => ?_)
        refine lv_goto (tgt := 4) hx hb dX0_onTheWayUp_30 (by decide) ?_
        refine lv_iload_n hx hb dX0_onTheWayUp_4 rfl (lv_at hl 0 rfl) ?_
        refine lv_bipush (v := 6) hx hb dX0_onTheWayUp_5 (by decide) ?_
        refine lv_icmp_gt (tgt := 33) hx hb dX0_onTheWayUp_7 (by decide) (fun c_7_4 => ?_) (fun c_7_4 => ?_)
        · skip
          exact absurd c_7_4 (by decide)
        · skip
          refine lv_iload_n hx hb dX0_onTheWayUp_10 rfl (lv_at hl 1 rfl) ?_
          refine lv_aload_n hx hb dX0_onTheWayUp_11 rfl (lv_at hl 2 rfl) ?_
          refine gt_Leg_2_0 M hW kw_5 dX0_onTheWayUp_12 ?_
          refine lv_aload_n hx hb dX0_onTheWayUp_15 rfl (lv_at hl 2 rfl) ?_
          refine gt_Leg_2_1 M hW kw_11 (x := g 2 1) rfl dX0_onTheWayUp_16 ?_
          refine lv_iload_n hx hb dX0_onTheWayUp_19 rfl (lv_at hl 0 rfl) ?_
          refine lv_iadd hx hb dX0_onTheWayUp_20 ?_
          refine lv_bipush (v := 12) hx hb dX0_onTheWayUp_21 (by decide) ?_
          refine lv_irem hx hb dX0_onTheWayUp_23 (by decide) ?_
          refine r_top (y := nI ((jB g + 4) % 12)) (hOK.ix 4 (by decide)) ?_
          refine al_Leg_3 M hW ((jB g + 4) % 12) rfl (Nat.mod_lt _ (by decide)) (x := g 3 ((jB g + 4) % 12)) rfl dX0_onTheWayUp_24 ?_
          refine lv_iadd hx hb dX0_onTheWayUp_25 ?_
          refine lv_istore_n (lv' := [(1, .int ((((0 + (g 3 ((jB g + 1) % 12))) + (g 3 ((jB g + 2) % 12))) + (g 3 ((jB g + 3) % 12))) + (g 3 ((jB g + 4) % 12)))), (2, .int 4), (0, .ref (a 2))]) hx hb dX0_onTheWayUp_26 rfl hl (by decide) rfl (fun ls hl => ?_)
          refine lv_iinc (v := 5) (lv' := [(2, .int 5), (1, .int ((((0 + (g 3 ((jB g + 1) % 12))) + (g 3 ((jB g + 2) % 12))) + (g 3 ((jB g + 3) % 12))) + (g 3 ((jB g + 4) % 12)))), (0, .ref (a 2))]) hx hb dX0_onTheWayUp_27 hl (k := 1) rfl (by decide) (by decide) rfl (fun ls hl => ?_)
          refine lv_goto (tgt := 4) hx hb dX0_onTheWayUp_30 (by decide) ?_
          refine lv_iload_n hx hb dX0_onTheWayUp_4 rfl (lv_at hl 0 rfl) ?_
          refine lv_bipush (v := 6) hx hb dX0_onTheWayUp_5 (by decide) ?_
          refine lv_icmp_gt (tgt := 33) hx hb dX0_onTheWayUp_7 (by decide) (fun c_7_5 => ?_) (fun c_7_5 => ?_)
          · skip
            exact absurd c_7_5 (by decide)
          · skip
            refine lv_iload_n hx hb dX0_onTheWayUp_10 rfl (lv_at hl 1 rfl) ?_
            refine lv_aload_n hx hb dX0_onTheWayUp_11 rfl (lv_at hl 2 rfl) ?_
            refine gt_Leg_2_0 M hW kw_5 dX0_onTheWayUp_12 ?_
            refine lv_aload_n hx hb dX0_onTheWayUp_15 rfl (lv_at hl 2 rfl) ?_
            refine gt_Leg_2_1 M hW kw_11 (x := g 2 1) rfl dX0_onTheWayUp_16 ?_
            refine lv_iload_n hx hb dX0_onTheWayUp_19 rfl (lv_at hl 0 rfl) ?_
            refine lv_iadd hx hb dX0_onTheWayUp_20 ?_
            refine lv_bipush (v := 12) hx hb dX0_onTheWayUp_21 (by decide) ?_
            refine lv_irem hx hb dX0_onTheWayUp_23 (by decide) ?_
            refine r_top (y := nI ((jB g + 5) % 12)) (hOK.ix 5 (by decide)) ?_
            refine al_Leg_3 M hW ((jB g + 5) % 12) rfl (Nat.mod_lt _ (by decide)) (x := g 3 ((jB g + 5) % 12)) rfl dX0_onTheWayUp_24 ?_
            refine lv_iadd hx hb dX0_onTheWayUp_25 ?_
            refine lv_istore_n (lv' := [(1, .int (((((0 + (g 3 ((jB g + 1) % 12))) + (g 3 ((jB g + 2) % 12))) + (g 3 ((jB g + 3) % 12))) + (g 3 ((jB g + 4) % 12))) + (g 3 ((jB g + 5) % 12)))), (2, .int 5), (0, .ref (a 2))]) hx hb dX0_onTheWayUp_26 rfl hl (by decide) rfl (fun ls hl => ?_)
            refine lv_iinc (v := 6) (lv' := [(2, .int 6), (1, .int (((((0 + (g 3 ((jB g + 1) % 12))) + (g 3 ((jB g + 2) % 12))) + (g 3 ((jB g + 3) % 12))) + (g 3 ((jB g + 4) % 12))) + (g 3 ((jB g + 5) % 12)))), (0, .ref (a 2))]) hx hb dX0_onTheWayUp_27 hl (k := 1) rfl (by decide) (by decide) rfl (fun ls hl => ?_)
            refine lv_goto (tgt := 4) hx hb dX0_onTheWayUp_30 (by decide) ?_
            refine lv_iload_n hx hb dX0_onTheWayUp_4 rfl (lv_at hl 0 rfl) ?_
            refine lv_bipush (v := 6) hx hb dX0_onTheWayUp_5 (by decide) ?_
            refine lv_icmp_gt (tgt := 33) hx hb dX0_onTheWayUp_7 (by decide) (fun c_7_6 => ?_) (fun c_7_6 => ?_)
            · skip
              exact absurd c_7_6 (by decide)
            · skip
              refine lv_iload_n hx hb dX0_onTheWayUp_10 rfl (lv_at hl 1 rfl) ?_
              refine lv_aload_n hx hb dX0_onTheWayUp_11 rfl (lv_at hl 2 rfl) ?_
              refine gt_Leg_2_0 M hW kw_5 dX0_onTheWayUp_12 ?_
              refine lv_aload_n hx hb dX0_onTheWayUp_15 rfl (lv_at hl 2 rfl) ?_
              refine gt_Leg_2_1 M hW kw_11 (x := g 2 1) rfl dX0_onTheWayUp_16 ?_
              refine lv_iload_n hx hb dX0_onTheWayUp_19 rfl (lv_at hl 0 rfl) ?_
              refine lv_iadd hx hb dX0_onTheWayUp_20 ?_
              refine lv_bipush (v := 12) hx hb dX0_onTheWayUp_21 (by decide) ?_
              refine lv_irem hx hb dX0_onTheWayUp_23 (by decide) ?_
              refine r_top (y := nI ((jB g + 6) % 12)) (hOK.ix 6 (by decide)) ?_
              refine al_Leg_3 M hW ((jB g + 6) % 12) rfl (Nat.mod_lt _ (by decide)) (x := g 3 ((jB g + 6) % 12)) rfl dX0_onTheWayUp_24 ?_
              refine lv_iadd hx hb dX0_onTheWayUp_25 ?_
              refine lv_istore_n (lv' := [(1, .int ((((((0 + (g 3 ((jB g + 1) % 12))) + (g 3 ((jB g + 2) % 12))) + (g 3 ((jB g + 3) % 12))) + (g 3 ((jB g + 4) % 12))) + (g 3 ((jB g + 5) % 12))) + (g 3 ((jB g + 6) % 12)))), (2, .int 6), (0, .ref (a 2))]) hx hb dX0_onTheWayUp_26 rfl hl (by decide) rfl (fun ls hl => ?_)
              refine lv_iinc (v := 7) (lv' := [(2, .int 7), (1, .int ((((((0 + (g 3 ((jB g + 1) % 12))) + (g 3 ((jB g + 2) % 12))) + (g 3 ((jB g + 3) % 12))) + (g 3 ((jB g + 4) % 12))) + (g 3 ((jB g + 5) % 12))) + (g 3 ((jB g + 6) % 12)))), (0, .ref (a 2))]) hx hb dX0_onTheWayUp_27 hl (k := 1) rfl (by decide) (by decide) rfl (fun ls hl => ?_)
              refine lv_goto (tgt := 4) hx hb dX0_onTheWayUp_30 (by decide) ?_
              refine lv_iload_n hx hb dX0_onTheWayUp_4 rfl (lv_at hl 0 rfl) ?_
              refine lv_bipush (v := 6) hx hb dX0_onTheWayUp_5 (by decide) ?_
              refine lv_icmp_gt (tgt := 33) hx hb dX0_onTheWayUp_7 (by decide) (fun c_7_7 => ?_) (fun c_7_7 => ?_)
              · skip
                refine lv_iload_n hx hb dX0_onTheWayUp_33 rfl (lv_at hl 1 rfl) ?_
                exact r_reti M hW rfl ⟨by rw [rX0_onTheWayUp], rfl⟩ (Nat.zero_le _) (Nat.zero_le _) dX0_onTheWayUp_34
              · skip
                exact absurd c_7_7 (by decide)

def rX0_onAll (g : Nat → Nat → Int32) : Int32 := (((((((((((0 + (g 3 0)) + (g 3 1)) + (g 3 2)) + (g 3 3)) + (g 3 4)) + (g 3 5)) + (g 3 6)) + (g 3 7)) + (g 3 8)) + (g 3 9)) + (g 3 10)) + (g 3 11)
set_option maxHeartbeats 4000000 in
set_option maxRecDepth 100000 in
/-- X0.onAll -/
theorem c_X0_onAll (l : Launch) (G : Gp) (a : Nat → Nat) (g : Nat → Nat → Int32) (Y : va_W) : Cn l G yX0_onAll cX0_onAll 3 (some .int) 0 [.ref (a 2)] (LegW G a g ++ Y) (some (.int (rX0_onAll g))) (LegW G a g ++ Y) := by
  refine CnE.of (by decide) (Nat.le_of_ble_eq_true rfl) ?_
  intro p e s m below meth c ls M hnm hl hW
  have hx := M.1
  have hb := M.2.1
  have hl : lv_has ls 3 [(0, .ref (a 2))] := hl
  refine lv_iconst (v := 0) hx hb dX0_onAll_0 (by decide) ?_
  refine lv_istore_n (lv' := [(1, .int 0), (0, .ref (a 2))]) hx hb dX0_onAll_1 rfl hl (by decide) rfl (fun ls hl => ?_)
  refine lv_iconst (v := 0) hx hb dX0_onAll_2 (by decide) ?_
  refine lv_istore_n (lv' := [(2, .int 0), (1, .int 0), (0, .ref (a 2))]) hx hb dX0_onAll_3 rfl hl (by decide) rfl (fun ls hl => ?_)
  refine lv_iload_n hx hb dX0_onAll_4 rfl (lv_at hl 0 rfl) ?_
  refine lv_bipush (v := 12) hx hb dX0_onAll_5 (by decide) ?_
  refine lv_icmp_ge (tgt := 25) hx hb dX0_onAll_7 (by decide) (fun c_7 => ?_) (fun c_7 => ?_)
  · skip
    exact absurd c_7 (by decide)
  · skip
    refine lv_iload_n hx hb dX0_onAll_10 rfl (lv_at hl 1 rfl) ?_
    refine lv_aload_n hx hb dX0_onAll_11 rfl (lv_at hl 2 rfl) ?_
    refine gt_Leg_2_0 M hW kw_5 dX0_onAll_12 ?_
    refine lv_iload_n hx hb dX0_onAll_15 rfl (lv_at hl 0 rfl) ?_
    refine al_Leg_3 M hW 0 rfl (by decide) (x := g 3 0) rfl dX0_onAll_16 ?_
    refine lv_iadd hx hb dX0_onAll_17 ?_
    refine lv_istore_n (lv' := [(1, .int (0 + (g 3 0))), (2, .int 0), (0, .ref (a 2))]) hx hb dX0_onAll_18 rfl hl (by decide) rfl (fun ls hl => ?_)
    refine lv_iinc (v := 1) (lv' := [(2, .int 1), (1, .int (0 + (g 3 0))), (0, .ref (a 2))]) hx hb dX0_onAll_19 hl (k := 1) rfl (by decide) (by decide) rfl (fun ls hl => ?_)
    refine lv_goto (tgt := 4) hx hb dX0_onAll_22 (by decide) ?_
    refine lv_iload_n hx hb dX0_onAll_4 rfl (lv_at hl 0 rfl) ?_
    refine lv_bipush (v := 12) hx hb dX0_onAll_5 (by decide) ?_
    refine lv_icmp_ge (tgt := 25) hx hb dX0_onAll_7 (by decide) (fun c_7_2 => ?_) (fun c_7_2 => ?_)
    · skip
      exact absurd c_7_2 (by decide)
    · skip
      refine lv_iload_n hx hb dX0_onAll_10 rfl (lv_at hl 1 rfl) ?_
      refine lv_aload_n hx hb dX0_onAll_11 rfl (lv_at hl 2 rfl) ?_
      refine gt_Leg_2_0 M hW kw_5 dX0_onAll_12 ?_
      refine lv_iload_n hx hb dX0_onAll_15 rfl (lv_at hl 0 rfl) ?_
      refine al_Leg_3 M hW 1 rfl (by decide) (x := g 3 1) rfl dX0_onAll_16 ?_
      refine lv_iadd hx hb dX0_onAll_17 ?_
      refine lv_istore_n (lv' := [(1, .int ((0 + (g 3 0)) + (g 3 1))), (2, .int 1), (0, .ref (a 2))]) hx hb dX0_onAll_18 rfl hl (by decide) rfl (fun ls hl => ?_)
      refine lv_iinc (v := 2) (lv' := [(2, .int 2), (1, .int ((0 + (g 3 0)) + (g 3 1))), (0, .ref (a 2))]) hx hb dX0_onAll_19 hl (k := 1) rfl (by decide) (by decide) rfl (fun ls hl => ?_)
      refine lv_goto (tgt := 4) hx hb dX0_onAll_22 (by decide) ?_
      refine lv_iload_n hx hb dX0_onAll_4 rfl (lv_at hl 0 rfl) ?_
      refine lv_bipush (v := 12) hx hb dX0_onAll_5 (by decide) ?_
      refine lv_icmp_ge (tgt := 25) hx hb dX0_onAll_7 (by decide) (fun c_7_3 => ?_) (fun c_7_3 => ?_)
      · skip
        exact absurd c_7_3 (by decide)
      · skip
        refine lv_iload_n hx hb dX0_onAll_10 rfl (lv_at hl 1 rfl) ?_
        refine lv_aload_n hx hb dX0_onAll_11 rfl (lv_at hl 2 rfl) ?_
        refine gt_Leg_2_0 M hW kw_5 dX0_onAll_12 ?_
        refine lv_iload_n hx hb dX0_onAll_15 rfl (lv_at hl 0 rfl) ?_
        refine al_Leg_3 M hW 2 rfl (by decide) (x := g 3 2) rfl dX0_onAll_16 ?_
        refine lv_iadd hx hb dX0_onAll_17 ?_
        refine lv_istore_n (lv' := [(1, .int (((0 + (g 3 0)) + (g 3 1)) + (g 3 2))), (2, .int 2), (0, .ref (a 2))]) hx hb dX0_onAll_18 rfl hl (by decide) rfl (fun ls hl => ?_)
        refine lv_iinc (v := 3) (lv' := [(2, .int 3), (1, .int (((0 + (g 3 0)) + (g 3 1)) + (g 3 2))), (0, .ref (a 2))]) hx hb dX0_onAll_19 hl (k := 1) rfl (by decide) (by decide) rfl (fun ls hl => ?_)
        refine lv_goto (tgt := 4) hx hb dX0_onAll_22 (by decide) ?_
        refine lv_iload_n hx hb dX0_onAll_4 rfl (lv_at hl 0 rfl) ?_
        refine lv_bipush (v := 12) hx hb dX0_onAll_5 (by decide) ?_
        refine lv_icmp_ge (tgt := 25) hx hb dX0_onAll_7 (by decide) (fun c_7_4 => ?_) (fun c_7_4 => ?_)
        · skip
          exact absurd c_7_4 (by decide)
        · skip
          refine lv_iload_n hx hb dX0_onAll_10 rfl (lv_at hl 1 rfl) ?_
          refine lv_aload_n hx hb dX0_onAll_11 rfl (lv_at hl 2 rfl) ?_
          refine gt_Leg_2_0 M hW kw_5 dX0_onAll_12 ?_
          refine lv_iload_n hx hb dX0_onAll_15 rfl (lv_at hl 0 rfl) ?_
          refine al_Leg_3 M hW 3 rfl (by decide) (x := g 3 3) rfl dX0_onAll_16 ?_
          refine lv_iadd hx hb dX0_onAll_17 ?_
          refine lv_istore_n (lv' := [(1, .int ((((0 + (g 3 0)) + (g 3 1)) + (g 3 2)) + (g 3 3))), (2, .int 3), (0, .ref (a 2))]) hx hb dX0_onAll_18 rfl hl (by decide) rfl (fun ls hl => ?_)
          refine lv_iinc (v := 4) (lv' := [(2, .int 4), (1, .int ((((0 + (g 3 0)) + (g 3 1)) + (g 3 2)) + (g 3 3))), (0, .ref (a 2))]) hx hb dX0_onAll_19 hl (k := 1) rfl (by decide) (by decide) rfl (fun ls hl => ?_)
          refine lv_goto (tgt := 4) hx hb dX0_onAll_22 (by decide) ?_
          refine lv_iload_n hx hb dX0_onAll_4 rfl (lv_at hl 0 rfl) ?_
          refine lv_bipush (v := 12) hx hb dX0_onAll_5 (by decide) ?_
          refine lv_icmp_ge (tgt := 25) hx hb dX0_onAll_7 (by decide) (fun c_7_5 => ?_) (fun c_7_5 => ?_)
          · skip
            exact absurd c_7_5 (by decide)
          · skip
            refine lv_iload_n hx hb dX0_onAll_10 rfl (lv_at hl 1 rfl) ?_
            refine lv_aload_n hx hb dX0_onAll_11 rfl (lv_at hl 2 rfl) ?_
            refine gt_Leg_2_0 M hW kw_5 dX0_onAll_12 ?_
            refine lv_iload_n hx hb dX0_onAll_15 rfl (lv_at hl 0 rfl) ?_
            refine al_Leg_3 M hW 4 rfl (by decide) (x := g 3 4) rfl dX0_onAll_16 ?_
            refine lv_iadd hx hb dX0_onAll_17 ?_
            refine lv_istore_n (lv' := [(1, .int (((((0 + (g 3 0)) + (g 3 1)) + (g 3 2)) + (g 3 3)) + (g 3 4))), (2, .int 4), (0, .ref (a 2))]) hx hb dX0_onAll_18 rfl hl (by decide) rfl (fun ls hl => ?_)
            refine lv_iinc (v := 5) (lv' := [(2, .int 5), (1, .int (((((0 + (g 3 0)) + (g 3 1)) + (g 3 2)) + (g 3 3)) + (g 3 4))), (0, .ref (a 2))]) hx hb dX0_onAll_19 hl (k := 1) rfl (by decide) (by decide) rfl (fun ls hl => ?_)
            refine lv_goto (tgt := 4) hx hb dX0_onAll_22 (by decide) ?_
            refine lv_iload_n hx hb dX0_onAll_4 rfl (lv_at hl 0 rfl) ?_
            refine lv_bipush (v := 12) hx hb dX0_onAll_5 (by decide) ?_
            refine lv_icmp_ge (tgt := 25) hx hb dX0_onAll_7 (by decide) (fun c_7_6 => ?_) (fun c_7_6 => ?_)
            · skip
              exact absurd c_7_6 (by decide)
            · skip
              refine lv_iload_n hx hb dX0_onAll_10 rfl (lv_at hl 1 rfl) ?_
              refine lv_aload_n hx hb dX0_onAll_11 rfl (lv_at hl 2 rfl) ?_
              refine gt_Leg_2_0 M hW kw_5 dX0_onAll_12 ?_
              refine lv_iload_n hx hb dX0_onAll_15 rfl (lv_at hl 0 rfl) ?_
              refine al_Leg_3 M hW 5 rfl (by decide) (x := g 3 5) rfl dX0_onAll_16 ?_
              refine lv_iadd hx hb dX0_onAll_17 ?_
              refine lv_istore_n (lv' := [(1, .int ((((((0 + (g 3 0)) + (g 3 1)) + (g 3 2)) + (g 3 3)) + (g 3 4)) + (g 3 5))), (2, .int 5), (0, .ref (a 2))]) hx hb dX0_onAll_18 rfl hl (by decide) rfl (fun ls hl => ?_)
              refine lv_iinc (v := 6) (lv' := [(2, .int 6), (1, .int ((((((0 + (g 3 0)) + (g 3 1)) + (g 3 2)) + (g 3 3)) + (g 3 4)) + (g 3 5))), (0, .ref (a 2))]) hx hb dX0_onAll_19 hl (k := 1) rfl (by decide) (by decide) rfl (fun ls hl => ?_)
              refine lv_goto (tgt := 4) hx hb dX0_onAll_22 (by decide) ?_
              refine lv_iload_n hx hb dX0_onAll_4 rfl (lv_at hl 0 rfl) ?_
              refine lv_bipush (v := 12) hx hb dX0_onAll_5 (by decide) ?_
              refine lv_icmp_ge (tgt := 25) hx hb dX0_onAll_7 (by decide) (fun c_7_7 => ?_) (fun c_7_7 => ?_)
              · skip
                exact absurd c_7_7 (by decide)
              · skip
                refine lv_iload_n hx hb dX0_onAll_10 rfl (lv_at hl 1 rfl) ?_
                refine lv_aload_n hx hb dX0_onAll_11 rfl (lv_at hl 2 rfl) ?_
                refine gt_Leg_2_0 M hW kw_5 dX0_onAll_12 ?_
                refine lv_iload_n hx hb dX0_onAll_15 rfl (lv_at hl 0 rfl) ?_
                refine al_Leg_3 M hW 6 rfl (by decide) (x := g 3 6) rfl dX0_onAll_16 ?_
                refine lv_iadd hx hb dX0_onAll_17 ?_
                refine lv_istore_n (lv' := [(1, .int (((((((0 + (g 3 0)) + (g 3 1)) + (g 3 2)) + (g 3 3)) + (g 3 4)) + (g 3 5)) + (g 3 6))), (2, .int 6), (0, .ref (a 2))]) hx hb dX0_onAll_18 rfl hl (by decide) rfl (fun ls hl => ?_)
                refine lv_iinc (v := 7) (lv' := [(2, .int 7), (1, .int (((((((0 + (g 3 0)) + (g 3 1)) + (g 3 2)) + (g 3 3)) + (g 3 4)) + (g 3 5)) + (g 3 6))), (0, .ref (a 2))]) hx hb dX0_onAll_19 hl (k := 1) rfl (by decide) (by decide) rfl (fun ls hl => ?_)
                refine lv_goto (tgt := 4) hx hb dX0_onAll_22 (by decide) ?_
                refine lv_iload_n hx hb dX0_onAll_4 rfl (lv_at hl 0 rfl) ?_
                refine lv_bipush (v := 12) hx hb dX0_onAll_5 (by decide) ?_
                refine lv_icmp_ge (tgt := 25) hx hb dX0_onAll_7 (by decide) (fun c_7_8 => ?_) (fun c_7_8 => ?_)
                · skip
                  exact absurd c_7_8 (by decide)
                · skip
                  refine lv_iload_n hx hb dX0_onAll_10 rfl (lv_at hl 1 rfl) ?_
                  refine lv_aload_n hx hb dX0_onAll_11 rfl (lv_at hl 2 rfl) ?_
                  refine gt_Leg_2_0 M hW kw_5 dX0_onAll_12 ?_
                  refine lv_iload_n hx hb dX0_onAll_15 rfl (lv_at hl 0 rfl) ?_
                  refine al_Leg_3 M hW 7 rfl (by decide) (x := g 3 7) rfl dX0_onAll_16 ?_
                  refine lv_iadd hx hb dX0_onAll_17 ?_
                  refine lv_istore_n (lv' := [(1, .int ((((((((0 + (g 3 0)) + (g 3 1)) + (g 3 2)) + (g 3 3)) + (g 3 4)) + (g 3 5)) + (g 3 6)) + (g 3 7))), (2, .int 7), (0, .ref (a 2))]) hx hb dX0_onAll_18 rfl hl (by decide) rfl (fun ls hl => ?_)
                  refine lv_iinc (v := 8) (lv' := [(2, .int 8), (1, .int ((((((((0 + (g 3 0)) + (g 3 1)) + (g 3 2)) + (g 3 3)) + (g 3 4)) + (g 3 5)) + (g 3 6)) + (g 3 7))), (0, .ref (a 2))]) hx hb dX0_onAll_19 hl (k := 1) rfl (by decide) (by decide) rfl (fun ls hl => ?_)
                  refine lv_goto (tgt := 4) hx hb dX0_onAll_22 (by decide) ?_
                  refine lv_iload_n hx hb dX0_onAll_4 rfl (lv_at hl 0 rfl) ?_
                  refine lv_bipush (v := 12) hx hb dX0_onAll_5 (by decide) ?_
                  refine lv_icmp_ge (tgt := 25) hx hb dX0_onAll_7 (by decide) (fun c_7_9 => ?_) (fun c_7_9 => ?_)
                  · skip
                    exact absurd c_7_9 (by decide)
                  · skip
                    refine lv_iload_n hx hb dX0_onAll_10 rfl (lv_at hl 1 rfl) ?_
                    refine lv_aload_n hx hb dX0_onAll_11 rfl (lv_at hl 2 rfl) ?_
                    refine gt_Leg_2_0 M hW kw_5 dX0_onAll_12 ?_
                    refine lv_iload_n hx hb dX0_onAll_15 rfl (lv_at hl 0 rfl) ?_
                    refine al_Leg_3 M hW 8 rfl (by decide) (x := g 3 8) rfl dX0_onAll_16 ?_
                    refine lv_iadd hx hb dX0_onAll_17 ?_
                    refine lv_istore_n (lv' := [(1, .int (((((((((0 + (g 3 0)) + (g 3 1)) + (g 3 2)) + (g 3 3)) + (g 3 4)) + (g 3 5)) + (g 3 6)) + (g 3 7)) + (g 3 8))), (2, .int 8), (0, .ref (a 2))]) hx hb dX0_onAll_18 rfl hl (by decide) rfl (fun ls hl => ?_)
                    refine lv_iinc (v := 9) (lv' := [(2, .int 9), (1, .int (((((((((0 + (g 3 0)) + (g 3 1)) + (g 3 2)) + (g 3 3)) + (g 3 4)) + (g 3 5)) + (g 3 6)) + (g 3 7)) + (g 3 8))), (0, .ref (a 2))]) hx hb dX0_onAll_19 hl (k := 1) rfl (by decide) (by decide) rfl (fun ls hl => ?_)
                    refine lv_goto (tgt := 4) hx hb dX0_onAll_22 (by decide) ?_
                    refine lv_iload_n hx hb dX0_onAll_4 rfl (lv_at hl 0 rfl) ?_
                    refine lv_bipush (v := 12) hx hb dX0_onAll_5 (by decide) ?_
                    refine lv_icmp_ge (tgt := 25) hx hb dX0_onAll_7 (by decide) (fun c_7_10 => ?_) (fun c_7_10 => ?_)
                    · skip
                      exact absurd c_7_10 (by decide)
                    · skip
                      refine lv_iload_n hx hb dX0_onAll_10 rfl (lv_at hl 1 rfl) ?_
                      refine lv_aload_n hx hb dX0_onAll_11 rfl (lv_at hl 2 rfl) ?_
                      refine gt_Leg_2_0 M hW kw_5 dX0_onAll_12 ?_
                      refine lv_iload_n hx hb dX0_onAll_15 rfl (lv_at hl 0 rfl) ?_
                      refine al_Leg_3 M hW 9 rfl (by decide) (x := g 3 9) rfl dX0_onAll_16 ?_
                      refine lv_iadd hx hb dX0_onAll_17 ?_
                      refine lv_istore_n (lv' := [(1, .int ((((((((((0 + (g 3 0)) + (g 3 1)) + (g 3 2)) + (g 3 3)) + (g 3 4)) + (g 3 5)) + (g 3 6)) + (g 3 7)) + (g 3 8)) + (g 3 9))), (2, .int 9), (0, .ref (a 2))]) hx hb dX0_onAll_18 rfl hl (by decide) rfl (fun ls hl => ?_)
                      refine lv_iinc (v := 10) (lv' := [(2, .int 10), (1, .int ((((((((((0 + (g 3 0)) + (g 3 1)) + (g 3 2)) + (g 3 3)) + (g 3 4)) + (g 3 5)) + (g 3 6)) + (g 3 7)) + (g 3 8)) + (g 3 9))), (0, .ref (a 2))]) hx hb dX0_onAll_19 hl (k := 1) rfl (by decide) (by decide) rfl (fun ls hl => ?_)
                      refine lv_goto (tgt := 4) hx hb dX0_onAll_22 (by decide) ?_
                      refine lv_iload_n hx hb dX0_onAll_4 rfl (lv_at hl 0 rfl) ?_
                      refine lv_bipush (v := 12) hx hb dX0_onAll_5 (by decide) ?_
                      refine lv_icmp_ge (tgt := 25) hx hb dX0_onAll_7 (by decide) (fun c_7_11 => ?_) (fun c_7_11 => ?_)
                      · skip
                        exact absurd c_7_11 (by decide)
                      · skip
                        refine lv_iload_n hx hb dX0_onAll_10 rfl (lv_at hl 1 rfl) ?_
                        refine lv_aload_n hx hb dX0_onAll_11 rfl (lv_at hl 2 rfl) ?_
                        refine gt_Leg_2_0 M hW kw_5 dX0_onAll_12 ?_
                        refine lv_iload_n hx hb dX0_onAll_15 rfl (lv_at hl 0 rfl) ?_
                        refine al_Leg_3 M hW 10 rfl (by decide) (x := g 3 10) rfl dX0_onAll_16 ?_
                        refine lv_iadd hx hb dX0_onAll_17 ?_
                        refine lv_istore_n (lv' := [(1, .int (((((((((((0 + (g 3 0)) + (g 3 1)) + (g 3 2)) + (g 3 3)) + (g 3 4)) + (g 3 5)) + (g 3 6)) + (g 3 7)) + (g 3 8)) + (g 3 9)) + (g 3 10))), (2, .int 10), (0, .ref (a 2))]) hx hb dX0_onAll_18 rfl hl (by decide) rfl (fun ls hl => ?_)
                        refine lv_iinc (v := 11) (lv' := [(2, .int 11), (1, .int (((((((((((0 + (g 3 0)) + (g 3 1)) + (g 3 2)) + (g 3 3)) + (g 3 4)) + (g 3 5)) + (g 3 6)) + (g 3 7)) + (g 3 8)) + (g 3 9)) + (g 3 10))), (0, .ref (a 2))]) hx hb dX0_onAll_19 hl (k := 1) rfl (by decide) (by decide) rfl (fun ls hl => ?_)
                        refine lv_goto (tgt := 4) hx hb dX0_onAll_22 (by decide) ?_
                        refine lv_iload_n hx hb dX0_onAll_4 rfl (lv_at hl 0 rfl) ?_
                        refine lv_bipush (v := 12) hx hb dX0_onAll_5 (by decide) ?_
                        refine lv_icmp_ge (tgt := 25) hx hb dX0_onAll_7 (by decide) (fun c_7_12 => ?_) (fun c_7_12 => ?_)
                        · skip
                          exact absurd c_7_12 (by decide)
                        · skip
                          refine lv_iload_n hx hb dX0_onAll_10 rfl (lv_at hl 1 rfl) ?_
                          refine lv_aload_n hx hb dX0_onAll_11 rfl (lv_at hl 2 rfl) ?_
                          refine gt_Leg_2_0 M hW kw_5 dX0_onAll_12 ?_
                          refine lv_iload_n hx hb dX0_onAll_15 rfl (lv_at hl 0 rfl) ?_
                          refine al_Leg_3 M hW 11 rfl (by decide) (x := g 3 11) rfl dX0_onAll_16 ?_
                          refine lv_iadd hx hb dX0_onAll_17 ?_
                          refine lv_istore_n (lv' := [(1, .int ((((((((((((0 + (g 3 0)) + (g 3 1)) + (g 3 2)) + (g 3 3)) + (g 3 4)) + (g 3 5)) + (g 3 6)) + (g 3 7)) + (g 3 8)) + (g 3 9)) + (g 3 10)) + (g 3 11))), (2, .int 11), (0, .ref (a 2))]) hx hb dX0_onAll_18 rfl hl (by decide) rfl (fun ls hl => ?_)
                          refine lv_iinc (v := 12) (lv' := [(2, .int 12), (1, .int ((((((((((((0 + (g 3 0)) + (g 3 1)) + (g 3 2)) + (g 3 3)) + (g 3 4)) + (g 3 5)) + (g 3 6)) + (g 3 7)) + (g 3 8)) + (g 3 9)) + (g 3 10)) + (g 3 11))), (0, .ref (a 2))]) hx hb dX0_onAll_19 hl (k := 1) rfl (by decide) (by decide) rfl (fun ls hl => ?_)
                          refine lv_goto (tgt := 4) hx hb dX0_onAll_22 (by decide) ?_
                          refine lv_iload_n hx hb dX0_onAll_4 rfl (lv_at hl 0 rfl) ?_
                          refine lv_bipush (v := 12) hx hb dX0_onAll_5 (by decide) ?_
                          refine lv_icmp_ge (tgt := 25) hx hb dX0_onAll_7 (by decide) (fun c_7_13 => ?_) (fun c_7_13 => ?_)
                          · skip
                            refine lv_iload_n hx hb dX0_onAll_25 rfl (lv_at hl 1 rfl) ?_
                            exact r_reti M hW rfl ⟨by rw [rX0_onAll], rfl⟩ (Nat.zero_le _) (Nat.zero_le _) dX0_onAll_26
                          · skip
                            exact absurd c_7_13 (by decide)

def sX5_become (g : Nat → Nat → Int32) (g2 : Nat → Nat → Int32) : Nat → Nat → Int32 := up2 (cp2 (cp2 (cp2 g 6 (g2 6)) 7 (g2 7)) 8 (g2 8)) 5 3 (g2 5 3)
set_option maxHeartbeats 4000000 in
set_option maxRecDepth 100000 in
/-- X5.become -/
theorem c_X5_become (l : Launch) (G : Gp) (a : Nat → Nat) (a2 : Nat → Nat) (g : Nat → Nat → Int32) (g2 : Nat → Nat → Int32) (Y : va_W) : Cn l G yX5_become cX5_become 2 none 2 [.ref (a 5), .ref (a2 5)] (LegW G a g ++ (LegW G a2 g2 ++ Y)) none (LegW G a (sX5_become g g2) ++ (LegW G a2 g2 ++ Y)) := by
  refine CnE.of (by decide) (Nat.le_of_ble_eq_true rfl) ?_
  intro p e s m below meth c ls M hnm hl hW
  have hx := M.1
  have hb := M.2.1
  have hl : lv_has ls 2 [(0, .ref (a 5)), (1, .ref (a2 5))] := hl
  refine lv_aload_n hx hb dX5_become_0 rfl (lv_at hl 1 rfl) ?_
  refine gt_Leg_5_0 M hW.drop kw_47 dX5_become_1 ?_
  refine lv_iconst (v := 0) hx hb dX5_become_4 (by decide) ?_
  refine lv_aload_n hx hb dX5_become_5 rfl (lv_at hl 0 rfl) ?_
  refine gt_Leg_5_0 M hW kw_47 dX5_become_6 ?_
  refine lv_iconst (v := 0) hx hb dX5_become_9 (by decide) ?_
  refine lv_bipush (v := 6) hx hb dX5_become_10 (by decide) ?_
  refine cpy_Leg_6 M hW kw_90 hl.1 (by decide) (Nat.le_of_ble_eq_true rfl) dX5_become_12 (fun H locs hW => ?_)
  refine lv_aload_n hx hb dX5_become_15 rfl (lv_at hl 1 rfl) ?_
  refine gt_Leg_5_1 M hW.drop kw_48 dX5_become_16 ?_
  refine lv_iconst (v := 0) hx hb dX5_become_19 (by decide) ?_
  refine lv_aload_n hx hb dX5_become_20 rfl (lv_at hl 0 rfl) ?_
  refine gt_Leg_5_1 M hW kw_48 dX5_become_21 ?_
  refine lv_iconst (v := 0) hx hb dX5_become_24 (by decide) ?_
  refine lv_bipush (v := 6) hx hb dX5_become_25 (by decide) ?_
  refine cpy_Leg_7 M hW kw_90 hl.1 (by decide) (Nat.le_of_ble_eq_true rfl) dX5_become_27 (fun H locs hW => ?_)
  refine lv_aload_n hx hb dX5_become_30 rfl (lv_at hl 1 rfl) ?_
  refine gt_Leg_5_2 M hW.drop kw_49 dX5_become_31 ?_
  refine lv_iconst (v := 0) hx hb dX5_become_34 (by decide) ?_
  refine lv_aload_n hx hb dX5_become_35 rfl (lv_at hl 0 rfl) ?_
  refine gt_Leg_5_2 M hW kw_49 dX5_become_36 ?_
  refine lv_iconst (v := 0) hx hb dX5_become_39 (by decide) ?_
  refine lv_bipush (v := 6) hx hb dX5_become_40 (by decide) ?_
  refine cpy_Leg_8 M hW kw_90 hl.1 (by decide) (Nat.le_of_ble_eq_true rfl) dX5_become_42 (fun H locs hW => ?_)
  refine lv_aload_n hx hb dX5_become_45 rfl (lv_at hl 0 rfl) ?_
  refine lv_aload_n hx hb dX5_become_46 rfl (lv_at hl 1 rfl) ?_
  refine gt_Leg_5_3 M hW.drop kw_91 (x := g2 5 3) rfl dX5_become_47 ?_
  refine pt_Leg_5_3 M hW kw_91 dX5_become_50 (fun H locs hW => ?_)
  exact r_retv M hW (by rw [sX5_become]) ⟨rfl, rfl⟩ (Nat.zero_le _) (Nat.zero_le _) dX5_become_53

def sX5_note (g : Nat → Nat → Int32) (x : Int32) (y : Int32) (z : Int32) : Nat → Nat → Int32 := up2 (up2 (up2 (up2 (up2 (up2 (up2 (up2 (up2 (up2 (up2 (up2 (up2 (up2 (up2 (up2 (up2 (up2 (up2 g 6 5 (g 6 4)) 7 5 (g 7 4)) 8 5 (g 8 4)) 6 4 (g 6 3)) 7 4 (g 7 3)) 8 4 (g 8 3)) 6 3 (g 6 2)) 7 3 (g 7 2)) 8 3 (g 8 2)) 6 2 (g 6 1)) 7 2 (g 7 1)) 8 2 (g 8 1)) 6 1 (g 6 0)) 7 1 (g 7 0)) 8 1 (g 8 0)) 6 0 x) 7 0 y) 8 0 z) 5 3 (imin 6 ((g 5 3) + 1))
set_option maxHeartbeats 4000000 in
set_option maxRecDepth 100000 in
/-- X5.note -/
theorem c_X5_note (l : Launch) (G : Gp) (a : Nat → Nat) (g : Nat → Nat → Int32) (x : Int32) (y : Int32) (z : Int32) (Y : va_W) : Cn l G yX5_note cX5_note 5 none 1 [.ref (a 5), .int x, .int y, .int z] (LegW G a g ++ Y) none (LegW G a (sX5_note g x y z) ++ Y) := by
  refine CnE.of (by decide) (Nat.le_of_ble_eq_true rfl) ?_
  intro p e s m below meth c ls M hnm hl hW
  have hx := M.1
  have hb := M.2.1
  have hl : lv_has ls 5 [(0, .ref (a 5)), (1, .int x), (2, .int y), (3, .int z)] := hl
  refine lv_iconst (v := 5) hx hb dX5_note_0 (by decide) ?_
  refine lv_istore (lv' := [(4, .int 5), (0, .ref (a 5)), (1, .int x), (2, .int y), (3, .int z)]) hx hb dX5_note_1 hl (by decide) rfl (fun ls hl => ?_)
  refine lv_iload hx hb dX5_note_3 (lv_at hl 0 rfl) ?_
  refine lv_if_le (tgt := 62) hx hb dX5_note_5 (by decide) (fun c_5 => ?_) (fun c_5 => ?_)
  · skip
    exact absurd c_5 (by decide)
  · skip
    refine lv_aload_n hx hb dX5_note_8 rfl (lv_at hl 1 rfl) ?_
    refine gt_Leg_5_0 M hW kw_47 dX5_note_9 ?_
    refine lv_iload hx hb dX5_note_12 (lv_at hl 0 rfl) ?_
    refine lv_aload_n hx hb dX5_note_14 rfl (lv_at hl 1 rfl) ?_
    refine gt_Leg_5_0 M hW kw_47 dX5_note_15 ?_
    refine lv_iload hx hb dX5_note_18 (lv_at hl 0 rfl) ?_
    refine lv_iconst (v := 1) hx hb dX5_note_20 (by decide) ?_
    refine lv_isub hx hb dX5_note_21 ?_
    refine r_top (y := 4) (by decide) ?_
    refine al_Leg_6 M hW 4 rfl (by decide) (x := g 6 4) rfl dX5_note_22 ?_
    refine as_Leg_6 M hW 5 rfl (by decide) dX5_note_23 (fun H locs hW => ?_)
    refine lv_aload_n hx hb dX5_note_24 rfl (lv_at hl 1 rfl) ?_
    refine gt_Leg_5_1 M hW kw_48 dX5_note_25 ?_
    refine lv_iload hx hb dX5_note_28 (lv_at hl 0 rfl) ?_
    refine lv_aload_n hx hb dX5_note_30 rfl (lv_at hl 1 rfl) ?_
    refine gt_Leg_5_1 M hW kw_48 dX5_note_31 ?_
    refine lv_iload hx hb dX5_note_34 (lv_at hl 0 rfl) ?_
    refine lv_iconst (v := 1) hx hb dX5_note_36 (by decide) ?_
    refine lv_isub hx hb dX5_note_37 ?_
    refine r_top (y := 4) (by decide) ?_
    refine al_Leg_7 M hW 4 rfl (by decide) (x := g 7 4) (up2_d (by decide)) dX5_note_38 ?_
    refine as_Leg_7 M hW 5 rfl (by decide) dX5_note_39 (fun H locs hW => ?_)
    refine lv_aload_n hx hb dX5_note_40 rfl (lv_at hl 1 rfl) ?_
    refine gt_Leg_5_2 M hW kw_49 dX5_note_41 ?_
    refine lv_iload hx hb dX5_note_44 (lv_at hl 0 rfl) ?_
    refine lv_aload_n hx hb dX5_note_46 rfl (lv_at hl 1 rfl) ?_
    refine gt_Leg_5_2 M hW kw_49 dX5_note_47 ?_
    refine lv_iload hx hb dX5_note_50 (lv_at hl 0 rfl) ?_
    refine lv_iconst (v := 1) hx hb dX5_note_52 (by decide) ?_
    refine lv_isub hx hb dX5_note_53 ?_
    refine r_top (y := 4) (by decide) ?_
    refine al_Leg_8 M hW 4 rfl (by decide) (x := g 8 4) ((up2_d (by decide)).trans (up2_d (by decide))) dX5_note_54 ?_
    refine as_Leg_8 M hW 5 rfl (by decide) dX5_note_55 (fun H locs hW => ?_)
    refine lv_iinc (v := 4) (lv' := [(4, .int 4), (0, .ref (a 5)), (1, .int x), (2, .int y), (3, .int z)]) hx hb dX5_note_56 hl (k := 0) rfl (by decide) (by decide) rfl (fun ls hl => ?_)
    refine lv_goto (tgt := 3) hx hb dX5_note_59 (by decide) ?_
    refine lv_iload hx hb dX5_note_3 (lv_at hl 0 rfl) ?_
    refine lv_if_le (tgt := 62) hx hb dX5_note_5 (by decide) (fun c_5_2 => ?_) (fun c_5_2 => ?_)
    · skip
      exact absurd c_5_2 (by decide)
    · skip
      refine lv_aload_n hx hb dX5_note_8 rfl (lv_at hl 1 rfl) ?_
      refine gt_Leg_5_0 M hW kw_47 dX5_note_9 ?_
      refine lv_iload hx hb dX5_note_12 (lv_at hl 0 rfl) ?_
      refine lv_aload_n hx hb dX5_note_14 rfl (lv_at hl 1 rfl) ?_
      refine gt_Leg_5_0 M hW kw_47 dX5_note_15 ?_
      refine lv_iload hx hb dX5_note_18 (lv_at hl 0 rfl) ?_
      refine lv_iconst (v := 1) hx hb dX5_note_20 (by decide) ?_
      refine lv_isub hx hb dX5_note_21 ?_
      refine r_top (y := 3) (by decide) ?_
      refine al_Leg_6 M hW 3 rfl (by decide) (x := g 6 3) ((up2_d (by decide)).trans ((up2_d (by decide)).trans (up2_k (by decide)))) dX5_note_22 ?_
      refine as_Leg_6 M hW 4 rfl (by decide) dX5_note_23 (fun H locs hW => ?_)
      refine lv_aload_n hx hb dX5_note_24 rfl (lv_at hl 1 rfl) ?_
      refine gt_Leg_5_1 M hW kw_48 dX5_note_25 ?_
      refine lv_iload hx hb dX5_note_28 (lv_at hl 0 rfl) ?_
      refine lv_aload_n hx hb dX5_note_30 rfl (lv_at hl 1 rfl) ?_
      refine gt_Leg_5_1 M hW kw_48 dX5_note_31 ?_
      refine lv_iload hx hb dX5_note_34 (lv_at hl 0 rfl) ?_
      refine lv_iconst (v := 1) hx hb dX5_note_36 (by decide) ?_
      refine lv_isub hx hb dX5_note_37 ?_
      refine r_top (y := 3) (by decide) ?_
      refine al_Leg_7 M hW 3 rfl (by decide) (x := g 7 3) ((up2_d (by decide)).trans ((up2_d (by decide)).trans ((up2_k (by decide)).trans (up2_d (by decide))))) dX5_note_38 ?_
      refine as_Leg_7 M hW 4 rfl (by decide) dX5_note_39 (fun H locs hW => ?_)
      refine lv_aload_n hx hb dX5_note_40 rfl (lv_at hl 1 rfl) ?_
      refine gt_Leg_5_2 M hW kw_49 dX5_note_41 ?_
      refine lv_iload hx hb dX5_note_44 (lv_at hl 0 rfl) ?_
      refine lv_aload_n hx hb dX5_note_46 rfl (lv_at hl 1 rfl) ?_
      refine gt_Leg_5_2 M hW kw_49 dX5_note_47 ?_
      refine lv_iload hx hb dX5_note_50 (lv_at hl 0 rfl) ?_
      refine lv_iconst (v := 1) hx hb dX5_note_52 (by decide) ?_
      refine lv_isub hx hb dX5_note_53 ?_
      refine r_top (y := 3) (by decide) ?_
      refine al_Leg_8 M hW 3 rfl (by decide) (x := g 8 3) ((up2_d (by decide)).trans ((up2_d (by decide)).trans ((up2_k (by decide)).trans ((up2_d (by decide)).trans (up2_d (by decide)))))) dX5_note_54 ?_
      refine as_Leg_8 M hW 4 rfl (by decide) dX5_note_55 (fun H locs hW => ?_)
      refine lv_iinc (v := 3) (lv' := [(4, .int 3), (0, .ref (a 5)), (1, .int x), (2, .int y), (3, .int z)]) hx hb dX5_note_56 hl (k := 0) rfl (by decide) (by decide) rfl (fun ls hl => ?_)
      refine lv_goto (tgt := 3) hx hb dX5_note_59 (by decide) ?_
      refine lv_iload hx hb dX5_note_3 (lv_at hl 0 rfl) ?_
      refine lv_if_le (tgt := 62) hx hb dX5_note_5 (by decide) (fun c_5_3 => ?_) (fun c_5_3 => ?_)
      · skip
        exact absurd c_5_3 (by decide)
      · skip
        refine lv_aload_n hx hb dX5_note_8 rfl (lv_at hl 1 rfl) ?_
        refine gt_Leg_5_0 M hW kw_47 dX5_note_9 ?_
        refine lv_iload hx hb dX5_note_12 (lv_at hl 0 rfl) ?_
        refine lv_aload_n hx hb dX5_note_14 rfl (lv_at hl 1 rfl) ?_
        refine gt_Leg_5_0 M hW kw_47 dX5_note_15 ?_
        refine lv_iload hx hb dX5_note_18 (lv_at hl 0 rfl) ?_
        refine lv_iconst (v := 1) hx hb dX5_note_20 (by decide) ?_
        refine lv_isub hx hb dX5_note_21 ?_
        refine r_top (y := 2) (by decide) ?_
        refine al_Leg_6 M hW 2 rfl (by decide) (x := g 6 2) ((up2_d (by decide)).trans ((up2_d (by decide)).trans ((up2_k (by decide)).trans ((up2_d (by decide)).trans ((up2_d (by decide)).trans (up2_k (by decide))))))) dX5_note_22 ?_
        refine as_Leg_6 M hW 3 rfl (by decide) dX5_note_23 (fun H locs hW => ?_)
        refine lv_aload_n hx hb dX5_note_24 rfl (lv_at hl 1 rfl) ?_
        refine gt_Leg_5_1 M hW kw_48 dX5_note_25 ?_
        refine lv_iload hx hb dX5_note_28 (lv_at hl 0 rfl) ?_
        refine lv_aload_n hx hb dX5_note_30 rfl (lv_at hl 1 rfl) ?_
        refine gt_Leg_5_1 M hW kw_48 dX5_note_31 ?_
        refine lv_iload hx hb dX5_note_34 (lv_at hl 0 rfl) ?_
        refine lv_iconst (v := 1) hx hb dX5_note_36 (by decide) ?_
        refine lv_isub hx hb dX5_note_37 ?_
        refine r_top (y := 2) (by decide) ?_
        refine al_Leg_7 M hW 2 rfl (by decide) (x := g 7 2) ((up2_d (by decide)).trans ((up2_d (by decide)).trans ((up2_k (by decide)).trans ((up2_d (by decide)).trans ((up2_d (by decide)).trans ((up2_k (by decide)).trans (up2_d (by decide)))))))) dX5_note_38 ?_
        refine as_Leg_7 M hW 3 rfl (by decide) dX5_note_39 (fun H locs hW => ?_)
        refine lv_aload_n hx hb dX5_note_40 rfl (lv_at hl 1 rfl) ?_
        refine gt_Leg_5_2 M hW kw_49 dX5_note_41 ?_
        refine lv_iload hx hb dX5_note_44 (lv_at hl 0 rfl) ?_
        refine lv_aload_n hx hb dX5_note_46 rfl (lv_at hl 1 rfl) ?_
        refine gt_Leg_5_2 M hW kw_49 dX5_note_47 ?_
        refine lv_iload hx hb dX5_note_50 (lv_at hl 0 rfl) ?_
        refine lv_iconst (v := 1) hx hb dX5_note_52 (by decide) ?_
        refine lv_isub hx hb dX5_note_53 ?_
        refine r_top (y := 2) (by decide) ?_
        refine al_Leg_8 M hW 2 rfl (by decide) (x := g 8 2) ((up2_d (by decide)).trans ((up2_d (by decide)).trans ((up2_k (by decide)).trans ((up2_d (by decide)).trans ((up2_d (by decide)).trans ((up2_k (by decide)).trans ((up2_d (by decide)).trans (up2_d (by decide))))))))) dX5_note_54 ?_
        refine as_Leg_8 M hW 3 rfl (by decide) dX5_note_55 (fun H locs hW => ?_)
        refine lv_iinc (v := 2) (lv' := [(4, .int 2), (0, .ref (a 5)), (1, .int x), (2, .int y), (3, .int z)]) hx hb dX5_note_56 hl (k := 0) rfl (by decide) (by decide) rfl (fun ls hl => ?_)
        refine lv_goto (tgt := 3) hx hb dX5_note_59 (by decide) ?_
        refine lv_iload hx hb dX5_note_3 (lv_at hl 0 rfl) ?_
        refine lv_if_le (tgt := 62) hx hb dX5_note_5 (by decide) (fun c_5_4 => ?_) (fun c_5_4 => ?_)
        · skip
          exact absurd c_5_4 (by decide)
        · skip
          refine lv_aload_n hx hb dX5_note_8 rfl (lv_at hl 1 rfl) ?_
          refine gt_Leg_5_0 M hW kw_47 dX5_note_9 ?_
          refine lv_iload hx hb dX5_note_12 (lv_at hl 0 rfl) ?_
          refine lv_aload_n hx hb dX5_note_14 rfl (lv_at hl 1 rfl) ?_
          refine gt_Leg_5_0 M hW kw_47 dX5_note_15 ?_
          refine lv_iload hx hb dX5_note_18 (lv_at hl 0 rfl) ?_
          refine lv_iconst (v := 1) hx hb dX5_note_20 (by decide) ?_
          refine lv_isub hx hb dX5_note_21 ?_
          refine r_top (y := 1) (by decide) ?_
          refine al_Leg_6 M hW 1 rfl (by decide) (x := g 6 1) ((up2_d (by decide)).trans ((up2_d (by decide)).trans ((up2_k (by decide)).trans ((up2_d (by decide)).trans ((up2_d (by decide)).trans ((up2_k (by decide)).trans ((up2_d (by decide)).trans ((up2_d (by decide)).trans (up2_k (by decide)))))))))) dX5_note_22 ?_
          refine as_Leg_6 M hW 2 rfl (by decide) dX5_note_23 (fun H locs hW => ?_)
          refine lv_aload_n hx hb dX5_note_24 rfl (lv_at hl 1 rfl) ?_
          refine gt_Leg_5_1 M hW kw_48 dX5_note_25 ?_
          refine lv_iload hx hb dX5_note_28 (lv_at hl 0 rfl) ?_
          refine lv_aload_n hx hb dX5_note_30 rfl (lv_at hl 1 rfl) ?_
          refine gt_Leg_5_1 M hW kw_48 dX5_note_31 ?_
          refine lv_iload hx hb dX5_note_34 (lv_at hl 0 rfl) ?_
          refine lv_iconst (v := 1) hx hb dX5_note_36 (by decide) ?_
          refine lv_isub hx hb dX5_note_37 ?_
          refine r_top (y := 1) (by decide) ?_
          refine al_Leg_7 M hW 1 rfl (by decide) (x := g 7 1) ((up2_d (by decide)).trans ((up2_d (by decide)).trans ((up2_k (by decide)).trans ((up2_d (by decide)).trans ((up2_d (by decide)).trans ((up2_k (by decide)).trans ((up2_d (by decide)).trans ((up2_d (by decide)).trans ((up2_k (by decide)).trans (up2_d (by decide))))))))))) dX5_note_38 ?_
          refine as_Leg_7 M hW 2 rfl (by decide) dX5_note_39 (fun H locs hW => ?_)
          refine lv_aload_n hx hb dX5_note_40 rfl (lv_at hl 1 rfl) ?_
          refine gt_Leg_5_2 M hW kw_49 dX5_note_41 ?_
          refine lv_iload hx hb dX5_note_44 (lv_at hl 0 rfl) ?_
          refine lv_aload_n hx hb dX5_note_46 rfl (lv_at hl 1 rfl) ?_
          refine gt_Leg_5_2 M hW kw_49 dX5_note_47 ?_
          refine lv_iload hx hb dX5_note_50 (lv_at hl 0 rfl) ?_
          refine lv_iconst (v := 1) hx hb dX5_note_52 (by decide) ?_
          refine lv_isub hx hb dX5_note_53 ?_
          refine r_top (y := 1) (by decide) ?_
          refine al_Leg_8 M hW 1 rfl (by decide) (x := g 8 1) ((up2_d (by decide)).trans ((up2_d (by decide)).trans ((up2_k (by decide)).trans ((up2_d (by decide)).trans ((up2_d (by decide)).trans ((up2_k (by decide)).trans ((up2_d (by decide)).trans ((up2_d (by decide)).trans ((up2_k (by decide)).trans ((up2_d (by decide)).trans (up2_d (by decide)))))))))))) dX5_note_54 ?_
          refine as_Leg_8 M hW 2 rfl (by decide) dX5_note_55 (fun H locs hW => ?_)
          refine lv_iinc (v := 1) (lv' := [(4, .int 1), (0, .ref (a 5)), (1, .int x), (2, .int y), (3, .int z)]) hx hb dX5_note_56 hl (k := 0) rfl (by decide) (by decide) rfl (fun ls hl => ?_)
          refine lv_goto (tgt := 3) hx hb dX5_note_59 (by decide) ?_
          refine lv_iload hx hb dX5_note_3 (lv_at hl 0 rfl) ?_
          refine lv_if_le (tgt := 62) hx hb dX5_note_5 (by decide) (fun c_5_5 => ?_) (fun c_5_5 => ?_)
          · skip
            exact absurd c_5_5 (by decide)
          · skip
            refine lv_aload_n hx hb dX5_note_8 rfl (lv_at hl 1 rfl) ?_
            refine gt_Leg_5_0 M hW kw_47 dX5_note_9 ?_
            refine lv_iload hx hb dX5_note_12 (lv_at hl 0 rfl) ?_
            refine lv_aload_n hx hb dX5_note_14 rfl (lv_at hl 1 rfl) ?_
            refine gt_Leg_5_0 M hW kw_47 dX5_note_15 ?_
            refine lv_iload hx hb dX5_note_18 (lv_at hl 0 rfl) ?_
            refine lv_iconst (v := 1) hx hb dX5_note_20 (by decide) ?_
            refine lv_isub hx hb dX5_note_21 ?_
            refine r_top (y := 0) (by decide) ?_
            refine al_Leg_6 M hW 0 rfl (by decide) (x := g 6 0) ((up2_d (by decide)).trans ((up2_d (by decide)).trans ((up2_k (by decide)).trans ((up2_d (by decide)).trans ((up2_d (by decide)).trans ((up2_k (by decide)).trans ((up2_d (by decide)).trans ((up2_d (by decide)).trans ((up2_k (by decide)).trans ((up2_d (by decide)).trans ((up2_d (by decide)).trans (up2_k (by decide))))))))))))) dX5_note_22 ?_
            refine as_Leg_6 M hW 1 rfl (by decide) dX5_note_23 (fun H locs hW => ?_)
            refine lv_aload_n hx hb dX5_note_24 rfl (lv_at hl 1 rfl) ?_
            refine gt_Leg_5_1 M hW kw_48 dX5_note_25 ?_
            refine lv_iload hx hb dX5_note_28 (lv_at hl 0 rfl) ?_
            refine lv_aload_n hx hb dX5_note_30 rfl (lv_at hl 1 rfl) ?_
            refine gt_Leg_5_1 M hW kw_48 dX5_note_31 ?_
            refine lv_iload hx hb dX5_note_34 (lv_at hl 0 rfl) ?_
            refine lv_iconst (v := 1) hx hb dX5_note_36 (by decide) ?_
            refine lv_isub hx hb dX5_note_37 ?_
            refine r_top (y := 0) (by decide) ?_
            refine al_Leg_7 M hW 0 rfl (by decide) (x := g 7 0) ((up2_d (by decide)).trans ((up2_d (by decide)).trans ((up2_k (by decide)).trans ((up2_d (by decide)).trans ((up2_d (by decide)).trans ((up2_k (by decide)).trans ((up2_d (by decide)).trans ((up2_d (by decide)).trans ((up2_k (by decide)).trans ((up2_d (by decide)).trans ((up2_d (by decide)).trans ((up2_k (by decide)).trans (up2_d (by decide)))))))))))))) dX5_note_38 ?_
            refine as_Leg_7 M hW 1 rfl (by decide) dX5_note_39 (fun H locs hW => ?_)
            refine lv_aload_n hx hb dX5_note_40 rfl (lv_at hl 1 rfl) ?_
            refine gt_Leg_5_2 M hW kw_49 dX5_note_41 ?_
            refine lv_iload hx hb dX5_note_44 (lv_at hl 0 rfl) ?_
            refine lv_aload_n hx hb dX5_note_46 rfl (lv_at hl 1 rfl) ?_
            refine gt_Leg_5_2 M hW kw_49 dX5_note_47 ?_
            refine lv_iload hx hb dX5_note_50 (lv_at hl 0 rfl) ?_
            refine lv_iconst (v := 1) hx hb dX5_note_52 (by decide) ?_
            refine lv_isub hx hb dX5_note_53 ?_
            refine r_top (y := 0) (by decide) ?_
            refine al_Leg_8 M hW 0 rfl (by decide) (x := g 8 0) ((up2_d (by decide)).trans ((up2_d (by decide)).trans ((up2_k (by decide)).trans ((up2_d (by decide)).trans ((up2_d (by decide)).trans ((up2_k (by decide)).trans ((up2_d (by decide)).trans ((up2_d (by decide)).trans ((up2_k (by decide)).trans ((up2_d (by decide)).trans ((up2_d (by decide)).trans ((up2_k (by decide)).trans ((up2_d (by decide)).trans (up2_d (by decide))))))))))))))) dX5_note_54 ?_
            refine as_Leg_8 M hW 1 rfl (by decide) dX5_note_55 (fun H locs hW => ?_)
            refine lv_iinc (v := 0) (lv' := [(4, .int 0), (0, .ref (a 5)), (1, .int x), (2, .int y), (3, .int z)]) hx hb dX5_note_56 hl (k := 0) rfl (by decide) (by decide) rfl (fun ls hl => ?_)
            refine lv_goto (tgt := 3) hx hb dX5_note_59 (by decide) ?_
            refine lv_iload hx hb dX5_note_3 (lv_at hl 0 rfl) ?_
            refine lv_if_le (tgt := 62) hx hb dX5_note_5 (by decide) (fun c_5_6 => ?_) (fun c_5_6 => ?_)
            · skip
              refine lv_aload_n hx hb dX5_note_62 rfl (lv_at hl 1 rfl) ?_
              refine gt_Leg_5_0 M hW kw_47 dX5_note_63 ?_
              refine lv_iconst (v := 0) hx hb dX5_note_66 (by decide) ?_
              refine lv_iload_n hx hb dX5_note_67 rfl (lv_at hl 2 rfl) ?_
              refine as_Leg_6 M hW 0 rfl (by decide) dX5_note_68 (fun H locs hW => ?_)
              refine lv_aload_n hx hb dX5_note_69 rfl (lv_at hl 1 rfl) ?_
              refine gt_Leg_5_1 M hW kw_48 dX5_note_70 ?_
              refine lv_iconst (v := 0) hx hb dX5_note_73 (by decide) ?_
              refine lv_iload_n hx hb dX5_note_74 rfl (lv_at hl 3 rfl) ?_
              refine as_Leg_7 M hW 0 rfl (by decide) dX5_note_75 (fun H locs hW => ?_)
              refine lv_aload_n hx hb dX5_note_76 rfl (lv_at hl 1 rfl) ?_
              refine gt_Leg_5_2 M hW kw_49 dX5_note_77 ?_
              refine lv_iconst (v := 0) hx hb dX5_note_80 (by decide) ?_
              refine lv_iload_n hx hb dX5_note_81 rfl (lv_at hl 4 rfl) ?_
              refine as_Leg_8 M hW 0 rfl (by decide) dX5_note_82 (fun H locs hW => ?_)
              refine lv_aload_n hx hb dX5_note_83 rfl (lv_at hl 1 rfl) ?_
              refine lv_bipush (v := 6) hx hb dX5_note_84 (by decide) ?_
              refine lv_aload_n hx hb dX5_note_86 rfl (lv_at hl 1 rfl) ?_
              refine gt_Leg_5_3 M hW kw_91 (x := g 5 3) ((up2_d (by decide)).trans ((up2_d (by decide)).trans ((up2_d (by decide)).trans ((up2_d (by decide)).trans ((up2_d (by decide)).trans ((up2_d (by decide)).trans ((up2_d (by decide)).trans ((up2_d (by decide)).trans ((up2_d (by decide)).trans ((up2_d (by decide)).trans ((up2_d (by decide)).trans ((up2_d (by decide)).trans ((up2_d (by decide)).trans ((up2_d (by decide)).trans ((up2_d (by decide)).trans ((up2_d (by decide)).trans ((up2_d (by decide)).trans (up2_d (by decide))))))))))))))))))) dX5_note_87 ?_
              refine lv_iconst (v := 1) hx hb dX5_note_90 (by decide) ?_
              refine lv_iadd hx hb dX5_note_91 ?_
              refine r_min M kw_164 kw_24 kw_21 kw_25 hl.1 (by decide) (Nat.le_of_ble_eq_true rfl) ⟨Nat.zero_le _, Nat.zero_le _⟩ dX5_note_92 ?_
              refine pt_Leg_5_3 M hW kw_91 dX5_note_95 (fun H locs hW => ?_)
              exact r_retv M hW (by rw [sX5_note]) ⟨rfl, rfl⟩ (Nat.zero_le _) (Nat.zero_le _) dX5_note_98
            · skip
              exact absurd c_5_6 (by decide)

def iterN {S : Type} (F : Nat → S → S) : Nat → S → S
  | 0, s => s
  | n + 1, s => F n (iterN F n s)
theorem iterN_succ {S : Type} (F : Nat → S → S) (n : Nat) (s : S) : iterN F (n + 1) s = F n (iterN F n s) := rfl
theorem clamp_lt31 (C : Int32) : C.toNatClampNeg < 2 ^ 31 := by
  have h := Int32.toInt_lt C
  show C.toInt.toNat < 2 ^ 31
  omega
theorem le_clamp (C : Int32) : C ≤ nI C.toNatClampNeg := by
  rw [Int32.le_iff_toInt_le, nI_toInt (clamp_lt31 C)]
  exact Int.self_le_toNat C.toInt
theorem lt_clamp {C : Int32} {i : Nat} (h : i < C.toNatClampNeg) : ¬ C ≤ nI i := by
  rw [Int32.le_iff_toInt_le, nI_toInt (Nat.lt_trans h (clamp_lt31 C))]
  have h2 : (C.toNatClampNeg : Int) = (C.toInt.toNat : Int) := rfl
  omega

def SizeOK (g : Nat → Nat → Int32) : Prop := ∃ n : Nat, n ≤ 6 ∧ g 5 3 = nI n
theorem iw_sz {g : Nat → Nat → Int32} (hsz : SizeOK g) {x : Int32} (h : ¬ rX6_isWithin x 0 (g 5 3 - 1) = 0) : x = nI x.toNatClampNeg ∧ x.toNatClampNeg < 6 := by
  obtain ⟨h1, h2⟩ := iw_1 h
  obtain ⟨n, hn, e⟩ := hsz
  obtain ⟨k, hk, e2⟩ := nI_of h1
  have ek : x.toNatClampNeg = k := by rw [e2]; exact nI_clamp hk
  rw [ek]
  refine ⟨e2, ?_⟩
  rw [e, e2] at h2
  by_cases hz : n = 0
  · subst hz
    exact absurd (by rw [Int32.lt_iff_toInt_lt, nI_toInt hk]; show (-1 : Int) < _; omega) h2
  · obtain ⟨m, rfl⟩ := Nat.exists_eq_succ_of_ne_zero hz
    rw [show nI (m.succ) - 1 = nI m from nI_pred m, Int32.lt_iff_toInt_lt, nI_toInt hk, nI_toInt (by omega)] at h2
    omega

def rX5_told6 (g : Nat → Nat → Int32) (x : Int32) : Int32 := if (rX6_isWithin x 0 ((g 5 3) - 1)) = 0 then (-105) else g 6 x.toNatClampNeg
set_option maxHeartbeats 4000000 in
set_option maxRecDepth 100000 in
/-- X5.told -/
theorem c_X5_told6 (l : Launch) (G : Gp) (a : Nat → Nat) (g : Nat → Nat → Int32) (x : Int32) (Y : va_W) (hsz : SizeOK g) : Cn l G yX5_told cX5_told 3 (some .int) 1 [.ref (a 5), .ref (a 6), .int x] (LegW G a g ++ Y) (some (.int (rX5_told6 g x))) (LegW G a g ++ Y) := by
  refine CnE.of (by decide) (Nat.le_of_ble_eq_true rfl) ?_
  intro p e s m below meth c ls M hnm hl hW
  have hx := M.1
  have hb := M.2.1
  have hl : lv_has ls 3 [(0, .ref (a 5)), (1, .ref (a 6)), (2, .int x)] := hl
  refine lv_iload_n hx hb dX5_told_0 rfl (lv_at hl 2 rfl) ?_
  refine lv_iconst (v := 0) hx hb dX5_told_1 (by decide) ?_
  refine lv_aload_n hx hb dX5_told_2 rfl (lv_at hl 0 rfl) ?_
  refine gt_Leg_5_3 M hW kw_91 (x := g 5 3) rfl dX5_told_3 ?_
  refine lv_iconst (v := 1) hx hb dX5_told_6 (by decide) ?_
  refine lv_isub hx hb dX5_told_7 ?_
  refine r_callSNi M hW (as := [.int x, .int 0, .int ((g 5 3) - 1)]) (c_X6_isWithin l G x 0 ((g 5 3) - 1) (LegW G a g ++ Y)) rfl kn_X5_41 kw_14 kw_15 kw_12 pl_X6_isWithin ⟨by decide, by decide⟩ ⟨Nat.zero_le _, Nat.zero_le _⟩ hl.1 rfl (Nat.le_of_ble_eq_true rfl) dX5_told_8 (fun H locs hW => ?_)
  refine lv_if_eq (tgt := 20) hx hb dX5_told_11 (by decide) (fun c_11 => ?_) (fun c_11 => ?_)
  · skip
    refine lv_bipush (v := (-105)) hx hb dX5_told_20 (by decide) ?_
    exact r_reti M hW rfl ⟨by rw [rX5_told6, if_pos c_11], rfl⟩ (Nat.zero_le _) (Nat.zero_le _) dX5_told_22
  · skip
    have hk := iw_sz hsz c_11
    refine lv_aload_n hx hb dX5_told_14 rfl (lv_at hl 1 rfl) ?_
    refine lv_iload_n hx hb dX5_told_15 rfl (lv_at hl 2 rfl) ?_
    refine al_Leg_6 M hW x.toNatClampNeg hk.1 hk.2 (x := g 6 x.toNatClampNeg) rfl dX5_told_16 ?_
    refine lv_goto (tgt := 22) hx hb dX5_told_17 (by decide) ?_
    exact r_reti M hW rfl ⟨by rw [rX5_told6, if_neg c_11], rfl⟩ (Nat.zero_le _) (Nat.zero_le _) dX5_told_22

def rX5_told7 (g : Nat → Nat → Int32) (x : Int32) : Int32 := if (rX6_isWithin x 0 ((g 5 3) - 1)) = 0 then (-105) else g 7 x.toNatClampNeg
set_option maxHeartbeats 4000000 in
set_option maxRecDepth 100000 in
/-- X5.told -/
theorem c_X5_told7 (l : Launch) (G : Gp) (a : Nat → Nat) (g : Nat → Nat → Int32) (x : Int32) (Y : va_W) (hsz : SizeOK g) : Cn l G yX5_told cX5_told 3 (some .int) 1 [.ref (a 5), .ref (a 7), .int x] (LegW G a g ++ Y) (some (.int (rX5_told7 g x))) (LegW G a g ++ Y) := by
  refine CnE.of (by decide) (Nat.le_of_ble_eq_true rfl) ?_
  intro p e s m below meth c ls M hnm hl hW
  have hx := M.1
  have hb := M.2.1
  have hl : lv_has ls 3 [(0, .ref (a 5)), (1, .ref (a 7)), (2, .int x)] := hl
  refine lv_iload_n hx hb dX5_told_0 rfl (lv_at hl 2 rfl) ?_
  refine lv_iconst (v := 0) hx hb dX5_told_1 (by decide) ?_
  refine lv_aload_n hx hb dX5_told_2 rfl (lv_at hl 0 rfl) ?_
  refine gt_Leg_5_3 M hW kw_91 (x := g 5 3) rfl dX5_told_3 ?_
  refine lv_iconst (v := 1) hx hb dX5_told_6 (by decide) ?_
  refine lv_isub hx hb dX5_told_7 ?_
  refine r_callSNi M hW (as := [.int x, .int 0, .int ((g 5 3) - 1)]) (c_X6_isWithin l G x 0 ((g 5 3) - 1) (LegW G a g ++ Y)) rfl kn_X5_41 kw_14 kw_15 kw_12 pl_X6_isWithin ⟨by decide, by decide⟩ ⟨Nat.zero_le _, Nat.zero_le _⟩ hl.1 rfl (Nat.le_of_ble_eq_true rfl) dX5_told_8 (fun H locs hW => ?_)
  refine lv_if_eq (tgt := 20) hx hb dX5_told_11 (by decide) (fun c_11 => ?_) (fun c_11 => ?_)
  · skip
    refine lv_bipush (v := (-105)) hx hb dX5_told_20 (by decide) ?_
    exact r_reti M hW rfl ⟨by rw [rX5_told7, if_pos c_11], rfl⟩ (Nat.zero_le _) (Nat.zero_le _) dX5_told_22
  · skip
    have hk := iw_sz hsz c_11
    refine lv_aload_n hx hb dX5_told_14 rfl (lv_at hl 1 rfl) ?_
    refine lv_iload_n hx hb dX5_told_15 rfl (lv_at hl 2 rfl) ?_
    refine al_Leg_7 M hW x.toNatClampNeg hk.1 hk.2 (x := g 7 x.toNatClampNeg) rfl dX5_told_16 ?_
    refine lv_goto (tgt := 22) hx hb dX5_told_17 (by decide) ?_
    exact r_reti M hW rfl ⟨by rw [rX5_told7, if_neg c_11], rfl⟩ (Nat.zero_le _) (Nat.zero_le _) dX5_told_22

def rX5_told8 (g : Nat → Nat → Int32) (x : Int32) : Int32 := if (rX6_isWithin x 0 ((g 5 3) - 1)) = 0 then (-105) else g 8 x.toNatClampNeg
set_option maxHeartbeats 4000000 in
set_option maxRecDepth 100000 in
/-- X5.told -/
theorem c_X5_told8 (l : Launch) (G : Gp) (a : Nat → Nat) (g : Nat → Nat → Int32) (x : Int32) (Y : va_W) (hsz : SizeOK g) : Cn l G yX5_told cX5_told 3 (some .int) 1 [.ref (a 5), .ref (a 8), .int x] (LegW G a g ++ Y) (some (.int (rX5_told8 g x))) (LegW G a g ++ Y) := by
  refine CnE.of (by decide) (Nat.le_of_ble_eq_true rfl) ?_
  intro p e s m below meth c ls M hnm hl hW
  have hx := M.1
  have hb := M.2.1
  have hl : lv_has ls 3 [(0, .ref (a 5)), (1, .ref (a 8)), (2, .int x)] := hl
  refine lv_iload_n hx hb dX5_told_0 rfl (lv_at hl 2 rfl) ?_
  refine lv_iconst (v := 0) hx hb dX5_told_1 (by decide) ?_
  refine lv_aload_n hx hb dX5_told_2 rfl (lv_at hl 0 rfl) ?_
  refine gt_Leg_5_3 M hW kw_91 (x := g 5 3) rfl dX5_told_3 ?_
  refine lv_iconst (v := 1) hx hb dX5_told_6 (by decide) ?_
  refine lv_isub hx hb dX5_told_7 ?_
  refine r_callSNi M hW (as := [.int x, .int 0, .int ((g 5 3) - 1)]) (c_X6_isWithin l G x 0 ((g 5 3) - 1) (LegW G a g ++ Y)) rfl kn_X5_41 kw_14 kw_15 kw_12 pl_X6_isWithin ⟨by decide, by decide⟩ ⟨Nat.zero_le _, Nat.zero_le _⟩ hl.1 rfl (Nat.le_of_ble_eq_true rfl) dX5_told_8 (fun H locs hW => ?_)
  refine lv_if_eq (tgt := 20) hx hb dX5_told_11 (by decide) (fun c_11 => ?_) (fun c_11 => ?_)
  · skip
    refine lv_bipush (v := (-105)) hx hb dX5_told_20 (by decide) ?_
    exact r_reti M hW rfl ⟨by rw [rX5_told8, if_pos c_11], rfl⟩ (Nat.zero_le _) (Nat.zero_le _) dX5_told_22
  · skip
    have hk := iw_sz hsz c_11
    refine lv_aload_n hx hb dX5_told_14 rfl (lv_at hl 1 rfl) ?_
    refine lv_iload_n hx hb dX5_told_15 rfl (lv_at hl 2 rfl) ?_
    refine al_Leg_8 M hW x.toNatClampNeg hk.1 hk.2 (x := g 8 x.toNatClampNeg) rfl dX5_told_16 ?_
    refine lv_goto (tgt := 22) hx hb dX5_told_17 (by decide) ?_
    exact r_reti M hW rfl ⟨by rw [rX5_told8, if_neg c_11], rfl⟩ (Nat.zero_le _) (Nat.zero_le _) dX5_told_22

def rX5_tickOf (g : Nat → Nat → Int32) (x : Int32) : Int32 := rX5_told6 g x
set_option maxHeartbeats 4000000 in
set_option maxRecDepth 100000 in
/-- X5.tickOf -/
theorem c_X5_tickOf (l : Launch) (G : Gp) (a : Nat → Nat) (g : Nat → Nat → Int32) (x : Int32) (Y : va_W) (hsz : SizeOK g) : Cn l G yX5_tickOf cX5_tickOf 2 (some .int) 2 [.ref (a 5), .int x] (LegW G a g ++ Y) (some (.int (rX5_tickOf g x))) (LegW G a g ++ Y) := by
  refine CnE.of (by decide) (Nat.le_of_ble_eq_true rfl) ?_
  intro p e s m below meth c ls M hnm hl hW
  have hx := M.1
  have hb := M.2.1
  have hl : lv_has ls 2 [(0, .ref (a 5)), (1, .int x)] := hl
  refine lv_aload_n hx hb dX5_tickOf_0 rfl (lv_at hl 0 rfl) ?_
  refine lv_aload_n hx hb dX5_tickOf_1 rfl (lv_at hl 0 rfl) ?_
  refine gt_Leg_5_0 M hW kw_47 dX5_tickOf_2 ?_
  refine lv_iload_n hx hb dX5_tickOf_5 rfl (lv_at hl 1 rfl) ?_
  refine r_callVi M hW (c_X5_told6 l G a g x (Y) hsz) rfl kw_247 kw_248 kw_249 kw_67 kw_245 pl_X5_told 5 rfl rfl ⟨by decide, by decide⟩ ⟨Nat.zero_le _, Nat.zero_le _⟩ hl.1 rfl (Nat.le_of_ble_eq_true rfl) dX5_tickOf_6 (fun H locs hW => ?_)
  exact r_reti M hW rfl ⟨by rw [rX5_tickOf], rfl⟩ (Nat.zero_le _) (Nat.zero_le _) dX5_tickOf_9

def rX5_sensorOf (g : Nat → Nat → Int32) (x : Int32) : Int32 := rX5_told7 g x
set_option maxHeartbeats 4000000 in
set_option maxRecDepth 100000 in
/-- X5.sensorOf -/
theorem c_X5_sensorOf (l : Launch) (G : Gp) (a : Nat → Nat) (g : Nat → Nat → Int32) (x : Int32) (Y : va_W) (hsz : SizeOK g) : Cn l G yX5_sensorOf cX5_sensorOf 2 (some .int) 2 [.ref (a 5), .int x] (LegW G a g ++ Y) (some (.int (rX5_sensorOf g x))) (LegW G a g ++ Y) := by
  refine CnE.of (by decide) (Nat.le_of_ble_eq_true rfl) ?_
  intro p e s m below meth c ls M hnm hl hW
  have hx := M.1
  have hb := M.2.1
  have hl : lv_has ls 2 [(0, .ref (a 5)), (1, .int x)] := hl
  refine lv_aload_n hx hb dX5_sensorOf_0 rfl (lv_at hl 0 rfl) ?_
  refine lv_aload_n hx hb dX5_sensorOf_1 rfl (lv_at hl 0 rfl) ?_
  refine gt_Leg_5_1 M hW kw_48 dX5_sensorOf_2 ?_
  refine lv_iload_n hx hb dX5_sensorOf_5 rfl (lv_at hl 1 rfl) ?_
  refine r_callVi M hW (c_X5_told7 l G a g x (Y) hsz) rfl kw_247 kw_248 kw_249 kw_67 kw_245 pl_X5_told 5 rfl rfl ⟨by decide, by decide⟩ ⟨Nat.zero_le _, Nat.zero_le _⟩ hl.1 rfl (Nat.le_of_ble_eq_true rfl) dX5_sensorOf_6 (fun H locs hW => ?_)
  exact r_reti M hW rfl ⟨by rw [rX5_sensorOf], rfl⟩ (Nat.zero_le _) (Nat.zero_le _) dX5_sensorOf_9

def rX5_loadOf (g : Nat → Nat → Int32) (x : Int32) : Int32 := rX5_told8 g x
set_option maxHeartbeats 4000000 in
set_option maxRecDepth 100000 in
/-- X5.loadOf -/
theorem c_X5_loadOf (l : Launch) (G : Gp) (a : Nat → Nat) (g : Nat → Nat → Int32) (x : Int32) (Y : va_W) (hsz : SizeOK g) : Cn l G yX5_loadOf cX5_loadOf 2 (some .int) 2 [.ref (a 5), .int x] (LegW G a g ++ Y) (some (.int (rX5_loadOf g x))) (LegW G a g ++ Y) := by
  refine CnE.of (by decide) (Nat.le_of_ble_eq_true rfl) ?_
  intro p e s m below meth c ls M hnm hl hW
  have hx := M.1
  have hb := M.2.1
  have hl : lv_has ls 2 [(0, .ref (a 5)), (1, .int x)] := hl
  refine lv_aload_n hx hb dX5_loadOf_0 rfl (lv_at hl 0 rfl) ?_
  refine lv_aload_n hx hb dX5_loadOf_1 rfl (lv_at hl 0 rfl) ?_
  refine gt_Leg_5_2 M hW kw_49 dX5_loadOf_2 ?_
  refine lv_iload_n hx hb dX5_loadOf_5 rfl (lv_at hl 1 rfl) ?_
  refine r_callVi M hW (c_X5_told8 l G a g x (Y) hsz) rfl kw_247 kw_248 kw_249 kw_67 kw_245 pl_X5_told 5 rfl rfl ⟨by decide, by decide⟩ ⟨Nat.zero_le _, Nat.zero_le _⟩ hl.1 rfl (Nat.le_of_ble_eq_true rfl) dX5_loadOf_6 (fun H locs hW => ?_)
  exact r_reti M hW rfl ⟨by rw [rX5_loadOf], rfl⟩ (Nat.zero_le _) (Nat.zero_le _) dX5_loadOf_9

def sX3_become (g2 : Nat → Nat → Int32) : Nat → Nat → Int32 := g2
set_option maxHeartbeats 4000000 in
set_option maxRecDepth 100000 in
/-- X3.become -/
theorem c_X3_become (l : Launch) (G : Gp) (a : Nat → Nat) (a2 : Nat → Nat) (g : Nat → Nat → Int32) (g2 : Nat → Nat → Int32) (Y : va_W) (hz1 : g2 0 6 = 0 ∨ g2 0 6 = 1) (hz2 : g2 0 7 = 0 ∨ g2 0 7 = 1) : Cn l G yX3_become cX3_become 2 none 3 [.ref (a 0), .ref (a2 0)] (LegW G a g ++ (LegW G a2 g2 ++ Y)) none (LegW G a (sX3_become g2) ++ (LegW G a2 g2 ++ Y)) := by
  refine CnE.of (by decide) (Nat.le_of_ble_eq_true rfl) ?_
  intro p e s m below meth c ls M hnm hl hW
  have hx := M.1
  have hb := M.2.1
  have hl : lv_has ls 2 [(0, .ref (a 0)), (1, .ref (a2 0))] := hl
  refine lv_aload_n hx hb dX3_become_0 rfl (lv_at hl 1 rfl) ?_
  refine gt_Leg_0_0 M hW.drop kw_57 dX3_become_1 ?_
  refine lv_iconst (v := 0) hx hb dX3_become_4 (by decide) ?_
  refine lv_aload_n hx hb dX3_become_5 rfl (lv_at hl 0 rfl) ?_
  refine gt_Leg_0_0 M hW kw_57 dX3_become_6 ?_
  refine lv_iconst (v := 0) hx hb dX3_become_9 (by decide) ?_
  refine lv_iconst (v := 5) hx hb dX3_become_10 (by decide) ?_
  refine cpy_Leg_1 M hW kw_92 hl.1 (by decide) (Nat.le_of_ble_eq_true rfl) dX3_become_11 (fun H locs hW => ?_)
  refine lv_aload_n hx hb dX3_become_14 rfl (lv_at hl 0 rfl) ?_
  refine gt_Leg_0_1 M hW kw_61 dX3_become_15 ?_
  refine lv_aload_n hx hb dX3_become_18 rfl (lv_at hl 1 rfl) ?_
  refine gt_Leg_0_1 M hW.drop kw_61 dX3_become_19 ?_
  refine r_callVv M hW (c_X0_become l G a a2 (cp2 g 1 (g2 1)) g2  (Y)) rfl kw_99 kw_100 kw_101 kw_60 kw_6 pl_X0_become 2 rfl rfl ⟨by decide, by decide⟩ ⟨Nat.zero_le _, Nat.zero_le _⟩ hl.1 rfl (Nat.le_of_ble_eq_true rfl) dX3_become_22 (fun H locs hW => ?_)
  refine lv_aload_n hx hb dX3_become_25 rfl (lv_at hl 0 rfl) ?_
  refine gt_Leg_0_2 M hW kw_64 dX3_become_26 ?_
  refine lv_aload_n hx hb dX3_become_29 rfl (lv_at hl 1 rfl) ?_
  refine gt_Leg_0_2 M hW.drop kw_64 dX3_become_30 ?_
  refine r_callVv M hW (c_X1_become l G a a2 (sX0_become (cp2 g 1 (g2 1)) g2) g2  (Y)) rfl kw_102 kw_103 kw_104 kw_43 kw_30 pl_X1_become 4 rfl rfl ⟨by decide, by decide⟩ ⟨Nat.zero_le _, Nat.zero_le _⟩ hl.1 rfl (Nat.le_of_ble_eq_true rfl) dX3_become_33 (fun H locs hW => ?_)
  refine lv_aload_n hx hb dX3_become_36 rfl (lv_at hl 0 rfl) ?_
  refine gt_Leg_0_3 M hW kw_68 dX3_become_37 ?_
  refine lv_aload_n hx hb dX3_become_40 rfl (lv_at hl 1 rfl) ?_
  refine gt_Leg_0_3 M hW.drop kw_68 dX3_become_41 ?_
  refine r_callVv M hW (c_X5_become l G a a2 (sX1_become (sX0_become (cp2 g 1 (g2 1)) g2) g2) g2  (Y)) rfl kw_105 kw_106 kw_107 kw_67 kw_89 pl_X5_become 5 rfl rfl ⟨by decide, by decide⟩ ⟨Nat.zero_le _, Nat.zero_le _⟩ hl.1 rfl (Nat.le_of_ble_eq_true rfl) dX3_become_44 (fun H locs hW => ?_)
  refine lv_aload_n hx hb dX3_become_47 rfl (lv_at hl 1 rfl) ?_
  refine gt_Leg_0_4 M hW.drop kw_69 dX3_become_48 ?_
  refine lv_iconst (v := 0) hx hb dX3_become_51 (by decide) ?_
  refine lv_aload_n hx hb dX3_become_52 rfl (lv_at hl 0 rfl) ?_
  refine gt_Leg_0_4 M hW kw_69 dX3_become_53 ?_
  refine lv_iconst (v := 0) hx hb dX3_become_56 (by decide) ?_
  refine lv_iconst (v := 3) hx hb dX3_become_57 (by decide) ?_
  refine cpy_Leg_9 M hW kw_92 hl.1 (by decide) (Nat.le_of_ble_eq_true rfl) dX3_become_58 (fun H locs hW => ?_)
  refine lv_aload_n hx hb dX3_become_61 rfl (lv_at hl 1 rfl) ?_
  refine gt_Leg_0_5 M hW.drop kw_70 dX3_become_62 ?_
  refine lv_iconst (v := 0) hx hb dX3_become_65 (by decide) ?_
  refine lv_aload_n hx hb dX3_become_66 rfl (lv_at hl 0 rfl) ?_
  refine gt_Leg_0_5 M hW kw_70 dX3_become_67 ?_
  refine lv_iconst (v := 0) hx hb dX3_become_70 (by decide) ?_
  refine lv_iconst (v := 3) hx hb dX3_become_71 (by decide) ?_
  refine cpy_Leg_10 M hW kw_92 hl.1 (by decide) (Nat.le_of_ble_eq_true rfl) dX3_become_72 (fun H locs hW => ?_)
  refine lv_aload_n hx hb dX3_become_75 rfl (lv_at hl 0 rfl) ?_
  refine lv_aload_n hx hb dX3_become_76 rfl (lv_at hl 1 rfl) ?_
  refine gt_Leg_0_6 M hW.drop kw_93 (x := g2 0 6) rfl dX3_become_77 ?_
  refine pt_Leg_0_6 M hW kw_93 hz1 dX3_become_80 (fun H locs hW => ?_)
  refine lv_aload_n hx hb dX3_become_83 rfl (lv_at hl 0 rfl) ?_
  refine lv_aload_n hx hb dX3_become_84 rfl (lv_at hl 1 rfl) ?_
  refine gt_Leg_0_7 M hW.drop kw_94 (x := g2 0 7) rfl dX3_become_85 ?_
  refine pt_Leg_0_7 M hW kw_94 hz2 dX3_become_88 (fun H locs hW => ?_)
  refine lv_aload_n hx hb dX3_become_91 rfl (lv_at hl 0 rfl) ?_
  refine lv_aload_n hx hb dX3_become_92 rfl (lv_at hl 1 rfl) ?_
  refine gt_Leg_0_8 M hW.drop kw_95 (x := g2 0 8) rfl dX3_become_93 ?_
  refine pt_Leg_0_8 M hW kw_95 dX3_become_96 (fun H locs hW => ?_)
  refine lv_aload_n hx hb dX3_become_99 rfl (lv_at hl 0 rfl) ?_
  refine lv_aload_n hx hb dX3_become_100 rfl (lv_at hl 1 rfl) ?_
  refine gt_Leg_0_9 M hW.drop kw_96 (x := g2 0 9) rfl dX3_become_101 ?_
  refine pt_Leg_0_9 M hW kw_96 dX3_become_104 (fun H locs hW => ?_)
  refine lv_aload_n hx hb dX3_become_107 rfl (lv_at hl 0 rfl) ?_
  refine lv_aload_n hx hb dX3_become_108 rfl (lv_at hl 1 rfl) ?_
  refine gt_Leg_0_10 M hW.drop kw_97 (x := g2 0 10) rfl dX3_become_109 ?_
  refine pt_Leg_0_10 M hW kw_97 dX3_become_112 (fun H locs hW => ?_)
  refine lv_aload_n hx hb dX3_become_115 rfl (lv_at hl 0 rfl) ?_
  refine lv_aload_n hx hb dX3_become_116 rfl (lv_at hl 1 rfl) ?_
  refine gt_Leg_0_11 M hW.drop kw_71 (x := g2 0 11) rfl dX3_become_117 ?_
  refine pt_Leg_0_11 M hW kw_71 dX3_become_120 (fun H locs hW => ?_)
  refine lv_aload_n hx hb dX3_become_123 rfl (lv_at hl 0 rfl) ?_
  refine lv_aload_n hx hb dX3_become_124 rfl (lv_at hl 1 rfl) ?_
  refine gt_Leg_0_12 M hW.drop kw_98 (x := g2 0 12) rfl dX3_become_125 ?_
  refine pt_Leg_0_12 M hW kw_98 dX3_become_128 (fun H locs hW => ?_)
  have hW : Wd G s (LegW G a g2 ++ (LegW G a2 g2 ++ Y)) H locs := hW.leg ⟨fun k h1 h2 => by rcases (show k = 6 ∨ k = 7 ∨ k = 8 ∨ k = 9 ∨ k = 10 ∨ k = 11 ∨ k = 12 by omega) with rfl | rfl | rfl | rfl | rfl | rfl | rfl <;> rfl, fun i hi => rfl, rfl, fun i hi => rfl, fun k h1 => by rcases (show k = 0 ∨ k = 1 ∨ k = 2 ∨ k = 3 ∨ k = 4 ∨ k = 5 by omega) with rfl | rfl | rfl | rfl | rfl | rfl <;> rfl, rfl, fun i hi => rfl, fun i hi => rfl, fun i hi => rfl, fun i hi => rfl, fun i hi => rfl⟩
  exact r_retv M hW (by rw [sX3_become]) ⟨rfl, rfl⟩ (Nat.zero_le _) (Nat.zero_le _) dX3_become_131

def rX3_setNumber (g : Nat → Nat → Int32) (x : Int32) (y : Int32) : Int32 := if (rX6_isWithin x 0 4) = 0 then (-101) else if (rX6_isWithin y (tLeast x.toNatClampNeg) (tMost x.toNatClampNeg)) = 0 then (-102) else if (g 1 x.toNatClampNeg) = y then (-105) else g 1 x.toNatClampNeg
def sX3_setNumber (g : Nat → Nat → Int32) (x : Int32) (y : Int32) : Nat → Nat → Int32 := if (rX6_isWithin x 0 4) = 0 then g else if (rX6_isWithin y (tLeast x.toNatClampNeg) (tMost x.toNatClampNeg)) = 0 then g else if (g 1 x.toNatClampNeg) = y then g else up2 g 1 x.toNatClampNeg y
set_option maxHeartbeats 4000000 in
set_option maxRecDepth 100000 in
/-- X3.setNumber -/
theorem c_X3_setNumber (l : Launch) (G : Gp) (a : Nat → Nat) (g : Nat → Nat → Int32) (x : Int32) (y : Int32) (Y : va_W) : Cn l G yX3_setNumber cX3_setNumber 4 (some .int) 1 [.ref (a 0), .int x, .int y] (LegW G a g ++ Y) (some (.int (rX3_setNumber g x y))) (LegW G a (sX3_setNumber g x y) ++ Y) := by
  refine CnE.of (by decide) (Nat.le_of_ble_eq_true rfl) ?_
  intro p e s m below meth c ls M hnm hl hW
  have hx := M.1
  have hb := M.2.1
  have hl : lv_has ls 4 [(0, .ref (a 0)), (1, .int x), (2, .int y)] := hl
  refine lv_iload_n hx hb dX3_setNumber_0 rfl (lv_at hl 1 rfl) ?_
  refine lv_iconst (v := 0) hx hb dX3_setNumber_1 (by decide) ?_
  refine lv_iconst (v := 4) hx hb dX3_setNumber_2 (by decide) ?_
  refine r_callSNi M hW (as := [.int x, .int 0, .int 4]) (c_X6_isWithin l G x 0 4 (LegW G a g ++ Y)) rfl kn_X3_89 kw_14 kw_15 kw_12 pl_X6_isWithin ⟨by decide, by decide⟩ ⟨Nat.zero_le _, Nat.zero_le _⟩ hl.1 rfl (Nat.le_of_ble_eq_true rfl) dX3_setNumber_3 (fun H locs hW => ?_)
  refine lv_if_ne (tgt := 12) hx hb dX3_setNumber_6 (by decide) (fun c_6 => ?_) (fun c_6 => ?_)
  · skip
    have hk := iw_c (n := 4) rfl (by decide) c_6
    refine lv_iload_n hx hb dX3_setNumber_12 rfl (lv_at hl 2 rfl) ?_
    refine r_getsN M hW M.2.2.2.2.2.2.2.2.1.2.1 kn_X3_93 dX3_setNumber_13 ?_
    refine lv_iload_n hx hb dX3_setNumber_16 rfl (lv_at hl 1 rfl) ?_
    refine r_tald M hW M.2.2.2.2.2.2.2.2.1.2.1 x.toNatClampNeg hk.1 (by omega) (by decide) (x := tLeast x.toNatClampNeg) rfl dX3_setNumber_17 ?_
    refine r_getsN M hW M.2.2.2.2.2.2.2.2.1.2.2.1 kn_X3_96 dX3_setNumber_18 ?_
    refine lv_iload_n hx hb dX3_setNumber_21 rfl (lv_at hl 1 rfl) ?_
    refine r_tald M hW M.2.2.2.2.2.2.2.2.1.2.2.1 x.toNatClampNeg hk.1 (by omega) (by decide) (x := tMost x.toNatClampNeg) rfl dX3_setNumber_22 ?_
    refine r_callSNi M hW (as := [.int y, .int (tLeast x.toNatClampNeg), .int (tMost x.toNatClampNeg)]) (c_X6_isWithin l G y (tLeast x.toNatClampNeg) (tMost x.toNatClampNeg) (LegW G a g ++ Y)) rfl kn_X3_89 kw_14 kw_15 kw_12 pl_X6_isWithin ⟨by decide, by decide⟩ ⟨Nat.zero_le _, Nat.zero_le _⟩ hl.1 rfl (Nat.le_of_ble_eq_true rfl) dX3_setNumber_23 (fun H locs hW => ?_)
    refine lv_if_ne (tgt := 32) hx hb dX3_setNumber_26 (by decide) (fun c_26 => ?_) (fun c_26 => ?_)
    · skip
      refine lv_aload_n hx hb dX3_setNumber_32 rfl (lv_at hl 0 rfl) ?_
      refine gt_Leg_0_0 M hW kw_57 dX3_setNumber_33 ?_
      refine lv_iload_n hx hb dX3_setNumber_36 rfl (lv_at hl 1 rfl) ?_
      refine al_Leg_1 M hW x.toNatClampNeg hk.1 (by omega) (x := g 1 x.toNatClampNeg) rfl dX3_setNumber_37 ?_
      refine lv_istore_n (lv' := [(3, .int (g 1 x.toNatClampNeg)), (0, .ref (a 0)), (1, .int x), (2, .int y)]) hx hb dX3_setNumber_38 rfl hl (by decide) rfl (fun ls hl => ?_)
      refine lv_iload_n hx hb dX3_setNumber_39 rfl (lv_at hl 0 rfl) ?_
      refine lv_iload_n hx hb dX3_setNumber_40 rfl (lv_at hl 3 rfl) ?_
      refine lv_icmp_ne (tgt := 47) hx hb dX3_setNumber_41 (by decide) (fun c_41 => ?_) (fun c_41 => ?_)
      · skip
        refine lv_aload_n hx hb dX3_setNumber_47 rfl (lv_at hl 1 rfl) ?_
        refine gt_Leg_0_0 M hW kw_57 dX3_setNumber_48 ?_
        refine lv_iload_n hx hb dX3_setNumber_51 rfl (lv_at hl 2 rfl) ?_
        refine lv_iload_n hx hb dX3_setNumber_52 rfl (lv_at hl 3 rfl) ?_
        refine as_Leg_1 M hW x.toNatClampNeg hk.1 (by omega) dX3_setNumber_53 (fun H locs hW => ?_)
        refine lv_iload_n hx hb dX3_setNumber_54 rfl (lv_at hl 0 rfl) ?_
        exact r_reti M hW (by rw [sX3_setNumber, if_neg c_6, if_neg c_26, if_neg c_41]) ⟨by rw [rX3_setNumber, if_neg c_6, if_neg c_26, if_neg c_41], rfl⟩ (Nat.zero_le _) (Nat.zero_le _) dX3_setNumber_55
      · skip
        refine lv_bipush (v := (-105)) hx hb dX3_setNumber_44 (by decide) ?_
        exact r_reti M hW (by rw [sX3_setNumber, if_neg c_6, if_neg c_26, if_pos c_41]) ⟨by rw [rX3_setNumber, if_neg c_6, if_neg c_26, if_pos c_41], rfl⟩ (Nat.zero_le _) (Nat.zero_le _) dX3_setNumber_46
    · skip
      refine lv_bipush (v := (-102)) hx hb dX3_setNumber_29 (by decide) ?_
      exact r_reti M hW (by rw [sX3_setNumber, if_neg c_6, if_pos c_26]) ⟨by rw [rX3_setNumber, if_neg c_6, if_pos c_26], rfl⟩ (Nat.zero_le _) (Nat.zero_le _) dX3_setNumber_31
  · skip
    refine lv_bipush (v := (-101)) hx hb dX3_setNumber_9 (by decide) ?_
    exact r_reti M hW (by rw [sX3_setNumber, if_pos c_6]) ⟨by rw [rX3_setNumber, if_pos c_6], rfl⟩ (Nat.zero_le _) (Nat.zero_le _) dX3_setNumber_11

def rX3_moveGate (g : Nat → Nat → Int32) (x : Int32) : Int32 := if x = 0 then (if (g 0 7) = x then (-105) else g 4 0) else if (g 0 11) = (-105) then (if (g 0 7) = x then (-105) else g 4 0) else (-104)
def sX3_moveGate (g : Nat → Nat → Int32) (x : Int32) : Nat → Nat → Int32 := if x = 0 then (if (g 0 7) = x then g else up2 g 0 7 x) else if (g 0 11) = (-105) then (if (g 0 7) = x then g else up2 g 0 7 x) else g
set_option maxHeartbeats 4000000 in
set_option maxRecDepth 100000 in
/-- X3.moveGate -/
theorem c_X3_moveGate (l : Launch) (G : Gp) (a : Nat → Nat) (g : Nat → Nat → Int32) (x : Int32) (Y : va_W) (hz : x = 0 ∨ x = 1) : Cn l G yX3_moveGate cX3_moveGate 2 (some .int) 0 [.ref (a 0), .int x] (LegW G a g ++ Y) (some (.int (rX3_moveGate g x))) (LegW G a (sX3_moveGate g x) ++ Y) := by
  refine CnE.of (by decide) (Nat.le_of_ble_eq_true rfl) ?_
  intro p e s m below meth c ls M hnm hl hW
  have hx := M.1
  have hb := M.2.1
  have hl : lv_has ls 2 [(0, .ref (a 0)), (1, .int x)] := hl
  refine lv_iload_n hx hb dX3_moveGate_0 rfl (lv_at hl 1 rfl) ?_
  refine lv_if_eq (tgt := 16) hx hb dX3_moveGate_1 (by decide) (fun c_1 => ?_) (fun c_1 => ?_)
  · skip
    refine lv_aload_n hx hb dX3_moveGate_16 rfl (lv_at hl 0 rfl) ?_
    refine gt_Leg_0_7 M hW kw_94 (x := g 0 7) rfl dX3_moveGate_17 ?_
    refine lv_iload_n hx hb dX3_moveGate_20 rfl (lv_at hl 1 rfl) ?_
    refine lv_icmp_ne (tgt := 27) hx hb dX3_moveGate_21 (by decide) (fun c_21 => ?_) (fun c_21 => ?_)
    · skip
      refine lv_aload_n hx hb dX3_moveGate_27 rfl (lv_at hl 0 rfl) ?_
      refine lv_iload_n hx hb dX3_moveGate_28 rfl (lv_at hl 1 rfl) ?_
      refine pt_Leg_0_7 M hW kw_94 hz dX3_moveGate_29 (fun H locs hW => ?_)
      refine lv_aload_n hx hb dX3_moveGate_32 rfl (lv_at hl 0 rfl) ?_
      refine gt_Leg_0_2 M hW kw_64 dX3_moveGate_33 ?_
      refine gt_Leg_4_0 M hW kw_121 (x := g 4 0) (up2_d (by decide)) dX3_moveGate_36 ?_
      exact r_reti M hW (by rw [sX3_moveGate, if_pos c_1, if_neg c_21]) ⟨by rw [rX3_moveGate, if_pos c_1, if_neg c_21], rfl⟩ (Nat.zero_le _) (Nat.zero_le _) dX3_moveGate_39
    · skip
      refine lv_bipush (v := (-105)) hx hb dX3_moveGate_24 (by decide) ?_
      exact r_reti M hW (by rw [sX3_moveGate, if_pos c_1, if_pos c_21]) ⟨by rw [rX3_moveGate, if_pos c_1, if_pos c_21], rfl⟩ (Nat.zero_le _) (Nat.zero_le _) dX3_moveGate_26
  · skip
    refine lv_aload_n hx hb dX3_moveGate_4 rfl (lv_at hl 0 rfl) ?_
    refine gt_Leg_0_11 M hW kw_71 (x := g 0 11) rfl dX3_moveGate_5 ?_
    refine lv_bipush (v := (-105)) hx hb dX3_moveGate_8 (by decide) ?_
    refine lv_icmp_eq (tgt := 16) hx hb dX3_moveGate_10 (by decide) (fun c_10 => ?_) (fun c_10 => ?_)
    · skip
      refine lv_aload_n hx hb dX3_moveGate_16 rfl (lv_at hl 0 rfl) ?_
      refine gt_Leg_0_7 M hW kw_94 (x := g 0 7) rfl dX3_moveGate_17 ?_
      refine lv_iload_n hx hb dX3_moveGate_20 rfl (lv_at hl 1 rfl) ?_
      refine lv_icmp_ne (tgt := 27) hx hb dX3_moveGate_21 (by decide) (fun c_21_2 => ?_) (fun c_21_2 => ?_)
      · skip
        refine lv_aload_n hx hb dX3_moveGate_27 rfl (lv_at hl 0 rfl) ?_
        refine lv_iload_n hx hb dX3_moveGate_28 rfl (lv_at hl 1 rfl) ?_
        refine pt_Leg_0_7 M hW kw_94 hz dX3_moveGate_29 (fun H locs hW => ?_)
        refine lv_aload_n hx hb dX3_moveGate_32 rfl (lv_at hl 0 rfl) ?_
        refine gt_Leg_0_2 M hW kw_64 dX3_moveGate_33 ?_
        refine gt_Leg_4_0 M hW kw_121 (x := g 4 0) (up2_d (by decide)) dX3_moveGate_36 ?_
        exact r_reti M hW (by rw [sX3_moveGate, if_neg c_1, if_pos c_10, if_neg c_21_2]) ⟨by rw [rX3_moveGate, if_neg c_1, if_pos c_10, if_neg c_21_2], rfl⟩ (Nat.zero_le _) (Nat.zero_le _) dX3_moveGate_39
      · skip
        refine lv_bipush (v := (-105)) hx hb dX3_moveGate_24 (by decide) ?_
        exact r_reti M hW (by rw [sX3_moveGate, if_neg c_1, if_pos c_10, if_pos c_21_2]) ⟨by rw [rX3_moveGate, if_neg c_1, if_pos c_10, if_pos c_21_2], rfl⟩ (Nat.zero_le _) (Nat.zero_le _) dX3_moveGate_26
    · skip
      refine lv_bipush (v := (-104)) hx hb dX3_moveGate_13 (by decide) ?_
      exact r_reti M hW (by rw [sX3_moveGate, if_neg c_1, if_neg c_10]) ⟨by rw [rX3_moveGate, if_neg c_1, if_neg c_10], rfl⟩ (Nat.zero_le _) (Nat.zero_le _) dX3_moveGate_15

def rX3_load (g : Nat → Nat → Int32) : Int32 := (rX0_onTheWayUp g) + ((imax 0 ((g 4 0) - 100)) / 2)
set_option maxHeartbeats 4000000 in
set_option maxRecDepth 100000 in
/-- X3.load -/
theorem c_X3_load (l : Launch) (G : Gp) (a : Nat → Nat) (g : Nat → Nat → Int32) (Y : va_W) (hOK : LegOK g) : Cn l G yX3_load cX3_load 1 (some .int) 1 [.ref (a 0)] (LegW G a g ++ Y) (some (.int (rX3_load g))) (LegW G a g ++ Y) := by
  refine CnE.of (by decide) (Nat.le_of_ble_eq_true rfl) ?_
  intro p e s m below meth c ls M hnm hl hW
  have hx := M.1
  have hb := M.2.1
  have hl : lv_has ls 1 [(0, .ref (a 0))] := hl
  refine lv_aload_n hx hb dX3_load_0 rfl (lv_at hl 0 rfl) ?_
  refine gt_Leg_0_1 M hW kw_61 dX3_load_1 ?_
  refine r_callVi M hW (c_X0_onTheWayUp l G a g  (Y) hOK) rfl kw_124 kw_125 kw_126 kw_60 kw_26 pl_X0_onTheWayUp 2 rfl rfl ⟨by decide, by decide⟩ ⟨Nat.zero_le _, Nat.zero_le _⟩ hl.1 rfl (Nat.le_of_ble_eq_true rfl) dX3_load_4 (fun H locs hW => ?_)
  refine lv_iconst (v := 0) hx hb dX3_load_7 (by decide) ?_
  refine lv_aload_n hx hb dX3_load_8 rfl (lv_at hl 0 rfl) ?_
  refine gt_Leg_0_2 M hW kw_64 dX3_load_9 ?_
  refine gt_Leg_4_0 M hW kw_121 (x := g 4 0) rfl dX3_load_12 ?_
  refine lv_bipush (v := 100) hx hb dX3_load_15 (by decide) ?_
  refine lv_isub hx hb dX3_load_17 ?_
  refine r_max M kw_123 kw_20 kw_21 kw_22 hl.1 (by decide) (Nat.le_of_ble_eq_true rfl) ⟨Nat.zero_le _, Nat.zero_le _⟩ dX3_load_18 ?_
  refine lv_iconst (v := 2) hx hb dX3_load_21 (by decide) ?_
  refine lv_idiv hx hb dX3_load_22 (by decide) ?_
  refine lv_iadd hx hb dX3_load_23 ?_
  exact r_reti M hW rfl ⟨by rw [rX3_load], rfl⟩ (Nat.zero_le _) (Nat.zero_le _) dX3_load_24

def rX3_slipOf (g : Nat → Nat → Int32) (x : Int32) : Int32 := imin 100 (2 * (imax 0 (x - (g 1 1))))
set_option maxHeartbeats 4000000 in
set_option maxRecDepth 100000 in
/-- X3.slipOf -/
theorem c_X3_slipOf (l : Launch) (G : Gp) (a : Nat → Nat) (g : Nat → Nat → Int32) (x : Int32) (Y : va_W) : Cn l G yX3_slipOf cX3_slipOf 3 (some .int) 1 [.ref (a 0), .int x] (LegW G a g ++ Y) (some (.int (rX3_slipOf g x))) (LegW G a g ++ Y) := by
  refine CnE.of (by decide) (Nat.le_of_ble_eq_true rfl) ?_
  intro p e s m below meth c ls M hnm hl hW
  have hx := M.1
  have hb := M.2.1
  have hl : lv_has ls 3 [(0, .ref (a 0)), (1, .int x)] := hl
  refine lv_iconst (v := 0) hx hb dX3_slipOf_0 (by decide) ?_
  refine lv_iload_n hx hb dX3_slipOf_1 rfl (lv_at hl 1 rfl) ?_
  refine lv_aload_n hx hb dX3_slipOf_2 rfl (lv_at hl 0 rfl) ?_
  refine gt_Leg_0_0 M hW kw_57 dX3_slipOf_3 ?_
  refine lv_iconst (v := 1) hx hb dX3_slipOf_6 (by decide) ?_
  refine al_Leg_1 M hW 1 rfl (by decide) (x := g 1 1) rfl dX3_slipOf_7 ?_
  refine lv_isub hx hb dX3_slipOf_8 ?_
  refine r_max M kw_123 kw_20 kw_21 kw_22 hl.1 (by decide) (Nat.le_of_ble_eq_true rfl) ⟨Nat.zero_le _, Nat.zero_le _⟩ dX3_slipOf_9 ?_
  refine lv_istore_n (lv' := [(2, .int (imax 0 (x - (g 1 1)))), (0, .ref (a 0)), (1, .int x)]) hx hb dX3_slipOf_12 rfl hl (by decide) rfl (fun ls hl => ?_)
  refine lv_bipush (v := 100) hx hb dX3_slipOf_13 (by decide) ?_
  refine lv_iconst (v := 2) hx hb dX3_slipOf_15 (by decide) ?_
  refine lv_iload_n hx hb dX3_slipOf_16 rfl (lv_at hl 0 rfl) ?_
  refine lv_imul hx hb dX3_slipOf_17 ?_
  refine r_min M kw_143 kw_24 kw_21 kw_25 hl.1 (by decide) (Nat.le_of_ble_eq_true rfl) ⟨Nat.zero_le _, Nat.zero_le _⟩ dX3_slipOf_18 ?_
  exact r_reti M hW rfl ⟨by rw [rX3_slipOf], rfl⟩ (Nat.zero_le _) (Nat.zero_le _) dX3_slipOf_21

def rX3_mayBeReset (g : Nat → Nat → Int32) : Int32 := if (g 0 11) = 0 then (if (g 1 1) < (rX3_load g) then 0 else 1) else if (g 0 11) = 1 then (if 150 ≤ (g 4 0) then 0 else 1) else if 50 ≤ (g 0 10) then 0 else 1
set_option maxHeartbeats 4000000 in
set_option maxRecDepth 100000 in
/-- X3.mayBeReset -/
theorem c_X3_mayBeReset (l : Launch) (G : Gp) (a : Nat → Nat) (g : Nat → Nat → Int32) (Y : va_W) (hOK : LegOK g) : Cn l G yX3_mayBeReset cX3_mayBeReset 1 (some .boolean) 2 [.ref (a 0)] (LegW G a g ++ Y) (some (.int (rX3_mayBeReset g))) (LegW G a g ++ Y) := by
  refine CnE.of (by decide) (Nat.le_of_ble_eq_true rfl) ?_
  intro p e s m below meth c ls M hnm hl hW
  have hx := M.1
  have hb := M.2.1
  have hl : lv_has ls 1 [(0, .ref (a 0))] := hl
  refine lv_aload_n hx hb dX3_mayBeReset_0 rfl (lv_at hl 0 rfl) ?_
  refine gt_Leg_0_11 M hW kw_71 (x := g 0 11) rfl dX3_mayBeReset_1 ?_
  by_cases c_4_0 : (g 0 11) = 0
  · skip
    refine lv_lookup (off := 28) (tgt := 32) hx hb dX3_mayBeReset_4 (by decide) (by rw [c_4_0]; rfl) (by decide) ?_
    refine lv_aload_n hx hb dX3_mayBeReset_32 rfl (lv_at hl 0 rfl) ?_
    refine r_callVi M hW (c_X3_load l G a g  (Y) hOK) rfl kw_128 kw_129 kw_130 kw_80 kw_122 pl_X3_load 0 rfl rfl ⟨by decide, by decide⟩ ⟨Nat.zero_le _, Nat.zero_le _⟩ hl.1 rfl (Nat.le_of_ble_eq_true rfl) dX3_mayBeReset_33 (fun H locs hW => ?_)
    refine lv_aload_n hx hb dX3_mayBeReset_36 rfl (lv_at hl 0 rfl) ?_
    refine gt_Leg_0_0 M hW kw_57 dX3_mayBeReset_37 ?_
    refine lv_iconst (v := 1) hx hb dX3_mayBeReset_40 (by decide) ?_
    refine al_Leg_1 M hW 1 rfl (by decide) (x := g 1 1) rfl dX3_mayBeReset_41 ?_
    refine lv_icmp_gt (tgt := 49) hx hb dX3_mayBeReset_42 (by decide) (fun c_42 => ?_) (fun c_42 => ?_)
    · skip
      refine lv_iconst (v := 0) hx hb dX3_mayBeReset_49 (by decide) ?_
      exact r_retz M rfl hW rfl ⟨by rw [rX3_mayBeReset, if_pos c_4_0, if_pos c_42], rfl⟩ (Nat.zero_le _) (Nat.zero_le _) dX3_mayBeReset_50
    · skip
      refine lv_iconst (v := 1) hx hb dX3_mayBeReset_45 (by decide) ?_
      refine lv_goto (tgt := 50) hx hb dX3_mayBeReset_46 (by decide) ?_
      exact r_retz M rfl hW rfl ⟨by rw [rX3_mayBeReset, if_pos c_4_0, if_neg c_42], rfl⟩ (Nat.zero_le _) (Nat.zero_le _) dX3_mayBeReset_50
  · skip
    by_cases c_4_1 : (g 0 11) = 1
    · skip
      refine lv_lookup (off := 47) (tgt := 51) hx hb dX3_mayBeReset_4 (by decide) (by rw [c_4_1]; rfl) (by decide) ?_
      refine lv_aload_n hx hb dX3_mayBeReset_51 rfl (lv_at hl 0 rfl) ?_
      refine gt_Leg_0_2 M hW kw_64 dX3_mayBeReset_52 ?_
      refine gt_Leg_4_0 M hW kw_121 (x := g 4 0) rfl dX3_mayBeReset_55 ?_
      refine lv_sipush (v := 150) hx hb dX3_mayBeReset_58 (by decide) ?_
      refine lv_icmp_ge (tgt := 68) hx hb dX3_mayBeReset_61 (by decide) (fun c_61 => ?_) (fun c_61 => ?_)
      · skip
        refine lv_iconst (v := 0) hx hb dX3_mayBeReset_68 (by decide) ?_
        exact r_retz M rfl hW rfl ⟨by rw [rX3_mayBeReset, if_neg c_4_0, if_pos c_4_1, if_pos c_61], rfl⟩ (Nat.zero_le _) (Nat.zero_le _) dX3_mayBeReset_69
      · skip
        refine lv_iconst (v := 1) hx hb dX3_mayBeReset_64 (by decide) ?_
        refine lv_goto (tgt := 69) hx hb dX3_mayBeReset_65 (by decide) ?_
        exact r_retz M rfl hW rfl ⟨by rw [rX3_mayBeReset, if_neg c_4_0, if_pos c_4_1, if_neg c_61], rfl⟩ (Nat.zero_le _) (Nat.zero_le _) dX3_mayBeReset_69
    · skip
      refine lv_lookup (off := 66) (tgt := 70) hx hb dX3_mayBeReset_4 (by decide) ((lv_osw c_4_0 (by decide)).trans ((lv_osw c_4_1 (by decide)).trans rfl)) (by decide) ?_
      refine lv_aload_n hx hb dX3_mayBeReset_70 rfl (lv_at hl 0 rfl) ?_
      refine gt_Leg_0_10 M hW kw_97 (x := g 0 10) rfl dX3_mayBeReset_71 ?_
      refine lv_bipush (v := 50) hx hb dX3_mayBeReset_74 (by decide) ?_
      refine lv_icmp_ge (tgt := 83) hx hb dX3_mayBeReset_76 (by decide) (fun c_76 => ?_) (fun c_76 => ?_)
      · skip
        refine lv_iconst (v := 0) hx hb dX3_mayBeReset_83 (by decide) ?_
        exact r_retz M rfl hW rfl ⟨by rw [rX3_mayBeReset, if_neg c_4_0, if_neg c_4_1, if_pos c_76], rfl⟩ (Nat.zero_le _) (Nat.zero_le _) dX3_mayBeReset_84
      · skip
        refine lv_iconst (v := 1) hx hb dX3_mayBeReset_79 (by decide) ?_
        refine lv_goto (tgt := 84) hx hb dX3_mayBeReset_80 (by decide) ?_
        exact r_retz M rfl hW rfl ⟨by rw [rX3_mayBeReset, if_neg c_4_0, if_neg c_4_1, if_neg c_76], rfl⟩ (Nat.zero_le _) (Nat.zero_le _) dX3_mayBeReset_84

def rX3_forgetReason (g : Nat → Nat → Int32) : Int32 := if (g 0 11) = (-105) then (-105) else if (rX3_mayBeReset g) = 0 then (-104) else g 0 11
def sX3_forgetReason (g : Nat → Nat → Int32) : Nat → Nat → Int32 := if (g 0 11) = (-105) then g else if (rX3_mayBeReset g) = 0 then g else up2 g 0 11 (-105)
set_option maxHeartbeats 4000000 in
set_option maxRecDepth 100000 in
/-- X3.forgetReason -/
theorem c_X3_forgetReason (l : Launch) (G : Gp) (a : Nat → Nat) (g : Nat → Nat → Int32) (Y : va_W) (hOK : LegOK g) : Cn l G yX3_forgetReason cX3_forgetReason 2 (some .int) 3 [.ref (a 0)] (LegW G a g ++ Y) (some (.int (rX3_forgetReason g))) (LegW G a (sX3_forgetReason g) ++ Y) := by
  refine CnE.of (by decide) (Nat.le_of_ble_eq_true rfl) ?_
  intro p e s m below meth c ls M hnm hl hW
  have hx := M.1
  have hb := M.2.1
  have hl : lv_has ls 2 [(0, .ref (a 0))] := hl
  refine lv_aload_n hx hb dX3_forgetReason_0 rfl (lv_at hl 0 rfl) ?_
  refine gt_Leg_0_11 M hW kw_71 (x := g 0 11) rfl dX3_forgetReason_1 ?_
  refine lv_bipush (v := (-105)) hx hb dX3_forgetReason_4 (by decide) ?_
  refine lv_icmp_ne (tgt := 12) hx hb dX3_forgetReason_6 (by decide) (fun c_6 => ?_) (fun c_6 => ?_)
  · skip
    refine lv_aload_n hx hb dX3_forgetReason_12 rfl (lv_at hl 0 rfl) ?_
    refine r_callVi M hW (c_X3_mayBeReset l G a g  (Y) hOK) rfl kw_136 kw_137 kw_138 kw_80 kw_135 pl_X3_mayBeReset 0 rfl rfl ⟨by decide, by decide⟩ ⟨Nat.zero_le _, Nat.zero_le _⟩ hl.1 rfl (Nat.le_of_ble_eq_true rfl) dX3_forgetReason_13 (fun H locs hW => ?_)
    refine lv_if_ne (tgt := 22) hx hb dX3_forgetReason_16 (by decide) (fun c_16 => ?_) (fun c_16 => ?_)
    · skip
      refine lv_aload_n hx hb dX3_forgetReason_22 rfl (lv_at hl 0 rfl) ?_
      refine gt_Leg_0_11 M hW kw_71 (x := g 0 11) rfl dX3_forgetReason_23 ?_
      refine lv_istore_n (lv' := [(1, .int (g 0 11)), (0, .ref (a 0))]) hx hb dX3_forgetReason_26 rfl hl (by decide) rfl (fun ls hl => ?_)
      refine lv_aload_n hx hb dX3_forgetReason_27 rfl (lv_at hl 1 rfl) ?_
      refine lv_bipush (v := (-105)) hx hb dX3_forgetReason_28 (by decide) ?_
      refine pt_Leg_0_11 M hW kw_71 dX3_forgetReason_30 (fun H locs hW => ?_)
      refine lv_iload_n hx hb dX3_forgetReason_33 rfl (lv_at hl 0 rfl) ?_
      exact r_reti M hW (by rw [sX3_forgetReason, if_neg c_6, if_neg c_16]) ⟨by rw [rX3_forgetReason, if_neg c_6, if_neg c_16], rfl⟩ (Nat.zero_le _) (Nat.zero_le _) dX3_forgetReason_34
    · skip
      refine lv_bipush (v := (-104)) hx hb dX3_forgetReason_19 (by decide) ?_
      exact r_reti M hW (by rw [sX3_forgetReason, if_neg c_6, if_pos c_16]) ⟨by rw [rX3_forgetReason, if_neg c_6, if_pos c_16], rfl⟩ (Nat.zero_le _) (Nat.zero_le _) dX3_forgetReason_21
  · skip
    refine lv_bipush (v := (-105)) hx hb dX3_forgetReason_9 (by decide) ?_
    exact r_reti M hW (by rw [sX3_forgetReason, if_pos c_6]) ⟨by rw [rX3_forgetReason, if_pos c_6], rfl⟩ (Nat.zero_le _) (Nat.zero_le _) dX3_forgetReason_11

def rX3_takeByHand (g : Nat → Nat → Int32) (x : Int32) : Int32 := if (rX6_isWithin x 1 300) = 0 then (-102) else if (g 0 6) = 0 then (if x ≤ (g 4 0) then (g 4 0) - x else (-104)) else (-104)
def sX3_takeByHand (g : Nat → Nat → Int32) (x : Int32) : Nat → Nat → Int32 := if (rX6_isWithin x 1 300) = 0 then g else if (g 0 6) = 0 then (if x ≤ (g 4 0) then up2 (up2 g 4 0 ((g 4 0) - x)) 4 4 ((g 4 4) + x) else g) else g
set_option maxHeartbeats 4000000 in
set_option maxRecDepth 100000 in
/-- X3.takeByHand -/
theorem c_X3_takeByHand (l : Launch) (G : Gp) (a : Nat → Nat) (g : Nat → Nat → Int32) (x : Int32) (Y : va_W) : Cn l G yX3_takeByHand cX3_takeByHand 2 (some .int) 1 [.ref (a 0), .int x] (LegW G a g ++ Y) (some (.int (rX3_takeByHand g x))) (LegW G a (sX3_takeByHand g x) ++ Y) := by
  refine CnE.of (by decide) (Nat.le_of_ble_eq_true rfl) ?_
  intro p e s m below meth c ls M hnm hl hW
  have hx := M.1
  have hb := M.2.1
  have hl : lv_has ls 2 [(0, .ref (a 0)), (1, .int x)] := hl
  refine lv_iload_n hx hb dX3_takeByHand_0 rfl (lv_at hl 1 rfl) ?_
  refine lv_iconst (v := 1) hx hb dX3_takeByHand_1 (by decide) ?_
  refine lv_sipush (v := 300) hx hb dX3_takeByHand_2 (by decide) ?_
  refine r_callSNi M hW (as := [.int x, .int 1, .int 300]) (c_X6_isWithin l G x 1 300 (LegW G a g ++ Y)) rfl kn_X3_89 kw_14 kw_15 kw_12 pl_X6_isWithin ⟨by decide, by decide⟩ ⟨Nat.zero_le _, Nat.zero_le _⟩ hl.1 rfl (Nat.le_of_ble_eq_true rfl) dX3_takeByHand_5 (fun H locs hW => ?_)
  refine lv_if_ne (tgt := 14) hx hb dX3_takeByHand_8 (by decide) (fun c_8 => ?_) (fun c_8 => ?_)
  · skip
    refine lv_aload_n hx hb dX3_takeByHand_14 rfl (lv_at hl 0 rfl) ?_
    refine gt_Leg_0_6 M hW kw_93 (x := g 0 6) rfl dX3_takeByHand_15 ?_
    refine lv_if_ne (tgt := 32) hx hb dX3_takeByHand_18 (by decide) (fun c_18 => ?_) (fun c_18 => ?_)
    · skip
      refine lv_bipush (v := (-104)) hx hb dX3_takeByHand_32 (by decide) ?_
      exact r_reti M hW (by rw [sX3_takeByHand, if_neg c_8, if_neg c_18]) ⟨by rw [rX3_takeByHand, if_neg c_8, if_neg c_18], rfl⟩ (Nat.zero_le _) (Nat.zero_le _) dX3_takeByHand_34
    · skip
      refine lv_iload_n hx hb dX3_takeByHand_21 rfl (lv_at hl 1 rfl) ?_
      refine lv_aload_n hx hb dX3_takeByHand_22 rfl (lv_at hl 0 rfl) ?_
      refine gt_Leg_0_2 M hW kw_64 dX3_takeByHand_23 ?_
      refine gt_Leg_4_0 M hW kw_121 (x := g 4 0) rfl dX3_takeByHand_26 ?_
      refine lv_icmp_le (tgt := 35) hx hb dX3_takeByHand_29 (by decide) (fun c_29 => ?_) (fun c_29 => ?_)
      · skip
        refine lv_aload_n hx hb dX3_takeByHand_35 rfl (lv_at hl 0 rfl) ?_
        refine gt_Leg_0_2 M hW kw_64 dX3_takeByHand_36 ?_
        refine lv_dup hx hb dX3_takeByHand_39 rfl ?_
        refine gt_Leg_4_0 M hW kw_121 (x := g 4 0) rfl dX3_takeByHand_40 ?_
        refine lv_iload_n hx hb dX3_takeByHand_43 rfl (lv_at hl 1 rfl) ?_
        refine lv_isub hx hb dX3_takeByHand_44 ?_
        refine pt_Leg_4_0 M hW kw_121 dX3_takeByHand_45 (fun H locs hW => ?_)
        refine lv_aload_n hx hb dX3_takeByHand_48 rfl (lv_at hl 0 rfl) ?_
        refine gt_Leg_0_2 M hW kw_64 dX3_takeByHand_49 ?_
        refine lv_dup hx hb dX3_takeByHand_52 rfl ?_
        refine gt_Leg_4_4 M hW kw_141 (x := g 4 4) (up2_k (by decide)) dX3_takeByHand_53 ?_
        refine lv_iload_n hx hb dX3_takeByHand_56 rfl (lv_at hl 1 rfl) ?_
        refine lv_iadd hx hb dX3_takeByHand_57 ?_
        refine pt_Leg_4_4 M hW kw_141 dX3_takeByHand_58 (fun H locs hW => ?_)
        refine lv_aload_n hx hb dX3_takeByHand_61 rfl (lv_at hl 0 rfl) ?_
        refine gt_Leg_0_2 M hW kw_64 dX3_takeByHand_62 ?_
        refine gt_Leg_4_0 M hW kw_121 (x := (g 4 0) - x) ((up2_k (by decide)).trans up2_s) dX3_takeByHand_65 ?_
        exact r_reti M hW (by rw [sX3_takeByHand, if_neg c_8, if_pos c_18, if_pos c_29]) ⟨by rw [rX3_takeByHand, if_neg c_8, if_pos c_18, if_pos c_29], rfl⟩ (Nat.zero_le _) (Nat.zero_le _) dX3_takeByHand_68
      · skip
        refine lv_bipush (v := (-104)) hx hb dX3_takeByHand_32 (by decide) ?_
        exact r_reti M hW (by rw [sX3_takeByHand, if_neg c_8, if_pos c_18, if_neg c_29]) ⟨by rw [rX3_takeByHand, if_neg c_8, if_pos c_18, if_neg c_29], rfl⟩ (Nat.zero_le _) (Nat.zero_le _) dX3_takeByHand_34
  · skip
    refine lv_bipush (v := (-102)) hx hb dX3_takeByHand_11 (by decide) ?_
    exact r_reti M hW (by rw [sX3_takeByHand, if_pos c_8]) ⟨by rw [rX3_takeByHand, if_pos c_8], rfl⟩ (Nat.zero_le _) (Nat.zero_le _) dX3_takeByHand_13

def rX3_seenBy (g : Nat → Nat → Int32) (x : Int32) : Int32 := if x = 0 then g 0 8 else if x = 1 then g 4 0 else g 0 10
set_option maxHeartbeats 4000000 in
set_option maxRecDepth 100000 in
/-- X3.seenBy -/
theorem c_X3_seenBy (l : Launch) (G : Gp) (a : Nat → Nat) (g : Nat → Nat → Int32) (x : Int32) (Y : va_W) : Cn l G yX3_seenBy cX3_seenBy 2 (some .int) 0 [.ref (a 0), .int x] (LegW G a g ++ Y) (some (.int (rX3_seenBy g x))) (LegW G a g ++ Y) := by
  refine CnE.of (by decide) (Nat.le_of_ble_eq_true rfl) ?_
  intro p e s m below meth c ls M hnm hl hW
  have hx := M.1
  have hb := M.2.1
  have hl : lv_has ls 2 [(0, .ref (a 0)), (1, .int x)] := hl
  refine lv_iload_n hx hb dX3_seenBy_0 rfl (lv_at hl 1 rfl) ?_
  by_cases c_1_0 : x = 0
  · skip
    refine lv_lookup (off := 27) (tgt := 28) hx hb dX3_seenBy_1 (by decide) (by rw [c_1_0]; rfl) (by decide) ?_
    refine lv_aload_n hx hb dX3_seenBy_28 rfl (lv_at hl 0 rfl) ?_
    refine gt_Leg_0_8 M hW kw_95 (x := g 0 8) rfl dX3_seenBy_29 ?_
    exact r_reti M hW rfl ⟨by rw [rX3_seenBy, if_pos c_1_0], rfl⟩ (Nat.zero_le _) (Nat.zero_le _) dX3_seenBy_32
  · skip
    by_cases c_1_1 : x = 1
    · skip
      refine lv_lookup (off := 32) (tgt := 33) hx hb dX3_seenBy_1 (by decide) (by rw [c_1_1]; rfl) (by decide) ?_
      refine lv_aload_n hx hb dX3_seenBy_33 rfl (lv_at hl 0 rfl) ?_
      refine gt_Leg_0_2 M hW kw_64 dX3_seenBy_34 ?_
      refine gt_Leg_4_0 M hW kw_121 (x := g 4 0) rfl dX3_seenBy_37 ?_
      exact r_reti M hW rfl ⟨by rw [rX3_seenBy, if_neg c_1_0, if_pos c_1_1], rfl⟩ (Nat.zero_le _) (Nat.zero_le _) dX3_seenBy_40
    · skip
      refine lv_lookup (off := 40) (tgt := 41) hx hb dX3_seenBy_1 (by decide) ((lv_osw c_1_0 (by decide)).trans ((lv_osw c_1_1 (by decide)).trans rfl)) (by decide) ?_
      refine lv_aload_n hx hb dX3_seenBy_41 rfl (lv_at hl 0 rfl) ?_
      refine gt_Leg_0_10 M hW kw_97 (x := g 0 10) rfl dX3_seenBy_42 ?_
      exact r_reti M hW rfl ⟨by rw [rX3_seenBy, if_neg c_1_0, if_neg c_1_1], rfl⟩ (Nat.zero_le _) (Nat.zero_le _) dX3_seenBy_45

def sX3_rub (g : Nat → Nat → Int32) : Nat → Nat → Int32 := up2 g 0 10 (imax 0 (((g 0 10) + ((g 0 9) * (imax 0 ((iabs (g 1 4)) - 3)))) - 2))
set_option maxHeartbeats 4000000 in
set_option maxRecDepth 100000 in
/-- X3.rub -/
theorem c_X3_rub (l : Launch) (G : Gp) (a : Nat → Nat) (g : Nat → Nat → Int32) (Y : va_W) : Cn l G yX3_rub cX3_rub 2 none 1 [.ref (a 0)] (LegW G a g ++ Y) none (LegW G a (sX3_rub g) ++ Y) := by
  refine CnE.of (by decide) (Nat.le_of_ble_eq_true rfl) ?_
  intro p e s m below meth c ls M hnm hl hW
  have hx := M.1
  have hb := M.2.1
  have hl : lv_has ls 2 [(0, .ref (a 0))] := hl
  refine lv_iconst (v := 0) hx hb dX3_rub_0 (by decide) ?_
  refine lv_aload_n hx hb dX3_rub_1 rfl (lv_at hl 0 rfl) ?_
  refine gt_Leg_0_0 M hW kw_57 dX3_rub_2 ?_
  refine lv_iconst (v := 4) hx hb dX3_rub_5 (by decide) ?_
  refine al_Leg_1 M hW 4 rfl (by decide) (x := g 1 4) rfl dX3_rub_6 ?_
  refine r_abs M kw_159 kw_160 kw_21 kw_161 hl.1 (by decide) (Nat.le_of_ble_eq_true rfl) ⟨Nat.zero_le _, Nat.zero_le _⟩ dX3_rub_7 ?_
  refine lv_iconst (v := 3) hx hb dX3_rub_10 (by decide) ?_
  refine lv_isub hx hb dX3_rub_11 ?_
  refine r_max M kw_123 kw_20 kw_21 kw_22 hl.1 (by decide) (Nat.le_of_ble_eq_true rfl) ⟨Nat.zero_le _, Nat.zero_le _⟩ dX3_rub_12 ?_
  refine lv_istore_n (lv' := [(1, .int (imax 0 ((iabs (g 1 4)) - 3))), (0, .ref (a 0))]) hx hb dX3_rub_15 rfl hl (by decide) rfl (fun ls hl => ?_)
  refine lv_aload_n hx hb dX3_rub_16 rfl (lv_at hl 1 rfl) ?_
  refine lv_iconst (v := 0) hx hb dX3_rub_17 (by decide) ?_
  refine lv_aload_n hx hb dX3_rub_18 rfl (lv_at hl 1 rfl) ?_
  refine gt_Leg_0_10 M hW kw_97 (x := g 0 10) rfl dX3_rub_19 ?_
  refine lv_aload_n hx hb dX3_rub_22 rfl (lv_at hl 1 rfl) ?_
  refine gt_Leg_0_9 M hW kw_96 (x := g 0 9) rfl dX3_rub_23 ?_
  refine lv_iload_n hx hb dX3_rub_26 rfl (lv_at hl 0 rfl) ?_
  refine lv_imul hx hb dX3_rub_27 ?_
  refine lv_iadd hx hb dX3_rub_28 ?_
  refine lv_iconst (v := 2) hx hb dX3_rub_29 (by decide) ?_
  refine lv_isub hx hb dX3_rub_30 ?_
  refine r_max M kw_123 kw_20 kw_21 kw_22 hl.1 (by decide) (Nat.le_of_ble_eq_true rfl) ⟨Nat.zero_le _, Nat.zero_le _⟩ dX3_rub_31 ?_
  refine pt_Leg_0_10 M hW kw_97 dX3_rub_34 (fun H locs hW => ?_)
  exact r_retv M hW (by rw [sX3_rub]) ⟨rfl, rfl⟩ (Nat.zero_le _) (Nat.zero_le _) dX3_rub_37

theorem LegOK.moveOn {g : Nat → Nat → Int32} : LegOK (sX0_moveOn g) := ⟨_, Nat.mod_lt _ (by decide), rfl⟩

def moveF (g : Nat → Nat → Int32) : Int32 := if (sX0_emptyAtHead (sX0_moveOn g)) 0 9 < 2 then (rX0_emptyAtHead (sX0_moveOn g)) / 2 else 0

def moveA (g : Nat → Nat → Int32) : Nat → Nat → Int32 := up2 (sX0_emptyAtHead (sX0_moveOn g)) 4 1 (((sX0_emptyAtHead (sX0_moveOn g)) 4 1) + ((rX0_emptyAtHead (sX0_moveOn g)) - (moveF g)))
def moveB (g : Nat → Nat → Int32) : Nat → Nat → Int32 := sX1_fallBack (moveA g) (moveF g)
theorem mvB_ok (g : Nat → Nat → Int32) : LegOK (moveB g) := by
  have e : (moveB g) 2 = (sX0_moveOn g) 2 := by
    unfold moveB moveA sX1_fallBack sX1_pourIntoBoot sX0_emptyAtHead
    simp only [up2_ne (show (2 : Nat) ≠ 4 by decide), up2_ne (show (2 : Nat) ≠ 3 by decide)]
  unfold LegOK
  rw [e]
  exact ⟨_, Nat.mod_lt (jB g + 11) (show 0 < 12 by decide), rfl⟩

def sX3_moveOneCell (g : Nat → Nat → Int32) : Nat → Nat → Int32 := up2 (sX0_fillInBoot (moveB g) ((moveB g) 4 0) ((moveB g) 1 3)) 4 0 (((moveB g) 4 0) - (rX0_fillInBoot (moveB g) ((moveB g) 4 0) ((moveB g) 1 3)))
set_option maxHeartbeats 4000000 in
set_option maxRecDepth 100000 in
/-- X3.moveOneCell -/
theorem c_X3_moveOneCell (l : Launch) (G : Gp) (a : Nat → Nat) (g : Nat → Nat → Int32) (Y : va_W) (hOK : LegOK g) : Cn l G yX3_moveOneCell cX3_moveOneCell 3 none 3 [.ref (a 0)] (LegW G a g ++ Y) none (LegW G a (sX3_moveOneCell g) ++ Y) := by
  refine CnE.of (by decide) (Nat.le_of_ble_eq_true rfl) ?_
  intro p e s m below meth c ls M hnm hl hW
  have hx := M.1
  have hb := M.2.1
  have hl : lv_has ls 3 [(0, .ref (a 0))] := hl
  refine lv_aload_n hx hb dX3_moveOneCell_0 rfl (lv_at hl 0 rfl) ?_
  refine gt_Leg_0_1 M hW kw_61 dX3_moveOneCell_1 ?_
  refine r_callVv M hW (c_X0_moveOn l G a g  (Y) hOK) rfl kw_145 kw_146 kw_147 kw_60 kw_16 pl_X0_moveOn 2 rfl rfl ⟨by decide, by decide⟩ ⟨Nat.zero_le _, Nat.zero_le _⟩ hl.1 rfl (Nat.le_of_ble_eq_true rfl) dX3_moveOneCell_4 (fun H locs hW => ?_)
  refine lv_aload_n hx hb dX3_moveOneCell_7 rfl (lv_at hl 0 rfl) ?_
  refine gt_Leg_0_1 M hW kw_61 dX3_moveOneCell_8 ?_
  refine r_callVi M hW (c_X0_emptyAtHead l G a (sX0_moveOn g)  (Y) LegOK.moveOn) rfl kw_148 kw_149 kw_150 kw_60 kw_17 pl_X0_emptyAtHead 2 rfl rfl ⟨by decide, by decide⟩ ⟨Nat.zero_le _, Nat.zero_le _⟩ hl.1 rfl (Nat.le_of_ble_eq_true rfl) dX3_moveOneCell_11 (fun H locs hW => ?_)
  refine lv_istore_n (lv' := [(1, .int (rX0_emptyAtHead (sX0_moveOn g))), (0, .ref (a 0))]) hx hb dX3_moveOneCell_14 rfl hl (by decide) rfl (fun ls hl => ?_)
  refine lv_aload_n hx hb dX3_moveOneCell_15 rfl (lv_at hl 1 rfl) ?_
  refine gt_Leg_0_9 M hW kw_96 (x := (sX0_emptyAtHead (sX0_moveOn g)) 0 9) rfl dX3_moveOneCell_16 ?_
  refine lv_iconst (v := 2) hx hb dX3_moveOneCell_19 (by decide) ?_
  refine r_cuti (pc2 := 30) (ls2 := ls) (st := []) (moveF g) (fun x_30 hx_30 => ?_) (fun hJ_30 => ?_)
  · skip
    subst hx_30
    refine lv_istore_n (lv' := [(2, .int (moveF g)), (1, .int (rX0_emptyAtHead (sX0_moveOn g))), (0, .ref (a 0))]) hx hb dX3_moveOneCell_30 rfl hl (by decide) rfl (fun ls hl => ?_)
    refine lv_aload_n hx hb dX3_moveOneCell_31 rfl (lv_at hl 2 rfl) ?_
    refine gt_Leg_0_2 M hW kw_64 dX3_moveOneCell_32 ?_
    refine lv_dup hx hb dX3_moveOneCell_35 rfl ?_
    refine gt_Leg_4_1 M hW kw_144 (x := (sX0_emptyAtHead (sX0_moveOn g)) 4 1) rfl dX3_moveOneCell_36 ?_
    refine lv_iload_n hx hb dX3_moveOneCell_39 rfl (lv_at hl 1 rfl) ?_
    refine lv_iload_n hx hb dX3_moveOneCell_40 rfl (lv_at hl 0 rfl) ?_
    refine lv_isub hx hb dX3_moveOneCell_41 ?_
    refine lv_iadd hx hb dX3_moveOneCell_42 ?_
    refine pt_Leg_4_1 M hW kw_144 dX3_moveOneCell_43 (fun H locs hW => ?_)
    have hW : Wd G s (LegW G a (moveA g) ++ Y) _ _ := hW
    refine lv_aload_n hx hb dX3_moveOneCell_46 rfl (lv_at hl 2 rfl) ?_
    refine gt_Leg_0_2 M hW kw_64 dX3_moveOneCell_47 ?_
    refine lv_iload_n hx hb dX3_moveOneCell_50 rfl (lv_at hl 0 rfl) ?_
    refine r_callVv M hW (c_X1_fallBack l G a (moveA g) (moveF g) (Y)) rfl kw_151 kw_152 kw_153 kw_43 kw_44 pl_X1_fallBack 4 rfl rfl ⟨by decide, by decide⟩ ⟨Nat.zero_le _, Nat.zero_le _⟩ hl.1 rfl (Nat.le_of_ble_eq_true rfl) dX3_moveOneCell_51 (fun H locs hW => ?_)
    have hW : Wd G s (LegW G a (moveB g) ++ Y) _ _ := hW
    have hOKB : LegOK (moveB g) := mvB_ok g
    refine lv_aload_n hx hb dX3_moveOneCell_54 rfl (lv_at hl 2 rfl) ?_
    refine gt_Leg_0_2 M hW kw_64 dX3_moveOneCell_55 ?_
    refine lv_dup hx hb dX3_moveOneCell_58 rfl ?_
    refine gt_Leg_4_0 M hW kw_121 (x := (moveB g) 4 0) rfl dX3_moveOneCell_59 ?_
    refine lv_aload_n hx hb dX3_moveOneCell_62 rfl (lv_at hl 2 rfl) ?_
    refine gt_Leg_0_1 M hW kw_61 dX3_moveOneCell_63 ?_
    refine lv_aload_n hx hb dX3_moveOneCell_66 rfl (lv_at hl 2 rfl) ?_
    refine gt_Leg_0_2 M hW kw_64 dX3_moveOneCell_67 ?_
    refine gt_Leg_4_0 M hW kw_121 (x := (moveB g) 4 0) rfl dX3_moveOneCell_70 ?_
    refine lv_aload_n hx hb dX3_moveOneCell_73 rfl (lv_at hl 2 rfl) ?_
    refine gt_Leg_0_0 M hW kw_57 dX3_moveOneCell_74 ?_
    refine lv_iconst (v := 3) hx hb dX3_moveOneCell_77 (by decide) ?_
    refine al_Leg_1 M hW 3 rfl (by decide) (x := (moveB g) 1 3) rfl dX3_moveOneCell_78 ?_
    refine r_callVi M hW (c_X0_fillInBoot l G a (moveB g) ((moveB g) 4 0) ((moveB g) 1 3) (Y) hOKB) rfl kw_154 kw_155 kw_156 kw_60 kw_18 pl_X0_fillInBoot 2 rfl rfl ⟨by decide, by decide⟩ ⟨Nat.zero_le _, Nat.zero_le _⟩ hl.1 rfl (Nat.le_of_ble_eq_true rfl) dX3_moveOneCell_79 (fun H locs hW => ?_)
    refine lv_isub hx hb dX3_moveOneCell_82 ?_
    refine pt_Leg_4_0 M hW kw_121 dX3_moveOneCell_83 (fun H locs hW => ?_)
    exact r_retv M hW (by rw [sX3_moveOneCell]) ⟨rfl, rfl⟩ (Nat.zero_le _) (Nat.zero_le _) dX3_moveOneCell_86
  · skip
    refine lv_icmp_lt (tgt := 27) hx hb dX3_moveOneCell_20 (by decide) (fun c_20 => ?_) (fun c_20 => ?_)
    · skip
      refine lv_iload_n hx hb dX3_moveOneCell_27 rfl (lv_at hl 0 rfl) ?_
      refine lv_iconst (v := 2) hx hb dX3_moveOneCell_28 (by decide) ?_
      refine lv_idiv hx hb dX3_moveOneCell_29 (by decide) ?_
      exact hJ_30 _ (by rw [moveF, if_pos c_20])
    · skip
      refine lv_iconst (v := 0) hx hb dX3_moveOneCell_23 (by decide) ?_
      refine lv_goto (tgt := 30) hx hb dX3_moveOneCell_24 (by decide) ?_
      exact hJ_30 _ (by rw [moveF, if_neg c_20])

def sX3_tripBy (g : Nat → Nat → Int32) (x : Int32) : Nat → Nat → Int32 := sX5_note (up2 (up2 (up2 g 0 6 0) 0 7 0) 0 11 x) (g 0 12) x (rX3_load (up2 (up2 (up2 g 0 6 0) 0 7 0) 0 11 x))
set_option maxHeartbeats 4000000 in
set_option maxRecDepth 100000 in
/-- X3.tripBy -/
theorem c_X3_tripBy (l : Launch) (G : Gp) (a : Nat → Nat) (g : Nat → Nat → Int32) (x : Int32) (Y : va_W) (hOK : LegOK g) : Cn l G yX3_tripBy cX3_tripBy 2 none 2 [.ref (a 0), .int x] (LegW G a g ++ Y) none (LegW G a (sX3_tripBy g x) ++ Y) := by
  refine CnE.of (by decide) (Nat.le_of_ble_eq_true rfl) ?_
  intro p e s m below meth c ls M hnm hl hW
  have hx := M.1
  have hb := M.2.1
  have hl : lv_has ls 2 [(0, .ref (a 0)), (1, .int x)] := hl
  refine lv_aload_n hx hb dX3_tripBy_0 rfl (lv_at hl 0 rfl) ?_
  refine lv_iconst (v := 0) hx hb dX3_tripBy_1 (by decide) ?_
  refine pt_Leg_0_6 M hW kw_93 (Or.inl rfl) dX3_tripBy_2 (fun H locs hW => ?_)
  refine lv_aload_n hx hb dX3_tripBy_5 rfl (lv_at hl 0 rfl) ?_
  refine lv_iconst (v := 0) hx hb dX3_tripBy_6 (by decide) ?_
  refine pt_Leg_0_7 M hW kw_94 (Or.inl rfl) dX3_tripBy_7 (fun H locs hW => ?_)
  refine lv_aload_n hx hb dX3_tripBy_10 rfl (lv_at hl 0 rfl) ?_
  refine lv_iload_n hx hb dX3_tripBy_11 rfl (lv_at hl 1 rfl) ?_
  refine pt_Leg_0_11 M hW kw_71 dX3_tripBy_12 (fun H locs hW => ?_)
  refine lv_aload_n hx hb dX3_tripBy_15 rfl (lv_at hl 0 rfl) ?_
  refine gt_Leg_0_3 M hW kw_68 dX3_tripBy_16 ?_
  refine lv_aload_n hx hb dX3_tripBy_19 rfl (lv_at hl 0 rfl) ?_
  refine gt_Leg_0_12 M hW kw_98 (x := g 0 12) ((up2_k (by decide)).trans ((up2_k (by decide)).trans (up2_k (by decide)))) dX3_tripBy_20 ?_
  refine lv_iload_n hx hb dX3_tripBy_23 rfl (lv_at hl 1 rfl) ?_
  refine lv_aload_n hx hb dX3_tripBy_24 rfl (lv_at hl 0 rfl) ?_
  refine r_callVi M hW (c_X3_load l G a (up2 (up2 (up2 g 0 6 0) 0 7 0) 0 11 x)  (Y) hOK) rfl kw_128 kw_129 kw_130 kw_80 kw_122 pl_X3_load 0 rfl rfl ⟨by decide, by decide⟩ ⟨Nat.zero_le _, Nat.zero_le _⟩ hl.1 rfl (Nat.le_of_ble_eq_true rfl) dX3_tripBy_25 (fun H locs hW => ?_)
  refine r_callVv M hW (c_X5_note l G a (up2 (up2 (up2 g 0 6 0) 0 7 0) 0 11 x) (g 0 12) x (rX3_load (up2 (up2 (up2 g 0 6 0) 0 7 0) 0 11 x)) (Y)) rfl kw_165 kw_166 kw_167 kw_67 kw_163 pl_X5_note 5 rfl rfl ⟨by decide, by decide⟩ ⟨Nat.zero_le _, Nat.zero_le _⟩ hl.1 rfl (Nat.le_of_ble_eq_true rfl) dX3_tripBy_28 (fun H locs hW => ?_)
  exact r_retv M hW (by rw [sX3_tripBy]) ⟨rfl, rfl⟩ (Nat.zero_le _) (Nat.zero_le _) dX3_tripBy_31

/-! what the small steps leave alone -/
theorem up2_0_1 (g : Nat → Nat → Int32) (i : Nat) (v : Int32) : up2 g 1 i v 0 = g 0 := up2_ne (by decide)
theorem up2_0_2 (g : Nat → Nat → Int32) (i : Nat) (v : Int32) : up2 g 2 i v 0 = g 0 := up2_ne (by decide)
theorem up2_0_3 (g : Nat → Nat → Int32) (i : Nat) (v : Int32) : up2 g 3 i v 0 = g 0 := up2_ne (by decide)
theorem up2_0_4 (g : Nat → Nat → Int32) (i : Nat) (v : Int32) : up2 g 4 i v 0 = g 0 := up2_ne (by decide)
theorem up2_0_5 (g : Nat → Nat → Int32) (i : Nat) (v : Int32) : up2 g 5 i v 0 = g 0 := up2_ne (by decide)
theorem up2_0_6 (g : Nat → Nat → Int32) (i : Nat) (v : Int32) : up2 g 6 i v 0 = g 0 := up2_ne (by decide)
theorem up2_0_7 (g : Nat → Nat → Int32) (i : Nat) (v : Int32) : up2 g 7 i v 0 = g 0 := up2_ne (by decide)
theorem up2_0_8 (g : Nat → Nat → Int32) (i : Nat) (v : Int32) : up2 g 8 i v 0 = g 0 := up2_ne (by decide)
theorem up2_0_9 (g : Nat → Nat → Int32) (i : Nat) (v : Int32) : up2 g 9 i v 0 = g 0 := up2_ne (by decide)
theorem up2_0_10 (g : Nat → Nat → Int32) (i : Nat) (v : Int32) : up2 g 10 i v 0 = g 0 := up2_ne (by decide)
theorem up2_1_0 (g : Nat → Nat → Int32) (i : Nat) (v : Int32) : up2 g 0 i v 1 = g 1 := up2_ne (by decide)
theorem up2_1_2 (g : Nat → Nat → Int32) (i : Nat) (v : Int32) : up2 g 2 i v 1 = g 1 := up2_ne (by decide)
theorem up2_1_3 (g : Nat → Nat → Int32) (i : Nat) (v : Int32) : up2 g 3 i v 1 = g 1 := up2_ne (by decide)
theorem up2_1_4 (g : Nat → Nat → Int32) (i : Nat) (v : Int32) : up2 g 4 i v 1 = g 1 := up2_ne (by decide)
theorem up2_1_5 (g : Nat → Nat → Int32) (i : Nat) (v : Int32) : up2 g 5 i v 1 = g 1 := up2_ne (by decide)
theorem up2_1_6 (g : Nat → Nat → Int32) (i : Nat) (v : Int32) : up2 g 6 i v 1 = g 1 := up2_ne (by decide)
theorem up2_1_7 (g : Nat → Nat → Int32) (i : Nat) (v : Int32) : up2 g 7 i v 1 = g 1 := up2_ne (by decide)
theorem up2_1_8 (g : Nat → Nat → Int32) (i : Nat) (v : Int32) : up2 g 8 i v 1 = g 1 := up2_ne (by decide)
theorem up2_1_9 (g : Nat → Nat → Int32) (i : Nat) (v : Int32) : up2 g 9 i v 1 = g 1 := up2_ne (by decide)
theorem up2_1_10 (g : Nat → Nat → Int32) (i : Nat) (v : Int32) : up2 g 10 i v 1 = g 1 := up2_ne (by decide)
theorem up2_2_0 (g : Nat → Nat → Int32) (i : Nat) (v : Int32) : up2 g 0 i v 2 = g 2 := up2_ne (by decide)
theorem up2_2_1 (g : Nat → Nat → Int32) (i : Nat) (v : Int32) : up2 g 1 i v 2 = g 2 := up2_ne (by decide)
theorem up2_2_3 (g : Nat → Nat → Int32) (i : Nat) (v : Int32) : up2 g 3 i v 2 = g 2 := up2_ne (by decide)
theorem up2_2_4 (g : Nat → Nat → Int32) (i : Nat) (v : Int32) : up2 g 4 i v 2 = g 2 := up2_ne (by decide)
theorem up2_2_5 (g : Nat → Nat → Int32) (i : Nat) (v : Int32) : up2 g 5 i v 2 = g 2 := up2_ne (by decide)
theorem up2_2_6 (g : Nat → Nat → Int32) (i : Nat) (v : Int32) : up2 g 6 i v 2 = g 2 := up2_ne (by decide)
theorem up2_2_7 (g : Nat → Nat → Int32) (i : Nat) (v : Int32) : up2 g 7 i v 2 = g 2 := up2_ne (by decide)
theorem up2_2_8 (g : Nat → Nat → Int32) (i : Nat) (v : Int32) : up2 g 8 i v 2 = g 2 := up2_ne (by decide)
theorem up2_2_9 (g : Nat → Nat → Int32) (i : Nat) (v : Int32) : up2 g 9 i v 2 = g 2 := up2_ne (by decide)
theorem up2_2_10 (g : Nat → Nat → Int32) (i : Nat) (v : Int32) : up2 g 10 i v 2 = g 2 := up2_ne (by decide)
theorem up2_3_0 (g : Nat → Nat → Int32) (i : Nat) (v : Int32) : up2 g 0 i v 3 = g 3 := up2_ne (by decide)
theorem up2_3_1 (g : Nat → Nat → Int32) (i : Nat) (v : Int32) : up2 g 1 i v 3 = g 3 := up2_ne (by decide)
theorem up2_3_2 (g : Nat → Nat → Int32) (i : Nat) (v : Int32) : up2 g 2 i v 3 = g 3 := up2_ne (by decide)
theorem up2_3_4 (g : Nat → Nat → Int32) (i : Nat) (v : Int32) : up2 g 4 i v 3 = g 3 := up2_ne (by decide)
theorem up2_3_5 (g : Nat → Nat → Int32) (i : Nat) (v : Int32) : up2 g 5 i v 3 = g 3 := up2_ne (by decide)
theorem up2_3_6 (g : Nat → Nat → Int32) (i : Nat) (v : Int32) : up2 g 6 i v 3 = g 3 := up2_ne (by decide)
theorem up2_3_7 (g : Nat → Nat → Int32) (i : Nat) (v : Int32) : up2 g 7 i v 3 = g 3 := up2_ne (by decide)
theorem up2_3_8 (g : Nat → Nat → Int32) (i : Nat) (v : Int32) : up2 g 8 i v 3 = g 3 := up2_ne (by decide)
theorem up2_3_9 (g : Nat → Nat → Int32) (i : Nat) (v : Int32) : up2 g 9 i v 3 = g 3 := up2_ne (by decide)
theorem up2_3_10 (g : Nat → Nat → Int32) (i : Nat) (v : Int32) : up2 g 10 i v 3 = g 3 := up2_ne (by decide)
theorem up2_4_0 (g : Nat → Nat → Int32) (i : Nat) (v : Int32) : up2 g 0 i v 4 = g 4 := up2_ne (by decide)
theorem up2_4_1 (g : Nat → Nat → Int32) (i : Nat) (v : Int32) : up2 g 1 i v 4 = g 4 := up2_ne (by decide)
theorem up2_4_2 (g : Nat → Nat → Int32) (i : Nat) (v : Int32) : up2 g 2 i v 4 = g 4 := up2_ne (by decide)
theorem up2_4_3 (g : Nat → Nat → Int32) (i : Nat) (v : Int32) : up2 g 3 i v 4 = g 4 := up2_ne (by decide)
theorem up2_4_5 (g : Nat → Nat → Int32) (i : Nat) (v : Int32) : up2 g 5 i v 4 = g 4 := up2_ne (by decide)
theorem up2_4_6 (g : Nat → Nat → Int32) (i : Nat) (v : Int32) : up2 g 6 i v 4 = g 4 := up2_ne (by decide)
theorem up2_4_7 (g : Nat → Nat → Int32) (i : Nat) (v : Int32) : up2 g 7 i v 4 = g 4 := up2_ne (by decide)
theorem up2_4_8 (g : Nat → Nat → Int32) (i : Nat) (v : Int32) : up2 g 8 i v 4 = g 4 := up2_ne (by decide)
theorem up2_4_9 (g : Nat → Nat → Int32) (i : Nat) (v : Int32) : up2 g 9 i v 4 = g 4 := up2_ne (by decide)
theorem up2_4_10 (g : Nat → Nat → Int32) (i : Nat) (v : Int32) : up2 g 10 i v 4 = g 4 := up2_ne (by decide)
theorem up2_5_0 (g : Nat → Nat → Int32) (i : Nat) (v : Int32) : up2 g 0 i v 5 = g 5 := up2_ne (by decide)
theorem up2_5_1 (g : Nat → Nat → Int32) (i : Nat) (v : Int32) : up2 g 1 i v 5 = g 5 := up2_ne (by decide)
theorem up2_5_2 (g : Nat → Nat → Int32) (i : Nat) (v : Int32) : up2 g 2 i v 5 = g 5 := up2_ne (by decide)
theorem up2_5_3 (g : Nat → Nat → Int32) (i : Nat) (v : Int32) : up2 g 3 i v 5 = g 5 := up2_ne (by decide)
theorem up2_5_4 (g : Nat → Nat → Int32) (i : Nat) (v : Int32) : up2 g 4 i v 5 = g 5 := up2_ne (by decide)
theorem up2_5_6 (g : Nat → Nat → Int32) (i : Nat) (v : Int32) : up2 g 6 i v 5 = g 5 := up2_ne (by decide)
theorem up2_5_7 (g : Nat → Nat → Int32) (i : Nat) (v : Int32) : up2 g 7 i v 5 = g 5 := up2_ne (by decide)
theorem up2_5_8 (g : Nat → Nat → Int32) (i : Nat) (v : Int32) : up2 g 8 i v 5 = g 5 := up2_ne (by decide)
theorem up2_5_9 (g : Nat → Nat → Int32) (i : Nat) (v : Int32) : up2 g 9 i v 5 = g 5 := up2_ne (by decide)
theorem up2_5_10 (g : Nat → Nat → Int32) (i : Nat) (v : Int32) : up2 g 10 i v 5 = g 5 := up2_ne (by decide)
theorem up2_6_0 (g : Nat → Nat → Int32) (i : Nat) (v : Int32) : up2 g 0 i v 6 = g 6 := up2_ne (by decide)
theorem up2_6_1 (g : Nat → Nat → Int32) (i : Nat) (v : Int32) : up2 g 1 i v 6 = g 6 := up2_ne (by decide)
theorem up2_6_2 (g : Nat → Nat → Int32) (i : Nat) (v : Int32) : up2 g 2 i v 6 = g 6 := up2_ne (by decide)
theorem up2_6_3 (g : Nat → Nat → Int32) (i : Nat) (v : Int32) : up2 g 3 i v 6 = g 6 := up2_ne (by decide)
theorem up2_6_4 (g : Nat → Nat → Int32) (i : Nat) (v : Int32) : up2 g 4 i v 6 = g 6 := up2_ne (by decide)
theorem up2_6_5 (g : Nat → Nat → Int32) (i : Nat) (v : Int32) : up2 g 5 i v 6 = g 6 := up2_ne (by decide)
theorem up2_6_7 (g : Nat → Nat → Int32) (i : Nat) (v : Int32) : up2 g 7 i v 6 = g 6 := up2_ne (by decide)
theorem up2_6_8 (g : Nat → Nat → Int32) (i : Nat) (v : Int32) : up2 g 8 i v 6 = g 6 := up2_ne (by decide)
theorem up2_6_9 (g : Nat → Nat → Int32) (i : Nat) (v : Int32) : up2 g 9 i v 6 = g 6 := up2_ne (by decide)
theorem up2_6_10 (g : Nat → Nat → Int32) (i : Nat) (v : Int32) : up2 g 10 i v 6 = g 6 := up2_ne (by decide)
theorem up2_7_0 (g : Nat → Nat → Int32) (i : Nat) (v : Int32) : up2 g 0 i v 7 = g 7 := up2_ne (by decide)
theorem up2_7_1 (g : Nat → Nat → Int32) (i : Nat) (v : Int32) : up2 g 1 i v 7 = g 7 := up2_ne (by decide)
theorem up2_7_2 (g : Nat → Nat → Int32) (i : Nat) (v : Int32) : up2 g 2 i v 7 = g 7 := up2_ne (by decide)
theorem up2_7_3 (g : Nat → Nat → Int32) (i : Nat) (v : Int32) : up2 g 3 i v 7 = g 7 := up2_ne (by decide)
theorem up2_7_4 (g : Nat → Nat → Int32) (i : Nat) (v : Int32) : up2 g 4 i v 7 = g 7 := up2_ne (by decide)
theorem up2_7_5 (g : Nat → Nat → Int32) (i : Nat) (v : Int32) : up2 g 5 i v 7 = g 7 := up2_ne (by decide)
theorem up2_7_6 (g : Nat → Nat → Int32) (i : Nat) (v : Int32) : up2 g 6 i v 7 = g 7 := up2_ne (by decide)
theorem up2_7_8 (g : Nat → Nat → Int32) (i : Nat) (v : Int32) : up2 g 8 i v 7 = g 7 := up2_ne (by decide)
theorem up2_7_9 (g : Nat → Nat → Int32) (i : Nat) (v : Int32) : up2 g 9 i v 7 = g 7 := up2_ne (by decide)
theorem up2_7_10 (g : Nat → Nat → Int32) (i : Nat) (v : Int32) : up2 g 10 i v 7 = g 7 := up2_ne (by decide)
theorem up2_8_0 (g : Nat → Nat → Int32) (i : Nat) (v : Int32) : up2 g 0 i v 8 = g 8 := up2_ne (by decide)
theorem up2_8_1 (g : Nat → Nat → Int32) (i : Nat) (v : Int32) : up2 g 1 i v 8 = g 8 := up2_ne (by decide)
theorem up2_8_2 (g : Nat → Nat → Int32) (i : Nat) (v : Int32) : up2 g 2 i v 8 = g 8 := up2_ne (by decide)
theorem up2_8_3 (g : Nat → Nat → Int32) (i : Nat) (v : Int32) : up2 g 3 i v 8 = g 8 := up2_ne (by decide)
theorem up2_8_4 (g : Nat → Nat → Int32) (i : Nat) (v : Int32) : up2 g 4 i v 8 = g 8 := up2_ne (by decide)
theorem up2_8_5 (g : Nat → Nat → Int32) (i : Nat) (v : Int32) : up2 g 5 i v 8 = g 8 := up2_ne (by decide)
theorem up2_8_6 (g : Nat → Nat → Int32) (i : Nat) (v : Int32) : up2 g 6 i v 8 = g 8 := up2_ne (by decide)
theorem up2_8_7 (g : Nat → Nat → Int32) (i : Nat) (v : Int32) : up2 g 7 i v 8 = g 8 := up2_ne (by decide)
theorem up2_8_9 (g : Nat → Nat → Int32) (i : Nat) (v : Int32) : up2 g 9 i v 8 = g 8 := up2_ne (by decide)
theorem up2_8_10 (g : Nat → Nat → Int32) (i : Nat) (v : Int32) : up2 g 10 i v 8 = g 8 := up2_ne (by decide)
theorem up2_9_0 (g : Nat → Nat → Int32) (i : Nat) (v : Int32) : up2 g 0 i v 9 = g 9 := up2_ne (by decide)
theorem up2_9_1 (g : Nat → Nat → Int32) (i : Nat) (v : Int32) : up2 g 1 i v 9 = g 9 := up2_ne (by decide)
theorem up2_9_2 (g : Nat → Nat → Int32) (i : Nat) (v : Int32) : up2 g 2 i v 9 = g 9 := up2_ne (by decide)
theorem up2_9_3 (g : Nat → Nat → Int32) (i : Nat) (v : Int32) : up2 g 3 i v 9 = g 9 := up2_ne (by decide)
theorem up2_9_4 (g : Nat → Nat → Int32) (i : Nat) (v : Int32) : up2 g 4 i v 9 = g 9 := up2_ne (by decide)
theorem up2_9_5 (g : Nat → Nat → Int32) (i : Nat) (v : Int32) : up2 g 5 i v 9 = g 9 := up2_ne (by decide)
theorem up2_9_6 (g : Nat → Nat → Int32) (i : Nat) (v : Int32) : up2 g 6 i v 9 = g 9 := up2_ne (by decide)
theorem up2_9_7 (g : Nat → Nat → Int32) (i : Nat) (v : Int32) : up2 g 7 i v 9 = g 9 := up2_ne (by decide)
theorem up2_9_8 (g : Nat → Nat → Int32) (i : Nat) (v : Int32) : up2 g 8 i v 9 = g 9 := up2_ne (by decide)
theorem up2_9_10 (g : Nat → Nat → Int32) (i : Nat) (v : Int32) : up2 g 10 i v 9 = g 9 := up2_ne (by decide)
theorem up2_10_0 (g : Nat → Nat → Int32) (i : Nat) (v : Int32) : up2 g 0 i v 10 = g 10 := up2_ne (by decide)
theorem up2_10_1 (g : Nat → Nat → Int32) (i : Nat) (v : Int32) : up2 g 1 i v 10 = g 10 := up2_ne (by decide)
theorem up2_10_2 (g : Nat → Nat → Int32) (i : Nat) (v : Int32) : up2 g 2 i v 10 = g 10 := up2_ne (by decide)
theorem up2_10_3 (g : Nat → Nat → Int32) (i : Nat) (v : Int32) : up2 g 3 i v 10 = g 10 := up2_ne (by decide)
theorem up2_10_4 (g : Nat → Nat → Int32) (i : Nat) (v : Int32) : up2 g 4 i v 10 = g 10 := up2_ne (by decide)
theorem up2_10_5 (g : Nat → Nat → Int32) (i : Nat) (v : Int32) : up2 g 5 i v 10 = g 10 := up2_ne (by decide)
theorem up2_10_6 (g : Nat → Nat → Int32) (i : Nat) (v : Int32) : up2 g 6 i v 10 = g 10 := up2_ne (by decide)
theorem up2_10_7 (g : Nat → Nat → Int32) (i : Nat) (v : Int32) : up2 g 7 i v 10 = g 10 := up2_ne (by decide)
theorem up2_10_8 (g : Nat → Nat → Int32) (i : Nat) (v : Int32) : up2 g 8 i v 10 = g 10 := up2_ne (by decide)
theorem up2_10_9 (g : Nat → Nat → Int32) (i : Nat) (v : Int32) : up2 g 9 i v 10 = g 10 := up2_ne (by decide)
theorem pour_c (g : Nat → Nat → Int32) (x : Int32) {a : Nat} (h : a ≠ 4) : sX1_pourIntoBoot g x a = g a := by unfold sX1_pourIntoBoot; rw [up2_ne h, up2_ne h]
theorem fall_c (g : Nat → Nat → Int32) (x : Int32) {a : Nat} (h : a ≠ 4) : sX1_fallBack g x a = g a := by unfold sX1_fallBack; rw [pour_c _ _ h, up2_ne h]
theorem feed_c (g : Nat → Nat → Int32) (x : Int32) {a : Nat} (h : a ≠ 4) : sX1_feedIn g x a = g a := by unfold sX1_feedIn; rw [pour_c _ _ h, up2_ne h]
theorem fall_2 (g : Nat → Nat → Int32) (x : Int32) : sX1_fallBack g x 2 = g 2 := fall_c g x (by decide)
theorem fall_0 (g : Nat → Nat → Int32) (x : Int32) : sX1_fallBack g x 0 = g 0 := fall_c g x (by decide)
theorem feed_2 (g : Nat → Nat → Int32) (x : Int32) : sX1_feedIn g x 2 = g 2 := feed_c g x (by decide)
theorem fill_2 (g : Nat → Nat → Int32) (x y : Int32) : sX0_fillInBoot g x y 2 = g 2 := up2_ne (by decide)
theorem fill_0 (g : Nat → Nat → Int32) (x y : Int32) : sX0_fillInBoot g x y 0 = g 0 := up2_ne (by decide)
theorem empty_2 (g : Nat → Nat → Int32) : sX0_emptyAtHead g 2 = g 2 := up2_ne (by decide)
theorem empty_0 (g : Nat → Nat → Int32) : sX0_emptyAtHead g 0 = g 0 := up2_ne (by decide)
theorem moveOn_0 (g : Nat → Nat → Int32) : sX0_moveOn g 0 = g 0 := up2_ne (by decide)
theorem note_c (g : Nat → Nat → Int32) (x y z : Int32) {a : Nat} (h5 : a ≠ 5) (h6 : a ≠ 6) (h7 : a ≠ 7) (h8 : a ≠ 8) : sX5_note g x y z a = g a := by
  unfold sX5_note
  simp only [up2_ne h5, up2_ne h6, up2_ne h7, up2_ne h8]
theorem tripBy_2 (g : Nat → Nat → Int32) (x : Int32) : sX3_tripBy g x 2 = g 2 := by
  unfold sX3_tripBy
  rw [note_c _ _ _ _ (by decide) (by decide) (by decide) (by decide), up2_2_0, up2_2_0, up2_2_0]
end
section
def jX3_watch_74 (h : Nat → Nat → Int32) (i : Nat) : Nat → Nat → Int32 := if (h 0 6) = 0 then up2 h 9 i (if (rX3_seenBy h (nI i)) < (tToo i) then 0 else (h 9 i) + 1) else if (if (rX3_seenBy h (nI i)) < (tToo i) then 0 else (h 9 i) + 1) < (tWaits i) then up2 h 9 i (if (rX3_seenBy h (nI i)) < (tToo i) then 0 else (h 9 i) + 1) else sX3_tripBy (up2 (up2 h 9 i (if (rX3_seenBy h (nI i)) < (tToo i) then 0 else (h 9 i) + 1)) 10 i ((h 10 i) + 1)) (nI i)
theorem watch_2 (h : Nat → Nat → Int32) (i : Nat) : (jX3_watch_74 h i) 2 = h 2 := by
  unfold jX3_watch_74
  (repeat' split) <;> simp only [tripBy_2, up2_2_0, up2_2_9, up2_2_10]
theorem LegOK.watch {h : Nat → Nat → Int32} (hOK : LegOK h) (i : Nat) : LegOK (jX3_watch_74 h i) := by
  unfold LegOK
  rw [watch_2]
  exact hOK
theorem LegOK.iterWatch {g : Nat → Nat → Int32} (hOK : LegOK g) (n : Nat) : LegOK (iterN (fun i h => jX3_watch_74 h i) n g) := by
  induction n with
  | zero => exact hOK
  | succ n ih => exact ih.watch n

def sX3_watch (g : Nat → Nat → Int32) : Nat → Nat → Int32 := iterN (fun i h => jX3_watch_74 h i) 3 g
set_option maxHeartbeats 4000000 in
set_option maxRecDepth 100000 in
/-- X3.watch -/
theorem c_X3_watch (l : Launch) (G : Gp) (a : Nat → Nat) (g : Nat → Nat → Int32) (Y : va_W) (hOK : LegOK g) : Cn l G yX3_watch cX3_watch 2 none 3 [.ref (a 0)] (LegW G a g ++ Y) none (LegW G a (sX3_watch g) ++ Y) := by
  refine CnE.of (by decide) (Nat.le_of_ble_eq_true rfl) ?_
  intro p e s m below meth c ls M hnm hl hW
  have hx := M.1
  have hb := M.2.1
  have hl : lv_has ls 2 [(0, .ref (a 0))] := hl
  refine lv_iconst (v := 0) hx hb dX3_watch_0 (by decide) ?_
  refine lv_istore_n (lv' := [(1, .int 0), (0, .ref (a 0))]) hx hb dX3_watch_1 rfl hl (by decide) rfl (fun ls hl => ?_)
  refine r_loop (σ := Array Slot × Nat) (fun r uL H1 l1 => uL.2 + r = 3 ∧ lv_has uL.1 2 [(1, .int (nI uL.2)), (0, .ref (a 0))] ∧ Wd G s (LegW G a (iterN (fun i h => jX3_watch_74 h i) uL.2 g) ++ Y) H1 l1) (fun uL => F0 m 2 uL.1 []) ?_ ?_ (3) (ls, 0) _ _ ⟨Nat.zero_add _, lv_sub hl [0, 1] rfl, hW⟩
  · skip
    intro uL H locs hI
    obtain ⟨ls, i⟩ := uL
    obtain ⟨hu, hl, hW⟩ := hI
    dsimp only at hu hl hW ⊢
    have hu : i = 3 := hu
    subst hu
    refine lv_iload_n hx hb dX3_watch_2 rfl (lv_at hl 0 rfl) ?_
    refine lv_iconst (v := 3) hx hb dX3_watch_3 (by decide) ?_
    refine lv_icmp_ge (tgt := 80) hx hb dX3_watch_4 (by decide) (fun c_4 => ?_) (fun c_4 => ?_)
    · skip
      exact r_retv M hW (by rw [sX3_watch]) ⟨rfl, rfl⟩ (Nat.zero_le _) (Nat.zero_le _) dX3_watch_80
    · skip
      exact absurd (nI_le (Nat.le_refl 3) (by decide)) c_4
  · skip
    intro n ih uL H locs hI
    obtain ⟨ls, i⟩ := uL
    obtain ⟨hu, hl, hW⟩ := hI
    dsimp only at hu hl hW ⊢
    have hlt : i < 3 := by omega
    refine lv_iload_n hx hb dX3_watch_2 rfl (lv_at hl 0 rfl) ?_
    refine lv_iconst (v := 3) hx hb dX3_watch_3 (by decide) ?_
    refine lv_icmp_ge (tgt := 80) hx hb dX3_watch_4 (by decide) (fun c_4_2 => ?_) (fun c_4_2 => ?_)
    · skip
      exact absurd c_4_2 (nI_ge hlt (by decide))
    · skip
      refine r_cut (σ := Unit) (fun _ H1 l1 => Wd G s (LegW G a (jX3_watch_74 (iterN (fun i h => jX3_watch_74 h i) i g) i) ++ Y) H1 l1) (fun _ => F0 m 74 ls []) (fun _ H locs hW => ?_) (fun hJ_74 => ?_)
      · skip
        refine lv_iinc (v := nI (i + 1)) (lv' := [(1, .int (nI (i + 1))), (0, .ref (a 0))]) hx hb dX3_watch_74 hl (k := 0) rfl (nI_1 i) (by decide) rfl (fun ls hl => ?_)
        refine lv_goto (tgt := 2) hx hb dX3_watch_77 (by decide) ?_
        exact ih (ls, i + 1) _ _ ⟨by dsimp only; omega, lv_sub hl [0, 1] rfl, (by dsimp only; rw [iterN_succ]; exact hW)⟩
      · skip
        refine lv_aload_n hx hb dX3_watch_7 rfl (lv_at hl 1 rfl) ?_
        refine gt_Leg_0_4 M hW kw_69 dX3_watch_8 ?_
        refine lv_iload_n hx hb dX3_watch_11 rfl (lv_at hl 0 rfl) ?_
        refine lv_aload_n hx hb dX3_watch_12 rfl (lv_at hl 1 rfl) ?_
        refine lv_iload_n hx hb dX3_watch_13 rfl (lv_at hl 0 rfl) ?_
        refine r_callVi M hW (c_X3_seenBy l G a (iterN (fun i h => jX3_watch_74 h i) i g) (nI i) (Y)) rfl kw_169 kw_170 kw_171 kw_80 kw_162 pl_X3_seenBy 0 rfl rfl ⟨by decide, by decide⟩ ⟨Nat.zero_le _, Nat.zero_le _⟩ hl.1 rfl (Nat.le_of_ble_eq_true rfl) dX3_watch_14 (fun H locs hW => ?_)
        refine r_getsN M hW M.2.2.2.2.2.2.2.2.1.2.2.2.1 kn_X3_170 dX3_watch_17 ?_
        refine lv_iload_n hx hb dX3_watch_20 rfl (lv_at hl 0 rfl) ?_
        refine r_tald M hW M.2.2.2.2.2.2.2.2.1.2.2.2.1 i rfl (by omega) (by decide) (x := tToo i) rfl dX3_watch_21 ?_
        refine r_cuti (pc2 := 37) (ls2 := ls) (st := [.int (nI i), .ref (a 9)]) (if (rX3_seenBy (iterN (fun i h => jX3_watch_74 h i) i g) (nI i)) < (tToo i) then 0 else ((iterN (fun i h => jX3_watch_74 h i) i g) 9 i) + 1) (fun x_37 hx_37 => ?_) (fun hJ_37 => ?_)
        · skip
          subst hx_37
          refine as_Leg_9 M hW i rfl (by omega) dX3_watch_37 (fun H locs hW => ?_)
          refine lv_aload_n hx hb dX3_watch_38 rfl (lv_at hl 1 rfl) ?_
          refine gt_Leg_0_6 M hW kw_93 (x := (iterN (fun i h => jX3_watch_74 h i) i g) 0 6) (up2_d (by decide)) dX3_watch_39 ?_
          refine lv_if_eq (tgt := 74) hx hb dX3_watch_42 (by decide) (fun c_42 => ?_) (fun c_42 => ?_)
          · skip
            exact hJ_74 () _ _ (by rw [jX3_watch_74, if_pos c_42]; exact hW)
          · skip
            refine lv_aload_n hx hb dX3_watch_45 rfl (lv_at hl 1 rfl) ?_
            refine gt_Leg_0_4 M hW kw_69 dX3_watch_46 ?_
            refine lv_iload_n hx hb dX3_watch_49 rfl (lv_at hl 0 rfl) ?_
            refine al_Leg_9 M hW i rfl (by omega) (x := if (rX3_seenBy (iterN (fun i h => jX3_watch_74 h i) i g) (nI i)) < (tToo i) then 0 else ((iterN (fun i h => jX3_watch_74 h i) i g) 9 i) + 1) up2_s dX3_watch_50 ?_
            refine r_getsN M hW M.2.2.2.2.2.2.2.2.1.2.2.2.2 kn_X3_173 dX3_watch_51 ?_
            refine lv_iload_n hx hb dX3_watch_54 rfl (lv_at hl 0 rfl) ?_
            refine r_tald M hW M.2.2.2.2.2.2.2.2.1.2.2.2.2 i rfl (by omega) (by decide) (x := tWaits i) rfl dX3_watch_55 ?_
            refine lv_icmp_lt (tgt := 74) hx hb dX3_watch_56 (by decide) (fun c_56 => ?_) (fun c_56 => ?_)
            · skip
              exact hJ_74 () _ _ (by rw [jX3_watch_74, if_neg c_42, if_pos c_56]; exact hW)
            · skip
              refine lv_aload_n hx hb dX3_watch_59 rfl (lv_at hl 1 rfl) ?_
              refine gt_Leg_0_5 M hW kw_70 dX3_watch_60 ?_
              refine lv_iload_n hx hb dX3_watch_63 rfl (lv_at hl 0 rfl) ?_
              refine lv_dup2_11 hx hb dX3_watch_64 rfl rfl ?_
              refine al_Leg_10 M hW i rfl (by omega) (x := (iterN (fun i h => jX3_watch_74 h i) i g) 10 i) (up2_d (by decide)) dX3_watch_65 ?_
              refine lv_iconst (v := 1) hx hb dX3_watch_66 (by decide) ?_
              refine lv_iadd hx hb dX3_watch_67 ?_
              refine as_Leg_10 M hW i rfl (by omega) dX3_watch_68 (fun H locs hW => ?_)
              refine lv_aload_n hx hb dX3_watch_69 rfl (lv_at hl 1 rfl) ?_
              refine lv_iload_n hx hb dX3_watch_70 rfl (lv_at hl 0 rfl) ?_
              refine r_callVv M hW (c_X3_tripBy l G a (up2 (up2 (iterN (fun i h => jX3_watch_74 h i) i g) 9 i (if (rX3_seenBy (iterN (fun i h => jX3_watch_74 h i) i g) (nI i)) < (tToo i) then 0 else ((iterN (fun i h => jX3_watch_74 h i) i g) 9 i) + 1)) 10 i (((iterN (fun i h => jX3_watch_74 h i) i g) 10 i) + 1)) (nI i) (Y) (LegOK.iterWatch hOK i)) rfl kw_172 kw_173 kw_174 kw_80 kw_168 pl_X3_tripBy 0 rfl rfl ⟨by decide, by decide⟩ ⟨Nat.zero_le _, Nat.zero_le _⟩ hl.1 rfl (Nat.le_of_ble_eq_true rfl) dX3_watch_71 (fun H locs hW => ?_)
              exact hJ_74 () _ _ (by rw [jX3_watch_74, if_neg c_42, if_neg c_56]; exact hW)
        · skip
          refine lv_icmp_lt (tgt := 36) hx hb dX3_watch_22 (by decide) (fun c_22 => ?_) (fun c_22 => ?_)
          · skip
            refine lv_iconst (v := 0) hx hb dX3_watch_36 (by decide) ?_
            exact hJ_37 _ (by rw [if_pos c_22])
          · skip
            refine lv_aload_n hx hb dX3_watch_25 rfl (lv_at hl 1 rfl) ?_
            refine gt_Leg_0_4 M hW kw_69 dX3_watch_26 ?_
            refine lv_iload_n hx hb dX3_watch_29 rfl (lv_at hl 0 rfl) ?_
            refine al_Leg_9 M hW i rfl (by omega) (x := (iterN (fun i h => jX3_watch_74 h i) i g) 9 i) rfl dX3_watch_30 ?_
            refine lv_iconst (v := 1) hx hb dX3_watch_31 (by decide) ?_
            refine lv_iadd hx hb dX3_watch_32 ?_
            refine lv_goto (tgt := 37) hx hb dX3_watch_33 (by decide) ?_
            exact hJ_37 _ (by rw [if_neg c_22])

theorem moved_2 (g : Nat → Nat → Int32) : (sX3_moveOneCell g) 2 = (sX0_moveOn g) 2 := by
  unfold sX3_moveOneCell
  rw [up2_2_4, fill_2]
  unfold moveB moveA
  rw [fall_2, up2_2_4, empty_2]
theorem moved_0 (g : Nat → Nat → Int32) : (sX3_moveOneCell g) 0 = g 0 := by
  unfold sX3_moveOneCell
  rw [up2_0_4, fill_0]
  unfold moveB moveA
  rw [fall_0, up2_0_4, empty_0, moveOn_0]
theorem LegOK.moved (g : Nat → Nat → Int32) : LegOK (sX3_moveOneCell g) := by
  unfold LegOK
  rw [moved_2]
  exact ⟨_, Nat.mod_lt (jB g + 11) (show 0 < 12 by decide), rfl⟩
theorem LegOK.iterMove {g : Nat → Nat → Int32} (hOK : LegOK g) (n : Nat) : LegOK (iterN (fun _ => sX3_moveOneCell) n g) := by
  cases n with
  | zero => exact hOK
  | succ n => exact LegOK.moved _
theorem iter_at {F : Nat → (Nat → Nat → Int32) → (Nat → Nat → Int32)} (a : Nat) (hF : ∀ (k : Nat) (h : Nat → Nat → Int32), F k h a = h a) (n : Nat) (g : Nat → Nat → Int32) : iterN F n g a = g a := by
  induction n with
  | zero => rfl
  | succ n ih => exact (hF n _).trans ih
theorem iter_at2 {F : Nat → (Nat → Nat → Int32) → (Nat → Nat → Int32)} (a j : Nat) (hF : ∀ (k : Nat) (h : Nat → Nat → Int32), F k h a j = h a j) (n : Nat) (g : Nat → Nat → Int32) : iterN F n g a j = g a j := by
  induction n with
  | zero => rfl
  | succ n ih => exact (hF n _).trans ih
theorem iter_0 (g : Nat → Nat → Int32) (n : Nat) : (iterN (fun _ => sX3_moveOneCell) n g) 0 = g 0 := iter_at 0 (fun _ h => moved_0 h) n g
theorem iter_cells (g : Nat → Nat → Int32) (n : Nat) : (iterN (fun _ => sX3_moveOneCell) n g) 0 9 = g 0 9 := by rw [iter_0]
def slipNow (h : Nat → Nat → Int32) : Int32 := if h 0 6 = 0 then 0 else rX3_slipOf h (rX3_load h)
def cellsNow (h : Nat → Nat → Int32) : Int32 := if h 0 6 = 0 then 0 else h 1 0 * (100 - slipNow h) / 100

def jX3_tick_30 (h : Nat → Nat → Int32) : Nat → Nat → Int32 := if (h 0 7) = 0 then h else sX1_feedIn h (h 1 2)
theorem LegOK.tick30 {h : Nat → Nat → Int32} (hOK : LegOK h) : LegOK (jX3_tick_30 h) := by
  have e : (jX3_tick_30 h) 2 = h 2 := by
    unfold jX3_tick_30
    split
    · rfl
    · exact feed_2 _ _
  unfold LegOK
  rw [e]
  exact hOK
def tickA (g : Nat → Nat → Int32) : Nat → Nat → Int32 := up2 (up2 (jX3_tick_30 (up2 g 0 12 ((g 0 12) + 1))) 0 8 (slipNow (jX3_tick_30 (up2 g 0 12 ((g 0 12) + 1))))) 0 9 (cellsNow (jX3_tick_30 (up2 g 0 12 ((g 0 12) + 1))))

def sX3_tick (g : Nat → Nat → Int32) : Nat → Nat → Int32 := sX3_watch (sX3_rub (iterN (fun _ => sX3_moveOneCell) ((tickA g 0 9).toNatClampNeg) (tickA g)))
set_option maxHeartbeats 4000000 in
set_option maxRecDepth 100000 in
/-- X3.tick -/
theorem c_X3_tick (l : Launch) (G : Gp) (a : Nat → Nat) (g : Nat → Nat → Int32) (Y : va_W) (hOK : LegOK g) : Cn l G yX3_tick cX3_tick 2 none 4 [.ref (a 0)] (LegW G a g ++ Y) none (LegW G a (sX3_tick g) ++ Y) := by
  refine CnE.of (by decide) (Nat.le_of_ble_eq_true rfl) ?_
  intro p e s m below meth c ls M hnm hl hW
  have hx := M.1
  have hb := M.2.1
  have hl : lv_has ls 2 [(0, .ref (a 0))] := hl
  refine lv_aload_n hx hb dX3_tick_0 rfl (lv_at hl 0 rfl) ?_
  refine lv_dup hx hb dX3_tick_1 rfl ?_
  refine gt_Leg_0_12 M hW kw_98 (x := g 0 12) rfl dX3_tick_2 ?_
  refine lv_iconst (v := 1) hx hb dX3_tick_5 (by decide) ?_
  refine lv_iadd hx hb dX3_tick_6 ?_
  refine pt_Leg_0_12 M hW kw_98 dX3_tick_7 (fun H locs hW => ?_)
  refine r_cut (σ := Unit) (fun _ H1 l1 => Wd G s (LegW G a (jX3_tick_30 (up2 g 0 12 ((g 0 12) + 1))) ++ Y) H1 l1) (fun _ => F0 m 30 ls []) (fun _ H locs hW => ?_) (fun hJ_30 => ?_)
  · skip
    refine lv_aload_n hx hb dX3_tick_30 rfl (lv_at hl 0 rfl) ?_
    refine lv_aload_n hx hb dX3_tick_31 rfl (lv_at hl 0 rfl) ?_
    refine gt_Leg_0_6 M hW kw_93 (x := (jX3_tick_30 (up2 g 0 12 ((g 0 12) + 1))) 0 6) rfl dX3_tick_32 ?_
    refine r_cut (σ := Int32) (fun x H1 l1 => x = (slipNow (jX3_tick_30 (up2 g 0 12 ((g 0 12) + 1)))) ∧ Wd G s (LegW G a (jX3_tick_30 (up2 g 0 12 ((g 0 12) + 1))) ++ Y) H1 l1) (fun x => F0 m 50 ls [.int x, .ref (a 0)]) (fun x_50 H locs hI => ?_) (fun hJ_50 => ?_)
    · skip
      obtain ⟨hx_50, hW⟩ := hI
      subst hx_50
      refine pt_Leg_0_8 M hW kw_95 dX3_tick_50 (fun H locs hW => ?_)
      refine lv_aload_n hx hb dX3_tick_53 rfl (lv_at hl 0 rfl) ?_
      refine lv_aload_n hx hb dX3_tick_54 rfl (lv_at hl 0 rfl) ?_
      refine gt_Leg_0_6 M hW kw_93 (x := (jX3_tick_30 (up2 g 0 12 ((g 0 12) + 1))) 0 6) (up2_k (by decide)) dX3_tick_55 ?_
      refine r_cuti (pc2 := 82) (ls2 := ls) (st := [.ref (a 0)]) (cellsNow (jX3_tick_30 (up2 g 0 12 ((g 0 12) + 1)))) (fun x_82 hx_82 => ?_) (fun hJ_82 => ?_)
      · skip
        subst hx_82
        refine pt_Leg_0_9 M hW kw_96 dX3_tick_82 (fun H locs hW => ?_)
        refine lv_iconst (v := 0) hx hb dX3_tick_85 (by decide) ?_
        refine lv_istore_n (lv' := [(1, .int 0), (0, .ref (a 0))]) hx hb dX3_tick_86 rfl hl (by decide) rfl (fun ls hl => ?_)
        have hW : Wd G s (LegW G a (tickA g) ++ Y) H locs := hW
        have hOK1 : LegOK (tickA g) := LegOK.tick30 hOK
        refine r_loop (σ := Array Slot × Nat) (fun r uL H1 l1 => uL.2 + r = (tickA g 0 9).toNatClampNeg ∧ lv_has uL.1 2 [(1, .int (nI uL.2)), (0, .ref (a 0))] ∧ Wd G s (LegW G a (iterN (fun _ => sX3_moveOneCell) uL.2 (tickA g)) ++ Y) H1 l1) (fun uL => F0 m 87 uL.1 []) ?_ ?_ ((tickA g 0 9).toNatClampNeg) (ls, 0) _ _ ⟨Nat.zero_add _, lv_sub hl [0, 1] rfl, hW⟩
        · skip
          intro uL H locs hI
          obtain ⟨ls, i⟩ := uL
          obtain ⟨hu, hl, hW⟩ := hI
          dsimp only at hu hl hW ⊢
          have hu : i = (tickA g 0 9).toNatClampNeg := hu
          subst hu
          refine lv_iload_n hx hb dX3_tick_87 rfl (lv_at hl 0 rfl) ?_
          refine lv_aload_n hx hb dX3_tick_88 rfl (lv_at hl 1 rfl) ?_
          refine gt_Leg_0_9 M hW kw_96 (x := tickA g 0 9) (iter_cells _ _) dX3_tick_89 ?_
          refine lv_icmp_ge (tgt := 105) hx hb dX3_tick_92 (by decide) (fun c_92 => ?_) (fun c_92 => ?_)
          · skip
            refine lv_aload_n hx hb dX3_tick_105 rfl (lv_at hl 1 rfl) ?_
            refine r_callVv M hW (c_X3_rub l G a (iterN (fun _ => sX3_moveOneCell) ((tickA g 0 9).toNatClampNeg) (tickA g))  (Y)) rfl kw_185 kw_186 kw_187 kw_80 kw_158 pl_X3_rub 0 rfl rfl ⟨by decide, by decide⟩ ⟨Nat.zero_le _, Nat.zero_le _⟩ hl.1 rfl (Nat.le_of_ble_eq_true rfl) dX3_tick_106 (fun H locs hW => ?_)
            have hOK2 : LegOK (sX3_rub (iterN (fun _ => sX3_moveOneCell) ((tickA g 0 9).toNatClampNeg) (tickA g))) := hOK1.iterMove _
            refine lv_aload_n hx hb dX3_tick_109 rfl (lv_at hl 1 rfl) ?_
            refine r_callVv M hW (c_X3_watch l G a (sX3_rub (iterN (fun _ => sX3_moveOneCell) ((tickA g 0 9).toNatClampNeg) (tickA g)))  (Y) hOK2) rfl kw_188 kw_189 kw_190 kw_80 kw_175 pl_X3_watch 0 rfl rfl ⟨by decide, by decide⟩ ⟨Nat.zero_le _, Nat.zero_le _⟩ hl.1 rfl (Nat.le_of_ble_eq_true rfl) dX3_tick_110 (fun H locs hW => ?_)
            exact r_retv M hW (by rw [sX3_tick]) ⟨rfl, rfl⟩ (Nat.zero_le _) (Nat.zero_le _) dX3_tick_113
          · skip
            exact absurd (le_clamp _) c_92
        · skip
          intro n ih uL H locs hI
          obtain ⟨ls, i⟩ := uL
          obtain ⟨hu, hl, hW⟩ := hI
          dsimp only at hu hl hW ⊢
          have hlt : i < (tickA g 0 9).toNatClampNeg := by omega
          refine lv_iload_n hx hb dX3_tick_87 rfl (lv_at hl 0 rfl) ?_
          refine lv_aload_n hx hb dX3_tick_88 rfl (lv_at hl 1 rfl) ?_
          refine gt_Leg_0_9 M hW kw_96 (x := tickA g 0 9) (iter_cells _ _) dX3_tick_89 ?_
          refine lv_icmp_ge (tgt := 105) hx hb dX3_tick_92 (by decide) (fun c_92_2 => ?_) (fun c_92_2 => ?_)
          · skip
            exact absurd c_92_2 (lt_clamp hlt)
          · skip
            refine lv_aload_n hx hb dX3_tick_95 rfl (lv_at hl 1 rfl) ?_
            refine r_callVv M hW (c_X3_moveOneCell l G a (iterN (fun _ => sX3_moveOneCell) i (tickA g))  (Y) (hOK1.iterMove _)) rfl kw_182 kw_183 kw_184 kw_80 kw_157 pl_X3_moveOneCell 0 rfl rfl ⟨by decide, by decide⟩ ⟨Nat.zero_le _, Nat.zero_le _⟩ hl.1 rfl (Nat.le_of_ble_eq_true rfl) dX3_tick_96 (fun H locs hW => ?_)
            refine lv_iinc (v := nI (i + 1)) (lv' := [(1, .int (nI (i + 1))), (0, .ref (a 0))]) hx hb dX3_tick_99 hl (k := 0) rfl (nI_1 i) (by decide) rfl (fun ls hl => ?_)
            refine lv_goto (tgt := 87) hx hb dX3_tick_102 (by decide) ?_
            exact ih (ls, i + 1) _ _ ⟨by dsimp only; omega, lv_sub hl [0, 1] rfl, (by dsimp only; rw [iterN_succ]; exact hW)⟩
      · skip
        refine lv_if_eq (tgt := 81) hx hb dX3_tick_58 (by decide) (fun c_58 => ?_) (fun c_58 => ?_)
        · skip
          refine lv_iconst (v := 0) hx hb dX3_tick_81 (by decide) ?_
          exact hJ_82 _ (by rw [cellsNow, if_pos c_58])
        · skip
          refine lv_aload_n hx hb dX3_tick_61 rfl (lv_at hl 0 rfl) ?_
          refine gt_Leg_0_0 M hW kw_57 dX3_tick_62 ?_
          refine lv_iconst (v := 0) hx hb dX3_tick_65 (by decide) ?_
          refine al_Leg_1 M hW 0 rfl (by decide) (x := (jX3_tick_30 (up2 g 0 12 ((g 0 12) + 1))) 1 0) (up2_d (by decide)) dX3_tick_66 ?_
          refine lv_bipush (v := 100) hx hb dX3_tick_67 (by decide) ?_
          refine lv_aload_n hx hb dX3_tick_69 rfl (lv_at hl 0 rfl) ?_
          refine gt_Leg_0_8 M hW kw_95 (x := slipNow (jX3_tick_30 (up2 g 0 12 ((g 0 12) + 1)))) up2_s dX3_tick_70 ?_
          refine lv_isub hx hb dX3_tick_73 ?_
          refine lv_imul hx hb dX3_tick_74 ?_
          refine lv_bipush (v := 100) hx hb dX3_tick_75 (by decide) ?_
          refine lv_idiv hx hb dX3_tick_77 (by decide) ?_
          refine lv_goto (tgt := 82) hx hb dX3_tick_78 (by decide) ?_
          exact hJ_82 _ (by rw [cellsNow, if_neg c_58])
    · skip
      refine lv_if_eq (tgt := 49) hx hb dX3_tick_35 (by decide) (fun c_35 => ?_) (fun c_35 => ?_)
      · skip
        refine lv_iconst (v := 0) hx hb dX3_tick_49 (by decide) ?_
        exact hJ_50 _ _ _ ⟨(by rw [slipNow, if_pos c_35]), hW⟩
      · skip
        refine lv_aload_n hx hb dX3_tick_38 rfl (lv_at hl 0 rfl) ?_
        refine lv_aload_n hx hb dX3_tick_39 rfl (lv_at hl 0 rfl) ?_
        refine r_callVi M hW (c_X3_load l G a (jX3_tick_30 (up2 g 0 12 ((g 0 12) + 1)))  (Y) (LegOK.tick30 hOK)) rfl kw_128 kw_129 kw_130 kw_80 kw_122 pl_X3_load 0 rfl rfl ⟨by decide, by decide⟩ ⟨Nat.zero_le _, Nat.zero_le _⟩ hl.1 rfl (Nat.le_of_ble_eq_true rfl) dX3_tick_40 (fun H locs hW => ?_)
        refine r_callVi M hW (c_X3_slipOf l G a (jX3_tick_30 (up2 g 0 12 ((g 0 12) + 1))) (rX3_load (jX3_tick_30 (up2 g 0 12 ((g 0 12) + 1)))) (Y)) rfl kw_179 kw_180 kw_181 kw_80 kw_142 pl_X3_slipOf 0 rfl rfl ⟨by decide, by decide⟩ ⟨Nat.zero_le _, Nat.zero_le _⟩ hl.1 rfl (Nat.le_of_ble_eq_true rfl) dX3_tick_43 (fun H locs hW => ?_)
        refine lv_goto (tgt := 50) hx hb dX3_tick_46 (by decide) ?_
        exact hJ_50 _ _ _ ⟨(by rw [slipNow, if_neg c_35]), hW⟩
  · skip
    refine lv_aload_n hx hb dX3_tick_10 rfl (lv_at hl 0 rfl) ?_
    refine gt_Leg_0_7 M hW kw_94 (x := (up2 g 0 12 ((g 0 12) + 1)) 0 7) rfl dX3_tick_11 ?_
    refine lv_if_eq (tgt := 30) hx hb dX3_tick_14 (by decide) (fun c_14 => ?_) (fun c_14 => ?_)
    · skip
      exact hJ_30 () _ _ (by rw [jX3_tick_30, if_pos c_14]; exact hW)
    · skip
      refine lv_aload_n hx hb dX3_tick_17 rfl (lv_at hl 0 rfl) ?_
      refine gt_Leg_0_2 M hW kw_64 dX3_tick_18 ?_
      refine lv_aload_n hx hb dX3_tick_21 rfl (lv_at hl 0 rfl) ?_
      refine gt_Leg_0_0 M hW kw_57 dX3_tick_22 ?_
      refine lv_iconst (v := 2) hx hb dX3_tick_25 (by decide) ?_
      refine al_Leg_1 M hW 2 rfl (by decide) (x := (up2 g 0 12 ((g 0 12) + 1)) 1 2) rfl dX3_tick_26 ?_
      refine r_callVv M hW (c_X1_feedIn l G a (up2 g 0 12 ((g 0 12) + 1)) ((up2 g 0 12 ((g 0 12) + 1)) 1 2) (Y)) rfl kw_176 kw_177 kw_178 kw_43 kw_39 pl_X1_feedIn 4 rfl rfl ⟨by decide, by decide⟩ ⟨Nat.zero_le _, Nat.zero_le _⟩ hl.1 rfl (Nat.le_of_ble_eq_true rfl) dX3_tick_27 (fun H locs hW => ?_)
      exact hJ_30 () _ _ (by rw [jX3_tick_30, if_neg c_14]; exact hW)
end
section
theorem LegOK.rub {g : Nat → Nat → Int32} (h : LegOK g) : LegOK (sX3_rub g) := h
theorem LegOK.tick {g : Nat → Nat → Int32} (hOK : LegOK g) : LegOK (sX3_tick g) := by
  unfold sX3_tick sX3_watch
  refine LegOK.iterWatch (LegOK.rub (LegOK.iterMove ?_ _)) 3
  show LegOK (jX3_tick_30 (up2 g 0 12 ((g 0 12) + 1)))
  exact LegOK.tick30 hOK
theorem LegOK.iterTick {g : Nat → Nat → Int32} (hOK : LegOK g) (n : Nat) : LegOK (iterN (fun _ => sX3_tick) n g) := by
  induction n with
  | zero => exact hOK
  | succ n ih =>
    rw [iterN_succ]
    exact ih.tick
theorem nat_toInt {x : Int32} {n : Nat} (hx : x = nI x.toNatClampNeg ∧ x.toNatClampNeg ≤ n) (hn : n < 1000000) : x.toInt = (x.toNatClampNeg : Int) := by
  obtain ⟨e, h⟩ := hx
  generalize x.toNatClampNeg = k at e h
  rw [e]
  exact nI_toInt (by omega)
theorem tu_gt {x : Int32} {n i : Nat} (hx : x = nI x.toNatClampNeg ∧ x.toNatClampNeg ≤ n) (hn : n < 1000000) (h : i = x.toNatClampNeg + 1) : x < nI i := by
  have e := nat_toInt hx hn
  have h2 := hx.2
  rw [Int32.lt_iff_toInt_lt, nI_toInt (by omega), e]
  omega
theorem tu_le {x : Int32} {n i : Nat} (hx : x = nI x.toNatClampNeg ∧ x.toNatClampNeg ≤ n) (hn : n < 1000000) (h : i ≤ x.toNatClampNeg) : ¬ x < nI i := by
  have e := nat_toInt hx hn
  have h2 := hx.2
  rw [Int32.lt_iff_toInt_lt, nI_toInt (by omega), e]
  omega
/-- the legs behind so many ticks, or the trip; and in how many it trips -/
def tuG : Nat → (Nat → Nat → Int32) → (Nat → Nat → Int32)
  | 0, h => h
  | n + 1, h => if (sX3_tick h) 0 6 = 0 then sX3_tick h else tuG n (sX3_tick h)
def tuR : Nat → Nat → (Nat → Nat → Int32) → Int32
  | 0, _, _ => -105
  | n + 1, i, h => if (sX3_tick h) 0 6 = 0 then nI i else tuR n (i + 1) (sX3_tick h)

def rX3_passTicks (g : Nat → Nat → Int32) (x : Int32) : Int32 := if (rX6_isWithin x 1 200) = 0 then (-102) else if ((g 0 12) + x) ≤ 99999 then ((iterN (fun _ => sX3_tick) x.toNatClampNeg g) 4 1) - (g 4 1) else (-103)
def sX3_passTicks (g : Nat → Nat → Int32) (x : Int32) : Nat → Nat → Int32 := if (rX6_isWithin x 1 200) = 0 then g else if ((g 0 12) + x) ≤ 99999 then iterN (fun _ => sX3_tick) x.toNatClampNeg g else g
set_option maxHeartbeats 4000000 in
set_option maxRecDepth 100000 in
/-- X3.passTicks -/
theorem c_X3_passTicks (l : Launch) (G : Gp) (a : Nat → Nat) (g : Nat → Nat → Int32) (x : Int32) (Y : va_W) (hOK : LegOK g) : Cn l G yX3_passTicks cX3_passTicks 4 (some .int) 5 [.ref (a 0), .int x] (LegW G a g ++ Y) (some (.int (rX3_passTicks g x))) (LegW G a (sX3_passTicks g x) ++ Y) := by
  refine CnE.of (by decide) (Nat.le_of_ble_eq_true rfl) ?_
  intro p e s m below meth c ls M hnm hl hW
  have hx := M.1
  have hb := M.2.1
  have hl : lv_has ls 4 [(0, .ref (a 0)), (1, .int x)] := hl
  refine lv_iload_n hx hb dX3_passTicks_0 rfl (lv_at hl 1 rfl) ?_
  refine lv_iconst (v := 1) hx hb dX3_passTicks_1 (by decide) ?_
  refine lv_sipush (v := 200) hx hb dX3_passTicks_2 (by decide) ?_
  refine r_callSNi M hW (as := [.int x, .int 1, .int 200]) (c_X6_isWithin l G x 1 200 (LegW G a g ++ Y)) rfl kn_X3_89 kw_14 kw_15 kw_12 pl_X6_isWithin ⟨by decide, by decide⟩ ⟨Nat.zero_le _, Nat.zero_le _⟩ hl.1 rfl (Nat.le_of_ble_eq_true rfl) dX3_passTicks_5 (fun H locs hW => ?_)
  refine lv_if_ne (tgt := 14) hx hb dX3_passTicks_8 (by decide) (fun c_8 => ?_) (fun c_8 => ?_)
  · skip
    refine lv_aload_n hx hb dX3_passTicks_14 rfl (lv_at hl 0 rfl) ?_
    refine gt_Leg_0_12 M hW kw_98 (x := g 0 12) rfl dX3_passTicks_15 ?_
    refine lv_iload_n hx hb dX3_passTicks_18 rfl (lv_at hl 1 rfl) ?_
    refine lv_iadd hx hb dX3_passTicks_19 ?_
    refine lv_ldc (v := 99999) hx hb M.2.2.2.2.1 (M.2.2.2.2.2.1 _ kw_192) dX3_passTicks_20 ?_
    refine lv_icmp_le (tgt := 28) hx hb dX3_passTicks_22 (by decide) (fun c_22 => ?_) (fun c_22 => ?_)
    · skip
      refine lv_aload_n hx hb dX3_passTicks_28 rfl (lv_at hl 0 rfl) ?_
      refine gt_Leg_0_2 M hW kw_64 dX3_passTicks_29 ?_
      refine gt_Leg_4_1 M hW kw_144 (x := g 4 1) rfl dX3_passTicks_32 ?_
      refine lv_istore_n (lv' := [(2, .int (g 4 1)), (0, .ref (a 0)), (1, .int x)]) hx hb dX3_passTicks_35 rfl hl (by decide) rfl (fun ls hl => ?_)
      refine lv_iconst (v := 0) hx hb dX3_passTicks_36 (by decide) ?_
      refine lv_istore_n (lv' := [(3, .int 0), (2, .int (g 4 1)), (0, .ref (a 0)), (1, .int x)]) hx hb dX3_passTicks_37 rfl hl (by decide) rfl (fun ls hl => ?_)
      refine r_loop (σ := Array Slot × Nat) (fun r uL H1 l1 => uL.2 + r = x.toNatClampNeg ∧ lv_has uL.1 4 [(3, .int (nI uL.2)), (2, .int (g 4 1)), (0, .ref (a 0)), (1, .int x)] ∧ Wd G s (LegW G a (iterN (fun _ => sX3_tick) uL.2 g) ++ Y) H1 l1) (fun uL => F0 m 38 uL.1 []) ?_ ?_ (x.toNatClampNeg) (ls, 0) _ _ ⟨Nat.zero_add _, lv_sub hl [0, 1, 2, 3] rfl, hW⟩
      · skip
        intro uL H locs hI
        obtain ⟨ls, i⟩ := uL
        obtain ⟨hu, hl, hW⟩ := hI
        dsimp only at hu hl hW ⊢
        have hu : i = x.toNatClampNeg := hu
        subst hu
        refine lv_iload_n hx hb dX3_passTicks_38 rfl (lv_at hl 0 rfl) ?_
        refine lv_iload_n hx hb dX3_passTicks_39 rfl (lv_at hl 3 rfl) ?_
        refine lv_icmp_ge (tgt := 53) hx hb dX3_passTicks_40 (by decide) (fun c_40 => ?_) (fun c_40 => ?_)
        · skip
          refine lv_aload_n hx hb dX3_passTicks_53 rfl (lv_at hl 2 rfl) ?_
          refine gt_Leg_0_2 M hW kw_64 dX3_passTicks_54 ?_
          refine gt_Leg_4_1 M hW kw_144 (x := (iterN (fun _ => sX3_tick) x.toNatClampNeg g) 4 1) rfl dX3_passTicks_57 ?_
          refine lv_iload_n hx hb dX3_passTicks_60 rfl (lv_at hl 1 rfl) ?_
          refine lv_isub hx hb dX3_passTicks_61 ?_
          exact r_reti M hW (by rw [sX3_passTicks, if_neg c_8, if_pos c_22]) ⟨by rw [rX3_passTicks, if_neg c_8, if_pos c_22], rfl⟩ (Nat.zero_le _) (Nat.zero_le _) dX3_passTicks_62
        · skip
          exact absurd (le_clamp _) c_40
      · skip
        intro n ih uL H locs hI
        obtain ⟨ls, i⟩ := uL
        obtain ⟨hu, hl, hW⟩ := hI
        dsimp only at hu hl hW ⊢
        have hlt : i < x.toNatClampNeg := by omega
        refine lv_iload_n hx hb dX3_passTicks_38 rfl (lv_at hl 0 rfl) ?_
        refine lv_iload_n hx hb dX3_passTicks_39 rfl (lv_at hl 3 rfl) ?_
        refine lv_icmp_ge (tgt := 53) hx hb dX3_passTicks_40 (by decide) (fun c_40_2 => ?_) (fun c_40_2 => ?_)
        · skip
          exact absurd c_40_2 (lt_clamp hlt)
        · skip
          refine lv_aload_n hx hb dX3_passTicks_43 rfl (lv_at hl 2 rfl) ?_
          refine r_callVv M hW (c_X3_tick l G a (iterN (fun _ => sX3_tick) i g)  (Y) (LegOK.iterTick hOK _)) rfl kw_193 kw_194 kw_195 kw_80 kw_191 pl_X3_tick 0 rfl rfl ⟨by decide, by decide⟩ ⟨Nat.zero_le _, Nat.zero_le _⟩ hl.1 rfl (Nat.le_of_ble_eq_true rfl) dX3_passTicks_44 (fun H locs hW => ?_)
          refine lv_iinc (v := nI (i + 1)) (lv' := [(3, .int (nI (i + 1))), (2, .int (g 4 1)), (0, .ref (a 0)), (1, .int x)]) hx hb dX3_passTicks_47 hl (k := 0) rfl (nI_1 i) (by decide) rfl (fun ls hl => ?_)
          refine lv_goto (tgt := 38) hx hb dX3_passTicks_50 (by decide) ?_
          exact ih (ls, i + 1) _ _ ⟨by dsimp only; omega, lv_sub hl [0, 1, 2, 3] rfl, (by dsimp only; rw [iterN_succ]; exact hW)⟩
    · skip
      refine lv_bipush (v := (-103)) hx hb dX3_passTicks_25 (by decide) ?_
      exact r_reti M hW (by rw [sX3_passTicks, if_neg c_8, if_neg c_22]) ⟨by rw [rX3_passTicks, if_neg c_8, if_neg c_22], rfl⟩ (Nat.zero_le _) (Nat.zero_le _) dX3_passTicks_27
  · skip
    refine lv_bipush (v := (-102)) hx hb dX3_passTicks_11 (by decide) ?_
    exact r_reti M hW (by rw [sX3_passTicks, if_pos c_8]) ⟨by rw [rX3_passTicks, if_pos c_8], rfl⟩ (Nat.zero_le _) (Nat.zero_le _) dX3_passTicks_13

set_option maxHeartbeats 4000000 in
set_option maxRecDepth 100000 in
/-- X3.ticksUntilTrip -/
theorem c_X3_ticksUntilTrip (l : Launch) (G : Gp) (a : Nat → Nat) (g : Nat → Nat → Int32) (x : Int32) (Y : va_W) (hOK : LegOK g) (hxn : x = nI x.toNatClampNeg ∧ x.toNatClampNeg ≤ 300) : Cn l G yX3_ticksUntilTrip cX3_ticksUntilTrip 3 (some .int) 5 [.ref (a 0), .int x] (LegW G a g ++ Y) (some (.int (tuR x.toNatClampNeg 1 g))) (LegW G a (tuG x.toNatClampNeg g) ++ Y) := by
  refine CnE.of (by decide) (Nat.le_of_ble_eq_true rfl) ?_
  intro p e s m below meth c ls M hnm hl hW
  have hx := M.1
  have hb := M.2.1
  have hl : lv_has ls 3 [(0, .ref (a 0)), (1, .int x)] := hl
  refine lv_iconst (v := 1) hx hb dX3_ticksUntilTrip_0 (by decide) ?_
  refine lv_istore_n (lv' := [(2, .int 1), (0, .ref (a 0)), (1, .int x)]) hx hb dX3_ticksUntilTrip_1 rfl hl (by decide) rfl (fun ls hl => ?_)
  refine r_loop (σ := Array Slot × Nat × (Nat → Nat → Int32)) (fun r u H1 l1 => (u.2.1 + r = x.toNatClampNeg + 1 ∧ lv_has u.1 3 [(2, .int (nI u.2.1)), (0, .ref (a 0)), (1, .int x)] ∧ LegOK u.2.2 ∧ tuR r u.2.1 u.2.2 = tuR x.toNatClampNeg 1 g ∧ tuG r u.2.2 = tuG x.toNatClampNeg g) ∧ Wd G s (LegW G a u.2.2 ++ Y) H1 l1) (fun u => F0 m 2 u.1 []) ?_ ?_ x.toNatClampNeg (ls, 1, g) _ _ ⟨⟨Nat.add_comm _ _, lv_sub hl [0, 1, 2] rfl, hOK, rfl, rfl⟩, hW⟩
  · skip
    intro u H locs hI
    obtain ⟨ls, i, h⟩ := u
    obtain ⟨⟨hu, hl, hK, hr, hg⟩, hW⟩ := hI
    dsimp only at hu hl hK hr hg hW ⊢
    have hu2 : i = x.toNatClampNeg + 1 := by omega
    refine lv_iload_n hx hb dX3_ticksUntilTrip_2 rfl (lv_at hl 0 rfl) ?_
    refine lv_iload_n hx hb dX3_ticksUntilTrip_3 rfl (lv_at hl 2 rfl) ?_
    refine lv_icmp_gt (tgt := 26) hx hb dX3_ticksUntilTrip_4 (by decide) (fun c_4 => ?_) (fun c_4 => ?_)
    · skip
      refine lv_bipush (v := (-105)) hx hb dX3_ticksUntilTrip_26 (by decide) ?_
      exact r_reti M hW (by rw [← hg, tuG]) ⟨by rw [← hr, tuR], rfl⟩ (Nat.zero_le _) (Nat.zero_le _) dX3_ticksUntilTrip_28
    · skip
      exact absurd (tu_gt hxn (by decide) hu2) c_4
  · skip
    intro n ih u H locs hI
    obtain ⟨ls, i, h⟩ := u
    obtain ⟨⟨hu, hl, hK, hr, hg⟩, hW⟩ := hI
    dsimp only at hu hl hK hr hg hW ⊢
    have hu2 : i ≤ x.toNatClampNeg := by omega
    refine lv_iload_n hx hb dX3_ticksUntilTrip_2 rfl (lv_at hl 0 rfl) ?_
    refine lv_iload_n hx hb dX3_ticksUntilTrip_3 rfl (lv_at hl 2 rfl) ?_
    refine lv_icmp_gt (tgt := 26) hx hb dX3_ticksUntilTrip_4 (by decide) (fun c_4_2 => ?_) (fun c_4_2 => ?_)
    · skip
      exact absurd c_4_2 (tu_le hxn (by decide) hu2)
    · skip
      refine lv_aload_n hx hb dX3_ticksUntilTrip_7 rfl (lv_at hl 1 rfl) ?_
      refine r_callVv M hW (c_X3_tick l G a h  (Y) hK) rfl kw_193 kw_194 kw_195 kw_80 kw_191 pl_X3_tick 0 rfl rfl ⟨by decide, by decide⟩ ⟨Nat.zero_le _, Nat.zero_le _⟩ hl.1 rfl (Nat.le_of_ble_eq_true rfl) dX3_ticksUntilTrip_8 (fun H locs hW => ?_)
      refine lv_aload_n hx hb dX3_ticksUntilTrip_11 rfl (lv_at hl 1 rfl) ?_
      refine gt_Leg_0_6 M hW kw_93 (x := (sX3_tick h) 0 6) rfl dX3_ticksUntilTrip_12 ?_
      refine lv_if_ne (tgt := 20) hx hb dX3_ticksUntilTrip_15 (by decide) (fun c_15 => ?_) (fun c_15 => ?_)
      · skip
        refine lv_iinc (v := nI (i + 1)) (lv' := [(2, .int (nI (i + 1))), (0, .ref (a 0)), (1, .int x)]) hx hb dX3_ticksUntilTrip_20 hl (k := 0) rfl (nI_1 i) (by decide) rfl (fun ls hl => ?_)
        refine lv_goto (tgt := 2) hx hb dX3_ticksUntilTrip_23 (by decide) ?_
        have hr2 : tuR n (i + 1) (sX3_tick h) = tuR x.toNatClampNeg 1 g := by rw [← hr, tuR, if_neg c_15]
        have hg2 : tuG n (sX3_tick h) = tuG x.toNatClampNeg g := by rw [← hg, tuG, if_neg c_15]
        have hK2 : LegOK (sX3_tick h) := hK.tick
        have hu3 : i + 1 + n = x.toNatClampNeg + 1 := by omega
        refine ih (ls, i + 1, sX3_tick h) _ _ ?_
        dsimp only
        exact ⟨⟨hu3, lv_sub hl [0, 1, 2] rfl, hK2, hr2, hg2⟩, hW⟩
      · skip
        refine lv_iload_n hx hb dX3_ticksUntilTrip_18 rfl (lv_at hl 0 rfl) ?_
        exact r_reti M hW (by rw [← hg, tuG, if_pos c_15]) ⟨by rw [← hr, tuR, if_pos c_15], rfl⟩ (Nat.zero_le _) (Nat.zero_le _) dX3_ticksUntilTrip_19

def rX3_switchOn (g : Nat → Nat → Int32) : Int32 := if (g 0 11) = (-105) then (if (g 0 6) = 0 then rX3_load (up2 g 0 6 1) else (-105)) else (-104)
def sX3_switchOn (g : Nat → Nat → Int32) : Nat → Nat → Int32 := if (g 0 11) = (-105) then (if (g 0 6) = 0 then up2 g 0 6 1 else g) else g
set_option maxHeartbeats 4000000 in
set_option maxRecDepth 100000 in
/-- X3.switchOn -/
theorem c_X3_switchOn (l : Launch) (G : Gp) (a : Nat → Nat) (g : Nat → Nat → Int32) (Y : va_W) (hOK : LegOK g) : Cn l G yX3_switchOn cX3_switchOn 1 (some .int) 2 [.ref (a 0)] (LegW G a g ++ Y) (some (.int (rX3_switchOn g))) (LegW G a (sX3_switchOn g) ++ Y) := by
  refine CnE.of (by decide) (Nat.le_of_ble_eq_true rfl) ?_
  intro p e s m below meth c ls M hnm hl hW
  have hx := M.1
  have hb := M.2.1
  have hl : lv_has ls 1 [(0, .ref (a 0))] := hl
  refine lv_aload_n hx hb dX3_switchOn_0 rfl (lv_at hl 0 rfl) ?_
  refine gt_Leg_0_11 M hW kw_71 (x := g 0 11) rfl dX3_switchOn_1 ?_
  refine lv_bipush (v := (-105)) hx hb dX3_switchOn_4 (by decide) ?_
  refine lv_icmp_eq (tgt := 12) hx hb dX3_switchOn_6 (by decide) (fun c_6 => ?_) (fun c_6 => ?_)
  · skip
    refine lv_aload_n hx hb dX3_switchOn_12 rfl (lv_at hl 0 rfl) ?_
    refine gt_Leg_0_6 M hW kw_93 (x := g 0 6) rfl dX3_switchOn_13 ?_
    refine lv_if_eq (tgt := 22) hx hb dX3_switchOn_16 (by decide) (fun c_16 => ?_) (fun c_16 => ?_)
    · skip
      refine lv_aload_n hx hb dX3_switchOn_22 rfl (lv_at hl 0 rfl) ?_
      refine lv_iconst (v := 1) hx hb dX3_switchOn_23 (by decide) ?_
      refine pt_Leg_0_6 M hW kw_93 (Or.inr rfl) dX3_switchOn_24 (fun H locs hW => ?_)
      refine lv_aload_n hx hb dX3_switchOn_27 rfl (lv_at hl 0 rfl) ?_
      refine r_callVi M hW (c_X3_load l G a (up2 g 0 6 1)  (Y) hOK) rfl kw_128 kw_129 kw_130 kw_80 kw_122 pl_X3_load 0 rfl rfl ⟨by decide, by decide⟩ ⟨Nat.zero_le _, Nat.zero_le _⟩ hl.1 rfl (Nat.le_of_ble_eq_true rfl) dX3_switchOn_28 (fun H locs hW => ?_)
      exact r_reti M hW (by rw [sX3_switchOn, if_pos c_6, if_pos c_16]) ⟨by rw [rX3_switchOn, if_pos c_6, if_pos c_16], rfl⟩ (Nat.zero_le _) (Nat.zero_le _) dX3_switchOn_31
    · skip
      refine lv_bipush (v := (-105)) hx hb dX3_switchOn_19 (by decide) ?_
      exact r_reti M hW (by rw [sX3_switchOn, if_pos c_6, if_neg c_16]) ⟨by rw [rX3_switchOn, if_pos c_6, if_neg c_16], rfl⟩ (Nat.zero_le _) (Nat.zero_le _) dX3_switchOn_21
  · skip
    refine lv_bipush (v := (-104)) hx hb dX3_switchOn_9 (by decide) ?_
    exact r_reti M hW (by rw [sX3_switchOn, if_neg c_6]) ⟨by rw [rX3_switchOn, if_neg c_6], rfl⟩ (Nat.zero_le _) (Nat.zero_le _) dX3_switchOn_11

def rX3_switchOff (g : Nat → Nat → Int32) : Int32 := if (g 0 6) = 0 then (-105) else rX0_onAll (up2 g 0 6 0)
def sX3_switchOff (g : Nat → Nat → Int32) : Nat → Nat → Int32 := if (g 0 6) = 0 then g else up2 g 0 6 0
set_option maxHeartbeats 4000000 in
set_option maxRecDepth 100000 in
/-- X3.switchOff -/
theorem c_X3_switchOff (l : Launch) (G : Gp) (a : Nat → Nat) (g : Nat → Nat → Int32) (Y : va_W) : Cn l G yX3_switchOff cX3_switchOff 1 (some .int) 1 [.ref (a 0)] (LegW G a g ++ Y) (some (.int (rX3_switchOff g))) (LegW G a (sX3_switchOff g) ++ Y) := by
  refine CnE.of (by decide) (Nat.le_of_ble_eq_true rfl) ?_
  intro p e s m below meth c ls M hnm hl hW
  have hx := M.1
  have hb := M.2.1
  have hl : lv_has ls 1 [(0, .ref (a 0))] := hl
  refine lv_aload_n hx hb dX3_switchOff_0 rfl (lv_at hl 0 rfl) ?_
  refine gt_Leg_0_6 M hW kw_93 (x := g 0 6) rfl dX3_switchOff_1 ?_
  refine lv_if_ne (tgt := 10) hx hb dX3_switchOff_4 (by decide) (fun c_4 => ?_) (fun c_4 => ?_)
  · skip
    refine lv_aload_n hx hb dX3_switchOff_10 rfl (lv_at hl 0 rfl) ?_
    refine lv_iconst (v := 0) hx hb dX3_switchOff_11 (by decide) ?_
    refine pt_Leg_0_6 M hW kw_93 (Or.inl rfl) dX3_switchOff_12 (fun H locs hW => ?_)
    refine lv_aload_n hx hb dX3_switchOff_15 rfl (lv_at hl 0 rfl) ?_
    refine gt_Leg_0_1 M hW kw_61 dX3_switchOff_16 ?_
    refine r_callVi M hW (c_X0_onAll l G a (up2 g 0 6 0)  (Y)) rfl kw_132 kw_133 kw_134 kw_60 kw_27 pl_X0_onAll 2 rfl rfl ⟨by decide, by decide⟩ ⟨Nat.zero_le _, Nat.zero_le _⟩ hl.1 rfl (Nat.le_of_ble_eq_true rfl) dX3_switchOff_19 (fun H locs hW => ?_)
    exact r_reti M hW (by rw [sX3_switchOff, if_neg c_4]) ⟨by rw [rX3_switchOff, if_neg c_4], rfl⟩ (Nat.zero_le _) (Nat.zero_le _) dX3_switchOff_22
  · skip
    refine lv_bipush (v := (-105)) hx hb dX3_switchOff_7 (by decide) ?_
    exact r_reti M hW (by rw [sX3_switchOff, if_pos c_4]) ⟨by rw [rX3_switchOff, if_pos c_4], rfl⟩ (Nat.zero_le _) (Nat.zero_le _) dX3_switchOff_9
end
section
def rX7_in (x : Int32) (lo : Int32) (hi : Int32) : Int32 := if x < lo then 0 else if hi < x then 0 else 1
set_option maxHeartbeats 4000000 in
set_option maxRecDepth 100000 in
/-- X7.in -/
theorem c_X7_in (l : Launch) (G : Gp) (x : Int32) (lo : Int32) (hi : Int32) (Y : va_W) : Cn l G yX7_in cX7_in 3 (some .boolean) 0 [.int x, .int lo, .int hi] (Y) (some (.int (rX7_in x lo hi))) (Y) := by
  refine CnE.of (by decide) (Nat.le_of_ble_eq_true rfl) ?_
  intro p e s m below meth c ls M hnm hl hW
  have hx := M.1
  have hb := M.2.1
  have hl : lv_has ls 3 [(0, .int x), (1, .int lo), (2, .int hi)] := hl
  refine lv_iload_n hx hb dX7_in_0 rfl (lv_at hl 0 rfl) ?_
  refine lv_iload_n hx hb dX7_in_1 rfl (lv_at hl 1 rfl) ?_
  refine lv_icmp_lt (tgt := 14) hx hb dX7_in_2 (by decide) (fun c_2 => ?_) (fun c_2 => ?_)
  · skip
    refine lv_iconst (v := 0) hx hb dX7_in_14 (by decide) ?_
    exact r_retz M rfl hW rfl ⟨by rw [rX7_in, if_pos c_2], rfl⟩ (Nat.zero_le _) (Nat.zero_le _) dX7_in_15
  · skip
    refine lv_iload_n hx hb dX7_in_5 rfl (lv_at hl 0 rfl) ?_
    refine lv_iload_n hx hb dX7_in_6 rfl (lv_at hl 2 rfl) ?_
    refine lv_icmp_gt (tgt := 14) hx hb dX7_in_7 (by decide) (fun c_7 => ?_) (fun c_7 => ?_)
    · skip
      refine lv_iconst (v := 0) hx hb dX7_in_14 (by decide) ?_
      exact r_retz M rfl hW rfl ⟨by rw [rX7_in, if_neg c_2, if_pos c_7], rfl⟩ (Nat.zero_le _) (Nat.zero_le _) dX7_in_15
    · skip
      refine lv_iconst (v := 1) hx hb dX7_in_10 (by decide) ?_
      refine lv_goto (tgt := 15) hx hb dX7_in_11 (by decide) ?_
      exact r_retz M rfl hW rfl ⟨by rw [rX7_in, if_neg c_2, if_neg c_7], rfl⟩ (Nat.zero_le _) (Nat.zero_le _) dX7_in_15

def movesF (u : Nat → Nat → Int32) : Int32 := if u 1 12 < 2 then u 1 23 / 2 else 0
theorem nI_addl {x : Int32} {k : Nat} (c : Nat) (h : x = nI k) : nI c + x = nI (c + k) := by rw [h, nI_add]

def rX7_load (u : Nat → Nat → Int32) : Int32 := ((((((if (u 1 5) ≤ 100 then 0 else ((u 1 5) - 100) / 2) + (u 1 19)) + (u 1 20)) + (u 1 21)) + (u 1 22)) + (u 1 23)) + (u 1 24)
set_option maxHeartbeats 4000000 in
set_option maxRecDepth 100000 in
/-- X7.load -/
theorem c_X7_load (l : Launch) (G : Gp) (b : Nat → Nat) (u : Nat → Nat → Int32) (Y : va_W) : Cn l G yX7_load cX7_load 3 (some .int) 0 [.ref (b 0)] (ModW G b u ++ Y) (some (.int (rX7_load u))) (ModW G b u ++ Y) := by
  refine CnE.of (by decide) (Nat.le_of_ble_eq_true rfl) ?_
  intro p e s m below meth c ls M hnm hl hW
  have hx := M.1
  have hb := M.2.1
  have hl : lv_has ls 3 [(0, .ref (b 0))] := hl
  refine lv_aload_n hx hb dX7_load_0 rfl (lv_at hl 0 rfl) ?_
  refine gt_Mod_0_1 M hW kw_392 dX7_load_1 ?_
  refine lv_iconst (v := 5) hx hb dX7_load_4 (by decide) ?_
  refine al_Mod_1 M hW 5 rfl (by decide) (x := u 1 5) rfl dX7_load_5 ?_
  refine lv_bipush (v := 100) hx hb dX7_load_6 (by decide) ?_
  refine r_cuti (pc2 := 26) (ls2 := ls) (st := []) (if (u 1 5) ≤ 100 then 0 else ((u 1 5) - 100) / 2) (fun x_26 hx_26 => ?_) (fun hJ_26 => ?_)
  · skip
    subst hx_26
    refine lv_istore_n (lv' := [(1, .int (if (u 1 5) ≤ 100 then 0 else ((u 1 5) - 100) / 2)), (0, .ref (b 0))]) hx hb dX7_load_26 rfl hl (by decide) rfl (fun ls hl => ?_)
    refine lv_iconst (v := 1) hx hb dX7_load_27 (by decide) ?_
    refine lv_istore_n (lv' := [(2, .int 1), (1, .int (if (u 1 5) ≤ 100 then 0 else ((u 1 5) - 100) / 2)), (0, .ref (b 0))]) hx hb dX7_load_28 rfl hl (by decide) rfl (fun ls hl => ?_)
    refine lv_iload_n hx hb dX7_load_29 rfl (lv_at hl 0 rfl) ?_
    refine lv_bipush (v := 6) hx hb dX7_load_30 (by decide) ?_
    refine lv_icmp_gt (tgt := 53) hx hb dX7_load_32 (by decide) (fun c_32 => ?_) (fun c_32 => ?_)
    · skip
      exact absurd c_32 (by decide)
    · skip
      refine lv_iload_n hx hb dX7_load_35 rfl (lv_at hl 1 rfl) ?_
      refine lv_aload_n hx hb dX7_load_36 rfl (lv_at hl 2 rfl) ?_
      refine gt_Mod_0_1 M hW kw_392 dX7_load_37 ?_
      refine lv_bipush (v := 18) hx hb dX7_load_40 (by decide) ?_
      refine lv_iload_n hx hb dX7_load_42 rfl (lv_at hl 0 rfl) ?_
      refine lv_iadd hx hb dX7_load_43 ?_
      refine r_top (y := 19) (by decide) ?_
      refine al_Mod_1 M hW 19 rfl (by decide) (x := u 1 19) rfl dX7_load_44 ?_
      refine lv_iadd hx hb dX7_load_45 ?_
      refine lv_istore_n (lv' := [(1, .int ((if (u 1 5) ≤ 100 then 0 else ((u 1 5) - 100) / 2) + (u 1 19))), (2, .int 1), (0, .ref (b 0))]) hx hb dX7_load_46 rfl hl (by decide) rfl (fun ls hl => ?_)
      refine lv_iinc (v := 2) (lv' := [(2, .int 2), (1, .int ((if (u 1 5) ≤ 100 then 0 else ((u 1 5) - 100) / 2) + (u 1 19))), (0, .ref (b 0))]) hx hb dX7_load_47 hl (k := 1) rfl (by decide) (by decide) rfl (fun ls hl => ?_)
      refine lv_goto (tgt := 29) hx hb dX7_load_50 (by decide) ?_
      refine lv_iload_n hx hb dX7_load_29 rfl (lv_at hl 0 rfl) ?_
      refine lv_bipush (v := 6) hx hb dX7_load_30 (by decide) ?_
      refine lv_icmp_gt (tgt := 53) hx hb dX7_load_32 (by decide) (fun c_32_2 => ?_) (fun c_32_2 => ?_)
      · skip
        exact absurd c_32_2 (by decide)
      · skip
        refine lv_iload_n hx hb dX7_load_35 rfl (lv_at hl 1 rfl) ?_
        refine lv_aload_n hx hb dX7_load_36 rfl (lv_at hl 2 rfl) ?_
        refine gt_Mod_0_1 M hW kw_392 dX7_load_37 ?_
        refine lv_bipush (v := 18) hx hb dX7_load_40 (by decide) ?_
        refine lv_iload_n hx hb dX7_load_42 rfl (lv_at hl 0 rfl) ?_
        refine lv_iadd hx hb dX7_load_43 ?_
        refine r_top (y := 20) (by decide) ?_
        refine al_Mod_1 M hW 20 rfl (by decide) (x := u 1 20) rfl dX7_load_44 ?_
        refine lv_iadd hx hb dX7_load_45 ?_
        refine lv_istore_n (lv' := [(1, .int (((if (u 1 5) ≤ 100 then 0 else ((u 1 5) - 100) / 2) + (u 1 19)) + (u 1 20))), (2, .int 2), (0, .ref (b 0))]) hx hb dX7_load_46 rfl hl (by decide) rfl (fun ls hl => ?_)
        refine lv_iinc (v := 3) (lv' := [(2, .int 3), (1, .int (((if (u 1 5) ≤ 100 then 0 else ((u 1 5) - 100) / 2) + (u 1 19)) + (u 1 20))), (0, .ref (b 0))]) hx hb dX7_load_47 hl (k := 1) rfl (by decide) (by decide) rfl (fun ls hl => ?_)
        refine lv_goto (tgt := 29) hx hb dX7_load_50 (by decide) ?_
        refine lv_iload_n hx hb dX7_load_29 rfl (lv_at hl 0 rfl) ?_
        refine lv_bipush (v := 6) hx hb dX7_load_30 (by decide) ?_
        refine lv_icmp_gt (tgt := 53) hx hb dX7_load_32 (by decide) (fun c_32_3 => ?_) (fun c_32_3 => ?_)
        · skip
          exact absurd c_32_3 (by decide)
        · skip
          refine lv_iload_n hx hb dX7_load_35 rfl (lv_at hl 1 rfl) ?_
          refine lv_aload_n hx hb dX7_load_36 rfl (lv_at hl 2 rfl) ?_
          refine gt_Mod_0_1 M hW kw_392 dX7_load_37 ?_
          refine lv_bipush (v := 18) hx hb dX7_load_40 (by decide) ?_
          refine lv_iload_n hx hb dX7_load_42 rfl (lv_at hl 0 rfl) ?_
          refine lv_iadd hx hb dX7_load_43 ?_
          refine r_top (y := 21) (by decide) ?_
          refine al_Mod_1 M hW 21 rfl (by decide) (x := u 1 21) rfl dX7_load_44 ?_
          refine lv_iadd hx hb dX7_load_45 ?_
          refine lv_istore_n (lv' := [(1, .int ((((if (u 1 5) ≤ 100 then 0 else ((u 1 5) - 100) / 2) + (u 1 19)) + (u 1 20)) + (u 1 21))), (2, .int 3), (0, .ref (b 0))]) hx hb dX7_load_46 rfl hl (by decide) rfl (fun ls hl => ?_)
          refine lv_iinc (v := 4) (lv' := [(2, .int 4), (1, .int ((((if (u 1 5) ≤ 100 then 0 else ((u 1 5) - 100) / 2) + (u 1 19)) + (u 1 20)) + (u 1 21))), (0, .ref (b 0))]) hx hb dX7_load_47 hl (k := 1) rfl (by decide) (by decide) rfl (fun ls hl => ?_)
          refine lv_goto (tgt := 29) hx hb dX7_load_50 (by decide) ?_
          refine lv_iload_n hx hb dX7_load_29 rfl (lv_at hl 0 rfl) ?_
          refine lv_bipush (v := 6) hx hb dX7_load_30 (by decide) ?_
          refine lv_icmp_gt (tgt := 53) hx hb dX7_load_32 (by decide) (fun c_32_4 => ?_) (fun c_32_4 => ?_)
          · skip
            exact absurd c_32_4 (by decide)
          · skip
            refine lv_iload_n hx hb dX7_load_35 rfl (lv_at hl 1 rfl) ?_
            refine lv_aload_n hx hb dX7_load_36 rfl (lv_at hl 2 rfl) ?_
            refine gt_Mod_0_1 M hW kw_392 dX7_load_37 ?_
            refine lv_bipush (v := 18) hx hb dX7_load_40 (by decide) ?_
            refine lv_iload_n hx hb dX7_load_42 rfl (lv_at hl 0 rfl) ?_
            refine lv_iadd hx hb dX7_load_43 ?_
            refine r_top (y := 22) (by decide) ?_
            refine al_Mod_1 M hW 22 rfl (by decide) (x := u 1 22) rfl dX7_load_44 ?_
            refine lv_iadd hx hb dX7_load_45 ?_
            refine lv_istore_n (lv' := [(1, .int (((((if (u 1 5) ≤ 100 then 0 else ((u 1 5) - 100) / 2) + (u 1 19)) + (u 1 20)) + (u 1 21)) + (u 1 22))), (2, .int 4), (0, .ref (b 0))]) hx hb dX7_load_46 rfl hl (by decide) rfl (fun ls hl => ?_)
            refine lv_iinc (v := 5) (lv' := [(2, .int 5), (1, .int (((((if (u 1 5) ≤ 100 then 0 else ((u 1 5) - 100) / 2) + (u 1 19)) + (u 1 20)) + (u 1 21)) + (u 1 22))), (0, .ref (b 0))]) hx hb dX7_load_47 hl (k := 1) rfl (by decide) (by decide) rfl (fun ls hl => ?_)
            refine lv_goto (tgt := 29) hx hb dX7_load_50 (by decide) ?_
            refine lv_iload_n hx hb dX7_load_29 rfl (lv_at hl 0 rfl) ?_
            refine lv_bipush (v := 6) hx hb dX7_load_30 (by decide) ?_
            refine lv_icmp_gt (tgt := 53) hx hb dX7_load_32 (by decide) (fun c_32_5 => ?_) (fun c_32_5 => ?_)
            · skip
              exact absurd c_32_5 (by decide)
            · skip
              refine lv_iload_n hx hb dX7_load_35 rfl (lv_at hl 1 rfl) ?_
              refine lv_aload_n hx hb dX7_load_36 rfl (lv_at hl 2 rfl) ?_
              refine gt_Mod_0_1 M hW kw_392 dX7_load_37 ?_
              refine lv_bipush (v := 18) hx hb dX7_load_40 (by decide) ?_
              refine lv_iload_n hx hb dX7_load_42 rfl (lv_at hl 0 rfl) ?_
              refine lv_iadd hx hb dX7_load_43 ?_
              refine r_top (y := 23) (by decide) ?_
              refine al_Mod_1 M hW 23 rfl (by decide) (x := u 1 23) rfl dX7_load_44 ?_
              refine lv_iadd hx hb dX7_load_45 ?_
              refine lv_istore_n (lv' := [(1, .int ((((((if (u 1 5) ≤ 100 then 0 else ((u 1 5) - 100) / 2) + (u 1 19)) + (u 1 20)) + (u 1 21)) + (u 1 22)) + (u 1 23))), (2, .int 5), (0, .ref (b 0))]) hx hb dX7_load_46 rfl hl (by decide) rfl (fun ls hl => ?_)
              refine lv_iinc (v := 6) (lv' := [(2, .int 6), (1, .int ((((((if (u 1 5) ≤ 100 then 0 else ((u 1 5) - 100) / 2) + (u 1 19)) + (u 1 20)) + (u 1 21)) + (u 1 22)) + (u 1 23))), (0, .ref (b 0))]) hx hb dX7_load_47 hl (k := 1) rfl (by decide) (by decide) rfl (fun ls hl => ?_)
              refine lv_goto (tgt := 29) hx hb dX7_load_50 (by decide) ?_
              refine lv_iload_n hx hb dX7_load_29 rfl (lv_at hl 0 rfl) ?_
              refine lv_bipush (v := 6) hx hb dX7_load_30 (by decide) ?_
              refine lv_icmp_gt (tgt := 53) hx hb dX7_load_32 (by decide) (fun c_32_6 => ?_) (fun c_32_6 => ?_)
              · skip
                exact absurd c_32_6 (by decide)
              · skip
                refine lv_iload_n hx hb dX7_load_35 rfl (lv_at hl 1 rfl) ?_
                refine lv_aload_n hx hb dX7_load_36 rfl (lv_at hl 2 rfl) ?_
                refine gt_Mod_0_1 M hW kw_392 dX7_load_37 ?_
                refine lv_bipush (v := 18) hx hb dX7_load_40 (by decide) ?_
                refine lv_iload_n hx hb dX7_load_42 rfl (lv_at hl 0 rfl) ?_
                refine lv_iadd hx hb dX7_load_43 ?_
                refine r_top (y := 24) (by decide) ?_
                refine al_Mod_1 M hW 24 rfl (by decide) (x := u 1 24) rfl dX7_load_44 ?_
                refine lv_iadd hx hb dX7_load_45 ?_
                refine lv_istore_n (lv' := [(1, .int (((((((if (u 1 5) ≤ 100 then 0 else ((u 1 5) - 100) / 2) + (u 1 19)) + (u 1 20)) + (u 1 21)) + (u 1 22)) + (u 1 23)) + (u 1 24))), (2, .int 6), (0, .ref (b 0))]) hx hb dX7_load_46 rfl hl (by decide) rfl (fun ls hl => ?_)
                refine lv_iinc (v := 7) (lv' := [(2, .int 7), (1, .int (((((((if (u 1 5) ≤ 100 then 0 else ((u 1 5) - 100) / 2) + (u 1 19)) + (u 1 20)) + (u 1 21)) + (u 1 22)) + (u 1 23)) + (u 1 24))), (0, .ref (b 0))]) hx hb dX7_load_47 hl (k := 1) rfl (by decide) (by decide) rfl (fun ls hl => ?_)
                refine lv_goto (tgt := 29) hx hb dX7_load_50 (by decide) ?_
                refine lv_iload_n hx hb dX7_load_29 rfl (lv_at hl 0 rfl) ?_
                refine lv_bipush (v := 6) hx hb dX7_load_30 (by decide) ?_
                refine lv_icmp_gt (tgt := 53) hx hb dX7_load_32 (by decide) (fun c_32_7 => ?_) (fun c_32_7 => ?_)
                · skip
                  refine lv_iload_n hx hb dX7_load_53 rfl (lv_at hl 1 rfl) ?_
                  exact r_reti M hW rfl ⟨by rw [rX7_load], rfl⟩ (Nat.zero_le _) (Nat.zero_le _) dX7_load_54
                · skip
                  exact absurd c_32_7 (by decide)
  · skip
    refine lv_icmp_le (tgt := 25) hx hb dX7_load_8 (by decide) (fun c_8 => ?_) (fun c_8 => ?_)
    · skip
      refine lv_iconst (v := 0) hx hb dX7_load_25 (by decide) ?_
      exact hJ_26 _ (by rw [if_pos c_8])
    · skip
      refine lv_aload_n hx hb dX7_load_11 rfl (lv_at hl 0 rfl) ?_
      refine gt_Mod_0_1 M hW kw_392 dX7_load_12 ?_
      refine lv_iconst (v := 5) hx hb dX7_load_15 (by decide) ?_
      refine al_Mod_1 M hW 5 rfl (by decide) (x := u 1 5) rfl dX7_load_16 ?_
      refine lv_bipush (v := 100) hx hb dX7_load_17 (by decide) ?_
      refine lv_isub hx hb dX7_load_19 ?_
      refine lv_iconst (v := 2) hx hb dX7_load_20 (by decide) ?_
      refine lv_idiv hx hb dX7_load_21 (by decide) ?_
      refine lv_goto (tgt := 26) hx hb dX7_load_22 (by decide) ?_
      exact hJ_26 _ (by rw [if_neg c_8])

def sX7_comes (u : Nat → Nat → Int32) (x : Int32) : Nat → Nat → Int32 := up2 (up2 u 1 5 ((u 1 5) + (if (300 - (u 1 5)) ≤ x then 300 - (u 1 5) else x))) 1 7 ((u 1 7) + (if (300 - (u 1 5)) ≤ x then x - (300 - (u 1 5)) else 0))
set_option maxHeartbeats 4000000 in
set_option maxRecDepth 100000 in
/-- X7.comes -/
theorem c_X7_comes (l : Launch) (G : Gp) (b : Nat → Nat) (u : Nat → Nat → Int32) (x : Int32) (Y : va_W) : Cn l G yX7_comes cX7_comes 3 none 0 [.ref (b 0), .int x] (ModW G b u ++ Y) none (ModW G b (sX7_comes u x) ++ Y) := by
  refine CnE.of (by decide) (Nat.le_of_ble_eq_true rfl) ?_
  intro p e s m below meth c ls M hnm hl hW
  have hx := M.1
  have hb := M.2.1
  have hl : lv_has ls 3 [(0, .ref (b 0)), (1, .int x)] := hl
  refine lv_sipush (v := 300) hx hb dX7_comes_0 (by decide) ?_
  refine lv_aload_n hx hb dX7_comes_3 rfl (lv_at hl 0 rfl) ?_
  refine gt_Mod_0_1 M hW kw_392 dX7_comes_4 ?_
  refine lv_iconst (v := 5) hx hb dX7_comes_7 (by decide) ?_
  refine al_Mod_1 M hW 5 rfl (by decide) (x := u 1 5) rfl dX7_comes_8 ?_
  refine lv_isub hx hb dX7_comes_9 ?_
  refine lv_istore_n (lv' := [(2, .int (300 - (u 1 5))), (0, .ref (b 0)), (1, .int x)]) hx hb dX7_comes_10 rfl hl (by decide) rfl (fun ls hl => ?_)
  refine lv_aload_n hx hb dX7_comes_11 rfl (lv_at hl 1 rfl) ?_
  refine gt_Mod_0_1 M hW kw_392 dX7_comes_12 ?_
  refine lv_iconst (v := 5) hx hb dX7_comes_15 (by decide) ?_
  refine lv_dup2_11 hx hb dX7_comes_16 rfl rfl ?_
  refine al_Mod_1 M hW 5 rfl (by decide) (x := u 1 5) rfl dX7_comes_17 ?_
  refine lv_iload_n hx hb dX7_comes_18 rfl (lv_at hl 2 rfl) ?_
  refine lv_iload_n hx hb dX7_comes_19 rfl (lv_at hl 0 rfl) ?_
  refine r_cuti (pc2 := 28) (ls2 := ls) (st := [.int (u 1 5), .int 5, .ref (b 1)]) (if (300 - (u 1 5)) ≤ x then 300 - (u 1 5) else x) (fun x_28 hx_28 => ?_) (fun hJ_28 => ?_)
  · skip
    subst hx_28
    refine lv_iadd hx hb dX7_comes_28 ?_
    refine as_Mod_1 M hW 5 rfl (by decide) dX7_comes_29 (fun H locs hW => ?_)
    refine lv_aload_n hx hb dX7_comes_30 rfl (lv_at hl 1 rfl) ?_
    refine gt_Mod_0_1 M hW kw_392 dX7_comes_31 ?_
    refine lv_bipush (v := 7) hx hb dX7_comes_34 (by decide) ?_
    refine lv_dup2_11 hx hb dX7_comes_36 rfl rfl ?_
    refine al_Mod_1 M hW 7 rfl (by decide) (x := u 1 7) (up2_k (by decide)) dX7_comes_37 ?_
    refine lv_iload_n hx hb dX7_comes_38 rfl (lv_at hl 2 rfl) ?_
    refine lv_iload_n hx hb dX7_comes_39 rfl (lv_at hl 0 rfl) ?_
    refine r_cuti (pc2 := 50) (ls2 := ls) (st := [.int (u 1 7), .int 7, .ref (b 1)]) (if (300 - (u 1 5)) ≤ x then x - (300 - (u 1 5)) else 0) (fun x_50 hx_50 => ?_) (fun hJ_50 => ?_)
    · skip
      subst hx_50
      refine lv_iadd hx hb dX7_comes_50 ?_
      refine as_Mod_1 M hW 7 rfl (by decide) dX7_comes_51 (fun H locs hW => ?_)
      exact r_retv M hW (by rw [sX7_comes]) ⟨rfl, rfl⟩ (Nat.zero_le _) (Nat.zero_le _) dX7_comes_52
    · skip
      refine lv_icmp_ge (tgt := 47) hx hb dX7_comes_40 (by decide) (fun c_40 => ?_) (fun c_40 => ?_)
      · skip
        refine lv_iload_n hx hb dX7_comes_47 rfl (lv_at hl 2 rfl) ?_
        refine lv_iload_n hx hb dX7_comes_48 rfl (lv_at hl 0 rfl) ?_
        refine lv_isub hx hb dX7_comes_49 ?_
        exact hJ_50 _ (by rw [if_pos c_40])
      · skip
        refine lv_iconst (v := 0) hx hb dX7_comes_43 (by decide) ?_
        refine lv_goto (tgt := 50) hx hb dX7_comes_44 (by decide) ?_
        exact hJ_50 _ (by rw [if_neg c_40])
  · skip
    refine lv_icmp_ge (tgt := 27) hx hb dX7_comes_20 (by decide) (fun c_20 => ?_) (fun c_20 => ?_)
    · skip
      refine lv_iload_n hx hb dX7_comes_27 rfl (lv_at hl 0 rfl) ?_
      exact hJ_28 _ (by rw [if_pos c_20])
    · skip
      refine lv_iload_n hx hb dX7_comes_23 rfl (lv_at hl 2 rfl) ?_
      refine lv_goto (tgt := 28) hx hb dX7_comes_24 (by decide) ?_
      exact hJ_28 _ (by rw [if_neg c_20])

def movesA (u : Nat → Nat → Int32) : Nat → Nat → Int32 := up2 (up2 (up2 (up2 (up2 (up2 (up2 (up2 (up2 (up2 (up2 (up2 (up2 (up2 (up2 u 1 29 (u 1 28)) 1 28 (u 1 27)) 1 27 (u 1 26)) 1 26 (u 1 25)) 1 25 (u 1 24)) 1 24 (u 1 23)) 1 23 (u 1 22)) 1 22 (u 1 21)) 1 21 (u 1 20)) 1 20 (u 1 19)) 1 19 (u 1 18)) 1 18 (u 1 29)) 1 24 0) 1 6 ((u 1 6) + ((u 1 23) - (movesF u)))) 1 10 ((u 1 10) + (movesF u))
def movesB (u : Nat → Nat → Int32) : Nat → Nat → Int32 := sX7_comes (movesA u) (movesF u)
def sX7_moves (u : Nat → Nat → Int32) : Nat → Nat → Int32 := up2 (up2 (movesB u) 1 18 (((movesB u) 1 18) + (if 0 ≤ (((movesB u) 1 3) - ((movesB u) 1 18)) then (if ((movesB u) 1 5) ≤ (((movesB u) 1 3) - ((movesB u) 1 18)) then (movesB u) 1 5 else ((movesB u) 1 3) - ((movesB u) 1 18)) else 0))) 1 5 (((movesB u) 1 5) - (if 0 ≤ (((movesB u) 1 3) - ((movesB u) 1 18)) then (if ((movesB u) 1 5) ≤ (((movesB u) 1 3) - ((movesB u) 1 18)) then (movesB u) 1 5 else ((movesB u) 1 3) - ((movesB u) 1 18)) else 0))
set_option maxHeartbeats 4000000 in
set_option maxRecDepth 100000 in
/-- X7.moves -/
theorem c_X7_moves (l : Launch) (G : Gp) (b : Nat → Nat) (u : Nat → Nat → Int32) (Y : va_W) : Cn l G yX7_moves cX7_moves 6 none 1 [.ref (b 0)] (ModW G b u ++ Y) none (ModW G b (sX7_moves u) ++ Y) := by
  refine CnE.of (by decide) (Nat.le_of_ble_eq_true rfl) ?_
  intro p e s m below meth c ls M hnm hl hW
  have hx := M.1
  have hb := M.2.1
  have hl : lv_has ls 6 [(0, .ref (b 0))] := hl
  refine lv_aload_n hx hb dX7_moves_0 rfl (lv_at hl 0 rfl) ?_
  refine gt_Mod_0_1 M hW kw_392 dX7_moves_1 ?_
  refine lv_bipush (v := 29) hx hb dX7_moves_4 (by decide) ?_
  refine al_Mod_1 M hW 29 rfl (by decide) (x := u 1 29) rfl dX7_moves_6 ?_
  refine lv_istore_n (lv' := [(1, .int (u 1 29)), (0, .ref (b 0))]) hx hb dX7_moves_7 rfl hl (by decide) rfl (fun ls hl => ?_)
  refine lv_bipush (v := 11) hx hb dX7_moves_8 (by decide) ?_
  refine lv_istore_n (lv' := [(2, .int 11), (1, .int (u 1 29)), (0, .ref (b 0))]) hx hb dX7_moves_10 rfl hl (by decide) rfl (fun ls hl => ?_)
  refine lv_iload_n hx hb dX7_moves_11 rfl (lv_at hl 0 rfl) ?_
  refine lv_if_le (tgt := 41) hx hb dX7_moves_12 (by decide) (fun c_12 => ?_) (fun c_12 => ?_)
  · skip
    exact absurd c_12 (by decide)
  · skip
    refine lv_aload_n hx hb dX7_moves_15 rfl (lv_at hl 2 rfl) ?_
    refine gt_Mod_0_1 M hW kw_392 dX7_moves_16 ?_
    refine lv_bipush (v := 18) hx hb dX7_moves_19 (by decide) ?_
    refine lv_iload_n hx hb dX7_moves_21 rfl (lv_at hl 0 rfl) ?_
    refine lv_iadd hx hb dX7_moves_22 ?_
    refine r_top (y := 29) (by decide) ?_
    refine lv_aload_n hx hb dX7_moves_23 rfl (lv_at hl 2 rfl) ?_
    refine gt_Mod_0_1 M hW kw_392 dX7_moves_24 ?_
    refine lv_bipush (v := 18) hx hb dX7_moves_27 (by decide) ?_
    refine lv_iload_n hx hb dX7_moves_29 rfl (lv_at hl 0 rfl) ?_
    refine lv_iadd hx hb dX7_moves_30 ?_
    refine r_top (y := 29) (by decide) ?_
    refine lv_iconst (v := 1) hx hb dX7_moves_31 (by decide) ?_
    refine lv_isub hx hb dX7_moves_32 ?_
    refine r_top (y := 28) (by decide) ?_
    refine al_Mod_1 M hW 28 rfl (by decide) (x := u 1 28) rfl dX7_moves_33 ?_
    refine as_Mod_1 M hW 29 rfl (by decide) dX7_moves_34 (fun H locs hW => ?_)
    refine lv_iinc (v := 10) (lv' := [(2, .int 10), (1, .int (u 1 29)), (0, .ref (b 0))]) hx hb dX7_moves_35 hl (k := 0) rfl (by decide) (by decide) rfl (fun ls hl => ?_)
    refine lv_goto (tgt := 11) hx hb dX7_moves_38 (by decide) ?_
    refine lv_iload_n hx hb dX7_moves_11 rfl (lv_at hl 0 rfl) ?_
    refine lv_if_le (tgt := 41) hx hb dX7_moves_12 (by decide) (fun c_12_2 => ?_) (fun c_12_2 => ?_)
    · skip
      exact absurd c_12_2 (by decide)
    · skip
      refine lv_aload_n hx hb dX7_moves_15 rfl (lv_at hl 2 rfl) ?_
      refine gt_Mod_0_1 M hW kw_392 dX7_moves_16 ?_
      refine lv_bipush (v := 18) hx hb dX7_moves_19 (by decide) ?_
      refine lv_iload_n hx hb dX7_moves_21 rfl (lv_at hl 0 rfl) ?_
      refine lv_iadd hx hb dX7_moves_22 ?_
      refine r_top (y := 28) (by decide) ?_
      refine lv_aload_n hx hb dX7_moves_23 rfl (lv_at hl 2 rfl) ?_
      refine gt_Mod_0_1 M hW kw_392 dX7_moves_24 ?_
      refine lv_bipush (v := 18) hx hb dX7_moves_27 (by decide) ?_
      refine lv_iload_n hx hb dX7_moves_29 rfl (lv_at hl 0 rfl) ?_
      refine lv_iadd hx hb dX7_moves_30 ?_
      refine r_top (y := 28) (by decide) ?_
      refine lv_iconst (v := 1) hx hb dX7_moves_31 (by decide) ?_
      refine lv_isub hx hb dX7_moves_32 ?_
      refine r_top (y := 27) (by decide) ?_
      refine al_Mod_1 M hW 27 rfl (by decide) (x := u 1 27) (up2_k (by decide)) dX7_moves_33 ?_
      refine as_Mod_1 M hW 28 rfl (by decide) dX7_moves_34 (fun H locs hW => ?_)
      refine lv_iinc (v := 9) (lv' := [(2, .int 9), (1, .int (u 1 29)), (0, .ref (b 0))]) hx hb dX7_moves_35 hl (k := 0) rfl (by decide) (by decide) rfl (fun ls hl => ?_)
      refine lv_goto (tgt := 11) hx hb dX7_moves_38 (by decide) ?_
      refine lv_iload_n hx hb dX7_moves_11 rfl (lv_at hl 0 rfl) ?_
      refine lv_if_le (tgt := 41) hx hb dX7_moves_12 (by decide) (fun c_12_3 => ?_) (fun c_12_3 => ?_)
      · skip
        exact absurd c_12_3 (by decide)
      · skip
        refine lv_aload_n hx hb dX7_moves_15 rfl (lv_at hl 2 rfl) ?_
        refine gt_Mod_0_1 M hW kw_392 dX7_moves_16 ?_
        refine lv_bipush (v := 18) hx hb dX7_moves_19 (by decide) ?_
        refine lv_iload_n hx hb dX7_moves_21 rfl (lv_at hl 0 rfl) ?_
        refine lv_iadd hx hb dX7_moves_22 ?_
        refine r_top (y := 27) (by decide) ?_
        refine lv_aload_n hx hb dX7_moves_23 rfl (lv_at hl 2 rfl) ?_
        refine gt_Mod_0_1 M hW kw_392 dX7_moves_24 ?_
        refine lv_bipush (v := 18) hx hb dX7_moves_27 (by decide) ?_
        refine lv_iload_n hx hb dX7_moves_29 rfl (lv_at hl 0 rfl) ?_
        refine lv_iadd hx hb dX7_moves_30 ?_
        refine r_top (y := 27) (by decide) ?_
        refine lv_iconst (v := 1) hx hb dX7_moves_31 (by decide) ?_
        refine lv_isub hx hb dX7_moves_32 ?_
        refine r_top (y := 26) (by decide) ?_
        refine al_Mod_1 M hW 26 rfl (by decide) (x := u 1 26) ((up2_k (by decide)).trans (up2_k (by decide))) dX7_moves_33 ?_
        refine as_Mod_1 M hW 27 rfl (by decide) dX7_moves_34 (fun H locs hW => ?_)
        refine lv_iinc (v := 8) (lv' := [(2, .int 8), (1, .int (u 1 29)), (0, .ref (b 0))]) hx hb dX7_moves_35 hl (k := 0) rfl (by decide) (by decide) rfl (fun ls hl => ?_)
        refine lv_goto (tgt := 11) hx hb dX7_moves_38 (by decide) ?_
        refine lv_iload_n hx hb dX7_moves_11 rfl (lv_at hl 0 rfl) ?_
        refine lv_if_le (tgt := 41) hx hb dX7_moves_12 (by decide) (fun c_12_4 => ?_) (fun c_12_4 => ?_)
        · skip
          exact absurd c_12_4 (by decide)
        · skip
          refine lv_aload_n hx hb dX7_moves_15 rfl (lv_at hl 2 rfl) ?_
          refine gt_Mod_0_1 M hW kw_392 dX7_moves_16 ?_
          refine lv_bipush (v := 18) hx hb dX7_moves_19 (by decide) ?_
          refine lv_iload_n hx hb dX7_moves_21 rfl (lv_at hl 0 rfl) ?_
          refine lv_iadd hx hb dX7_moves_22 ?_
          refine r_top (y := 26) (by decide) ?_
          refine lv_aload_n hx hb dX7_moves_23 rfl (lv_at hl 2 rfl) ?_
          refine gt_Mod_0_1 M hW kw_392 dX7_moves_24 ?_
          refine lv_bipush (v := 18) hx hb dX7_moves_27 (by decide) ?_
          refine lv_iload_n hx hb dX7_moves_29 rfl (lv_at hl 0 rfl) ?_
          refine lv_iadd hx hb dX7_moves_30 ?_
          refine r_top (y := 26) (by decide) ?_
          refine lv_iconst (v := 1) hx hb dX7_moves_31 (by decide) ?_
          refine lv_isub hx hb dX7_moves_32 ?_
          refine r_top (y := 25) (by decide) ?_
          refine al_Mod_1 M hW 25 rfl (by decide) (x := u 1 25) ((up2_k (by decide)).trans ((up2_k (by decide)).trans (up2_k (by decide)))) dX7_moves_33 ?_
          refine as_Mod_1 M hW 26 rfl (by decide) dX7_moves_34 (fun H locs hW => ?_)
          refine lv_iinc (v := 7) (lv' := [(2, .int 7), (1, .int (u 1 29)), (0, .ref (b 0))]) hx hb dX7_moves_35 hl (k := 0) rfl (by decide) (by decide) rfl (fun ls hl => ?_)
          refine lv_goto (tgt := 11) hx hb dX7_moves_38 (by decide) ?_
          refine lv_iload_n hx hb dX7_moves_11 rfl (lv_at hl 0 rfl) ?_
          refine lv_if_le (tgt := 41) hx hb dX7_moves_12 (by decide) (fun c_12_5 => ?_) (fun c_12_5 => ?_)
          · skip
            exact absurd c_12_5 (by decide)
          · skip
            refine lv_aload_n hx hb dX7_moves_15 rfl (lv_at hl 2 rfl) ?_
            refine gt_Mod_0_1 M hW kw_392 dX7_moves_16 ?_
            refine lv_bipush (v := 18) hx hb dX7_moves_19 (by decide) ?_
            refine lv_iload_n hx hb dX7_moves_21 rfl (lv_at hl 0 rfl) ?_
            refine lv_iadd hx hb dX7_moves_22 ?_
            refine r_top (y := 25) (by decide) ?_
            refine lv_aload_n hx hb dX7_moves_23 rfl (lv_at hl 2 rfl) ?_
            refine gt_Mod_0_1 M hW kw_392 dX7_moves_24 ?_
            refine lv_bipush (v := 18) hx hb dX7_moves_27 (by decide) ?_
            refine lv_iload_n hx hb dX7_moves_29 rfl (lv_at hl 0 rfl) ?_
            refine lv_iadd hx hb dX7_moves_30 ?_
            refine r_top (y := 25) (by decide) ?_
            refine lv_iconst (v := 1) hx hb dX7_moves_31 (by decide) ?_
            refine lv_isub hx hb dX7_moves_32 ?_
            refine r_top (y := 24) (by decide) ?_
            refine al_Mod_1 M hW 24 rfl (by decide) (x := u 1 24) ((up2_k (by decide)).trans ((up2_k (by decide)).trans ((up2_k (by decide)).trans (up2_k (by decide))))) dX7_moves_33 ?_
            refine as_Mod_1 M hW 25 rfl (by decide) dX7_moves_34 (fun H locs hW => ?_)
            refine lv_iinc (v := 6) (lv' := [(2, .int 6), (1, .int (u 1 29)), (0, .ref (b 0))]) hx hb dX7_moves_35 hl (k := 0) rfl (by decide) (by decide) rfl (fun ls hl => ?_)
            refine lv_goto (tgt := 11) hx hb dX7_moves_38 (by decide) ?_
            refine lv_iload_n hx hb dX7_moves_11 rfl (lv_at hl 0 rfl) ?_
            refine lv_if_le (tgt := 41) hx hb dX7_moves_12 (by decide) (fun c_12_6 => ?_) (fun c_12_6 => ?_)
            · skip
              exact absurd c_12_6 (by decide)
            · skip
              refine lv_aload_n hx hb dX7_moves_15 rfl (lv_at hl 2 rfl) ?_
              refine gt_Mod_0_1 M hW kw_392 dX7_moves_16 ?_
              refine lv_bipush (v := 18) hx hb dX7_moves_19 (by decide) ?_
              refine lv_iload_n hx hb dX7_moves_21 rfl (lv_at hl 0 rfl) ?_
              refine lv_iadd hx hb dX7_moves_22 ?_
              refine r_top (y := 24) (by decide) ?_
              refine lv_aload_n hx hb dX7_moves_23 rfl (lv_at hl 2 rfl) ?_
              refine gt_Mod_0_1 M hW kw_392 dX7_moves_24 ?_
              refine lv_bipush (v := 18) hx hb dX7_moves_27 (by decide) ?_
              refine lv_iload_n hx hb dX7_moves_29 rfl (lv_at hl 0 rfl) ?_
              refine lv_iadd hx hb dX7_moves_30 ?_
              refine r_top (y := 24) (by decide) ?_
              refine lv_iconst (v := 1) hx hb dX7_moves_31 (by decide) ?_
              refine lv_isub hx hb dX7_moves_32 ?_
              refine r_top (y := 23) (by decide) ?_
              refine al_Mod_1 M hW 23 rfl (by decide) (x := u 1 23) ((up2_k (by decide)).trans ((up2_k (by decide)).trans ((up2_k (by decide)).trans ((up2_k (by decide)).trans (up2_k (by decide)))))) dX7_moves_33 ?_
              refine as_Mod_1 M hW 24 rfl (by decide) dX7_moves_34 (fun H locs hW => ?_)
              refine lv_iinc (v := 5) (lv' := [(2, .int 5), (1, .int (u 1 29)), (0, .ref (b 0))]) hx hb dX7_moves_35 hl (k := 0) rfl (by decide) (by decide) rfl (fun ls hl => ?_)
              refine lv_goto (tgt := 11) hx hb dX7_moves_38 (by decide) ?_
              refine lv_iload_n hx hb dX7_moves_11 rfl (lv_at hl 0 rfl) ?_
              refine lv_if_le (tgt := 41) hx hb dX7_moves_12 (by decide) (fun c_12_7 => ?_) (fun c_12_7 => ?_)
              · skip
                exact absurd c_12_7 (by decide)
              · skip
                refine lv_aload_n hx hb dX7_moves_15 rfl (lv_at hl 2 rfl) ?_
                refine gt_Mod_0_1 M hW kw_392 dX7_moves_16 ?_
                refine lv_bipush (v := 18) hx hb dX7_moves_19 (by decide) ?_
                refine lv_iload_n hx hb dX7_moves_21 rfl (lv_at hl 0 rfl) ?_
                refine lv_iadd hx hb dX7_moves_22 ?_
                refine r_top (y := 23) (by decide) ?_
                refine lv_aload_n hx hb dX7_moves_23 rfl (lv_at hl 2 rfl) ?_
                refine gt_Mod_0_1 M hW kw_392 dX7_moves_24 ?_
                refine lv_bipush (v := 18) hx hb dX7_moves_27 (by decide) ?_
                refine lv_iload_n hx hb dX7_moves_29 rfl (lv_at hl 0 rfl) ?_
                refine lv_iadd hx hb dX7_moves_30 ?_
                refine r_top (y := 23) (by decide) ?_
                refine lv_iconst (v := 1) hx hb dX7_moves_31 (by decide) ?_
                refine lv_isub hx hb dX7_moves_32 ?_
                refine r_top (y := 22) (by decide) ?_
                refine al_Mod_1 M hW 22 rfl (by decide) (x := u 1 22) ((up2_k (by decide)).trans ((up2_k (by decide)).trans ((up2_k (by decide)).trans ((up2_k (by decide)).trans ((up2_k (by decide)).trans (up2_k (by decide))))))) dX7_moves_33 ?_
                refine as_Mod_1 M hW 23 rfl (by decide) dX7_moves_34 (fun H locs hW => ?_)
                refine lv_iinc (v := 4) (lv' := [(2, .int 4), (1, .int (u 1 29)), (0, .ref (b 0))]) hx hb dX7_moves_35 hl (k := 0) rfl (by decide) (by decide) rfl (fun ls hl => ?_)
                refine lv_goto (tgt := 11) hx hb dX7_moves_38 (by decide) ?_
                refine lv_iload_n hx hb dX7_moves_11 rfl (lv_at hl 0 rfl) ?_
                refine lv_if_le (tgt := 41) hx hb dX7_moves_12 (by decide) (fun c_12_8 => ?_) (fun c_12_8 => ?_)
                · skip
                  exact absurd c_12_8 (by decide)
                · skip
                  refine lv_aload_n hx hb dX7_moves_15 rfl (lv_at hl 2 rfl) ?_
                  refine gt_Mod_0_1 M hW kw_392 dX7_moves_16 ?_
                  refine lv_bipush (v := 18) hx hb dX7_moves_19 (by decide) ?_
                  refine lv_iload_n hx hb dX7_moves_21 rfl (lv_at hl 0 rfl) ?_
                  refine lv_iadd hx hb dX7_moves_22 ?_
                  refine r_top (y := 22) (by decide) ?_
                  refine lv_aload_n hx hb dX7_moves_23 rfl (lv_at hl 2 rfl) ?_
                  refine gt_Mod_0_1 M hW kw_392 dX7_moves_24 ?_
                  refine lv_bipush (v := 18) hx hb dX7_moves_27 (by decide) ?_
                  refine lv_iload_n hx hb dX7_moves_29 rfl (lv_at hl 0 rfl) ?_
                  refine lv_iadd hx hb dX7_moves_30 ?_
                  refine r_top (y := 22) (by decide) ?_
                  refine lv_iconst (v := 1) hx hb dX7_moves_31 (by decide) ?_
                  refine lv_isub hx hb dX7_moves_32 ?_
                  refine r_top (y := 21) (by decide) ?_
                  refine al_Mod_1 M hW 21 rfl (by decide) (x := u 1 21) ((up2_k (by decide)).trans ((up2_k (by decide)).trans ((up2_k (by decide)).trans ((up2_k (by decide)).trans ((up2_k (by decide)).trans ((up2_k (by decide)).trans (up2_k (by decide)))))))) dX7_moves_33 ?_
                  refine as_Mod_1 M hW 22 rfl (by decide) dX7_moves_34 (fun H locs hW => ?_)
                  refine lv_iinc (v := 3) (lv' := [(2, .int 3), (1, .int (u 1 29)), (0, .ref (b 0))]) hx hb dX7_moves_35 hl (k := 0) rfl (by decide) (by decide) rfl (fun ls hl => ?_)
                  refine lv_goto (tgt := 11) hx hb dX7_moves_38 (by decide) ?_
                  refine lv_iload_n hx hb dX7_moves_11 rfl (lv_at hl 0 rfl) ?_
                  refine lv_if_le (tgt := 41) hx hb dX7_moves_12 (by decide) (fun c_12_9 => ?_) (fun c_12_9 => ?_)
                  · skip
                    exact absurd c_12_9 (by decide)
                  · skip
                    refine lv_aload_n hx hb dX7_moves_15 rfl (lv_at hl 2 rfl) ?_
                    refine gt_Mod_0_1 M hW kw_392 dX7_moves_16 ?_
                    refine lv_bipush (v := 18) hx hb dX7_moves_19 (by decide) ?_
                    refine lv_iload_n hx hb dX7_moves_21 rfl (lv_at hl 0 rfl) ?_
                    refine lv_iadd hx hb dX7_moves_22 ?_
                    refine r_top (y := 21) (by decide) ?_
                    refine lv_aload_n hx hb dX7_moves_23 rfl (lv_at hl 2 rfl) ?_
                    refine gt_Mod_0_1 M hW kw_392 dX7_moves_24 ?_
                    refine lv_bipush (v := 18) hx hb dX7_moves_27 (by decide) ?_
                    refine lv_iload_n hx hb dX7_moves_29 rfl (lv_at hl 0 rfl) ?_
                    refine lv_iadd hx hb dX7_moves_30 ?_
                    refine r_top (y := 21) (by decide) ?_
                    refine lv_iconst (v := 1) hx hb dX7_moves_31 (by decide) ?_
                    refine lv_isub hx hb dX7_moves_32 ?_
                    refine r_top (y := 20) (by decide) ?_
                    refine al_Mod_1 M hW 20 rfl (by decide) (x := u 1 20) ((up2_k (by decide)).trans ((up2_k (by decide)).trans ((up2_k (by decide)).trans ((up2_k (by decide)).trans ((up2_k (by decide)).trans ((up2_k (by decide)).trans ((up2_k (by decide)).trans (up2_k (by decide))))))))) dX7_moves_33 ?_
                    refine as_Mod_1 M hW 21 rfl (by decide) dX7_moves_34 (fun H locs hW => ?_)
                    refine lv_iinc (v := 2) (lv' := [(2, .int 2), (1, .int (u 1 29)), (0, .ref (b 0))]) hx hb dX7_moves_35 hl (k := 0) rfl (by decide) (by decide) rfl (fun ls hl => ?_)
                    refine lv_goto (tgt := 11) hx hb dX7_moves_38 (by decide) ?_
                    refine lv_iload_n hx hb dX7_moves_11 rfl (lv_at hl 0 rfl) ?_
                    refine lv_if_le (tgt := 41) hx hb dX7_moves_12 (by decide) (fun c_12_10 => ?_) (fun c_12_10 => ?_)
                    · skip
                      exact absurd c_12_10 (by decide)
                    · skip
                      refine lv_aload_n hx hb dX7_moves_15 rfl (lv_at hl 2 rfl) ?_
                      refine gt_Mod_0_1 M hW kw_392 dX7_moves_16 ?_
                      refine lv_bipush (v := 18) hx hb dX7_moves_19 (by decide) ?_
                      refine lv_iload_n hx hb dX7_moves_21 rfl (lv_at hl 0 rfl) ?_
                      refine lv_iadd hx hb dX7_moves_22 ?_
                      refine r_top (y := 20) (by decide) ?_
                      refine lv_aload_n hx hb dX7_moves_23 rfl (lv_at hl 2 rfl) ?_
                      refine gt_Mod_0_1 M hW kw_392 dX7_moves_24 ?_
                      refine lv_bipush (v := 18) hx hb dX7_moves_27 (by decide) ?_
                      refine lv_iload_n hx hb dX7_moves_29 rfl (lv_at hl 0 rfl) ?_
                      refine lv_iadd hx hb dX7_moves_30 ?_
                      refine r_top (y := 20) (by decide) ?_
                      refine lv_iconst (v := 1) hx hb dX7_moves_31 (by decide) ?_
                      refine lv_isub hx hb dX7_moves_32 ?_
                      refine r_top (y := 19) (by decide) ?_
                      refine al_Mod_1 M hW 19 rfl (by decide) (x := u 1 19) ((up2_k (by decide)).trans ((up2_k (by decide)).trans ((up2_k (by decide)).trans ((up2_k (by decide)).trans ((up2_k (by decide)).trans ((up2_k (by decide)).trans ((up2_k (by decide)).trans ((up2_k (by decide)).trans (up2_k (by decide)))))))))) dX7_moves_33 ?_
                      refine as_Mod_1 M hW 20 rfl (by decide) dX7_moves_34 (fun H locs hW => ?_)
                      refine lv_iinc (v := 1) (lv' := [(2, .int 1), (1, .int (u 1 29)), (0, .ref (b 0))]) hx hb dX7_moves_35 hl (k := 0) rfl (by decide) (by decide) rfl (fun ls hl => ?_)
                      refine lv_goto (tgt := 11) hx hb dX7_moves_38 (by decide) ?_
                      refine lv_iload_n hx hb dX7_moves_11 rfl (lv_at hl 0 rfl) ?_
                      refine lv_if_le (tgt := 41) hx hb dX7_moves_12 (by decide) (fun c_12_11 => ?_) (fun c_12_11 => ?_)
                      · skip
                        exact absurd c_12_11 (by decide)
                      · skip
                        refine lv_aload_n hx hb dX7_moves_15 rfl (lv_at hl 2 rfl) ?_
                        refine gt_Mod_0_1 M hW kw_392 dX7_moves_16 ?_
                        refine lv_bipush (v := 18) hx hb dX7_moves_19 (by decide) ?_
                        refine lv_iload_n hx hb dX7_moves_21 rfl (lv_at hl 0 rfl) ?_
                        refine lv_iadd hx hb dX7_moves_22 ?_
                        refine r_top (y := 19) (by decide) ?_
                        refine lv_aload_n hx hb dX7_moves_23 rfl (lv_at hl 2 rfl) ?_
                        refine gt_Mod_0_1 M hW kw_392 dX7_moves_24 ?_
                        refine lv_bipush (v := 18) hx hb dX7_moves_27 (by decide) ?_
                        refine lv_iload_n hx hb dX7_moves_29 rfl (lv_at hl 0 rfl) ?_
                        refine lv_iadd hx hb dX7_moves_30 ?_
                        refine r_top (y := 19) (by decide) ?_
                        refine lv_iconst (v := 1) hx hb dX7_moves_31 (by decide) ?_
                        refine lv_isub hx hb dX7_moves_32 ?_
                        refine r_top (y := 18) (by decide) ?_
                        refine al_Mod_1 M hW 18 rfl (by decide) (x := u 1 18) ((up2_k (by decide)).trans ((up2_k (by decide)).trans ((up2_k (by decide)).trans ((up2_k (by decide)).trans ((up2_k (by decide)).trans ((up2_k (by decide)).trans ((up2_k (by decide)).trans ((up2_k (by decide)).trans ((up2_k (by decide)).trans (up2_k (by decide))))))))))) dX7_moves_33 ?_
                        refine as_Mod_1 M hW 19 rfl (by decide) dX7_moves_34 (fun H locs hW => ?_)
                        refine lv_iinc (v := 0) (lv' := [(2, .int 0), (1, .int (u 1 29)), (0, .ref (b 0))]) hx hb dX7_moves_35 hl (k := 0) rfl (by decide) (by decide) rfl (fun ls hl => ?_)
                        refine lv_goto (tgt := 11) hx hb dX7_moves_38 (by decide) ?_
                        refine lv_iload_n hx hb dX7_moves_11 rfl (lv_at hl 0 rfl) ?_
                        refine lv_if_le (tgt := 41) hx hb dX7_moves_12 (by decide) (fun c_12_12 => ?_) (fun c_12_12 => ?_)
                        · skip
                          refine lv_aload_n hx hb dX7_moves_41 rfl (lv_at hl 2 rfl) ?_
                          refine gt_Mod_0_1 M hW kw_392 dX7_moves_42 ?_
                          refine lv_bipush (v := 18) hx hb dX7_moves_45 (by decide) ?_
                          refine lv_iload_n hx hb dX7_moves_47 rfl (lv_at hl 1 rfl) ?_
                          refine as_Mod_1 M hW 18 rfl (by decide) dX7_moves_48 (fun H locs hW => ?_)
                          refine lv_aload_n hx hb dX7_moves_49 rfl (lv_at hl 2 rfl) ?_
                          refine gt_Mod_0_1 M hW kw_392 dX7_moves_50 ?_
                          refine lv_bipush (v := 24) hx hb dX7_moves_53 (by decide) ?_
                          refine al_Mod_1 M hW 24 rfl (by decide) (x := u 1 23) ((up2_k (by decide)).trans ((up2_k (by decide)).trans ((up2_k (by decide)).trans ((up2_k (by decide)).trans ((up2_k (by decide)).trans ((up2_k (by decide)).trans up2_s)))))) dX7_moves_55 ?_
                          refine lv_istore_n (lv' := [(2, .int (u 1 23)), (1, .int (u 1 29)), (0, .ref (b 0))]) hx hb dX7_moves_56 rfl hl (by decide) rfl (fun ls hl => ?_)
                          refine lv_aload_n hx hb dX7_moves_57 rfl (lv_at hl 2 rfl) ?_
                          refine gt_Mod_0_1 M hW kw_392 dX7_moves_58 ?_
                          refine lv_bipush (v := 12) hx hb dX7_moves_61 (by decide) ?_
                          refine al_Mod_1 M hW 12 rfl (by decide) (x := u 1 12) ((up2_k (by decide)).trans ((up2_k (by decide)).trans ((up2_k (by decide)).trans ((up2_k (by decide)).trans ((up2_k (by decide)).trans ((up2_k (by decide)).trans ((up2_k (by decide)).trans ((up2_k (by decide)).trans ((up2_k (by decide)).trans ((up2_k (by decide)).trans ((up2_k (by decide)).trans (up2_k (by decide))))))))))))) dX7_moves_63 ?_
                          refine lv_iconst (v := 2) hx hb dX7_moves_64 (by decide) ?_
                          refine r_cuti (pc2 := 75) (ls2 := ls) (st := []) (movesF u) (fun x_75 hx_75 => ?_) (fun hJ_75 => ?_)
                          · skip
                            subst hx_75
                            refine lv_istore_n (lv' := [(3, .int (movesF u)), (2, .int (u 1 23)), (1, .int (u 1 29)), (0, .ref (b 0))]) hx hb dX7_moves_75 rfl hl (by decide) rfl (fun ls hl => ?_)
                            refine lv_aload_n hx hb dX7_moves_76 rfl (lv_at hl 3 rfl) ?_
                            refine gt_Mod_0_1 M hW kw_392 dX7_moves_77 ?_
                            refine lv_bipush (v := 24) hx hb dX7_moves_80 (by decide) ?_
                            refine lv_iconst (v := 0) hx hb dX7_moves_82 (by decide) ?_
                            refine as_Mod_1 M hW 24 rfl (by decide) dX7_moves_83 (fun H locs hW => ?_)
                            refine lv_aload_n hx hb dX7_moves_84 rfl (lv_at hl 3 rfl) ?_
                            refine gt_Mod_0_1 M hW kw_392 dX7_moves_85 ?_
                            refine lv_bipush (v := 6) hx hb dX7_moves_88 (by decide) ?_
                            refine lv_dup2_11 hx hb dX7_moves_90 rfl rfl ?_
                            refine al_Mod_1 M hW 6 rfl (by decide) (x := u 1 6) ((up2_k (by decide)).trans ((up2_k (by decide)).trans ((up2_k (by decide)).trans ((up2_k (by decide)).trans ((up2_k (by decide)).trans ((up2_k (by decide)).trans ((up2_k (by decide)).trans ((up2_k (by decide)).trans ((up2_k (by decide)).trans ((up2_k (by decide)).trans ((up2_k (by decide)).trans ((up2_k (by decide)).trans (up2_k (by decide)))))))))))))) dX7_moves_91 ?_
                            refine lv_iload_n hx hb dX7_moves_92 rfl (lv_at hl 1 rfl) ?_
                            refine lv_iload_n hx hb dX7_moves_93 rfl (lv_at hl 0 rfl) ?_
                            refine lv_isub hx hb dX7_moves_94 ?_
                            refine lv_iadd hx hb dX7_moves_95 ?_
                            refine as_Mod_1 M hW 6 rfl (by decide) dX7_moves_96 (fun H locs hW => ?_)
                            refine lv_aload_n hx hb dX7_moves_97 rfl (lv_at hl 3 rfl) ?_
                            refine gt_Mod_0_1 M hW kw_392 dX7_moves_98 ?_
                            refine lv_bipush (v := 10) hx hb dX7_moves_101 (by decide) ?_
                            refine lv_dup2_11 hx hb dX7_moves_103 rfl rfl ?_
                            refine al_Mod_1 M hW 10 rfl (by decide) (x := u 1 10) ((up2_k (by decide)).trans ((up2_k (by decide)).trans ((up2_k (by decide)).trans ((up2_k (by decide)).trans ((up2_k (by decide)).trans ((up2_k (by decide)).trans ((up2_k (by decide)).trans ((up2_k (by decide)).trans ((up2_k (by decide)).trans ((up2_k (by decide)).trans ((up2_k (by decide)).trans ((up2_k (by decide)).trans ((up2_k (by decide)).trans (up2_k (by decide))))))))))))))) dX7_moves_104 ?_
                            refine lv_iload_n hx hb dX7_moves_105 rfl (lv_at hl 0 rfl) ?_
                            refine lv_iadd hx hb dX7_moves_106 ?_
                            refine as_Mod_1 M hW 10 rfl (by decide) dX7_moves_107 (fun H locs hW => ?_)
                            have hW : Wd G s (ModW G b (movesA u) ++ Y) _ _ := hW
                            refine lv_aload_n hx hb dX7_moves_108 rfl (lv_at hl 3 rfl) ?_
                            refine lv_iload_n hx hb dX7_moves_109 rfl (lv_at hl 0 rfl) ?_
                            refine r_callVv M hW (c_X7_comes l G b (movesA u) (movesF u) (Y)) rfl kw_409 kw_410 kw_411 kw_412 kw_407 pl_X7_comes 0 rfl rfl ⟨by decide, by decide⟩ ⟨Nat.zero_le _, Nat.zero_le _⟩ hl.1 rfl (Nat.le_of_ble_eq_true rfl) dX7_moves_110 (fun H locs hW => ?_)
                            have hW : Wd G s (ModW G b (movesB u) ++ Y) _ _ := hW
                            refine lv_aload_n hx hb dX7_moves_113 rfl (lv_at hl 3 rfl) ?_
                            refine gt_Mod_0_1 M hW kw_392 dX7_moves_114 ?_
                            refine lv_iconst (v := 3) hx hb dX7_moves_117 (by decide) ?_
                            refine al_Mod_1 M hW 3 rfl (by decide) (x := (movesB u) 1 3) rfl dX7_moves_118 ?_
                            refine lv_aload_n hx hb dX7_moves_119 rfl (lv_at hl 3 rfl) ?_
                            refine gt_Mod_0_1 M hW kw_392 dX7_moves_120 ?_
                            refine lv_bipush (v := 18) hx hb dX7_moves_123 (by decide) ?_
                            refine al_Mod_1 M hW 18 rfl (by decide) (x := (movesB u) 1 18) rfl dX7_moves_125 ?_
                            refine lv_isub hx hb dX7_moves_126 ?_
                            refine lv_istore (lv' := [(4, .int (((movesB u) 1 3) - ((movesB u) 1 18))), (3, .int (movesF u)), (2, .int (u 1 23)), (1, .int (u 1 29)), (0, .ref (b 0))]) hx hb dX7_moves_127 hl (by decide) rfl (fun ls hl => ?_)
                            refine lv_iload hx hb dX7_moves_129 (lv_at hl 0 rfl) ?_
                            refine r_cuti (pc2 := 160) (ls2 := ls) (st := []) (if 0 ≤ (((movesB u) 1 3) - ((movesB u) 1 18)) then (if ((movesB u) 1 5) ≤ (((movesB u) 1 3) - ((movesB u) 1 18)) then (movesB u) 1 5 else ((movesB u) 1 3) - ((movesB u) 1 18)) else 0) (fun x_160 hx_160 => ?_) (fun hJ_160 => ?_)
                            · skip
                              subst hx_160
                              refine lv_istore (lv' := [(5, .int (if 0 ≤ (((movesB u) 1 3) - ((movesB u) 1 18)) then (if ((movesB u) 1 5) ≤ (((movesB u) 1 3) - ((movesB u) 1 18)) then (movesB u) 1 5 else ((movesB u) 1 3) - ((movesB u) 1 18)) else 0)), (4, .int (((movesB u) 1 3) - ((movesB u) 1 18))), (3, .int (movesF u)), (2, .int (u 1 23)), (1, .int (u 1 29)), (0, .ref (b 0))]) hx hb dX7_moves_160 hl (by decide) rfl (fun ls hl => ?_)
                              refine lv_aload_n hx hb dX7_moves_162 rfl (lv_at hl 5 rfl) ?_
                              refine gt_Mod_0_1 M hW kw_392 dX7_moves_163 ?_
                              refine lv_bipush (v := 18) hx hb dX7_moves_166 (by decide) ?_
                              refine lv_dup2_11 hx hb dX7_moves_168 rfl rfl ?_
                              refine al_Mod_1 M hW 18 rfl (by decide) (x := (movesB u) 1 18) rfl dX7_moves_169 ?_
                              refine lv_iload hx hb dX7_moves_170 (lv_at hl 0 rfl) ?_
                              refine lv_iadd hx hb dX7_moves_172 ?_
                              refine as_Mod_1 M hW 18 rfl (by decide) dX7_moves_173 (fun H locs hW => ?_)
                              refine lv_aload_n hx hb dX7_moves_174 rfl (lv_at hl 5 rfl) ?_
                              refine gt_Mod_0_1 M hW kw_392 dX7_moves_175 ?_
                              refine lv_iconst (v := 5) hx hb dX7_moves_178 (by decide) ?_
                              refine lv_dup2_11 hx hb dX7_moves_179 rfl rfl ?_
                              refine al_Mod_1 M hW 5 rfl (by decide) (x := (movesB u) 1 5) (up2_k (by decide)) dX7_moves_180 ?_
                              refine lv_iload hx hb dX7_moves_181 (lv_at hl 0 rfl) ?_
                              refine lv_isub hx hb dX7_moves_183 ?_
                              refine as_Mod_1 M hW 5 rfl (by decide) dX7_moves_184 (fun H locs hW => ?_)
                              exact r_retv M hW (by rw [sX7_moves]) ⟨rfl, rfl⟩ (Nat.zero_le _) (Nat.zero_le _) dX7_moves_185
                            · skip
                              refine lv_if_ge (tgt := 138) hx hb dX7_moves_131 (by decide) (fun c_131 => ?_) (fun c_131 => ?_)
                              · skip
                                refine lv_iload hx hb dX7_moves_138 (lv_at hl 0 rfl) ?_
                                refine lv_aload_n hx hb dX7_moves_140 rfl (lv_at hl 4 rfl) ?_
                                refine gt_Mod_0_1 M hW kw_392 dX7_moves_141 ?_
                                refine lv_iconst (v := 5) hx hb dX7_moves_144 (by decide) ?_
                                refine al_Mod_1 M hW 5 rfl (by decide) (x := (movesB u) 1 5) rfl dX7_moves_145 ?_
                                refine lv_icmp_ge (tgt := 154) hx hb dX7_moves_146 (by decide) (fun c_146 => ?_) (fun c_146 => ?_)
                                · skip
                                  refine lv_aload_n hx hb dX7_moves_154 rfl (lv_at hl 4 rfl) ?_
                                  refine gt_Mod_0_1 M hW kw_392 dX7_moves_155 ?_
                                  refine lv_iconst (v := 5) hx hb dX7_moves_158 (by decide) ?_
                                  refine al_Mod_1 M hW 5 rfl (by decide) (x := (movesB u) 1 5) rfl dX7_moves_159 ?_
                                  exact hJ_160 _ (by rw [if_pos c_131, if_pos c_146])
                                · skip
                                  refine lv_iload hx hb dX7_moves_149 (lv_at hl 0 rfl) ?_
                                  refine lv_goto (tgt := 160) hx hb dX7_moves_151 (by decide) ?_
                                  exact hJ_160 _ (by rw [if_pos c_131, if_neg c_146])
                              · skip
                                refine lv_iconst (v := 0) hx hb dX7_moves_134 (by decide) ?_
                                refine lv_goto (tgt := 160) hx hb dX7_moves_135 (by decide) ?_
                                exact hJ_160 _ (by rw [if_neg c_131])
                          · skip
                            refine lv_icmp_lt (tgt := 72) hx hb dX7_moves_65 (by decide) (fun c_65 => ?_) (fun c_65 => ?_)
                            · skip
                              refine lv_iload_n hx hb dX7_moves_72 rfl (lv_at hl 0 rfl) ?_
                              refine lv_iconst (v := 2) hx hb dX7_moves_73 (by decide) ?_
                              refine lv_idiv hx hb dX7_moves_74 (by decide) ?_
                              exact hJ_75 _ (by rw [movesF, if_pos c_65])
                            · skip
                              refine lv_iconst (v := 0) hx hb dX7_moves_68 (by decide) ?_
                              refine lv_goto (tgt := 75) hx hb dX7_moves_69 (by decide) ?_
                              exact hJ_75 _ (by rw [movesF, if_neg c_65])
                        · skip
                          exact absurd c_12_12 (by decide)

def rX7_beyond (u : Nat → Nat → Int32) : Int32 := if (if 0 ≤ (u 1 4) then u 1 4 else -(u 1 4)) ≤ 3 then 0 else (if 0 ≤ (u 1 4) then u 1 4 else -(u 1 4)) - 3
set_option maxHeartbeats 4000000 in
set_option maxRecDepth 100000 in
/-- X7.beyond -/
theorem c_X7_beyond (l : Launch) (G : Gp) (b : Nat → Nat) (u : Nat → Nat → Int32) (Y : va_W) : Cn l G yX7_beyond cX7_beyond 2 (some .int) 0 [.ref (b 0)] (ModW G b u ++ Y) (some (.int (rX7_beyond u))) (ModW G b u ++ Y) := by
  refine CnE.of (by decide) (Nat.le_of_ble_eq_true rfl) ?_
  intro p e s m below meth c ls M hnm hl hW
  have hx := M.1
  have hb := M.2.1
  have hl : lv_has ls 2 [(0, .ref (b 0))] := hl
  refine lv_aload_n hx hb dX7_beyond_0 rfl (lv_at hl 0 rfl) ?_
  refine gt_Mod_0_1 M hW kw_392 dX7_beyond_1 ?_
  refine lv_iconst (v := 4) hx hb dX7_beyond_4 (by decide) ?_
  refine al_Mod_1 M hW 4 rfl (by decide) (x := u 1 4) rfl dX7_beyond_5 ?_
  refine r_cuti (pc2 := 25) (ls2 := ls) (st := []) (if 0 ≤ (u 1 4) then u 1 4 else -(u 1 4)) (fun x_25 hx_25 => ?_) (fun hJ_25 => ?_)
  · skip
    subst hx_25
    refine lv_istore_n (lv' := [(1, .int (if 0 ≤ (u 1 4) then u 1 4 else -(u 1 4))), (0, .ref (b 0))]) hx hb dX7_beyond_25 rfl hl (by decide) rfl (fun ls hl => ?_)
    refine lv_iload_n hx hb dX7_beyond_26 rfl (lv_at hl 0 rfl) ?_
    refine lv_iconst (v := 3) hx hb dX7_beyond_27 (by decide) ?_
    refine lv_icmp_le (tgt := 37) hx hb dX7_beyond_28 (by decide) (fun c_28 => ?_) (fun c_28 => ?_)
    · skip
      refine lv_iconst (v := 0) hx hb dX7_beyond_37 (by decide) ?_
      exact r_reti M hW rfl ⟨by rw [rX7_beyond, if_pos c_28], rfl⟩ (Nat.zero_le _) (Nat.zero_le _) dX7_beyond_38
    · skip
      refine lv_iload_n hx hb dX7_beyond_31 rfl (lv_at hl 0 rfl) ?_
      refine lv_iconst (v := 3) hx hb dX7_beyond_32 (by decide) ?_
      refine lv_isub hx hb dX7_beyond_33 ?_
      refine lv_goto (tgt := 38) hx hb dX7_beyond_34 (by decide) ?_
      exact r_reti M hW rfl ⟨by rw [rX7_beyond, if_neg c_28], rfl⟩ (Nat.zero_le _) (Nat.zero_le _) dX7_beyond_38
  · skip
    refine lv_if_ge (tgt := 19) hx hb dX7_beyond_6 (by decide) (fun c_6 => ?_) (fun c_6 => ?_)
    · skip
      refine lv_aload_n hx hb dX7_beyond_19 rfl (lv_at hl 0 rfl) ?_
      refine gt_Mod_0_1 M hW kw_392 dX7_beyond_20 ?_
      refine lv_iconst (v := 4) hx hb dX7_beyond_23 (by decide) ?_
      refine al_Mod_1 M hW 4 rfl (by decide) (x := u 1 4) rfl dX7_beyond_24 ?_
      exact hJ_25 _ (by rw [if_pos c_6])
    · skip
      refine lv_aload_n hx hb dX7_beyond_9 rfl (lv_at hl 0 rfl) ?_
      refine gt_Mod_0_1 M hW kw_392 dX7_beyond_10 ?_
      refine lv_iconst (v := 4) hx hb dX7_beyond_13 (by decide) ?_
      refine al_Mod_1 M hW 4 rfl (by decide) (x := u 1 4) rfl dX7_beyond_14 ?_
      refine lv_ineg hx hb dX7_beyond_15 ?_
      refine lv_goto (tgt := 25) hx hb dX7_beyond_16 (by decide) ?_
      exact hJ_25 _ (by rw [if_neg c_6])

def rX7_seesTooMuch (u : Nat → Nat → Int32) (x : Int32) : Int32 := if x = 0 then (if (u 1 11) ≤ 20 then 0 else 1) else if x = 1 then (if (u 1 5) < 250 then 0 else 1) else if (u 1 13) < 100 then 0 else 1
set_option maxHeartbeats 4000000 in
set_option maxRecDepth 100000 in
/-- X7.seesTooMuch -/
theorem c_X7_seesTooMuch (l : Launch) (G : Gp) (b : Nat → Nat) (u : Nat → Nat → Int32) (x : Int32) (Y : va_W) : Cn l G yX7_seesTooMuch cX7_seesTooMuch 2 (some .boolean) 0 [.ref (b 0), .int x] (ModW G b u ++ Y) (some (.int (rX7_seesTooMuch u x))) (ModW G b u ++ Y) := by
  refine CnE.of (by decide) (Nat.le_of_ble_eq_true rfl) ?_
  intro p e s m below meth c ls M hnm hl hW
  have hx := M.1
  have hb := M.2.1
  have hl : lv_has ls 2 [(0, .ref (b 0)), (1, .int x)] := hl
  refine lv_iload_n hx hb dX7_seesTooMuch_0 rfl (lv_at hl 1 rfl) ?_
  refine lv_if_ne (tgt := 24) hx hb dX7_seesTooMuch_1 (by decide) (fun c_1 => ?_) (fun c_1 => ?_)
  · skip
    refine lv_iload_n hx hb dX7_seesTooMuch_24 rfl (lv_at hl 1 rfl) ?_
    refine lv_iconst (v := 1) hx hb dX7_seesTooMuch_25 (by decide) ?_
    refine lv_icmp_ne (tgt := 49) hx hb dX7_seesTooMuch_26 (by decide) (fun c_26 => ?_) (fun c_26 => ?_)
    · skip
      refine lv_aload_n hx hb dX7_seesTooMuch_49 rfl (lv_at hl 0 rfl) ?_
      refine gt_Mod_0_1 M hW kw_392 dX7_seesTooMuch_50 ?_
      refine lv_bipush (v := 13) hx hb dX7_seesTooMuch_53 (by decide) ?_
      refine al_Mod_1 M hW 13 rfl (by decide) (x := u 1 13) rfl dX7_seesTooMuch_55 ?_
      refine lv_bipush (v := 100) hx hb dX7_seesTooMuch_56 (by decide) ?_
      refine lv_icmp_lt (tgt := 65) hx hb dX7_seesTooMuch_58 (by decide) (fun c_58 => ?_) (fun c_58 => ?_)
      · skip
        refine lv_iconst (v := 0) hx hb dX7_seesTooMuch_65 (by decide) ?_
        exact r_retz M rfl hW rfl ⟨by rw [rX7_seesTooMuch, if_neg c_1, if_neg c_26, if_pos c_58], rfl⟩ (Nat.zero_le _) (Nat.zero_le _) dX7_seesTooMuch_66
      · skip
        refine lv_iconst (v := 1) hx hb dX7_seesTooMuch_61 (by decide) ?_
        refine lv_goto (tgt := 66) hx hb dX7_seesTooMuch_62 (by decide) ?_
        exact r_retz M rfl hW rfl ⟨by rw [rX7_seesTooMuch, if_neg c_1, if_neg c_26, if_neg c_58], rfl⟩ (Nat.zero_le _) (Nat.zero_le _) dX7_seesTooMuch_66
    · skip
      refine lv_aload_n hx hb dX7_seesTooMuch_29 rfl (lv_at hl 0 rfl) ?_
      refine gt_Mod_0_1 M hW kw_392 dX7_seesTooMuch_30 ?_
      refine lv_iconst (v := 5) hx hb dX7_seesTooMuch_33 (by decide) ?_
      refine al_Mod_1 M hW 5 rfl (by decide) (x := u 1 5) rfl dX7_seesTooMuch_34 ?_
      refine lv_sipush (v := 250) hx hb dX7_seesTooMuch_35 (by decide) ?_
      refine lv_icmp_lt (tgt := 45) hx hb dX7_seesTooMuch_38 (by decide) (fun c_38 => ?_) (fun c_38 => ?_)
      · skip
        refine lv_iconst (v := 0) hx hb dX7_seesTooMuch_45 (by decide) ?_
        refine lv_goto (tgt := 66) hx hb dX7_seesTooMuch_46 (by decide) ?_
        exact r_retz M rfl hW rfl ⟨by rw [rX7_seesTooMuch, if_neg c_1, if_pos c_26, if_pos c_38], rfl⟩ (Nat.zero_le _) (Nat.zero_le _) dX7_seesTooMuch_66
      · skip
        refine lv_iconst (v := 1) hx hb dX7_seesTooMuch_41 (by decide) ?_
        refine lv_goto (tgt := 66) hx hb dX7_seesTooMuch_42 (by decide) ?_
        exact r_retz M rfl hW rfl ⟨by rw [rX7_seesTooMuch, if_neg c_1, if_pos c_26, if_neg c_38], rfl⟩ (Nat.zero_le _) (Nat.zero_le _) dX7_seesTooMuch_66
  · skip
    refine lv_aload_n hx hb dX7_seesTooMuch_4 rfl (lv_at hl 0 rfl) ?_
    refine gt_Mod_0_1 M hW kw_392 dX7_seesTooMuch_5 ?_
    refine lv_bipush (v := 11) hx hb dX7_seesTooMuch_8 (by decide) ?_
    refine al_Mod_1 M hW 11 rfl (by decide) (x := u 1 11) rfl dX7_seesTooMuch_10 ?_
    refine lv_bipush (v := 20) hx hb dX7_seesTooMuch_11 (by decide) ?_
    refine lv_icmp_le (tgt := 20) hx hb dX7_seesTooMuch_13 (by decide) (fun c_13 => ?_) (fun c_13 => ?_)
    · skip
      refine lv_iconst (v := 0) hx hb dX7_seesTooMuch_20 (by decide) ?_
      refine lv_goto (tgt := 66) hx hb dX7_seesTooMuch_21 (by decide) ?_
      exact r_retz M rfl hW rfl ⟨by rw [rX7_seesTooMuch, if_pos c_1, if_pos c_13], rfl⟩ (Nat.zero_le _) (Nat.zero_le _) dX7_seesTooMuch_66
    · skip
      refine lv_iconst (v := 1) hx hb dX7_seesTooMuch_16 (by decide) ?_
      refine lv_goto (tgt := 66) hx hb dX7_seesTooMuch_17 (by decide) ?_
      exact r_retz M rfl hW rfl ⟨by rw [rX7_seesTooMuch, if_pos c_1, if_neg c_13], rfl⟩ (Nat.zero_le _) (Nat.zero_le _) dX7_seesTooMuch_66
end
section
def tripsA (u : Nat → Nat → Int32) (x : Int32) : Nat → Nat → Int32 := up2 (up2 (up2 (up2 u 1 14 0) 1 15 0) 1 16 (x + 1)) 1 (33 + x.toNatClampNeg) (((up2 (up2 (up2 u 1 14 0) 1 15 0) 1 16 (x + 1)) 1 (33 + x.toNatClampNeg)) + 1)
def sX7_trips (u : Nat → Nat → Int32) (x : Int32) : Nat → Nat → Int32 := up2 (up2 (up2 (up2 (up2 (up2 (up2 (up2 (up2 (up2 (up2 (up2 (up2 (up2 (up2 (up2 (up2 (up2 (up2 (tripsA u x) 1 54 ((tripsA u x) 1 51)) 1 53 ((tripsA u x) 1 50)) 1 52 ((tripsA u x) 1 49)) 1 51 ((tripsA u x) 1 48)) 1 50 ((tripsA u x) 1 47)) 1 49 ((tripsA u x) 1 46)) 1 48 ((tripsA u x) 1 45)) 1 47 ((tripsA u x) 1 44)) 1 46 ((tripsA u x) 1 43)) 1 45 ((tripsA u x) 1 42)) 1 44 ((tripsA u x) 1 41)) 1 43 ((tripsA u x) 1 40)) 1 42 ((tripsA u x) 1 39)) 1 41 ((tripsA u x) 1 38)) 1 40 ((tripsA u x) 1 37)) 1 37 (((tripsA u x) 1 17) + 1)) 1 38 x) 1 39 (rX7_load (up2 (up2 (up2 (up2 (up2 (up2 (up2 (up2 (up2 (up2 (up2 (up2 (up2 (up2 (up2 (up2 (up2 (tripsA u x) 1 54 ((tripsA u x) 1 51)) 1 53 ((tripsA u x) 1 50)) 1 52 ((tripsA u x) 1 49)) 1 51 ((tripsA u x) 1 48)) 1 50 ((tripsA u x) 1 47)) 1 49 ((tripsA u x) 1 46)) 1 48 ((tripsA u x) 1 45)) 1 47 ((tripsA u x) 1 44)) 1 46 ((tripsA u x) 1 43)) 1 45 ((tripsA u x) 1 42)) 1 44 ((tripsA u x) 1 41)) 1 43 ((tripsA u x) 1 40)) 1 42 ((tripsA u x) 1 39)) 1 41 ((tripsA u x) 1 38)) 1 40 ((tripsA u x) 1 37)) 1 37 (((tripsA u x) 1 17) + 1)) 1 38 x))) 1 36 (((tripsA u x) 1 36) + (if 6 ≤ ((tripsA u x) 1 36) then 0 else 1))
set_option maxHeartbeats 4000000 in
set_option maxRecDepth 100000 in
/-- X7.trips -/
theorem c_X7_trips (l : Launch) (G : Gp) (b : Nat → Nat) (u : Nat → Nat → Int32) (x : Int32) (Y : va_W) (hxn : x = nI x.toNatClampNeg ∧ x.toNatClampNeg ≤ 2) : Cn l G yX7_trips cX7_trips 3 none 1 [.ref (b 0), .int x] (ModW G b u ++ Y) none (ModW G b (sX7_trips u x) ++ Y) := by
  refine CnE.of (by decide) (Nat.le_of_ble_eq_true rfl) ?_
  intro p e s m below meth c ls M hnm hl hW
  have hx := M.1
  have hb := M.2.1
  have hl : lv_has ls 3 [(0, .ref (b 0)), (1, .int x)] := hl
  refine lv_aload_n hx hb dX7_trips_0 rfl (lv_at hl 0 rfl) ?_
  refine gt_Mod_0_1 M hW kw_392 dX7_trips_1 ?_
  refine lv_bipush (v := 14) hx hb dX7_trips_4 (by decide) ?_
  refine lv_iconst (v := 0) hx hb dX7_trips_6 (by decide) ?_
  refine as_Mod_1 M hW 14 rfl (by decide) dX7_trips_7 (fun H locs hW => ?_)
  refine lv_aload_n hx hb dX7_trips_8 rfl (lv_at hl 0 rfl) ?_
  refine gt_Mod_0_1 M hW kw_392 dX7_trips_9 ?_
  refine lv_bipush (v := 15) hx hb dX7_trips_12 (by decide) ?_
  refine lv_iconst (v := 0) hx hb dX7_trips_14 (by decide) ?_
  refine as_Mod_1 M hW 15 rfl (by decide) dX7_trips_15 (fun H locs hW => ?_)
  refine lv_aload_n hx hb dX7_trips_16 rfl (lv_at hl 0 rfl) ?_
  refine gt_Mod_0_1 M hW kw_392 dX7_trips_17 ?_
  refine lv_bipush (v := 16) hx hb dX7_trips_20 (by decide) ?_
  refine lv_iload_n hx hb dX7_trips_22 rfl (lv_at hl 1 rfl) ?_
  refine lv_iconst (v := 1) hx hb dX7_trips_23 (by decide) ?_
  refine lv_iadd hx hb dX7_trips_24 ?_
  refine as_Mod_1 M hW 16 rfl (by decide) dX7_trips_25 (fun H locs hW => ?_)
  refine lv_aload_n hx hb dX7_trips_26 rfl (lv_at hl 0 rfl) ?_
  refine gt_Mod_0_1 M hW kw_392 dX7_trips_27 ?_
  refine lv_bipush (v := 33) hx hb dX7_trips_30 (by decide) ?_
  refine lv_iload_n hx hb dX7_trips_32 rfl (lv_at hl 1 rfl) ?_
  refine lv_iadd hx hb dX7_trips_33 ?_
  refine r_top (y := nI (33 + x.toNatClampNeg)) (nI_addl 33 hxn.1) ?_
  refine lv_dup2_11 hx hb dX7_trips_34 rfl rfl ?_
  refine al_Mod_1 M hW (33 + x.toNatClampNeg) rfl (by omega) (x := (up2 (up2 (up2 u 1 14 0) 1 15 0) 1 16 (x + 1)) 1 (33 + x.toNatClampNeg)) rfl dX7_trips_35 ?_
  refine lv_iconst (v := 1) hx hb dX7_trips_36 (by decide) ?_
  refine lv_iadd hx hb dX7_trips_37 ?_
  refine as_Mod_1 M hW (33 + x.toNatClampNeg) rfl (by omega) dX7_trips_38 (fun H locs hW => ?_)
  have hW : Wd G s (ModW G b (tripsA u x) ++ Y) _ _ := hW
  refine lv_bipush (v := 17) hx hb dX7_trips_39 (by decide) ?_
  refine lv_istore_n (lv' := [(2, .int 17), (0, .ref (b 0)), (1, .int x)]) hx hb dX7_trips_41 rfl hl (by decide) rfl (fun ls hl => ?_)
  refine lv_iload_n hx hb dX7_trips_42 rfl (lv_at hl 0 rfl) ?_
  refine lv_iconst (v := 3) hx hb dX7_trips_43 (by decide) ?_
  refine lv_icmp_lt (tgt := 73) hx hb dX7_trips_44 (by decide) (fun c_44 => ?_) (fun c_44 => ?_)
  · skip
    exact absurd c_44 (by decide)
  · skip
    refine lv_aload_n hx hb dX7_trips_47 rfl (lv_at hl 1 rfl) ?_
    refine gt_Mod_0_1 M hW kw_392 dX7_trips_48 ?_
    refine lv_bipush (v := 37) hx hb dX7_trips_51 (by decide) ?_
    refine lv_iload_n hx hb dX7_trips_53 rfl (lv_at hl 0 rfl) ?_
    refine lv_iadd hx hb dX7_trips_54 ?_
    refine r_top (y := 54) (by decide) ?_
    refine lv_aload_n hx hb dX7_trips_55 rfl (lv_at hl 1 rfl) ?_
    refine gt_Mod_0_1 M hW kw_392 dX7_trips_56 ?_
    refine lv_bipush (v := 37) hx hb dX7_trips_59 (by decide) ?_
    refine lv_iload_n hx hb dX7_trips_61 rfl (lv_at hl 0 rfl) ?_
    refine lv_iadd hx hb dX7_trips_62 ?_
    refine r_top (y := 54) (by decide) ?_
    refine lv_iconst (v := 3) hx hb dX7_trips_63 (by decide) ?_
    refine lv_isub hx hb dX7_trips_64 ?_
    refine r_top (y := 51) (by decide) ?_
    refine al_Mod_1 M hW 51 rfl (by decide) (x := (tripsA u x) 1 51) rfl dX7_trips_65 ?_
    refine as_Mod_1 M hW 54 rfl (by decide) dX7_trips_66 (fun H locs hW => ?_)
    refine lv_iinc (v := 16) (lv' := [(2, .int 16), (0, .ref (b 0)), (1, .int x)]) hx hb dX7_trips_67 hl (k := 0) rfl (by decide) (by decide) rfl (fun ls hl => ?_)
    refine lv_goto (tgt := 42) hx hb dX7_trips_70 (by decide) ?_
    refine lv_iload_n hx hb dX7_trips_42 rfl (lv_at hl 0 rfl) ?_
    refine lv_iconst (v := 3) hx hb dX7_trips_43 (by decide) ?_
    refine lv_icmp_lt (tgt := 73) hx hb dX7_trips_44 (by decide) (fun c_44_2 => ?_) (fun c_44_2 => ?_)
    · skip
      exact absurd c_44_2 (by decide)
    · skip
      refine lv_aload_n hx hb dX7_trips_47 rfl (lv_at hl 1 rfl) ?_
      refine gt_Mod_0_1 M hW kw_392 dX7_trips_48 ?_
      refine lv_bipush (v := 37) hx hb dX7_trips_51 (by decide) ?_
      refine lv_iload_n hx hb dX7_trips_53 rfl (lv_at hl 0 rfl) ?_
      refine lv_iadd hx hb dX7_trips_54 ?_
      refine r_top (y := 53) (by decide) ?_
      refine lv_aload_n hx hb dX7_trips_55 rfl (lv_at hl 1 rfl) ?_
      refine gt_Mod_0_1 M hW kw_392 dX7_trips_56 ?_
      refine lv_bipush (v := 37) hx hb dX7_trips_59 (by decide) ?_
      refine lv_iload_n hx hb dX7_trips_61 rfl (lv_at hl 0 rfl) ?_
      refine lv_iadd hx hb dX7_trips_62 ?_
      refine r_top (y := 53) (by decide) ?_
      refine lv_iconst (v := 3) hx hb dX7_trips_63 (by decide) ?_
      refine lv_isub hx hb dX7_trips_64 ?_
      refine r_top (y := 50) (by decide) ?_
      refine al_Mod_1 M hW 50 rfl (by decide) (x := (tripsA u x) 1 50) (up2_k (by decide)) dX7_trips_65 ?_
      refine as_Mod_1 M hW 53 rfl (by decide) dX7_trips_66 (fun H locs hW => ?_)
      refine lv_iinc (v := 15) (lv' := [(2, .int 15), (0, .ref (b 0)), (1, .int x)]) hx hb dX7_trips_67 hl (k := 0) rfl (by decide) (by decide) rfl (fun ls hl => ?_)
      refine lv_goto (tgt := 42) hx hb dX7_trips_70 (by decide) ?_
      refine lv_iload_n hx hb dX7_trips_42 rfl (lv_at hl 0 rfl) ?_
      refine lv_iconst (v := 3) hx hb dX7_trips_43 (by decide) ?_
      refine lv_icmp_lt (tgt := 73) hx hb dX7_trips_44 (by decide) (fun c_44_3 => ?_) (fun c_44_3 => ?_)
      · skip
        exact absurd c_44_3 (by decide)
      · skip
        refine lv_aload_n hx hb dX7_trips_47 rfl (lv_at hl 1 rfl) ?_
        refine gt_Mod_0_1 M hW kw_392 dX7_trips_48 ?_
        refine lv_bipush (v := 37) hx hb dX7_trips_51 (by decide) ?_
        refine lv_iload_n hx hb dX7_trips_53 rfl (lv_at hl 0 rfl) ?_
        refine lv_iadd hx hb dX7_trips_54 ?_
        refine r_top (y := 52) (by decide) ?_
        refine lv_aload_n hx hb dX7_trips_55 rfl (lv_at hl 1 rfl) ?_
        refine gt_Mod_0_1 M hW kw_392 dX7_trips_56 ?_
        refine lv_bipush (v := 37) hx hb dX7_trips_59 (by decide) ?_
        refine lv_iload_n hx hb dX7_trips_61 rfl (lv_at hl 0 rfl) ?_
        refine lv_iadd hx hb dX7_trips_62 ?_
        refine r_top (y := 52) (by decide) ?_
        refine lv_iconst (v := 3) hx hb dX7_trips_63 (by decide) ?_
        refine lv_isub hx hb dX7_trips_64 ?_
        refine r_top (y := 49) (by decide) ?_
        refine al_Mod_1 M hW 49 rfl (by decide) (x := (tripsA u x) 1 49) ((up2_k (by decide)).trans (up2_k (by decide))) dX7_trips_65 ?_
        refine as_Mod_1 M hW 52 rfl (by decide) dX7_trips_66 (fun H locs hW => ?_)
        refine lv_iinc (v := 14) (lv' := [(2, .int 14), (0, .ref (b 0)), (1, .int x)]) hx hb dX7_trips_67 hl (k := 0) rfl (by decide) (by decide) rfl (fun ls hl => ?_)
        refine lv_goto (tgt := 42) hx hb dX7_trips_70 (by decide) ?_
        refine lv_iload_n hx hb dX7_trips_42 rfl (lv_at hl 0 rfl) ?_
        refine lv_iconst (v := 3) hx hb dX7_trips_43 (by decide) ?_
        refine lv_icmp_lt (tgt := 73) hx hb dX7_trips_44 (by decide) (fun c_44_4 => ?_) (fun c_44_4 => ?_)
        · skip
          exact absurd c_44_4 (by decide)
        · skip
          refine lv_aload_n hx hb dX7_trips_47 rfl (lv_at hl 1 rfl) ?_
          refine gt_Mod_0_1 M hW kw_392 dX7_trips_48 ?_
          refine lv_bipush (v := 37) hx hb dX7_trips_51 (by decide) ?_
          refine lv_iload_n hx hb dX7_trips_53 rfl (lv_at hl 0 rfl) ?_
          refine lv_iadd hx hb dX7_trips_54 ?_
          refine r_top (y := 51) (by decide) ?_
          refine lv_aload_n hx hb dX7_trips_55 rfl (lv_at hl 1 rfl) ?_
          refine gt_Mod_0_1 M hW kw_392 dX7_trips_56 ?_
          refine lv_bipush (v := 37) hx hb dX7_trips_59 (by decide) ?_
          refine lv_iload_n hx hb dX7_trips_61 rfl (lv_at hl 0 rfl) ?_
          refine lv_iadd hx hb dX7_trips_62 ?_
          refine r_top (y := 51) (by decide) ?_
          refine lv_iconst (v := 3) hx hb dX7_trips_63 (by decide) ?_
          refine lv_isub hx hb dX7_trips_64 ?_
          refine r_top (y := 48) (by decide) ?_
          refine al_Mod_1 M hW 48 rfl (by decide) (x := (tripsA u x) 1 48) ((up2_k (by decide)).trans ((up2_k (by decide)).trans (up2_k (by decide)))) dX7_trips_65 ?_
          refine as_Mod_1 M hW 51 rfl (by decide) dX7_trips_66 (fun H locs hW => ?_)
          refine lv_iinc (v := 13) (lv' := [(2, .int 13), (0, .ref (b 0)), (1, .int x)]) hx hb dX7_trips_67 hl (k := 0) rfl (by decide) (by decide) rfl (fun ls hl => ?_)
          refine lv_goto (tgt := 42) hx hb dX7_trips_70 (by decide) ?_
          refine lv_iload_n hx hb dX7_trips_42 rfl (lv_at hl 0 rfl) ?_
          refine lv_iconst (v := 3) hx hb dX7_trips_43 (by decide) ?_
          refine lv_icmp_lt (tgt := 73) hx hb dX7_trips_44 (by decide) (fun c_44_5 => ?_) (fun c_44_5 => ?_)
          · skip
            exact absurd c_44_5 (by decide)
          · skip
            refine lv_aload_n hx hb dX7_trips_47 rfl (lv_at hl 1 rfl) ?_
            refine gt_Mod_0_1 M hW kw_392 dX7_trips_48 ?_
            refine lv_bipush (v := 37) hx hb dX7_trips_51 (by decide) ?_
            refine lv_iload_n hx hb dX7_trips_53 rfl (lv_at hl 0 rfl) ?_
            refine lv_iadd hx hb dX7_trips_54 ?_
            refine r_top (y := 50) (by decide) ?_
            refine lv_aload_n hx hb dX7_trips_55 rfl (lv_at hl 1 rfl) ?_
            refine gt_Mod_0_1 M hW kw_392 dX7_trips_56 ?_
            refine lv_bipush (v := 37) hx hb dX7_trips_59 (by decide) ?_
            refine lv_iload_n hx hb dX7_trips_61 rfl (lv_at hl 0 rfl) ?_
            refine lv_iadd hx hb dX7_trips_62 ?_
            refine r_top (y := 50) (by decide) ?_
            refine lv_iconst (v := 3) hx hb dX7_trips_63 (by decide) ?_
            refine lv_isub hx hb dX7_trips_64 ?_
            refine r_top (y := 47) (by decide) ?_
            refine al_Mod_1 M hW 47 rfl (by decide) (x := (tripsA u x) 1 47) ((up2_k (by decide)).trans ((up2_k (by decide)).trans ((up2_k (by decide)).trans (up2_k (by decide))))) dX7_trips_65 ?_
            refine as_Mod_1 M hW 50 rfl (by decide) dX7_trips_66 (fun H locs hW => ?_)
            refine lv_iinc (v := 12) (lv' := [(2, .int 12), (0, .ref (b 0)), (1, .int x)]) hx hb dX7_trips_67 hl (k := 0) rfl (by decide) (by decide) rfl (fun ls hl => ?_)
            refine lv_goto (tgt := 42) hx hb dX7_trips_70 (by decide) ?_
            refine lv_iload_n hx hb dX7_trips_42 rfl (lv_at hl 0 rfl) ?_
            refine lv_iconst (v := 3) hx hb dX7_trips_43 (by decide) ?_
            refine lv_icmp_lt (tgt := 73) hx hb dX7_trips_44 (by decide) (fun c_44_6 => ?_) (fun c_44_6 => ?_)
            · skip
              exact absurd c_44_6 (by decide)
            · skip
              refine lv_aload_n hx hb dX7_trips_47 rfl (lv_at hl 1 rfl) ?_
              refine gt_Mod_0_1 M hW kw_392 dX7_trips_48 ?_
              refine lv_bipush (v := 37) hx hb dX7_trips_51 (by decide) ?_
              refine lv_iload_n hx hb dX7_trips_53 rfl (lv_at hl 0 rfl) ?_
              refine lv_iadd hx hb dX7_trips_54 ?_
              refine r_top (y := 49) (by decide) ?_
              refine lv_aload_n hx hb dX7_trips_55 rfl (lv_at hl 1 rfl) ?_
              refine gt_Mod_0_1 M hW kw_392 dX7_trips_56 ?_
              refine lv_bipush (v := 37) hx hb dX7_trips_59 (by decide) ?_
              refine lv_iload_n hx hb dX7_trips_61 rfl (lv_at hl 0 rfl) ?_
              refine lv_iadd hx hb dX7_trips_62 ?_
              refine r_top (y := 49) (by decide) ?_
              refine lv_iconst (v := 3) hx hb dX7_trips_63 (by decide) ?_
              refine lv_isub hx hb dX7_trips_64 ?_
              refine r_top (y := 46) (by decide) ?_
              refine al_Mod_1 M hW 46 rfl (by decide) (x := (tripsA u x) 1 46) ((up2_k (by decide)).trans ((up2_k (by decide)).trans ((up2_k (by decide)).trans ((up2_k (by decide)).trans (up2_k (by decide)))))) dX7_trips_65 ?_
              refine as_Mod_1 M hW 49 rfl (by decide) dX7_trips_66 (fun H locs hW => ?_)
              refine lv_iinc (v := 11) (lv' := [(2, .int 11), (0, .ref (b 0)), (1, .int x)]) hx hb dX7_trips_67 hl (k := 0) rfl (by decide) (by decide) rfl (fun ls hl => ?_)
              refine lv_goto (tgt := 42) hx hb dX7_trips_70 (by decide) ?_
              refine lv_iload_n hx hb dX7_trips_42 rfl (lv_at hl 0 rfl) ?_
              refine lv_iconst (v := 3) hx hb dX7_trips_43 (by decide) ?_
              refine lv_icmp_lt (tgt := 73) hx hb dX7_trips_44 (by decide) (fun c_44_7 => ?_) (fun c_44_7 => ?_)
              · skip
                exact absurd c_44_7 (by decide)
              · skip
                refine lv_aload_n hx hb dX7_trips_47 rfl (lv_at hl 1 rfl) ?_
                refine gt_Mod_0_1 M hW kw_392 dX7_trips_48 ?_
                refine lv_bipush (v := 37) hx hb dX7_trips_51 (by decide) ?_
                refine lv_iload_n hx hb dX7_trips_53 rfl (lv_at hl 0 rfl) ?_
                refine lv_iadd hx hb dX7_trips_54 ?_
                refine r_top (y := 48) (by decide) ?_
                refine lv_aload_n hx hb dX7_trips_55 rfl (lv_at hl 1 rfl) ?_
                refine gt_Mod_0_1 M hW kw_392 dX7_trips_56 ?_
                refine lv_bipush (v := 37) hx hb dX7_trips_59 (by decide) ?_
                refine lv_iload_n hx hb dX7_trips_61 rfl (lv_at hl 0 rfl) ?_
                refine lv_iadd hx hb dX7_trips_62 ?_
                refine r_top (y := 48) (by decide) ?_
                refine lv_iconst (v := 3) hx hb dX7_trips_63 (by decide) ?_
                refine lv_isub hx hb dX7_trips_64 ?_
                refine r_top (y := 45) (by decide) ?_
                refine al_Mod_1 M hW 45 rfl (by decide) (x := (tripsA u x) 1 45) ((up2_k (by decide)).trans ((up2_k (by decide)).trans ((up2_k (by decide)).trans ((up2_k (by decide)).trans ((up2_k (by decide)).trans (up2_k (by decide))))))) dX7_trips_65 ?_
                refine as_Mod_1 M hW 48 rfl (by decide) dX7_trips_66 (fun H locs hW => ?_)
                refine lv_iinc (v := 10) (lv' := [(2, .int 10), (0, .ref (b 0)), (1, .int x)]) hx hb dX7_trips_67 hl (k := 0) rfl (by decide) (by decide) rfl (fun ls hl => ?_)
                refine lv_goto (tgt := 42) hx hb dX7_trips_70 (by decide) ?_
                refine lv_iload_n hx hb dX7_trips_42 rfl (lv_at hl 0 rfl) ?_
                refine lv_iconst (v := 3) hx hb dX7_trips_43 (by decide) ?_
                refine lv_icmp_lt (tgt := 73) hx hb dX7_trips_44 (by decide) (fun c_44_8 => ?_) (fun c_44_8 => ?_)
                · skip
                  exact absurd c_44_8 (by decide)
                · skip
                  refine lv_aload_n hx hb dX7_trips_47 rfl (lv_at hl 1 rfl) ?_
                  refine gt_Mod_0_1 M hW kw_392 dX7_trips_48 ?_
                  refine lv_bipush (v := 37) hx hb dX7_trips_51 (by decide) ?_
                  refine lv_iload_n hx hb dX7_trips_53 rfl (lv_at hl 0 rfl) ?_
                  refine lv_iadd hx hb dX7_trips_54 ?_
                  refine r_top (y := 47) (by decide) ?_
                  refine lv_aload_n hx hb dX7_trips_55 rfl (lv_at hl 1 rfl) ?_
                  refine gt_Mod_0_1 M hW kw_392 dX7_trips_56 ?_
                  refine lv_bipush (v := 37) hx hb dX7_trips_59 (by decide) ?_
                  refine lv_iload_n hx hb dX7_trips_61 rfl (lv_at hl 0 rfl) ?_
                  refine lv_iadd hx hb dX7_trips_62 ?_
                  refine r_top (y := 47) (by decide) ?_
                  refine lv_iconst (v := 3) hx hb dX7_trips_63 (by decide) ?_
                  refine lv_isub hx hb dX7_trips_64 ?_
                  refine r_top (y := 44) (by decide) ?_
                  refine al_Mod_1 M hW 44 rfl (by decide) (x := (tripsA u x) 1 44) ((up2_k (by decide)).trans ((up2_k (by decide)).trans ((up2_k (by decide)).trans ((up2_k (by decide)).trans ((up2_k (by decide)).trans ((up2_k (by decide)).trans (up2_k (by decide)))))))) dX7_trips_65 ?_
                  refine as_Mod_1 M hW 47 rfl (by decide) dX7_trips_66 (fun H locs hW => ?_)
                  refine lv_iinc (v := 9) (lv' := [(2, .int 9), (0, .ref (b 0)), (1, .int x)]) hx hb dX7_trips_67 hl (k := 0) rfl (by decide) (by decide) rfl (fun ls hl => ?_)
                  refine lv_goto (tgt := 42) hx hb dX7_trips_70 (by decide) ?_
                  refine lv_iload_n hx hb dX7_trips_42 rfl (lv_at hl 0 rfl) ?_
                  refine lv_iconst (v := 3) hx hb dX7_trips_43 (by decide) ?_
                  refine lv_icmp_lt (tgt := 73) hx hb dX7_trips_44 (by decide) (fun c_44_9 => ?_) (fun c_44_9 => ?_)
                  · skip
                    exact absurd c_44_9 (by decide)
                  · skip
                    refine lv_aload_n hx hb dX7_trips_47 rfl (lv_at hl 1 rfl) ?_
                    refine gt_Mod_0_1 M hW kw_392 dX7_trips_48 ?_
                    refine lv_bipush (v := 37) hx hb dX7_trips_51 (by decide) ?_
                    refine lv_iload_n hx hb dX7_trips_53 rfl (lv_at hl 0 rfl) ?_
                    refine lv_iadd hx hb dX7_trips_54 ?_
                    refine r_top (y := 46) (by decide) ?_
                    refine lv_aload_n hx hb dX7_trips_55 rfl (lv_at hl 1 rfl) ?_
                    refine gt_Mod_0_1 M hW kw_392 dX7_trips_56 ?_
                    refine lv_bipush (v := 37) hx hb dX7_trips_59 (by decide) ?_
                    refine lv_iload_n hx hb dX7_trips_61 rfl (lv_at hl 0 rfl) ?_
                    refine lv_iadd hx hb dX7_trips_62 ?_
                    refine r_top (y := 46) (by decide) ?_
                    refine lv_iconst (v := 3) hx hb dX7_trips_63 (by decide) ?_
                    refine lv_isub hx hb dX7_trips_64 ?_
                    refine r_top (y := 43) (by decide) ?_
                    refine al_Mod_1 M hW 43 rfl (by decide) (x := (tripsA u x) 1 43) ((up2_k (by decide)).trans ((up2_k (by decide)).trans ((up2_k (by decide)).trans ((up2_k (by decide)).trans ((up2_k (by decide)).trans ((up2_k (by decide)).trans ((up2_k (by decide)).trans (up2_k (by decide))))))))) dX7_trips_65 ?_
                    refine as_Mod_1 M hW 46 rfl (by decide) dX7_trips_66 (fun H locs hW => ?_)
                    refine lv_iinc (v := 8) (lv' := [(2, .int 8), (0, .ref (b 0)), (1, .int x)]) hx hb dX7_trips_67 hl (k := 0) rfl (by decide) (by decide) rfl (fun ls hl => ?_)
                    refine lv_goto (tgt := 42) hx hb dX7_trips_70 (by decide) ?_
                    refine lv_iload_n hx hb dX7_trips_42 rfl (lv_at hl 0 rfl) ?_
                    refine lv_iconst (v := 3) hx hb dX7_trips_43 (by decide) ?_
                    refine lv_icmp_lt (tgt := 73) hx hb dX7_trips_44 (by decide) (fun c_44_10 => ?_) (fun c_44_10 => ?_)
                    · skip
                      exact absurd c_44_10 (by decide)
                    · skip
                      refine lv_aload_n hx hb dX7_trips_47 rfl (lv_at hl 1 rfl) ?_
                      refine gt_Mod_0_1 M hW kw_392 dX7_trips_48 ?_
                      refine lv_bipush (v := 37) hx hb dX7_trips_51 (by decide) ?_
                      refine lv_iload_n hx hb dX7_trips_53 rfl (lv_at hl 0 rfl) ?_
                      refine lv_iadd hx hb dX7_trips_54 ?_
                      refine r_top (y := 45) (by decide) ?_
                      refine lv_aload_n hx hb dX7_trips_55 rfl (lv_at hl 1 rfl) ?_
                      refine gt_Mod_0_1 M hW kw_392 dX7_trips_56 ?_
                      refine lv_bipush (v := 37) hx hb dX7_trips_59 (by decide) ?_
                      refine lv_iload_n hx hb dX7_trips_61 rfl (lv_at hl 0 rfl) ?_
                      refine lv_iadd hx hb dX7_trips_62 ?_
                      refine r_top (y := 45) (by decide) ?_
                      refine lv_iconst (v := 3) hx hb dX7_trips_63 (by decide) ?_
                      refine lv_isub hx hb dX7_trips_64 ?_
                      refine r_top (y := 42) (by decide) ?_
                      refine al_Mod_1 M hW 42 rfl (by decide) (x := (tripsA u x) 1 42) ((up2_k (by decide)).trans ((up2_k (by decide)).trans ((up2_k (by decide)).trans ((up2_k (by decide)).trans ((up2_k (by decide)).trans ((up2_k (by decide)).trans ((up2_k (by decide)).trans ((up2_k (by decide)).trans (up2_k (by decide)))))))))) dX7_trips_65 ?_
                      refine as_Mod_1 M hW 45 rfl (by decide) dX7_trips_66 (fun H locs hW => ?_)
                      refine lv_iinc (v := 7) (lv' := [(2, .int 7), (0, .ref (b 0)), (1, .int x)]) hx hb dX7_trips_67 hl (k := 0) rfl (by decide) (by decide) rfl (fun ls hl => ?_)
                      refine lv_goto (tgt := 42) hx hb dX7_trips_70 (by decide) ?_
                      refine lv_iload_n hx hb dX7_trips_42 rfl (lv_at hl 0 rfl) ?_
                      refine lv_iconst (v := 3) hx hb dX7_trips_43 (by decide) ?_
                      refine lv_icmp_lt (tgt := 73) hx hb dX7_trips_44 (by decide) (fun c_44_11 => ?_) (fun c_44_11 => ?_)
                      · skip
                        exact absurd c_44_11 (by decide)
                      · skip
                        refine lv_aload_n hx hb dX7_trips_47 rfl (lv_at hl 1 rfl) ?_
                        refine gt_Mod_0_1 M hW kw_392 dX7_trips_48 ?_
                        refine lv_bipush (v := 37) hx hb dX7_trips_51 (by decide) ?_
                        refine lv_iload_n hx hb dX7_trips_53 rfl (lv_at hl 0 rfl) ?_
                        refine lv_iadd hx hb dX7_trips_54 ?_
                        refine r_top (y := 44) (by decide) ?_
                        refine lv_aload_n hx hb dX7_trips_55 rfl (lv_at hl 1 rfl) ?_
                        refine gt_Mod_0_1 M hW kw_392 dX7_trips_56 ?_
                        refine lv_bipush (v := 37) hx hb dX7_trips_59 (by decide) ?_
                        refine lv_iload_n hx hb dX7_trips_61 rfl (lv_at hl 0 rfl) ?_
                        refine lv_iadd hx hb dX7_trips_62 ?_
                        refine r_top (y := 44) (by decide) ?_
                        refine lv_iconst (v := 3) hx hb dX7_trips_63 (by decide) ?_
                        refine lv_isub hx hb dX7_trips_64 ?_
                        refine r_top (y := 41) (by decide) ?_
                        refine al_Mod_1 M hW 41 rfl (by decide) (x := (tripsA u x) 1 41) ((up2_k (by decide)).trans ((up2_k (by decide)).trans ((up2_k (by decide)).trans ((up2_k (by decide)).trans ((up2_k (by decide)).trans ((up2_k (by decide)).trans ((up2_k (by decide)).trans ((up2_k (by decide)).trans ((up2_k (by decide)).trans (up2_k (by decide))))))))))) dX7_trips_65 ?_
                        refine as_Mod_1 M hW 44 rfl (by decide) dX7_trips_66 (fun H locs hW => ?_)
                        refine lv_iinc (v := 6) (lv' := [(2, .int 6), (0, .ref (b 0)), (1, .int x)]) hx hb dX7_trips_67 hl (k := 0) rfl (by decide) (by decide) rfl (fun ls hl => ?_)
                        refine lv_goto (tgt := 42) hx hb dX7_trips_70 (by decide) ?_
                        refine lv_iload_n hx hb dX7_trips_42 rfl (lv_at hl 0 rfl) ?_
                        refine lv_iconst (v := 3) hx hb dX7_trips_43 (by decide) ?_
                        refine lv_icmp_lt (tgt := 73) hx hb dX7_trips_44 (by decide) (fun c_44_12 => ?_) (fun c_44_12 => ?_)
                        · skip
                          exact absurd c_44_12 (by decide)
                        · skip
                          refine lv_aload_n hx hb dX7_trips_47 rfl (lv_at hl 1 rfl) ?_
                          refine gt_Mod_0_1 M hW kw_392 dX7_trips_48 ?_
                          refine lv_bipush (v := 37) hx hb dX7_trips_51 (by decide) ?_
                          refine lv_iload_n hx hb dX7_trips_53 rfl (lv_at hl 0 rfl) ?_
                          refine lv_iadd hx hb dX7_trips_54 ?_
                          refine r_top (y := 43) (by decide) ?_
                          refine lv_aload_n hx hb dX7_trips_55 rfl (lv_at hl 1 rfl) ?_
                          refine gt_Mod_0_1 M hW kw_392 dX7_trips_56 ?_
                          refine lv_bipush (v := 37) hx hb dX7_trips_59 (by decide) ?_
                          refine lv_iload_n hx hb dX7_trips_61 rfl (lv_at hl 0 rfl) ?_
                          refine lv_iadd hx hb dX7_trips_62 ?_
                          refine r_top (y := 43) (by decide) ?_
                          refine lv_iconst (v := 3) hx hb dX7_trips_63 (by decide) ?_
                          refine lv_isub hx hb dX7_trips_64 ?_
                          refine r_top (y := 40) (by decide) ?_
                          refine al_Mod_1 M hW 40 rfl (by decide) (x := (tripsA u x) 1 40) ((up2_k (by decide)).trans ((up2_k (by decide)).trans ((up2_k (by decide)).trans ((up2_k (by decide)).trans ((up2_k (by decide)).trans ((up2_k (by decide)).trans ((up2_k (by decide)).trans ((up2_k (by decide)).trans ((up2_k (by decide)).trans ((up2_k (by decide)).trans (up2_k (by decide)))))))))))) dX7_trips_65 ?_
                          refine as_Mod_1 M hW 43 rfl (by decide) dX7_trips_66 (fun H locs hW => ?_)
                          refine lv_iinc (v := 5) (lv' := [(2, .int 5), (0, .ref (b 0)), (1, .int x)]) hx hb dX7_trips_67 hl (k := 0) rfl (by decide) (by decide) rfl (fun ls hl => ?_)
                          refine lv_goto (tgt := 42) hx hb dX7_trips_70 (by decide) ?_
                          refine lv_iload_n hx hb dX7_trips_42 rfl (lv_at hl 0 rfl) ?_
                          refine lv_iconst (v := 3) hx hb dX7_trips_43 (by decide) ?_
                          refine lv_icmp_lt (tgt := 73) hx hb dX7_trips_44 (by decide) (fun c_44_13 => ?_) (fun c_44_13 => ?_)
                          · skip
                            exact absurd c_44_13 (by decide)
                          · skip
                            refine lv_aload_n hx hb dX7_trips_47 rfl (lv_at hl 1 rfl) ?_
                            refine gt_Mod_0_1 M hW kw_392 dX7_trips_48 ?_
                            refine lv_bipush (v := 37) hx hb dX7_trips_51 (by decide) ?_
                            refine lv_iload_n hx hb dX7_trips_53 rfl (lv_at hl 0 rfl) ?_
                            refine lv_iadd hx hb dX7_trips_54 ?_
                            refine r_top (y := 42) (by decide) ?_
                            refine lv_aload_n hx hb dX7_trips_55 rfl (lv_at hl 1 rfl) ?_
                            refine gt_Mod_0_1 M hW kw_392 dX7_trips_56 ?_
                            refine lv_bipush (v := 37) hx hb dX7_trips_59 (by decide) ?_
                            refine lv_iload_n hx hb dX7_trips_61 rfl (lv_at hl 0 rfl) ?_
                            refine lv_iadd hx hb dX7_trips_62 ?_
                            refine r_top (y := 42) (by decide) ?_
                            refine lv_iconst (v := 3) hx hb dX7_trips_63 (by decide) ?_
                            refine lv_isub hx hb dX7_trips_64 ?_
                            refine r_top (y := 39) (by decide) ?_
                            refine al_Mod_1 M hW 39 rfl (by decide) (x := (tripsA u x) 1 39) ((up2_k (by decide)).trans ((up2_k (by decide)).trans ((up2_k (by decide)).trans ((up2_k (by decide)).trans ((up2_k (by decide)).trans ((up2_k (by decide)).trans ((up2_k (by decide)).trans ((up2_k (by decide)).trans ((up2_k (by decide)).trans ((up2_k (by decide)).trans ((up2_k (by decide)).trans (up2_k (by decide))))))))))))) dX7_trips_65 ?_
                            refine as_Mod_1 M hW 42 rfl (by decide) dX7_trips_66 (fun H locs hW => ?_)
                            refine lv_iinc (v := 4) (lv' := [(2, .int 4), (0, .ref (b 0)), (1, .int x)]) hx hb dX7_trips_67 hl (k := 0) rfl (by decide) (by decide) rfl (fun ls hl => ?_)
                            refine lv_goto (tgt := 42) hx hb dX7_trips_70 (by decide) ?_
                            refine lv_iload_n hx hb dX7_trips_42 rfl (lv_at hl 0 rfl) ?_
                            refine lv_iconst (v := 3) hx hb dX7_trips_43 (by decide) ?_
                            refine lv_icmp_lt (tgt := 73) hx hb dX7_trips_44 (by decide) (fun c_44_14 => ?_) (fun c_44_14 => ?_)
                            · skip
                              exact absurd c_44_14 (by decide)
                            · skip
                              refine lv_aload_n hx hb dX7_trips_47 rfl (lv_at hl 1 rfl) ?_
                              refine gt_Mod_0_1 M hW kw_392 dX7_trips_48 ?_
                              refine lv_bipush (v := 37) hx hb dX7_trips_51 (by decide) ?_
                              refine lv_iload_n hx hb dX7_trips_53 rfl (lv_at hl 0 rfl) ?_
                              refine lv_iadd hx hb dX7_trips_54 ?_
                              refine r_top (y := 41) (by decide) ?_
                              refine lv_aload_n hx hb dX7_trips_55 rfl (lv_at hl 1 rfl) ?_
                              refine gt_Mod_0_1 M hW kw_392 dX7_trips_56 ?_
                              refine lv_bipush (v := 37) hx hb dX7_trips_59 (by decide) ?_
                              refine lv_iload_n hx hb dX7_trips_61 rfl (lv_at hl 0 rfl) ?_
                              refine lv_iadd hx hb dX7_trips_62 ?_
                              refine r_top (y := 41) (by decide) ?_
                              refine lv_iconst (v := 3) hx hb dX7_trips_63 (by decide) ?_
                              refine lv_isub hx hb dX7_trips_64 ?_
                              refine r_top (y := 38) (by decide) ?_
                              refine al_Mod_1 M hW 38 rfl (by decide) (x := (tripsA u x) 1 38) ((up2_k (by decide)).trans ((up2_k (by decide)).trans ((up2_k (by decide)).trans ((up2_k (by decide)).trans ((up2_k (by decide)).trans ((up2_k (by decide)).trans ((up2_k (by decide)).trans ((up2_k (by decide)).trans ((up2_k (by decide)).trans ((up2_k (by decide)).trans ((up2_k (by decide)).trans ((up2_k (by decide)).trans (up2_k (by decide)))))))))))))) dX7_trips_65 ?_
                              refine as_Mod_1 M hW 41 rfl (by decide) dX7_trips_66 (fun H locs hW => ?_)
                              refine lv_iinc (v := 3) (lv' := [(2, .int 3), (0, .ref (b 0)), (1, .int x)]) hx hb dX7_trips_67 hl (k := 0) rfl (by decide) (by decide) rfl (fun ls hl => ?_)
                              refine lv_goto (tgt := 42) hx hb dX7_trips_70 (by decide) ?_
                              refine lv_iload_n hx hb dX7_trips_42 rfl (lv_at hl 0 rfl) ?_
                              refine lv_iconst (v := 3) hx hb dX7_trips_43 (by decide) ?_
                              refine lv_icmp_lt (tgt := 73) hx hb dX7_trips_44 (by decide) (fun c_44_15 => ?_) (fun c_44_15 => ?_)
                              · skip
                                exact absurd c_44_15 (by decide)
                              · skip
                                refine lv_aload_n hx hb dX7_trips_47 rfl (lv_at hl 1 rfl) ?_
                                refine gt_Mod_0_1 M hW kw_392 dX7_trips_48 ?_
                                refine lv_bipush (v := 37) hx hb dX7_trips_51 (by decide) ?_
                                refine lv_iload_n hx hb dX7_trips_53 rfl (lv_at hl 0 rfl) ?_
                                refine lv_iadd hx hb dX7_trips_54 ?_
                                refine r_top (y := 40) (by decide) ?_
                                refine lv_aload_n hx hb dX7_trips_55 rfl (lv_at hl 1 rfl) ?_
                                refine gt_Mod_0_1 M hW kw_392 dX7_trips_56 ?_
                                refine lv_bipush (v := 37) hx hb dX7_trips_59 (by decide) ?_
                                refine lv_iload_n hx hb dX7_trips_61 rfl (lv_at hl 0 rfl) ?_
                                refine lv_iadd hx hb dX7_trips_62 ?_
                                refine r_top (y := 40) (by decide) ?_
                                refine lv_iconst (v := 3) hx hb dX7_trips_63 (by decide) ?_
                                refine lv_isub hx hb dX7_trips_64 ?_
                                refine r_top (y := 37) (by decide) ?_
                                refine al_Mod_1 M hW 37 rfl (by decide) (x := (tripsA u x) 1 37) ((up2_k (by decide)).trans ((up2_k (by decide)).trans ((up2_k (by decide)).trans ((up2_k (by decide)).trans ((up2_k (by decide)).trans ((up2_k (by decide)).trans ((up2_k (by decide)).trans ((up2_k (by decide)).trans ((up2_k (by decide)).trans ((up2_k (by decide)).trans ((up2_k (by decide)).trans ((up2_k (by decide)).trans ((up2_k (by decide)).trans (up2_k (by decide))))))))))))))) dX7_trips_65 ?_
                                refine as_Mod_1 M hW 40 rfl (by decide) dX7_trips_66 (fun H locs hW => ?_)
                                refine lv_iinc (v := 2) (lv' := [(2, .int 2), (0, .ref (b 0)), (1, .int x)]) hx hb dX7_trips_67 hl (k := 0) rfl (by decide) (by decide) rfl (fun ls hl => ?_)
                                refine lv_goto (tgt := 42) hx hb dX7_trips_70 (by decide) ?_
                                refine lv_iload_n hx hb dX7_trips_42 rfl (lv_at hl 0 rfl) ?_
                                refine lv_iconst (v := 3) hx hb dX7_trips_43 (by decide) ?_
                                refine lv_icmp_lt (tgt := 73) hx hb dX7_trips_44 (by decide) (fun c_44_16 => ?_) (fun c_44_16 => ?_)
                                · skip
                                  refine lv_aload_n hx hb dX7_trips_73 rfl (lv_at hl 1 rfl) ?_
                                  refine gt_Mod_0_1 M hW kw_392 dX7_trips_74 ?_
                                  refine lv_bipush (v := 37) hx hb dX7_trips_77 (by decide) ?_
                                  refine lv_aload_n hx hb dX7_trips_79 rfl (lv_at hl 1 rfl) ?_
                                  refine gt_Mod_0_1 M hW kw_392 dX7_trips_80 ?_
                                  refine lv_bipush (v := 17) hx hb dX7_trips_83 (by decide) ?_
                                  refine al_Mod_1 M hW 17 rfl (by decide) (x := (tripsA u x) 1 17) ((up2_k (by decide)).trans ((up2_k (by decide)).trans ((up2_k (by decide)).trans ((up2_k (by decide)).trans ((up2_k (by decide)).trans ((up2_k (by decide)).trans ((up2_k (by decide)).trans ((up2_k (by decide)).trans ((up2_k (by decide)).trans ((up2_k (by decide)).trans ((up2_k (by decide)).trans ((up2_k (by decide)).trans ((up2_k (by decide)).trans ((up2_k (by decide)).trans (up2_k (by decide)))))))))))))))) dX7_trips_85 ?_
                                  refine lv_iconst (v := 1) hx hb dX7_trips_86 (by decide) ?_
                                  refine lv_iadd hx hb dX7_trips_87 ?_
                                  refine as_Mod_1 M hW 37 rfl (by decide) dX7_trips_88 (fun H locs hW => ?_)
                                  refine lv_aload_n hx hb dX7_trips_89 rfl (lv_at hl 1 rfl) ?_
                                  refine gt_Mod_0_1 M hW kw_392 dX7_trips_90 ?_
                                  refine lv_bipush (v := 38) hx hb dX7_trips_93 (by decide) ?_
                                  refine lv_iload_n hx hb dX7_trips_95 rfl (lv_at hl 2 rfl) ?_
                                  refine as_Mod_1 M hW 38 rfl (by decide) dX7_trips_96 (fun H locs hW => ?_)
                                  refine lv_aload_n hx hb dX7_trips_97 rfl (lv_at hl 1 rfl) ?_
                                  refine gt_Mod_0_1 M hW kw_392 dX7_trips_98 ?_
                                  refine lv_bipush (v := 39) hx hb dX7_trips_101 (by decide) ?_
                                  refine lv_aload_n hx hb dX7_trips_103 rfl (lv_at hl 1 rfl) ?_
                                  refine r_callVi M hW (c_X7_load l G b (up2 (up2 (up2 (up2 (up2 (up2 (up2 (up2 (up2 (up2 (up2 (up2 (up2 (up2 (up2 (up2 (up2 (tripsA u x) 1 54 ((tripsA u x) 1 51)) 1 53 ((tripsA u x) 1 50)) 1 52 ((tripsA u x) 1 49)) 1 51 ((tripsA u x) 1 48)) 1 50 ((tripsA u x) 1 47)) 1 49 ((tripsA u x) 1 46)) 1 48 ((tripsA u x) 1 45)) 1 47 ((tripsA u x) 1 44)) 1 46 ((tripsA u x) 1 43)) 1 45 ((tripsA u x) 1 42)) 1 44 ((tripsA u x) 1 41)) 1 43 ((tripsA u x) 1 40)) 1 42 ((tripsA u x) 1 39)) 1 41 ((tripsA u x) 1 38)) 1 40 ((tripsA u x) 1 37)) 1 37 (((tripsA u x) 1 17) + 1)) 1 38 x)  (Y)) rfl kw_416 kw_417 kw_418 kw_412 kw_406 pl_X7_load 0 rfl rfl ⟨by decide, by decide⟩ ⟨Nat.zero_le _, Nat.zero_le _⟩ hl.1 rfl (Nat.le_of_ble_eq_true rfl) dX7_trips_104 (fun H locs hW => ?_)
                                  refine as_Mod_1 M hW 39 rfl (by decide) dX7_trips_107 (fun H locs hW => ?_)
                                  refine lv_aload_n hx hb dX7_trips_108 rfl (lv_at hl 1 rfl) ?_
                                  refine gt_Mod_0_1 M hW kw_392 dX7_trips_109 ?_
                                  refine lv_bipush (v := 36) hx hb dX7_trips_112 (by decide) ?_
                                  refine lv_dup2_11 hx hb dX7_trips_114 rfl rfl ?_
                                  refine al_Mod_1 M hW 36 rfl (by decide) (x := (tripsA u x) 1 36) ((up2_k (by decide)).trans ((up2_k (by decide)).trans ((up2_k (by decide)).trans ((up2_k (by decide)).trans ((up2_k (by decide)).trans ((up2_k (by decide)).trans ((up2_k (by decide)).trans ((up2_k (by decide)).trans ((up2_k (by decide)).trans ((up2_k (by decide)).trans ((up2_k (by decide)).trans ((up2_k (by decide)).trans ((up2_k (by decide)).trans ((up2_k (by decide)).trans ((up2_k (by decide)).trans ((up2_k (by decide)).trans ((up2_k (by decide)).trans (up2_k (by decide))))))))))))))))))) dX7_trips_115 ?_
                                  refine lv_aload_n hx hb dX7_trips_116 rfl (lv_at hl 1 rfl) ?_
                                  refine gt_Mod_0_1 M hW kw_392 dX7_trips_117 ?_
                                  refine lv_bipush (v := 36) hx hb dX7_trips_120 (by decide) ?_
                                  refine al_Mod_1 M hW 36 rfl (by decide) (x := (tripsA u x) 1 36) ((up2_k (by decide)).trans ((up2_k (by decide)).trans ((up2_k (by decide)).trans ((up2_k (by decide)).trans ((up2_k (by decide)).trans ((up2_k (by decide)).trans ((up2_k (by decide)).trans ((up2_k (by decide)).trans ((up2_k (by decide)).trans ((up2_k (by decide)).trans ((up2_k (by decide)).trans ((up2_k (by decide)).trans ((up2_k (by decide)).trans ((up2_k (by decide)).trans ((up2_k (by decide)).trans ((up2_k (by decide)).trans ((up2_k (by decide)).trans (up2_k (by decide))))))))))))))))))) dX7_trips_122 ?_
                                  refine lv_bipush (v := 6) hx hb dX7_trips_123 (by decide) ?_
                                  refine r_cuti (pc2 := 133) (ls2 := ls) (st := [.int ((tripsA u x) 1 36), .int 36, .ref (b 1)]) (if 6 ≤ ((tripsA u x) 1 36) then 0 else 1) (fun x_133 hx_133 => ?_) (fun hJ_133 => ?_)
                                  · skip
                                    subst hx_133
                                    refine lv_iadd hx hb dX7_trips_133 ?_
                                    refine as_Mod_1 M hW 36 rfl (by decide) dX7_trips_134 (fun H locs hW => ?_)
                                    exact r_retv M hW (by rw [sX7_trips]) ⟨rfl, rfl⟩ (Nat.zero_le _) (Nat.zero_le _) dX7_trips_135
                                  · skip
                                    refine lv_icmp_ge (tgt := 132) hx hb dX7_trips_125 (by decide) (fun c_125 => ?_) (fun c_125 => ?_)
                                    · skip
                                      refine lv_iconst (v := 0) hx hb dX7_trips_132 (by decide) ?_
                                      exact hJ_133 _ (by rw [if_pos c_125])
                                    · skip
                                      refine lv_iconst (v := 1) hx hb dX7_trips_128 (by decide) ?_
                                      refine lv_goto (tgt := 133) hx hb dX7_trips_129 (by decide) ?_
                                      exact hJ_133 _ (by rw [if_neg c_125])
                                · skip
                                  exact absurd c_44_16 (by decide)
end
section
def jX7_watches_70 (h : Nat → Nat → Int32) (i : Nat) : Nat → Nat → Int32 := if (if (rX7_seesTooMuch h (nI i)) = 0 then 0 else (h 1 (30 + i)) + 1) < (3 - (nI i)) then up2 h 1 (30 + i) (if (rX7_seesTooMuch h (nI i)) = 0 then 0 else (h 1 (30 + i)) + 1) else if ((up2 h 1 (30 + i) (if (rX7_seesTooMuch h (nI i)) = 0 then 0 else (h 1 (30 + i)) + 1)) 1 14) = 1 then sX7_trips (up2 h 1 (30 + i) (if (rX7_seesTooMuch h (nI i)) = 0 then 0 else (h 1 (30 + i)) + 1)) (nI i) else up2 h 1 (30 + i) (if (rX7_seesTooMuch h (nI i)) = 0 then 0 else (h 1 (30 + i)) + 1)
def sX7_watches (u : Nat → Nat → Int32) : Nat → Nat → Int32 := iterN (fun i h => jX7_watches_70 h i) 3 u
set_option maxHeartbeats 4000000 in
set_option maxRecDepth 100000 in
/-- X7.watches -/
theorem c_X7_watches (l : Launch) (G : Gp) (b : Nat → Nat) (u : Nat → Nat → Int32) (Y : va_W) : Cn l G yX7_watches cX7_watches 2 none 2 [.ref (b 0)] (ModW G b u ++ Y) none (ModW G b (sX7_watches u) ++ Y) := by
  refine CnE.of (by decide) (Nat.le_of_ble_eq_true rfl) ?_
  intro p e s m below meth c ls M hnm hl hW
  have hx := M.1
  have hb := M.2.1
  have hl : lv_has ls 2 [(0, .ref (b 0))] := hl
  refine lv_iconst (v := 0) hx hb dX7_watches_0 (by decide) ?_
  refine lv_istore_n (lv' := [(1, .int 0), (0, .ref (b 0))]) hx hb dX7_watches_1 rfl hl (by decide) rfl (fun ls hl => ?_)
  refine r_loop (σ := Array Slot × Nat) (fun r uL H1 l1 => uL.2 + r = 3 ∧ lv_has uL.1 2 [(1, .int (nI uL.2)), (0, .ref (b 0))] ∧ Wd G s (ModW G b (iterN (fun i h => jX7_watches_70 h i) uL.2 u) ++ Y) H1 l1) (fun uL => F0 m 2 uL.1 []) ?_ ?_ (3) (ls, 0) _ _ ⟨Nat.zero_add _, lv_sub hl [0, 1] rfl, hW⟩
  · skip
    intro uL H locs hI
    obtain ⟨ls, i⟩ := uL
    obtain ⟨hu, hl, hW⟩ := hI
    dsimp only at hu hl hW ⊢
    have hu : i = 3 := hu
    subst hu
    refine lv_iload_n hx hb dX7_watches_2 rfl (lv_at hl 0 rfl) ?_
    refine lv_iconst (v := 3) hx hb dX7_watches_3 (by decide) ?_
    refine lv_icmp_ge (tgt := 76) hx hb dX7_watches_4 (by decide) (fun c_4 => ?_) (fun c_4 => ?_)
    · skip
      exact r_retv M hW (by rw [sX7_watches]) ⟨rfl, rfl⟩ (Nat.zero_le _) (Nat.zero_le _) dX7_watches_76
    · skip
      exact absurd (nI_le (Nat.le_refl 3) (by decide)) c_4
  · skip
    intro n ih uL H locs hI
    obtain ⟨ls, i⟩ := uL
    obtain ⟨hu, hl, hW⟩ := hI
    dsimp only at hu hl hW ⊢
    have hlt : i < 3 := by omega
    refine lv_iload_n hx hb dX7_watches_2 rfl (lv_at hl 0 rfl) ?_
    refine lv_iconst (v := 3) hx hb dX7_watches_3 (by decide) ?_
    refine lv_icmp_ge (tgt := 76) hx hb dX7_watches_4 (by decide) (fun c_4_2 => ?_) (fun c_4_2 => ?_)
    · skip
      exact absurd c_4_2 (nI_ge hlt (by decide))
    · skip
      refine r_cut (σ := Unit) (fun _ H1 l1 => Wd G s (ModW G b (jX7_watches_70 (iterN (fun i h => jX7_watches_70 h i) i u) i) ++ Y) H1 l1) (fun _ => F0 m 70 ls []) (fun _ H locs hW => ?_) (fun hJ_70 => ?_)
      · skip
        refine lv_iinc (v := nI (i + 1)) (lv' := [(1, .int (nI (i + 1))), (0, .ref (b 0))]) hx hb dX7_watches_70 hl (k := 0) rfl (nI_1 i) (by decide) rfl (fun ls hl => ?_)
        refine lv_goto (tgt := 2) hx hb dX7_watches_73 (by decide) ?_
        exact ih (ls, i + 1) _ _ ⟨by dsimp only; omega, lv_sub hl [0, 1] rfl, (by dsimp only; rw [iterN_succ]; exact hW)⟩
      · skip
        refine lv_aload_n hx hb dX7_watches_7 rfl (lv_at hl 1 rfl) ?_
        refine gt_Mod_0_1 M hW kw_392 dX7_watches_8 ?_
        refine lv_bipush (v := 30) hx hb dX7_watches_11 (by decide) ?_
        refine lv_iload_n hx hb dX7_watches_13 rfl (lv_at hl 0 rfl) ?_
        refine lv_iadd hx hb dX7_watches_14 ?_
        refine r_top (y := nI (30 + i)) (nI_add 30 i) ?_
        refine lv_aload_n hx hb dX7_watches_15 rfl (lv_at hl 1 rfl) ?_
        refine lv_iload_n hx hb dX7_watches_16 rfl (lv_at hl 0 rfl) ?_
        refine r_callVi M hW (c_X7_seesTooMuch l G b (iterN (fun i h => jX7_watches_70 h i) i u) (nI i) (Y)) rfl kw_420 kw_421 kw_422 kw_412 kw_414 pl_X7_seesTooMuch 0 rfl rfl ⟨by decide, by decide⟩ ⟨Nat.zero_le _, Nat.zero_le _⟩ hl.1 rfl (Nat.le_of_ble_eq_true rfl) dX7_watches_17 (fun H locs hW => ?_)
        refine r_cuti (pc2 := 38) (ls2 := ls) (st := [.int (nI (30 + i)), .ref (b 1)]) (if (rX7_seesTooMuch (iterN (fun i h => jX7_watches_70 h i) i u) (nI i)) = 0 then 0 else ((iterN (fun i h => jX7_watches_70 h i) i u) 1 (30 + i)) + 1) (fun x_38 hx_38 => ?_) (fun hJ_38 => ?_)
        · skip
          subst hx_38
          refine as_Mod_1 M hW (30 + i) rfl (by omega) dX7_watches_38 (fun H locs hW => ?_)
          refine lv_aload_n hx hb dX7_watches_39 rfl (lv_at hl 1 rfl) ?_
          refine gt_Mod_0_1 M hW kw_392 dX7_watches_40 ?_
          refine lv_bipush (v := 30) hx hb dX7_watches_43 (by decide) ?_
          refine lv_iload_n hx hb dX7_watches_45 rfl (lv_at hl 0 rfl) ?_
          refine lv_iadd hx hb dX7_watches_46 ?_
          refine r_top (y := nI (30 + i)) (nI_add 30 i) ?_
          refine al_Mod_1 M hW (30 + i) rfl (by omega) (x := if (rX7_seesTooMuch (iterN (fun i h => jX7_watches_70 h i) i u) (nI i)) = 0 then 0 else ((iterN (fun i h => jX7_watches_70 h i) i u) 1 (30 + i)) + 1) up2_s dX7_watches_47 ?_
          refine lv_iconst (v := 3) hx hb dX7_watches_48 (by decide) ?_
          refine lv_iload_n hx hb dX7_watches_49 rfl (lv_at hl 0 rfl) ?_
          refine lv_isub hx hb dX7_watches_50 ?_
          refine lv_icmp_lt (tgt := 70) hx hb dX7_watches_51 (by decide) (fun c_51 => ?_) (fun c_51 => ?_)
          · skip
            exact hJ_70 () _ _ (by rw [jX7_watches_70, if_pos c_51]; exact hW)
          · skip
            refine lv_aload_n hx hb dX7_watches_54 rfl (lv_at hl 1 rfl) ?_
            refine gt_Mod_0_1 M hW kw_392 dX7_watches_55 ?_
            refine lv_bipush (v := 14) hx hb dX7_watches_58 (by decide) ?_
            refine al_Mod_1 M hW 14 rfl (by decide) (x := (up2 (iterN (fun i h => jX7_watches_70 h i) i u) 1 (30 + i) (if (rX7_seesTooMuch (iterN (fun i h => jX7_watches_70 h i) i u) (nI i)) = 0 then 0 else ((iterN (fun i h => jX7_watches_70 h i) i u) 1 (30 + i)) + 1)) 1 14) rfl dX7_watches_60 ?_
            refine lv_iconst (v := 1) hx hb dX7_watches_61 (by decide) ?_
            refine lv_icmp_ne (tgt := 70) hx hb dX7_watches_62 (by decide) (fun c_62 => ?_) (fun c_62 => ?_)
            · skip
              exact hJ_70 () _ _ (by rw [jX7_watches_70, if_neg c_51, if_neg c_62]; exact hW)
            · skip
              refine lv_aload_n hx hb dX7_watches_65 rfl (lv_at hl 1 rfl) ?_
              refine lv_iload_n hx hb dX7_watches_66 rfl (lv_at hl 0 rfl) ?_
              refine r_callVv M hW (c_X7_trips l G b (up2 (iterN (fun i h => jX7_watches_70 h i) i u) 1 (30 + i) (if (rX7_seesTooMuch (iterN (fun i h => jX7_watches_70 h i) i u) (nI i)) = 0 then 0 else ((iterN (fun i h => jX7_watches_70 h i) i u) 1 (30 + i)) + 1)) (nI i) (Y) ⟨(by rw [nI_clamp (by omega)]), (by rw [nI_clamp (by omega)]; omega)⟩) rfl kw_423 kw_424 kw_425 kw_412 kw_415 pl_X7_trips 0 rfl rfl ⟨by decide, by decide⟩ ⟨Nat.zero_le _, Nat.zero_le _⟩ hl.1 rfl (Nat.le_of_ble_eq_true rfl) dX7_watches_67 (fun H locs hW => ?_)
              exact hJ_70 () _ _ (by rw [jX7_watches_70, if_neg c_51, if_pos c_62]; exact hW)
        · skip
          refine lv_if_eq (tgt := 37) hx hb dX7_watches_20 (by decide) (fun c_20 => ?_) (fun c_20 => ?_)
          · skip
            refine lv_iconst (v := 0) hx hb dX7_watches_37 (by decide) ?_
            exact hJ_38 _ (by rw [if_pos c_20])
          · skip
            refine lv_aload_n hx hb dX7_watches_23 rfl (lv_at hl 1 rfl) ?_
            refine gt_Mod_0_1 M hW kw_392 dX7_watches_24 ?_
            refine lv_bipush (v := 30) hx hb dX7_watches_27 (by decide) ?_
            refine lv_iload_n hx hb dX7_watches_29 rfl (lv_at hl 0 rfl) ?_
            refine lv_iadd hx hb dX7_watches_30 ?_
            refine r_top (y := nI (30 + i)) (nI_add 30 i) ?_
            refine al_Mod_1 M hW (30 + i) rfl (by omega) (x := (iterN (fun i h => jX7_watches_70 h i) i u) 1 (30 + i)) rfl dX7_watches_31 ?_
            refine lv_iconst (v := 1) hx hb dX7_watches_32 (by decide) ?_
            refine lv_iadd hx hb dX7_watches_33 ?_
            refine lv_goto (tgt := 38) hx hb dX7_watches_34 (by decide) ?_
            exact hJ_38 _ (by rw [if_neg c_20])
end
section
theorem up2_c (g : Nat → Nat → Int32) (c k : Nat) (v : Int32) (j : Nat) : up2 g c k v c j = if j = k then v else g c j := by rw [up2_eq]; rfl
theorem comes_s (u : Nat → Nat → Int32) (x : Int32) {j : Nat} (h5 : j ≠ 5) (h7 : j ≠ 7) : sX7_comes u x 1 j = u 1 j := by
  unfold sX7_comes
  rw [up2_c, if_neg h7, up2_c, if_neg h5]
theorem moves_12 (u : Nat → Nat → Int32) : (sX7_moves u) 1 12 = u 1 12 := by
  unfold sX7_moves
  rw [up2_c, if_neg (by decide), up2_c, if_neg (by decide)]
  unfold movesB
  rw [comes_s _ _ (by decide) (by decide)]
  unfold movesA
  simp only [up2_c]
  rfl
theorem iterM_12 (g : Nat → Nat → Int32) (n : Nat) : (iterN (fun _ => sX7_moves) n g) 1 12 = g 1 12 := iter_at2 1 12 (fun _ h => moves_12 h) n g
def mSlip (h : Nat → Nat → Int32) (z : Int32) : Int32 := if h 1 14 = 0 then 0 else if 0 < z then (if z ≤ 50 then 2 * z else 100) else 0
def mCells (h : Nat → Nat → Int32) : Int32 := if h 1 14 = 0 then 0 else h 1 0 * (100 - h 1 11) / 100
def mWarm (z : Int32) : Int32 := if 0 ≤ z then z else 0
theorem iter_other {F : Nat → (Nat → Nat → Int32) → (Nat → Nat → Int32)} (c : Nat) (hF : ∀ (k : Nat) (h : Nat → Nat → Int32) (a : Nat), a ≠ c → F k h a = h a) (n : Nat) (g : Nat → Nat → Int32) {a : Nat} (ha : a ≠ c) : iterN F n g a = g a := by
  induction n with
  | zero => rfl
  | succ n ih => exact (hF n _ a ha).trans ih

def jX7_tick_37 (h : Nat → Nat → Int32) : Nat → Nat → Int32 := if (h 1 15) = 1 then sX7_comes (up2 h 1 8 ((h 1 8) + (h 1 2))) (h 1 2) else h
def mtickA (u : Nat → Nat → Int32) : Nat → Nat → Int32 := up2 (jX7_tick_37 u) 1 11 (mSlip (jX7_tick_37 u) ((rX7_load (jX7_tick_37 u)) - ((jX7_tick_37 u) 1 1)))
def mtickB (u : Nat → Nat → Int32) : Nat → Nat → Int32 := up2 (mtickA u) 1 12 (mCells (mtickA u))
def mtickC (u : Nat → Nat → Int32) : Nat → Nat → Int32 := iterN (fun _ => sX7_moves) ((mtickB u 1 12).toNatClampNeg) (mtickB u)
def mtickD (u : Nat → Nat → Int32) : Nat → Nat → Int32 := up2 (mtickC u) 1 13 (mWarm ((((mtickC u) 1 13) + (((mtickC u) 1 12) * (rX7_beyond (mtickC u)))) - 2))
def sX7_tick (u : Nat → Nat → Int32) : Nat → Nat → Int32 := up2 (sX7_watches (mtickD u)) 1 17 (((sX7_watches (mtickD u)) 1 17) + 1)
set_option maxHeartbeats 4000000 in
set_option maxRecDepth 100000 in
/-- X7.tick -/
theorem c_X7_tick (l : Launch) (G : Gp) (b : Nat → Nat) (u : Nat → Nat → Int32) (Y : va_W) : Cn l G yX7_tick cX7_tick 3 none 3 [.ref (b 0)] (ModW G b u ++ Y) none (ModW G b (sX7_tick u) ++ Y) := by
  refine CnE.of (by decide) (Nat.le_of_ble_eq_true rfl) ?_
  intro p e s m below meth c ls M hnm hl hW
  have hx := M.1
  have hb := M.2.1
  have hl : lv_has ls 3 [(0, .ref (b 0))] := hl
  refine r_cut (σ := Unit) (fun _ H1 l1 => Wd G s (ModW G b (jX7_tick_37 u) ++ Y) H1 l1) (fun _ => F0 m 37 ls []) (fun _ H locs hW => ?_) (fun hJ_37 => ?_)
  · skip
    refine lv_aload_n hx hb dX7_tick_37 rfl (lv_at hl 0 rfl) ?_
    refine r_callVi M hW (c_X7_load l G b (jX7_tick_37 u)  (Y)) rfl kw_416 kw_417 kw_418 kw_412 kw_406 pl_X7_load 0 rfl rfl ⟨by decide, by decide⟩ ⟨Nat.zero_le _, Nat.zero_le _⟩ hl.1 rfl (Nat.le_of_ble_eq_true rfl) dX7_tick_38 (fun H locs hW => ?_)
    refine lv_aload_n hx hb dX7_tick_41 rfl (lv_at hl 0 rfl) ?_
    refine gt_Mod_0_1 M hW kw_392 dX7_tick_42 ?_
    refine lv_iconst (v := 1) hx hb dX7_tick_45 (by decide) ?_
    refine al_Mod_1 M hW 1 rfl (by decide) (x := (jX7_tick_37 u) 1 1) rfl dX7_tick_46 ?_
    refine lv_isub hx hb dX7_tick_47 ?_
    refine lv_istore_n (lv' := [(1, .int ((rX7_load (jX7_tick_37 u)) - ((jX7_tick_37 u) 1 1))), (0, .ref (b 0))]) hx hb dX7_tick_48 rfl hl (by decide) rfl (fun ls hl => ?_)
    refine lv_aload_n hx hb dX7_tick_49 rfl (lv_at hl 1 rfl) ?_
    refine gt_Mod_0_1 M hW kw_392 dX7_tick_50 ?_
    refine lv_bipush (v := 11) hx hb dX7_tick_53 (by decide) ?_
    refine lv_aload_n hx hb dX7_tick_55 rfl (lv_at hl 1 rfl) ?_
    refine gt_Mod_0_1 M hW kw_392 dX7_tick_56 ?_
    refine lv_bipush (v := 14) hx hb dX7_tick_59 (by decide) ?_
    refine al_Mod_1 M hW 14 rfl (by decide) (x := (jX7_tick_37 u) 1 14) rfl dX7_tick_61 ?_
    refine r_cuti (pc2 := 87) (ls2 := ls) (st := [.int 11, .ref (b 1)]) (mSlip (jX7_tick_37 u) ((rX7_load (jX7_tick_37 u)) - ((jX7_tick_37 u) 1 1))) (fun x_87 hx_87 => ?_) (fun hJ_87 => ?_)
    · skip
      rewrite [hx_87]
      refine as_Mod_1 M hW 11 rfl (by decide) dX7_tick_87 (fun H locs hW => ?_)
      have hW : Wd G s (ModW G b (mtickA u) ++ Y) _ _ := hW
      refine lv_aload_n hx hb dX7_tick_88 rfl (lv_at hl 1 rfl) ?_
      refine gt_Mod_0_1 M hW kw_392 dX7_tick_89 ?_
      refine lv_bipush (v := 12) hx hb dX7_tick_92 (by decide) ?_
      refine lv_aload_n hx hb dX7_tick_94 rfl (lv_at hl 1 rfl) ?_
      refine gt_Mod_0_1 M hW kw_392 dX7_tick_95 ?_
      refine lv_bipush (v := 14) hx hb dX7_tick_98 (by decide) ?_
      refine al_Mod_1 M hW 14 rfl (by decide) (x := (mtickA u) 1 14) rfl dX7_tick_100 ?_
      refine r_cuti (pc2 := 128) (ls2 := ls) (st := [.int 12, .ref (b 1)]) (mCells (mtickA u)) (fun x_128 hx_128 => ?_) (fun hJ_128 => ?_)
      · skip
        rewrite [hx_128]
        refine as_Mod_1 M hW 12 rfl (by decide) dX7_tick_128 (fun H locs hW => ?_)
        refine lv_iconst (v := 0) hx hb dX7_tick_129 (by decide) ?_
        refine lv_istore_n (lv' := [(2, .int 0), (1, .int ((rX7_load (jX7_tick_37 u)) - ((jX7_tick_37 u) 1 1))), (0, .ref (b 0))]) hx hb dX7_tick_130 rfl hl (by decide) rfl (fun ls hl => ?_)
        have hW : Wd G s (ModW G b (mtickB u) ++ Y) _ _ := hW
        refine r_loop (σ := Array Slot × Nat) (fun r uL H1 l1 => uL.2 + r = (mtickB u 1 12).toNatClampNeg ∧ lv_has uL.1 3 [(2, .int (nI uL.2)), (1, .int ((rX7_load (jX7_tick_37 u)) - ((jX7_tick_37 u) 1 1))), (0, .ref (b 0))] ∧ Wd G s (ModW G b (iterN (fun _ => sX7_moves) uL.2 (mtickB u)) ++ Y) H1 l1) (fun uL => F0 m 131 uL.1 []) ?_ ?_ ((mtickB u 1 12).toNatClampNeg) (ls, 0) _ _ ⟨Nat.zero_add _, lv_sub hl [0, 1, 2] rfl, hW⟩
        · skip
          intro uL H locs hI
          obtain ⟨ls, i⟩ := uL
          obtain ⟨hu, hl, hW⟩ := hI
          dsimp only at hu hl hW ⊢
          have hu : i = (mtickB u 1 12).toNatClampNeg := hu
          subst hu
          refine lv_iload_n hx hb dX7_tick_131 rfl (lv_at hl 0 rfl) ?_
          refine lv_aload_n hx hb dX7_tick_132 rfl (lv_at hl 2 rfl) ?_
          refine gt_Mod_0_1 M hW kw_392 dX7_tick_133 ?_
          refine lv_bipush (v := 12) hx hb dX7_tick_136 (by decide) ?_
          refine al_Mod_1 M hW 12 rfl (by decide) (x := mtickB u 1 12) (iterM_12 _ _) dX7_tick_138 ?_
          refine lv_icmp_ge (tgt := 152) hx hb dX7_tick_139 (by decide) (fun c_139 => ?_) (fun c_139 => ?_)
          · skip
            have hW : Wd G s (ModW G b (mtickC u) ++ Y) _ _ := hW
            refine lv_aload_n hx hb dX7_tick_152 rfl (lv_at hl 2 rfl) ?_
            refine gt_Mod_0_1 M hW kw_392 dX7_tick_153 ?_
            refine lv_bipush (v := 13) hx hb dX7_tick_156 (by decide) ?_
            refine al_Mod_1 M hW 13 rfl (by decide) (x := (mtickC u) 1 13) rfl dX7_tick_158 ?_
            refine lv_aload_n hx hb dX7_tick_159 rfl (lv_at hl 2 rfl) ?_
            refine gt_Mod_0_1 M hW kw_392 dX7_tick_160 ?_
            refine lv_bipush (v := 12) hx hb dX7_tick_163 (by decide) ?_
            refine al_Mod_1 M hW 12 rfl (by decide) (x := (mtickC u) 1 12) rfl dX7_tick_165 ?_
            refine lv_aload_n hx hb dX7_tick_166 rfl (lv_at hl 2 rfl) ?_
            refine r_callVi M hW (c_X7_beyond l G b (mtickC u)  (Y)) rfl kw_429 kw_430 kw_431 kw_412 kw_413 pl_X7_beyond 0 rfl rfl ⟨by decide, by decide⟩ ⟨Nat.zero_le _, Nat.zero_le _⟩ hl.1 rfl (Nat.le_of_ble_eq_true rfl) dX7_tick_167 (fun H locs hW => ?_)
            refine lv_imul hx hb dX7_tick_170 ?_
            refine lv_iadd hx hb dX7_tick_171 ?_
            refine lv_iconst (v := 2) hx hb dX7_tick_172 (by decide) ?_
            refine lv_isub hx hb dX7_tick_173 ?_
            refine lv_istore_n (lv' := [(2, .int ((((mtickC u) 1 13) + (((mtickC u) 1 12) * (rX7_beyond (mtickC u)))) - 2)), (1, .int ((rX7_load (jX7_tick_37 u)) - ((jX7_tick_37 u) 1 1))), (0, .ref (b 0))]) hx hb dX7_tick_174 rfl hl (by decide) rfl (fun ls hl => ?_)
            refine lv_aload_n hx hb dX7_tick_175 rfl (lv_at hl 2 rfl) ?_
            refine gt_Mod_0_1 M hW kw_392 dX7_tick_176 ?_
            refine lv_bipush (v := 13) hx hb dX7_tick_179 (by decide) ?_
            refine lv_iload_n hx hb dX7_tick_181 rfl (lv_at hl 0 rfl) ?_
            refine r_cuti (pc2 := 190) (ls2 := ls) (st := [.int 13, .ref (b 1)]) (mWarm ((((mtickC u) 1 13) + (((mtickC u) 1 12) * (rX7_beyond (mtickC u)))) - 2)) (fun x_190 hx_190 => ?_) (fun hJ_190 => ?_)
            · skip
              rewrite [hx_190]
              refine as_Mod_1 M hW 13 rfl (by decide) dX7_tick_190 (fun H locs hW => ?_)
              have hW : Wd G s (ModW G b (mtickD u) ++ Y) _ _ := hW
              refine lv_aload_n hx hb dX7_tick_191 rfl (lv_at hl 2 rfl) ?_
              refine r_callVv M hW (c_X7_watches l G b (mtickD u)  (Y)) rfl kw_432 kw_433 kw_434 kw_412 kw_419 pl_X7_watches 0 rfl rfl ⟨by decide, by decide⟩ ⟨Nat.zero_le _, Nat.zero_le _⟩ hl.1 rfl (Nat.le_of_ble_eq_true rfl) dX7_tick_192 (fun H locs hW => ?_)
              refine lv_aload_n hx hb dX7_tick_195 rfl (lv_at hl 2 rfl) ?_
              refine gt_Mod_0_1 M hW kw_392 dX7_tick_196 ?_
              refine lv_bipush (v := 17) hx hb dX7_tick_199 (by decide) ?_
              refine lv_dup2_11 hx hb dX7_tick_201 rfl rfl ?_
              refine al_Mod_1 M hW 17 rfl (by decide) (x := (sX7_watches (mtickD u)) 1 17) rfl dX7_tick_202 ?_
              refine lv_iconst (v := 1) hx hb dX7_tick_203 (by decide) ?_
              refine lv_iadd hx hb dX7_tick_204 ?_
              refine as_Mod_1 M hW 17 rfl (by decide) dX7_tick_205 (fun H locs hW => ?_)
              exact r_retv M hW (by rw [sX7_tick]) ⟨rfl, rfl⟩ (Nat.zero_le _) (Nat.zero_le _) dX7_tick_206
            · skip
              refine lv_if_ge (tgt := 189) hx hb dX7_tick_182 (by decide) (fun c_182 => ?_) (fun c_182 => ?_)
              · skip
                refine lv_iload_n hx hb dX7_tick_189 rfl (lv_at hl 0 rfl) ?_
                exact hJ_190 _ (by rw [mWarm, if_pos c_182])
              · skip
                refine lv_iconst (v := 0) hx hb dX7_tick_185 (by decide) ?_
                refine lv_goto (tgt := 190) hx hb dX7_tick_186 (by decide) ?_
                exact hJ_190 _ (by rw [mWarm, if_neg c_182])
          · skip
            exact absurd (le_clamp _) c_139
        · skip
          intro n ih uL H locs hI
          obtain ⟨ls, i⟩ := uL
          obtain ⟨hu, hl, hW⟩ := hI
          dsimp only at hu hl hW ⊢
          have hlt : i < (mtickB u 1 12).toNatClampNeg := by omega
          refine lv_iload_n hx hb dX7_tick_131 rfl (lv_at hl 0 rfl) ?_
          refine lv_aload_n hx hb dX7_tick_132 rfl (lv_at hl 2 rfl) ?_
          refine gt_Mod_0_1 M hW kw_392 dX7_tick_133 ?_
          refine lv_bipush (v := 12) hx hb dX7_tick_136 (by decide) ?_
          refine al_Mod_1 M hW 12 rfl (by decide) (x := mtickB u 1 12) (iterM_12 _ _) dX7_tick_138 ?_
          refine lv_icmp_ge (tgt := 152) hx hb dX7_tick_139 (by decide) (fun c_139_2 => ?_) (fun c_139_2 => ?_)
          · skip
            exact absurd c_139_2 (lt_clamp hlt)
          · skip
            refine lv_aload_n hx hb dX7_tick_142 rfl (lv_at hl 2 rfl) ?_
            refine r_callVv M hW (c_X7_moves l G b (iterN (fun _ => sX7_moves) i (mtickB u))  (Y)) rfl kw_426 kw_427 kw_428 kw_412 kw_408 pl_X7_moves 0 rfl rfl ⟨by decide, by decide⟩ ⟨Nat.zero_le _, Nat.zero_le _⟩ hl.1 rfl (Nat.le_of_ble_eq_true rfl) dX7_tick_143 (fun H locs hW => ?_)
            refine lv_iinc (v := nI (i + 1)) (lv' := [(2, .int (nI (i + 1))), (1, .int ((rX7_load (jX7_tick_37 u)) - ((jX7_tick_37 u) 1 1))), (0, .ref (b 0))]) hx hb dX7_tick_146 hl (k := 0) rfl (nI_1 i) (by decide) rfl (fun ls hl => ?_)
            refine lv_goto (tgt := 131) hx hb dX7_tick_149 (by decide) ?_
            exact ih (ls, i + 1) _ _ ⟨by dsimp only; omega, lv_sub hl [0, 1, 2] rfl, (by dsimp only; rw [iterN_succ]; exact hW)⟩
      · skip
        refine lv_if_ne (tgt := 108) hx hb dX7_tick_101 (by decide) (fun c_101 => ?_) (fun c_101 => ?_)
        · skip
          refine lv_aload_n hx hb dX7_tick_108 rfl (lv_at hl 1 rfl) ?_
          refine gt_Mod_0_1 M hW kw_392 dX7_tick_109 ?_
          refine lv_iconst (v := 0) hx hb dX7_tick_112 (by decide) ?_
          refine al_Mod_1 M hW 0 rfl (by decide) (x := (mtickA u) 1 0) rfl dX7_tick_113 ?_
          refine lv_bipush (v := 100) hx hb dX7_tick_114 (by decide) ?_
          refine lv_aload_n hx hb dX7_tick_116 rfl (lv_at hl 1 rfl) ?_
          refine gt_Mod_0_1 M hW kw_392 dX7_tick_117 ?_
          refine lv_bipush (v := 11) hx hb dX7_tick_120 (by decide) ?_
          refine al_Mod_1 M hW 11 rfl (by decide) (x := (mtickA u) 1 11) rfl dX7_tick_122 ?_
          refine lv_isub hx hb dX7_tick_123 ?_
          refine lv_imul hx hb dX7_tick_124 ?_
          refine lv_bipush (v := 100) hx hb dX7_tick_125 (by decide) ?_
          refine lv_idiv hx hb dX7_tick_127 (by decide) ?_
          exact hJ_128 _ (by rw [mCells, if_neg c_101])
        · skip
          refine lv_iconst (v := 0) hx hb dX7_tick_104 (by decide) ?_
          refine lv_goto (tgt := 128) hx hb dX7_tick_105 (by decide) ?_
          exact hJ_128 _ (by rw [mCells, if_pos c_101])
    · skip
      refine lv_if_eq (tgt := 69) hx hb dX7_tick_62 (by decide) (fun c_62 => ?_) (fun c_62 => ?_)
      · skip
        refine lv_iconst (v := 0) hx hb dX7_tick_69 (by decide) ?_
        refine lv_goto (tgt := 87) hx hb dX7_tick_70 (by decide) ?_
        exact hJ_87 _ (by rw [mSlip, if_pos c_62])
      · skip
        refine lv_iload_n hx hb dX7_tick_65 rfl (lv_at hl 0 rfl) ?_
        refine lv_if_gt (tgt := 73) hx hb dX7_tick_66 (by decide) (fun c_66 => ?_) (fun c_66 => ?_)
        · skip
          refine lv_iload_n hx hb dX7_tick_73 rfl (lv_at hl 0 rfl) ?_
          refine lv_bipush (v := 50) hx hb dX7_tick_74 (by decide) ?_
          refine lv_icmp_le (tgt := 84) hx hb dX7_tick_76 (by decide) (fun c_76 => ?_) (fun c_76 => ?_)
          · skip
            refine lv_iconst (v := 2) hx hb dX7_tick_84 (by decide) ?_
            refine lv_iload_n hx hb dX7_tick_85 rfl (lv_at hl 0 rfl) ?_
            refine lv_imul hx hb dX7_tick_86 ?_
            exact hJ_87 _ (by rw [mSlip, if_neg c_62, if_pos c_66, if_pos c_76])
          · skip
            refine lv_bipush (v := 100) hx hb dX7_tick_79 (by decide) ?_
            refine lv_goto (tgt := 87) hx hb dX7_tick_81 (by decide) ?_
            exact hJ_87 _ (by rw [mSlip, if_neg c_62, if_pos c_66, if_neg c_76])
        · skip
          refine lv_iconst (v := 0) hx hb dX7_tick_69 (by decide) ?_
          refine lv_goto (tgt := 87) hx hb dX7_tick_70 (by decide) ?_
          exact hJ_87 _ (by rw [mSlip, if_neg c_62, if_neg c_66])
  · skip
    refine lv_aload_n hx hb dX7_tick_0 rfl (lv_at hl 0 rfl) ?_
    refine gt_Mod_0_1 M hW kw_392 dX7_tick_1 ?_
    refine lv_bipush (v := 15) hx hb dX7_tick_4 (by decide) ?_
    refine al_Mod_1 M hW 15 rfl (by decide) (x := u 1 15) rfl dX7_tick_6 ?_
    refine lv_iconst (v := 1) hx hb dX7_tick_7 (by decide) ?_
    refine lv_icmp_ne (tgt := 37) hx hb dX7_tick_8 (by decide) (fun c_8 => ?_) (fun c_8 => ?_)
    · skip
      exact hJ_37 () _ _ (by rw [jX7_tick_37, if_neg c_8]; exact hW)
    · skip
      refine lv_aload_n hx hb dX7_tick_11 rfl (lv_at hl 0 rfl) ?_
      refine gt_Mod_0_1 M hW kw_392 dX7_tick_12 ?_
      refine lv_bipush (v := 8) hx hb dX7_tick_15 (by decide) ?_
      refine lv_dup2_11 hx hb dX7_tick_17 rfl rfl ?_
      refine al_Mod_1 M hW 8 rfl (by decide) (x := u 1 8) rfl dX7_tick_18 ?_
      refine lv_aload_n hx hb dX7_tick_19 rfl (lv_at hl 0 rfl) ?_
      refine gt_Mod_0_1 M hW kw_392 dX7_tick_20 ?_
      refine lv_iconst (v := 2) hx hb dX7_tick_23 (by decide) ?_
      refine al_Mod_1 M hW 2 rfl (by decide) (x := u 1 2) rfl dX7_tick_24 ?_
      refine lv_iadd hx hb dX7_tick_25 ?_
      refine as_Mod_1 M hW 8 rfl (by decide) dX7_tick_26 (fun H locs hW => ?_)
      refine lv_aload_n hx hb dX7_tick_27 rfl (lv_at hl 0 rfl) ?_
      refine lv_aload_n hx hb dX7_tick_28 rfl (lv_at hl 0 rfl) ?_
      refine gt_Mod_0_1 M hW kw_392 dX7_tick_29 ?_
      refine lv_iconst (v := 2) hx hb dX7_tick_32 (by decide) ?_
      refine al_Mod_1 M hW 2 rfl (by decide) (x := u 1 2) (up2_k (by decide)) dX7_tick_33 ?_
      refine r_callVv M hW (c_X7_comes l G b (up2 u 1 8 ((u 1 8) + (u 1 2))) (u 1 2) (Y)) rfl kw_409 kw_410 kw_411 kw_412 kw_407 pl_X7_comes 0 rfl rfl ⟨by decide, by decide⟩ ⟨Nat.zero_le _, Nat.zero_le _⟩ hl.1 rfl (Nat.le_of_ble_eq_true rfl) dX7_tick_34 (fun H locs hW => ?_)
      exact hJ_37 () _ _ (by rw [jX7_tick_37, if_pos c_8]; exact hW)

def rX7_ticks (u : Nat → Nat → Int32) (x : Int32) : Int32 := ((iterN (fun _ => sX7_tick) x.toNatClampNeg u) 1 6) - (u 1 6)
def sX7_ticks (u : Nat → Nat → Int32) (x : Int32) : Nat → Nat → Int32 := iterN (fun _ => sX7_tick) x.toNatClampNeg u
set_option maxHeartbeats 4000000 in
set_option maxRecDepth 100000 in
/-- X7.ticks -/
theorem c_X7_ticks (l : Launch) (G : Gp) (b : Nat → Nat) (u : Nat → Nat → Int32) (x : Int32) (Y : va_W) : Cn l G yX7_ticks cX7_ticks 4 (some .int) 4 [.ref (b 0), .int x] (ModW G b u ++ Y) (some (.int (rX7_ticks u x))) (ModW G b (sX7_ticks u x) ++ Y) := by
  refine CnE.of (by decide) (Nat.le_of_ble_eq_true rfl) ?_
  intro p e s m below meth c ls M hnm hl hW
  have hx := M.1
  have hb := M.2.1
  have hl : lv_has ls 4 [(0, .ref (b 0)), (1, .int x)] := hl
  refine lv_aload_n hx hb dX7_ticks_0 rfl (lv_at hl 0 rfl) ?_
  refine gt_Mod_0_1 M hW kw_392 dX7_ticks_1 ?_
  refine lv_bipush (v := 6) hx hb dX7_ticks_4 (by decide) ?_
  refine al_Mod_1 M hW 6 rfl (by decide) (x := u 1 6) rfl dX7_ticks_6 ?_
  refine lv_istore_n (lv' := [(2, .int (u 1 6)), (0, .ref (b 0)), (1, .int x)]) hx hb dX7_ticks_7 rfl hl (by decide) rfl (fun ls hl => ?_)
  refine lv_iconst (v := 0) hx hb dX7_ticks_8 (by decide) ?_
  refine lv_istore_n (lv' := [(3, .int 0), (2, .int (u 1 6)), (0, .ref (b 0)), (1, .int x)]) hx hb dX7_ticks_9 rfl hl (by decide) rfl (fun ls hl => ?_)
  refine r_loop (σ := Array Slot × Nat) (fun r uL H1 l1 => uL.2 + r = x.toNatClampNeg ∧ lv_has uL.1 4 [(3, .int (nI uL.2)), (2, .int (u 1 6)), (0, .ref (b 0)), (1, .int x)] ∧ Wd G s (ModW G b (iterN (fun _ => sX7_tick) uL.2 u) ++ Y) H1 l1) (fun uL => F0 m 10 uL.1 []) ?_ ?_ (x.toNatClampNeg) (ls, 0) _ _ ⟨Nat.zero_add _, lv_sub hl [0, 1, 2, 3] rfl, hW⟩
  · skip
    intro uL H locs hI
    obtain ⟨ls, i⟩ := uL
    obtain ⟨hu, hl, hW⟩ := hI
    dsimp only at hu hl hW ⊢
    have hu : i = x.toNatClampNeg := hu
    subst hu
    refine lv_iload_n hx hb dX7_ticks_10 rfl (lv_at hl 0 rfl) ?_
    refine lv_iload_n hx hb dX7_ticks_11 rfl (lv_at hl 3 rfl) ?_
    refine lv_icmp_ge (tgt := 25) hx hb dX7_ticks_12 (by decide) (fun c_12 => ?_) (fun c_12 => ?_)
    · skip
      refine lv_aload_n hx hb dX7_ticks_25 rfl (lv_at hl 2 rfl) ?_
      refine gt_Mod_0_1 M hW kw_392 dX7_ticks_26 ?_
      refine lv_bipush (v := 6) hx hb dX7_ticks_29 (by decide) ?_
      refine al_Mod_1 M hW 6 rfl (by decide) (x := (iterN (fun _ => sX7_tick) x.toNatClampNeg u) 1 6) rfl dX7_ticks_31 ?_
      refine lv_iload_n hx hb dX7_ticks_32 rfl (lv_at hl 1 rfl) ?_
      refine lv_isub hx hb dX7_ticks_33 ?_
      exact r_reti M hW (by rw [sX7_ticks]) ⟨by rw [rX7_ticks], rfl⟩ (Nat.zero_le _) (Nat.zero_le _) dX7_ticks_34
    · skip
      exact absurd (le_clamp _) c_12
  · skip
    intro n ih uL H locs hI
    obtain ⟨ls, i⟩ := uL
    obtain ⟨hu, hl, hW⟩ := hI
    dsimp only at hu hl hW ⊢
    have hlt : i < x.toNatClampNeg := by omega
    refine lv_iload_n hx hb dX7_ticks_10 rfl (lv_at hl 0 rfl) ?_
    refine lv_iload_n hx hb dX7_ticks_11 rfl (lv_at hl 3 rfl) ?_
    refine lv_icmp_ge (tgt := 25) hx hb dX7_ticks_12 (by decide) (fun c_12_2 => ?_) (fun c_12_2 => ?_)
    · skip
      exact absurd c_12_2 (lt_clamp hlt)
    · skip
      refine lv_aload_n hx hb dX7_ticks_15 rfl (lv_at hl 2 rfl) ?_
      refine r_callVv M hW (c_X7_tick l G b (iterN (fun _ => sX7_tick) i u)  (Y)) rfl kw_436 kw_437 kw_438 kw_412 kw_435 pl_X7_tick 0 rfl rfl ⟨by decide, by decide⟩ ⟨Nat.zero_le _, Nat.zero_le _⟩ hl.1 rfl (Nat.le_of_ble_eq_true rfl) dX7_ticks_16 (fun H locs hW => ?_)
      refine lv_iinc (v := nI (i + 1)) (lv' := [(3, .int (nI (i + 1))), (2, .int (u 1 6)), (0, .ref (b 0)), (1, .int x)]) hx hb dX7_ticks_19 hl (k := 0) rfl (nI_1 i) (by decide) rfl (fun ls hl => ?_)
      refine lv_goto (tgt := 10) hx hb dX7_ticks_22 (by decide) ?_
      exact ih (ls, i + 1) _ _ ⟨by dsimp only; omega, lv_sub hl [0, 1, 2, 3] rfl, (by dsimp only; rw [iterN_succ]; exact hW)⟩
end
section
def sX7_putAside (u : Nat → Nat → Int32) : Nat → Nat → Int32 := iterN (fun k h => up2 h 2 k (h 1 k)) 56 u
set_option maxHeartbeats 4000000 in
set_option maxRecDepth 100000 in
/-- X7.putAside -/
theorem c_X7_putAside (l : Launch) (G : Gp) (b : Nat → Nat) (u : Nat → Nat → Int32) (Y : va_W) : Cn l G yX7_putAside cX7_putAside 2 none 0 [.ref (b 0)] (ModW G b u ++ Y) none (ModW G b (sX7_putAside u) ++ Y) := by
  refine CnE.of (by decide) (Nat.le_of_ble_eq_true rfl) ?_
  intro p e s m below meth c ls M hnm hl hW
  have hx := M.1
  have hb := M.2.1
  have hl : lv_has ls 2 [(0, .ref (b 0))] := hl
  refine lv_iconst (v := 0) hx hb dX7_putAside_0 (by decide) ?_
  refine lv_istore_n (lv' := [(1, .int 0), (0, .ref (b 0))]) hx hb dX7_putAside_1 rfl hl (by decide) rfl (fun ls hl => ?_)
  refine r_loop (σ := Array Slot × Nat) (fun r uL H1 l1 => uL.2 + r = 56 ∧ lv_has uL.1 2 [(1, .int (nI uL.2)), (0, .ref (b 0))] ∧ Wd G s (ModW G b (iterN (fun k h => up2 h 2 k (h 1 k)) uL.2 u) ++ Y) H1 l1) (fun uL => F0 m 2 uL.1 []) ?_ ?_ (56) (ls, 0) _ _ ⟨Nat.zero_add _, lv_sub hl [0, 1] rfl, hW⟩
  · skip
    intro uL H locs hI
    obtain ⟨ls, i⟩ := uL
    obtain ⟨hu, hl, hW⟩ := hI
    dsimp only at hu hl hW ⊢
    have hu : i = 56 := hu
    subst hu
    refine lv_iload_n hx hb dX7_putAside_2 rfl (lv_at hl 0 rfl) ?_
    refine lv_bipush (v := 56) hx hb dX7_putAside_3 (by decide) ?_
    refine lv_icmp_ge (tgt := 26) hx hb dX7_putAside_5 (by decide) (fun c_5 => ?_) (fun c_5 => ?_)
    · skip
      exact r_retv M hW (by rw [sX7_putAside]) ⟨rfl, rfl⟩ (Nat.zero_le _) (Nat.zero_le _) dX7_putAside_26
    · skip
      exact absurd (nI_le (Nat.le_refl 56) (by decide)) c_5
  · skip
    intro n ih uL H locs hI
    obtain ⟨ls, i⟩ := uL
    obtain ⟨hu, hl, hW⟩ := hI
    dsimp only at hu hl hW ⊢
    have hlt : i < 56 := by omega
    refine lv_iload_n hx hb dX7_putAside_2 rfl (lv_at hl 0 rfl) ?_
    refine lv_bipush (v := 56) hx hb dX7_putAside_3 (by decide) ?_
    refine lv_icmp_ge (tgt := 26) hx hb dX7_putAside_5 (by decide) (fun c_5_2 => ?_) (fun c_5_2 => ?_)
    · skip
      exact absurd c_5_2 (nI_ge hlt (by decide))
    · skip
      refine lv_aload_n hx hb dX7_putAside_8 rfl (lv_at hl 1 rfl) ?_
      refine gt_Mod_0_2 M hW kw_393 dX7_putAside_9 ?_
      refine lv_iload_n hx hb dX7_putAside_12 rfl (lv_at hl 0 rfl) ?_
      refine lv_aload_n hx hb dX7_putAside_13 rfl (lv_at hl 1 rfl) ?_
      refine gt_Mod_0_1 M hW kw_392 dX7_putAside_14 ?_
      refine lv_iload_n hx hb dX7_putAside_17 rfl (lv_at hl 0 rfl) ?_
      refine al_Mod_1 M hW i rfl (by omega) (x := (iterN (fun k h => up2 h 2 k (h 1 k)) i u) 1 i) rfl dX7_putAside_18 ?_
      refine as_Mod_2 M hW i rfl (by omega) dX7_putAside_19 (fun H locs hW => ?_)
      refine lv_iinc (v := nI (i + 1)) (lv' := [(1, .int (nI (i + 1))), (0, .ref (b 0))]) hx hb dX7_putAside_20 hl (k := 0) rfl (nI_1 i) (by decide) rfl (fun ls hl => ?_)
      refine lv_goto (tgt := 2) hx hb dX7_putAside_23 (by decide) ?_
      exact ih (ls, i + 1) _ _ ⟨by dsimp only; omega, lv_sub hl [0, 1] rfl, (by dsimp only; rw [iterN_succ]; exact hW)⟩

def sX7_takeBack (u : Nat → Nat → Int32) : Nat → Nat → Int32 := iterN (fun k h => up2 h 1 k (h 2 k)) 56 u
set_option maxHeartbeats 4000000 in
set_option maxRecDepth 100000 in
/-- X7.takeBack -/
theorem c_X7_takeBack (l : Launch) (G : Gp) (b : Nat → Nat) (u : Nat → Nat → Int32) (Y : va_W) : Cn l G yX7_takeBack cX7_takeBack 2 none 0 [.ref (b 0)] (ModW G b u ++ Y) none (ModW G b (sX7_takeBack u) ++ Y) := by
  refine CnE.of (by decide) (Nat.le_of_ble_eq_true rfl) ?_
  intro p e s m below meth c ls M hnm hl hW
  have hx := M.1
  have hb := M.2.1
  have hl : lv_has ls 2 [(0, .ref (b 0))] := hl
  refine lv_iconst (v := 0) hx hb dX7_takeBack_0 (by decide) ?_
  refine lv_istore_n (lv' := [(1, .int 0), (0, .ref (b 0))]) hx hb dX7_takeBack_1 rfl hl (by decide) rfl (fun ls hl => ?_)
  refine r_loop (σ := Array Slot × Nat) (fun r uL H1 l1 => uL.2 + r = 56 ∧ lv_has uL.1 2 [(1, .int (nI uL.2)), (0, .ref (b 0))] ∧ Wd G s (ModW G b (iterN (fun k h => up2 h 1 k (h 2 k)) uL.2 u) ++ Y) H1 l1) (fun uL => F0 m 2 uL.1 []) ?_ ?_ (56) (ls, 0) _ _ ⟨Nat.zero_add _, lv_sub hl [0, 1] rfl, hW⟩
  · skip
    intro uL H locs hI
    obtain ⟨ls, i⟩ := uL
    obtain ⟨hu, hl, hW⟩ := hI
    dsimp only at hu hl hW ⊢
    have hu : i = 56 := hu
    subst hu
    refine lv_iload_n hx hb dX7_takeBack_2 rfl (lv_at hl 0 rfl) ?_
    refine lv_bipush (v := 56) hx hb dX7_takeBack_3 (by decide) ?_
    refine lv_icmp_ge (tgt := 26) hx hb dX7_takeBack_5 (by decide) (fun c_5 => ?_) (fun c_5 => ?_)
    · skip
      exact r_retv M hW (by rw [sX7_takeBack]) ⟨rfl, rfl⟩ (Nat.zero_le _) (Nat.zero_le _) dX7_takeBack_26
    · skip
      exact absurd (nI_le (Nat.le_refl 56) (by decide)) c_5
  · skip
    intro n ih uL H locs hI
    obtain ⟨ls, i⟩ := uL
    obtain ⟨hu, hl, hW⟩ := hI
    dsimp only at hu hl hW ⊢
    have hlt : i < 56 := by omega
    refine lv_iload_n hx hb dX7_takeBack_2 rfl (lv_at hl 0 rfl) ?_
    refine lv_bipush (v := 56) hx hb dX7_takeBack_3 (by decide) ?_
    refine lv_icmp_ge (tgt := 26) hx hb dX7_takeBack_5 (by decide) (fun c_5_2 => ?_) (fun c_5_2 => ?_)
    · skip
      exact absurd c_5_2 (nI_ge hlt (by decide))
    · skip
      refine lv_aload_n hx hb dX7_takeBack_8 rfl (lv_at hl 1 rfl) ?_
      refine gt_Mod_0_1 M hW kw_392 dX7_takeBack_9 ?_
      refine lv_iload_n hx hb dX7_takeBack_12 rfl (lv_at hl 0 rfl) ?_
      refine lv_aload_n hx hb dX7_takeBack_13 rfl (lv_at hl 1 rfl) ?_
      refine gt_Mod_0_2 M hW kw_393 dX7_takeBack_14 ?_
      refine lv_iload_n hx hb dX7_takeBack_17 rfl (lv_at hl 0 rfl) ?_
      refine al_Mod_2 M hW i rfl (by omega) (x := (iterN (fun k h => up2 h 1 k (h 2 k)) i u) 2 i) rfl dX7_takeBack_18 ?_
      refine as_Mod_1 M hW i rfl (by omega) dX7_takeBack_19 (fun H locs hW => ?_)
      refine lv_iinc (v := nI (i + 1)) (lv' := [(1, .int (nI (i + 1))), (0, .ref (b 0))]) hx hb dX7_takeBack_20 hl (k := 0) rfl (nI_1 i) (by decide) rfl (fun ls hl => ?_)
      refine lv_goto (tgt := 2) hx hb dX7_takeBack_23 (by decide) ?_
      exact ih (ls, i + 1) _ _ ⟨by dsimp only; omega, lv_sub hl [0, 1] rfl, (by dsimp only; rw [iterN_succ]; exact hW)⟩

def sX7_swapsAside (u : Nat → Nat → Int32) : Nat → Nat → Int32 := iterN (fun k h => up2 (up2 h 1 k (h 2 k)) 2 k (h 1 k)) 56 u
set_option maxHeartbeats 4000000 in
set_option maxRecDepth 100000 in
/-- X7.swapsAside -/
theorem c_X7_swapsAside (l : Launch) (G : Gp) (b : Nat → Nat) (u : Nat → Nat → Int32) (Y : va_W) : Cn l G yX7_swapsAside cX7_swapsAside 3 none 0 [.ref (b 0)] (ModW G b u ++ Y) none (ModW G b (sX7_swapsAside u) ++ Y) := by
  refine CnE.of (by decide) (Nat.le_of_ble_eq_true rfl) ?_
  intro p e s m below meth c ls M hnm hl hW
  have hx := M.1
  have hb := M.2.1
  have hl : lv_has ls 3 [(0, .ref (b 0))] := hl
  refine lv_iconst (v := 0) hx hb dX7_swapsAside_0 (by decide) ?_
  refine lv_istore_n (lv' := [(1, .int 0), (0, .ref (b 0))]) hx hb dX7_swapsAside_1 rfl hl (by decide) rfl (fun ls hl => ?_)
  refine r_loop (σ := Array Slot × Nat) (fun r uL H1 l1 => uL.2 + r = 56 ∧ lv_has uL.1 3 [(1, .int (nI uL.2)), (0, .ref (b 0))] ∧ Wd G s (ModW G b (iterN (fun k h => up2 (up2 h 1 k (h 2 k)) 2 k (h 1 k)) uL.2 u) ++ Y) H1 l1) (fun uL => F0 m 2 uL.1 []) ?_ ?_ (56) (ls, 0) _ _ ⟨Nat.zero_add _, lv_sub hl [0, 1] rfl, hW⟩
  · skip
    intro uL H locs hI
    obtain ⟨ls, i⟩ := uL
    obtain ⟨hu, hl, hW⟩ := hI
    dsimp only at hu hl hW ⊢
    have hu : i = 56 := hu
    subst hu
    refine lv_iload_n hx hb dX7_swapsAside_2 rfl (lv_at hl 0 rfl) ?_
    refine lv_bipush (v := 56) hx hb dX7_swapsAside_3 (by decide) ?_
    refine lv_icmp_ge (tgt := 40) hx hb dX7_swapsAside_5 (by decide) (fun c_5 => ?_) (fun c_5 => ?_)
    · skip
      exact r_retv M hW (by rw [sX7_swapsAside]) ⟨rfl, rfl⟩ (Nat.zero_le _) (Nat.zero_le _) dX7_swapsAside_40
    · skip
      exact absurd (nI_le (Nat.le_refl 56) (by decide)) c_5
  · skip
    intro n ih uL H locs hI
    obtain ⟨ls, i⟩ := uL
    obtain ⟨hu, hl, hW⟩ := hI
    dsimp only at hu hl hW ⊢
    have hlt : i < 56 := by omega
    refine lv_iload_n hx hb dX7_swapsAside_2 rfl (lv_at hl 0 rfl) ?_
    refine lv_bipush (v := 56) hx hb dX7_swapsAside_3 (by decide) ?_
    refine lv_icmp_ge (tgt := 40) hx hb dX7_swapsAside_5 (by decide) (fun c_5_2 => ?_) (fun c_5_2 => ?_)
    · skip
      exact absurd c_5_2 (nI_ge hlt (by decide))
    · skip
      refine lv_aload_n hx hb dX7_swapsAside_8 rfl (lv_at hl 1 rfl) ?_
      refine gt_Mod_0_1 M hW kw_392 dX7_swapsAside_9 ?_
      refine lv_iload_n hx hb dX7_swapsAside_12 rfl (lv_at hl 0 rfl) ?_
      refine al_Mod_1 M hW i rfl (by omega) (x := (iterN (fun k h => up2 (up2 h 1 k (h 2 k)) 2 k (h 1 k)) i u) 1 i) rfl dX7_swapsAside_13 ?_
      refine lv_istore_n (lv' := [(2, .int ((iterN (fun k h => up2 (up2 h 1 k (h 2 k)) 2 k (h 1 k)) i u) 1 i)), (1, .int (nI i)), (0, .ref (b 0))]) hx hb dX7_swapsAside_14 rfl hl (by decide) rfl (fun ls hl => ?_)
      refine lv_aload_n hx hb dX7_swapsAside_15 rfl (lv_at hl 2 rfl) ?_
      refine gt_Mod_0_1 M hW kw_392 dX7_swapsAside_16 ?_
      refine lv_iload_n hx hb dX7_swapsAside_19 rfl (lv_at hl 1 rfl) ?_
      refine lv_aload_n hx hb dX7_swapsAside_20 rfl (lv_at hl 2 rfl) ?_
      refine gt_Mod_0_2 M hW kw_393 dX7_swapsAside_21 ?_
      refine lv_iload_n hx hb dX7_swapsAside_24 rfl (lv_at hl 1 rfl) ?_
      refine al_Mod_2 M hW i rfl (by omega) (x := (iterN (fun k h => up2 (up2 h 1 k (h 2 k)) 2 k (h 1 k)) i u) 2 i) rfl dX7_swapsAside_25 ?_
      refine as_Mod_1 M hW i rfl (by omega) dX7_swapsAside_26 (fun H locs hW => ?_)
      refine lv_aload_n hx hb dX7_swapsAside_27 rfl (lv_at hl 2 rfl) ?_
      refine gt_Mod_0_2 M hW kw_393 dX7_swapsAside_28 ?_
      refine lv_iload_n hx hb dX7_swapsAside_31 rfl (lv_at hl 1 rfl) ?_
      refine lv_iload_n hx hb dX7_swapsAside_32 rfl (lv_at hl 0 rfl) ?_
      refine as_Mod_2 M hW i rfl (by omega) dX7_swapsAside_33 (fun H locs hW => ?_)
      refine lv_iinc (v := nI (i + 1)) (lv' := [(1, .int (nI (i + 1))), (2, .int ((iterN (fun k h => up2 (up2 h 1 k (h 2 k)) 2 k (h 1 k)) i u) 1 i)), (0, .ref (b 0))]) hx hb dX7_swapsAside_34 hl (k := 1) rfl (nI_1 i) (by decide) rfl (fun ls hl => ?_)
      refine lv_goto (tgt := 2) hx hb dX7_swapsAside_37 (by decide) ?_
      exact ih (ls, i + 1) _ _ ⟨by dsimp only; omega, lv_sub hl [0, 2] rfl, (by dsimp only; rw [iterN_succ]; exact hW)⟩

def MSz (u : Nat → Nat → Int32) : Prop := ∃ n : Nat, n ≤ 4 ∧ u 0 4 = nI n
def mS (u : Nat → Nat → Int32) : Nat := (u 0 4).toNatClampNeg
def mN (u : Nat → Nat → Int32) : Nat := if u 0 4 = 4 then 3 else mS u
theorem MSz.eq {u : Nat → Nat → Int32} (h : MSz u) : u 0 4 = nI (mS u) ∧ mS u ≤ 4 := by
  obtain ⟨n, h1, h2⟩ := h
  have e : mS u = n := by rw [mS, h2]; exact nI_clamp (by omega)
  rw [e]
  exact ⟨h2, h1⟩
theorem MSz.le {u : Nat → Nat → Int32} (h : MSz u) : mN u ≤ 3 := by
  unfold mN
  by_cases c : u 0 4 = 4
  · rw [if_pos c]; exact Nat.le_refl 3
  · rw [if_neg c]
    have h2 := h.eq
    by_cases c2 : mS u = 4
    · exact absurd (by rw [h2.1, c2]; rfl) c
    · omega
theorem MSz.pred {u : Nat → Nat → Int32} (h : MSz u) (c : ¬ u 0 4 = 0) : u 0 4 - 1 = nI (mS u - 1) := by
  have h2 := h.eq
  by_cases c2 : mS u = 0
  · exact absurd (by rw [h2.1, c2]; exact nI_0) c
  · obtain ⟨k, hk⟩ := Nat.exists_eq_succ_of_ne_zero c2
    rw [h2.1, hk]
    exact nI_pred k
theorem MSz.pos {u : Nat → Nat → Int32} (h : MSz u) (c : ¬ u 0 4 = 0) : 0 < mS u := by
  have h2 := h.eq
  by_cases c2 : mS u = 0
  · exact absurd (by rw [h2.1, c2]; exact nI_0) c
  · omega
end
section
def jX7_records_48 (h : Nat → Nat → Int32) : Nat → Nat → Int32 := if (h 0 4) = 4 then up2 (iterN (fun k h => up2 h 3 k (h 3 (k + 56))) 168 h) 0 4 (((iterN (fun k h => up2 h 3 k (h 3 (k + 56))) 168 h) 0 4) - 1) else h
theorem rec48a (u : Nat → Nat → Int32) : (iterN (fun k h => up2 h 3 k (h 3 (k + 56))) 168 u) 0 4 = u 0 4 := congrFun (iter_at (F := fun k h => up2 h 3 k (h 3 (k + 56))) 0 (fun _ _ => up2_ne (by decide)) 168 u) 4
theorem rec48 {u : Nat → Nat → Int32} (hn : MSz u) : (jX7_records_48 u) 0 4 = nI (mN u) := by
  unfold jX7_records_48 mN
  by_cases c : u 0 4 = 4
  · rw [if_pos c, if_pos c, up2_c, if_pos rfl, rec48a, c]
    exact nI_pred 3
  · rw [if_neg c, if_neg c]
    exact hn.eq.1
theorem rec04 {u : Nat → Nat → Int32} (hn : MSz u) (n : Nat) : (iterN (fun k h => up2 h 3 (56 * mN u + k) (h 1 k)) n (jX7_records_48 u)) 0 4 = nI (mN u) := (congrFun (iter_at (F := fun k h => up2 h 3 (56 * mN u + k) (h 1 k)) 0 (fun _ _ => up2_ne (by decide)) n (jX7_records_48 u)) 4).trans (rec48 hn)

def sX7_records (u : Nat → Nat → Int32) : Nat → Nat → Int32 := up2 (iterN (fun k h => up2 h 3 (56 * mN u + k) (h 1 k)) 56 (jX7_records_48 u)) 0 4 (nI (mN u + 1))
set_option maxHeartbeats 4000000 in
set_option maxRecDepth 100000 in
/-- X7.records -/
theorem c_X7_records (l : Launch) (G : Gp) (b : Nat → Nat) (u : Nat → Nat → Int32) (Y : va_W) (hn : MSz u) : Cn l G yX7_records cX7_records 2 none 0 [.ref (b 0)] (ModW G b u ++ Y) none (ModW G b (sX7_records u) ++ Y) := by
  refine CnE.of (by decide) (Nat.le_of_ble_eq_true rfl) ?_
  intro p e s m below meth c ls M hnm hl hW
  have hx := M.1
  have hb := M.2.1
  have hl : lv_has ls 2 [(0, .ref (b 0))] := hl
  refine r_cut (σ := Array Slot) (fun ls H1 l1 => lv_has ls 2 [(0, .ref (b 0))] ∧ Wd G s (ModW G b (jX7_records_48 u) ++ Y) H1 l1) (fun ls => F0 m 48 ls []) (fun ls H locs hI => ?_) (fun hJ_48 => ?_)
  · skip
    obtain ⟨hl, hW⟩ := hI
    refine lv_iconst (v := 0) hx hb dX7_records_48 (by decide) ?_
    refine lv_istore_n (lv' := [(1, .int 0), (0, .ref (b 0))]) hx hb dX7_records_49 rfl hl (by decide) rfl (fun ls hl => ?_)
    have hmN := hn.le
    refine r_loop (σ := Array Slot × Nat) (fun r uL H1 l1 => uL.2 + r = 56 ∧ lv_has uL.1 2 [(1, .int (nI uL.2)), (0, .ref (b 0))] ∧ Wd G s (ModW G b (iterN (fun k h => up2 h 3 (56 * mN u + k) (h 1 k)) uL.2 (jX7_records_48 u)) ++ Y) H1 l1) (fun uL => F0 m 50 uL.1 []) ?_ ?_ (56) (ls, 0) _ _ ⟨Nat.zero_add _, lv_sub hl [0, 1] rfl, hW⟩
    · skip
      intro uL H locs hI
      obtain ⟨ls, i⟩ := uL
      obtain ⟨hu, hl, hW⟩ := hI
      dsimp only at hu hl hW ⊢
      have hu : i = 56 := hu
      subst hu
      refine lv_iload_n hx hb dX7_records_50 rfl (lv_at hl 0 rfl) ?_
      refine lv_bipush (v := 56) hx hb dX7_records_51 (by decide) ?_
      refine lv_icmp_ge (tgt := 82) hx hb dX7_records_53 (by decide) (fun c_53 => ?_) (fun c_53 => ?_)
      · skip
        refine lv_aload_n hx hb dX7_records_82 rfl (lv_at hl 1 rfl) ?_
        refine lv_dup hx hb dX7_records_83 rfl ?_
        refine gt_Mod_0_4 M hW kw_403 (x := nI (mN u)) (rec04 hn _) dX7_records_84 ?_
        refine lv_iconst (v := 1) hx hb dX7_records_87 (by decide) ?_
        refine lv_iadd hx hb dX7_records_88 ?_
        refine r_top (y := nI (mN u + 1)) (nI_1 _) ?_
        refine pt_Mod_0_4 M hW kw_403 dX7_records_89 (fun H locs hW => ?_)
        exact r_retv M hW (by rw [sX7_records]) ⟨rfl, rfl⟩ (Nat.zero_le _) (Nat.zero_le _) dX7_records_92
      · skip
        exact absurd (nI_le (Nat.le_refl 56) (by decide)) c_53
    · skip
      intro n ih uL H locs hI
      obtain ⟨ls, i⟩ := uL
      obtain ⟨hu, hl, hW⟩ := hI
      dsimp only at hu hl hW ⊢
      have hlt : i < 56 := by omega
      refine lv_iload_n hx hb dX7_records_50 rfl (lv_at hl 0 rfl) ?_
      refine lv_bipush (v := 56) hx hb dX7_records_51 (by decide) ?_
      refine lv_icmp_ge (tgt := 82) hx hb dX7_records_53 (by decide) (fun c_53_2 => ?_) (fun c_53_2 => ?_)
      · skip
        exact absurd c_53_2 (nI_ge hlt (by decide))
      · skip
        refine lv_aload_n hx hb dX7_records_56 rfl (lv_at hl 1 rfl) ?_
        refine gt_Mod_0_3 M hW kw_394 dX7_records_57 ?_
        refine lv_bipush (v := 56) hx hb dX7_records_60 (by decide) ?_
        refine lv_aload_n hx hb dX7_records_62 rfl (lv_at hl 1 rfl) ?_
        refine gt_Mod_0_4 M hW kw_403 (x := nI (mN u)) (rec04 hn _) dX7_records_63 ?_
        refine lv_imul hx hb dX7_records_66 ?_
        refine r_top (y := nI (56 * mN u)) (pk_mul 56 _) ?_
        refine lv_iload_n hx hb dX7_records_67 rfl (lv_at hl 0 rfl) ?_
        refine lv_iadd hx hb dX7_records_68 ?_
        refine r_top (y := nI (56 * mN u + i)) (nI_add _ _) ?_
        refine lv_aload_n hx hb dX7_records_69 rfl (lv_at hl 1 rfl) ?_
        refine gt_Mod_0_1 M hW kw_392 dX7_records_70 ?_
        refine lv_iload_n hx hb dX7_records_73 rfl (lv_at hl 0 rfl) ?_
        refine al_Mod_1 M hW i rfl (by omega) (x := (iterN (fun k h => up2 h 3 (56 * mN u + k) (h 1 k)) i (jX7_records_48 u)) 1 i) rfl dX7_records_74 ?_
        refine as_Mod_3 M hW (56 * mN u + i) rfl (by omega) dX7_records_75 (fun H locs hW => ?_)
        refine lv_iinc (v := nI (i + 1)) (lv' := [(1, .int (nI (i + 1))), (0, .ref (b 0))]) hx hb dX7_records_76 hl (k := 0) rfl (nI_1 i) (by decide) rfl (fun ls hl => ?_)
        refine lv_goto (tgt := 50) hx hb dX7_records_79 (by decide) ?_
        exact ih (ls, i + 1) _ _ ⟨by dsimp only; omega, lv_sub hl [0, 1] rfl, (by dsimp only; rw [iterN_succ]; exact hW)⟩
  · skip
    refine lv_aload_n hx hb dX7_records_0 rfl (lv_at hl 0 rfl) ?_
    refine gt_Mod_0_4 M hW kw_403 (x := u 0 4) rfl dX7_records_1 ?_
    refine lv_iconst (v := 4) hx hb dX7_records_4 (by decide) ?_
    refine lv_icmp_ne (tgt := 48) hx hb dX7_records_5 (by decide) (fun c_5 => ?_) (fun c_5 => ?_)
    · skip
      exact hJ_48 ls _ _ ⟨lv_sub hl [0] rfl, (by rw [jX7_records_48, if_neg c_5]; exact hW)⟩
    · skip
      refine lv_iconst (v := 0) hx hb dX7_records_8 (by decide) ?_
      refine lv_istore_n (lv' := [(1, .int 0), (0, .ref (b 0))]) hx hb dX7_records_9 rfl hl (by decide) rfl (fun ls hl => ?_)
      refine r_loop (σ := Array Slot × Nat) (fun r uL H1 l1 => uL.2 + r = 168 ∧ lv_has uL.1 2 [(1, .int (nI uL.2)), (0, .ref (b 0))] ∧ Wd G s (ModW G b (iterN (fun k h => up2 h 3 k (h 3 (k + 56))) uL.2 u) ++ Y) H1 l1) (fun uL => F0 m 10 uL.1 []) ?_ ?_ (168) (ls, 0) _ _ ⟨Nat.zero_add _, lv_sub hl [0, 1] rfl, hW⟩
      · skip
        intro uL H locs hI
        obtain ⟨ls, i⟩ := uL
        obtain ⟨hu, hl, hW⟩ := hI
        dsimp only at hu hl hW ⊢
        have hu : i = 168 := hu
        subst hu
        refine lv_iload_n hx hb dX7_records_10 rfl (lv_at hl 0 rfl) ?_
        refine lv_sipush (v := 168) hx hb dX7_records_11 (by decide) ?_
        refine lv_icmp_ge (tgt := 38) hx hb dX7_records_14 (by decide) (fun c_14 => ?_) (fun c_14 => ?_)
        · skip
          refine lv_aload_n hx hb dX7_records_38 rfl (lv_at hl 1 rfl) ?_
          refine lv_dup hx hb dX7_records_39 rfl ?_
          refine gt_Mod_0_4 M hW kw_403 (x := (iterN (fun k h => up2 h 3 k (h 3 (k + 56))) 168 u) 0 4) rfl dX7_records_40 ?_
          refine lv_iconst (v := 1) hx hb dX7_records_43 (by decide) ?_
          refine lv_isub hx hb dX7_records_44 ?_
          refine pt_Mod_0_4 M hW kw_403 dX7_records_45 (fun H locs hW => ?_)
          exact hJ_48 ls _ _ ⟨lv_sub hl [1] rfl, (by rw [jX7_records_48, if_pos c_5]; exact hW)⟩
        · skip
          exact absurd (nI_le (Nat.le_refl 168) (by decide)) c_14
      · skip
        intro n ih uL H locs hI
        obtain ⟨ls, i⟩ := uL
        obtain ⟨hu, hl, hW⟩ := hI
        dsimp only at hu hl hW ⊢
        have hlt : i < 168 := by omega
        refine lv_iload_n hx hb dX7_records_10 rfl (lv_at hl 0 rfl) ?_
        refine lv_sipush (v := 168) hx hb dX7_records_11 (by decide) ?_
        refine lv_icmp_ge (tgt := 38) hx hb dX7_records_14 (by decide) (fun c_14_2 => ?_) (fun c_14_2 => ?_)
        · skip
          exact absurd c_14_2 (nI_ge hlt (by decide))
        · skip
          refine lv_aload_n hx hb dX7_records_17 rfl (lv_at hl 1 rfl) ?_
          refine gt_Mod_0_3 M hW kw_394 dX7_records_18 ?_
          refine lv_iload_n hx hb dX7_records_21 rfl (lv_at hl 0 rfl) ?_
          refine lv_aload_n hx hb dX7_records_22 rfl (lv_at hl 1 rfl) ?_
          refine gt_Mod_0_3 M hW kw_394 dX7_records_23 ?_
          refine lv_iload_n hx hb dX7_records_26 rfl (lv_at hl 0 rfl) ?_
          refine lv_bipush (v := 56) hx hb dX7_records_27 (by decide) ?_
          refine lv_iadd hx hb dX7_records_29 ?_
          refine r_top (y := nI (i + 56)) (nI_add i 56) ?_
          refine al_Mod_3 M hW (i + 56) rfl (by omega) (x := (iterN (fun k h => up2 h 3 k (h 3 (k + 56))) i u) 3 (i + 56)) rfl dX7_records_30 ?_
          refine as_Mod_3 M hW i rfl (by omega) dX7_records_31 (fun H locs hW => ?_)
          refine lv_iinc (v := nI (i + 1)) (lv' := [(1, .int (nI (i + 1))), (0, .ref (b 0))]) hx hb dX7_records_32 hl (k := 0) rfl (nI_1 i) (by decide) rfl (fun ls hl => ?_)
          refine lv_goto (tgt := 10) hx hb dX7_records_35 (by decide) ?_
          exact ih (ls, i + 1) _ _ ⟨by dsimp only; omega, lv_sub hl [0, 1] rfl, (by dsimp only; rw [iterN_succ]; exact hW)⟩
end
section
theorem zz_last : True := trivial
end
