section
-- ===== PART A: goes FIRST, ahead of the names: the tables' words, and 'selects' of the private methods out of them =====
/-- a private method of a class that the tables say can be made, by its rows of tables_1 -/
def lw_okq (q : MethodName × Nat) : Prop := (q.1.cls ≠ "java/lang/invoke/MethodHandle" ∧ q.1.cls ≠ "java/lang/invoke/VarHandle") ∧ Cond.instantiable q.1.cls q.2 ∈ tables_1 ∧ Cond.privateMethod q.1 ∈ tables_1 ∧ Cond.instanceMethod q.1 ∈ tables_1
theorem lw_p0 : lw_okq (⟨"CountingHorses$Tape", "splitOff", "(I)I"⟩, 6) := ⟨⟨by decide +kernel, by decide +kernel⟩, List.mem_of_getElem? (i := 311) (by decide +kernel), List.mem_of_getElem? (i := 488) (by decide +kernel), List.mem_of_getElem? (i := 489) (by decide +kernel)⟩
theorem lw_p1 : lw_okq (⟨"CountingHorses$Tape", "wordKind", "(II)I"⟩, 6) := ⟨⟨by decide +kernel, by decide +kernel⟩, List.mem_of_getElem? (i := 311) (by decide +kernel), List.mem_of_getElem? (i := 496) (by decide +kernel), List.mem_of_getElem? (i := 497) (by decide +kernel)⟩
theorem lw_p2 : lw_okq (⟨"CountingHorses$Tape", "isWord", "(III)Z"⟩, 6) := ⟨⟨by decide +kernel, by decide +kernel⟩, List.mem_of_getElem? (i := 311) (by decide +kernel), List.mem_of_getElem? (i := 549) (by decide +kernel), List.mem_of_getElem? (i := 550) (by decide +kernel)⟩
theorem lw_p3 : lw_okq (⟨"CountingHorses$Tape", "put", "(III)V"⟩, 6) := ⟨⟨by decide +kernel, by decide +kernel⟩, List.mem_of_getElem? (i := 311) (by decide +kernel), List.mem_of_getElem? (i := 553) (by decide +kernel), List.mem_of_getElem? (i := 554) (by decide +kernel)⟩
theorem lw_p4 : lw_okq (⟨"CountingHorses$Reader", "clause", "()Z"⟩, 7) := ⟨⟨by decide +kernel, by decide +kernel⟩, List.mem_of_getElem? (i := 305) (by decide +kernel), List.mem_of_getElem? (i := 627) (by decide +kernel), List.mem_of_getElem? (i := 628) (by decide +kernel)⟩
theorem lw_p5 : lw_okq (⟨"CountingHorses$Reader", "refuse", "(I)Z"⟩, 7) := ⟨⟨by decide +kernel, by decide +kernel⟩, List.mem_of_getElem? (i := 305) (by decide +kernel), List.mem_of_getElem? (i := 632) (by decide +kernel), List.mem_of_getElem? (i := 633) (by decide +kernel)⟩
theorem lw_p6 : lw_okq (⟨"CountingHorses$Reader", "next", "()V"⟩, 7) := ⟨⟨by decide +kernel, by decide +kernel⟩, List.mem_of_getElem? (i := 305) (by decide +kernel), List.mem_of_getElem? (i := 640) (by decide +kernel), List.mem_of_getElem? (i := 641) (by decide +kernel)⟩
theorem lw_p7 : lw_okq (⟨"CountingHorses$Reader", "order", "(III)Z"⟩, 7) := ⟨⟨by decide +kernel, by decide +kernel⟩, List.mem_of_getElem? (i := 305) (by decide +kernel), List.mem_of_getElem? (i := 644) (by decide +kernel), List.mem_of_getElem? (i := 645) (by decide +kernel)⟩
theorem lw_p8 : lw_okq (⟨"CountingHorses$Reader", "expect", "(I)Z"⟩, 7) := ⟨⟨by decide +kernel, by decide +kernel⟩, List.mem_of_getElem? (i := 305) (by decide +kernel), List.mem_of_getElem? (i := 652) (by decide +kernel), List.mem_of_getElem? (i := 653) (by decide +kernel)⟩
theorem lw_p9 : lw_okq (⟨"CountingHorses$Reader", "law", "(I)Z"⟩, 7) := ⟨⟨by decide +kernel, by decide +kernel⟩, List.mem_of_getElem? (i := 305) (by decide +kernel), List.mem_of_getElem? (i := 656) (by decide +kernel), List.mem_of_getElem? (i := 657) (by decide +kernel)⟩
theorem lw_p10 : lw_okq (⟨"CountingHorses$Reader", "sum", "(II)Z"⟩, 7) := ⟨⟨by decide +kernel, by decide +kernel⟩, List.mem_of_getElem? (i := 305) (by decide +kernel), List.mem_of_getElem? (i := 660) (by decide +kernel), List.mem_of_getElem? (i := 661) (by decide +kernel)⟩
theorem lw_p11 : lw_okq (⟨"CountingHorses$Reader", "product", "(II)Z"⟩, 7) := ⟨⟨by decide +kernel, by decide +kernel⟩, List.mem_of_getElem? (i := 305) (by decide +kernel), List.mem_of_getElem? (i := 664) (by decide +kernel), List.mem_of_getElem? (i := 665) (by decide +kernel)⟩
theorem lw_p12 : lw_okq (⟨"CountingHorses$Reader", "one", "(II)Z"⟩, 7) := ⟨⟨by decide +kernel, by decide +kernel⟩, List.mem_of_getElem? (i := 305) (by decide +kernel), List.mem_of_getElem? (i := 668) (by decide +kernel), List.mem_of_getElem? (i := 669) (by decide +kernel)⟩
theorem lw_p13 : lw_okq (⟨"CountingHorses$Reader", "numeral", "()Z"⟩, 7) := ⟨⟨by decide +kernel, by decide +kernel⟩, List.mem_of_getElem? (i := 305) (by decide +kernel), List.mem_of_getElem? (i := 672) (by decide +kernel), List.mem_of_getElem? (i := 673) (by decide +kernel)⟩
theorem lw_p14 : lw_okq (⟨"CountingHorses$Reader", "name", "(I)Z"⟩, 7) := ⟨⟨by decide +kernel, by decide +kernel⟩, List.mem_of_getElem? (i := 305) (by decide +kernel), List.mem_of_getElem? (i := 680) (by decide +kernel), List.mem_of_getElem? (i := 681) (by decide +kernel)⟩
theorem lw_p15 : lw_okq (⟨"CountingHorses$Reader", "choice", "(II)Z"⟩, 7) := ⟨⟨by decide +kernel, by decide +kernel⟩, List.mem_of_getElem? (i := 305) (by decide +kernel), List.mem_of_getElem? (i := 684) (by decide +kernel), List.mem_of_getElem? (i := 685) (by decide +kernel)⟩
def lw_privs_1 : List (MethodName × Nat) := [(⟨"CountingHorses$Tape", "splitOff", "(I)I"⟩, 6), (⟨"CountingHorses$Tape", "wordKind", "(II)I"⟩, 6), (⟨"CountingHorses$Tape", "isWord", "(III)Z"⟩, 6), (⟨"CountingHorses$Tape", "put", "(III)V"⟩, 6), (⟨"CountingHorses$Reader", "clause", "()Z"⟩, 7), (⟨"CountingHorses$Reader", "refuse", "(I)Z"⟩, 7), (⟨"CountingHorses$Reader", "next", "()V"⟩, 7), (⟨"CountingHorses$Reader", "order", "(III)Z"⟩, 7), (⟨"CountingHorses$Reader", "expect", "(I)Z"⟩, 7), (⟨"CountingHorses$Reader", "law", "(I)Z"⟩, 7), (⟨"CountingHorses$Reader", "sum", "(II)Z"⟩, 7), (⟨"CountingHorses$Reader", "product", "(II)Z"⟩, 7), (⟨"CountingHorses$Reader", "one", "(II)Z"⟩, 7), (⟨"CountingHorses$Reader", "numeral", "()Z"⟩, 7), (⟨"CountingHorses$Reader", "name", "(I)Z"⟩, 7), (⟨"CountingHorses$Reader", "choice", "(II)Z"⟩, 7)]
theorem lw_r1 : ∀ q ∈ lw_privs_1, lw_okq q := List.forall_mem_cons.mpr ⟨lw_p0, List.forall_mem_cons.mpr ⟨lw_p1, List.forall_mem_cons.mpr ⟨lw_p2, List.forall_mem_cons.mpr ⟨lw_p3, List.forall_mem_cons.mpr ⟨lw_p4, List.forall_mem_cons.mpr ⟨lw_p5, List.forall_mem_cons.mpr ⟨lw_p6, List.forall_mem_cons.mpr ⟨lw_p7, List.forall_mem_cons.mpr ⟨lw_p8, List.forall_mem_cons.mpr ⟨lw_p9, List.forall_mem_cons.mpr ⟨lw_p10, List.forall_mem_cons.mpr ⟨lw_p11, List.forall_mem_cons.mpr ⟨lw_p12, List.forall_mem_cons.mpr ⟨lw_p13, List.forall_mem_cons.mpr ⟨lw_p14, List.forall_mem_cons.mpr ⟨lw_p15, fun _ h => absurd h List.not_mem_nil⟩⟩⟩⟩⟩⟩⟩⟩⟩⟩⟩⟩⟩⟩⟩⟩
theorem lw_p16 : lw_okq (⟨"CountingHorses$Reader", "either", "(II)Z"⟩, 7) := ⟨⟨by decide +kernel, by decide +kernel⟩, List.mem_of_getElem? (i := 305) (by decide +kernel), List.mem_of_getElem? (i := 688) (by decide +kernel), List.mem_of_getElem? (i := 689) (by decide +kernel)⟩
theorem lw_p17 : lw_okq (⟨"CountingHorses$Reader", "both", "(II)Z"⟩, 7) := ⟨⟨by decide +kernel, by decide +kernel⟩, List.mem_of_getElem? (i := 305) (by decide +kernel), List.mem_of_getElem? (i := 692) (by decide +kernel), List.mem_of_getElem? (i := 693) (by decide +kernel)⟩
theorem lw_p18 : lw_okq (⟨"CountingHorses$Reader", "ask", "(II)Z"⟩, 7) := ⟨⟨by decide +kernel, by decide +kernel⟩, List.mem_of_getElem? (i := 305) (by decide +kernel), List.mem_of_getElem? (i := 696) (by decide +kernel), List.mem_of_getElem? (i := 697) (by decide +kernel)⟩
theorem lw_p19 : lw_okq (⟨"CountingHorses$Reader", "jump", "(I)I"⟩, 7) := ⟨⟨by decide +kernel, by decide +kernel⟩, List.mem_of_getElem? (i := 305) (by decide +kernel), List.mem_of_getElem? (i := 700) (by decide +kernel), List.mem_of_getElem? (i := 701) (by decide +kernel)⟩
theorem lw_p20 : lw_okq (⟨"CountingHorses$Reader", "land", "(I)V"⟩, 7) := ⟨⟨by decide +kernel, by decide +kernel⟩, List.mem_of_getElem? (i := 305) (by decide +kernel), List.mem_of_getElem? (i := 704) (by decide +kernel), List.mem_of_getElem? (i := 705) (by decide +kernel)⟩
theorem lw_p21 : lw_okq (⟨"CountingHorses", "isHorse", "(I)Z"⟩, 7) := ⟨⟨by decide +kernel, by decide +kernel⟩, List.mem_of_getElem? (i := 24) (by decide +kernel), List.mem_of_getElem? (i := 725) (by decide +kernel), List.mem_of_getElem? (i := 726) (by decide +kernel)⟩
theorem lw_p22 : lw_okq (⟨"CountingHorses$Driver", "nameHorse", "(I)V"⟩, 7) := ⟨⟨by decide +kernel, by decide +kernel⟩, List.mem_of_getElem? (i := 38) (by decide +kernel), List.mem_of_getElem? (i := 739) (by decide +kernel), List.mem_of_getElem? (i := 740) (by decide +kernel)⟩
theorem lw_p23 : lw_okq (⟨"CountingHorses$Driver", "namePlace", "(I)V"⟩, 7) := ⟨⟨by decide +kernel, by decide +kernel⟩, List.mem_of_getElem? (i := 38) (by decide +kernel), List.mem_of_getElem? (i := 743) (by decide +kernel), List.mem_of_getElem? (i := 744) (by decide +kernel)⟩
theorem lw_p24 : lw_okq (⟨"CountingHorses$Driver", "worked", "(LCountingHorses$Text;I)I"⟩, 7) := ⟨⟨by decide +kernel, by decide +kernel⟩, List.mem_of_getElem? (i := 38) (by decide +kernel), List.mem_of_getElem? (i := 747) (by decide +kernel), List.mem_of_getElem? (i := 748) (by decide +kernel)⟩
theorem lw_p25 : lw_okq (⟨"CountingHorses$Driver", "strideOf", "(LCountingHorses$Text;III)I"⟩, 7) := ⟨⟨by decide +kernel, by decide +kernel⟩, List.mem_of_getElem? (i := 38) (by decide +kernel), List.mem_of_getElem? (i := 771) (by decide +kernel), List.mem_of_getElem? (i := 772) (by decide +kernel)⟩
theorem lw_p26 : lw_okq (⟨"CountingHorses$Driver", "oatsOf", "(LCountingHorses$Text;II)I"⟩, 7) := ⟨⟨by decide +kernel, by decide +kernel⟩, List.mem_of_getElem? (i := 38) (by decide +kernel), List.mem_of_getElem? (i := 785) (by decide +kernel), List.mem_of_getElem? (i := 786) (by decide +kernel)⟩
theorem lw_p27 : lw_okq (⟨"CountingHorses", "driveByHand", "(I)Z"⟩, 7) := ⟨⟨by decide +kernel, by decide +kernel⟩, List.mem_of_getElem? (i := 24) (by decide +kernel), List.mem_of_getElem? (i := 793) (by decide +kernel), List.mem_of_getElem? (i := 794) (by decide +kernel)⟩
theorem lw_p28 : lw_okq (⟨"CountingHorses", "passDays", "(I)Z"⟩, 7) := ⟨⟨by decide +kernel, by decide +kernel⟩, List.mem_of_getElem? (i := 24) (by decide +kernel), List.mem_of_getElem? (i := 802) (by decide +kernel), List.mem_of_getElem? (i := 803) (by decide +kernel)⟩
theorem lw_p29 : lw_okq (⟨"CountingHorses$Team", "seek", "(LCountingHorses$Stops;IIII)V"⟩, 4) := ⟨⟨by decide +kernel, by decide +kernel⟩, List.mem_of_getElem? (i := 368) (by decide +kernel), List.mem_of_getElem? (i := 834) (by decide +kernel), List.mem_of_getElem? (i := 835) (by decide +kernel)⟩
theorem lw_p30 : lw_okq (⟨"CountingHorses$Team", "isHarnessed", "(II)Z"⟩, 4) := ⟨⟨by decide +kernel, by decide +kernel⟩, List.mem_of_getElem? (i := 368) (by decide +kernel), List.mem_of_getElem? (i := 839) (by decide +kernel), List.mem_of_getElem? (i := 840) (by decide +kernel)⟩
theorem lw_p31 : lw_okq (⟨"CountingHorses", "goOnFrom", "(I)V"⟩, 7) := ⟨⟨by decide +kernel, by decide +kernel⟩, List.mem_of_getElem? (i := 24) (by decide +kernel), List.mem_of_getElem? (i := 850) (by decide +kernel), List.mem_of_getElem? (i := 851) (by decide +kernel)⟩
def lw_privs_2 : List (MethodName × Nat) := [(⟨"CountingHorses$Reader", "either", "(II)Z"⟩, 7), (⟨"CountingHorses$Reader", "both", "(II)Z"⟩, 7), (⟨"CountingHorses$Reader", "ask", "(II)Z"⟩, 7), (⟨"CountingHorses$Reader", "jump", "(I)I"⟩, 7), (⟨"CountingHorses$Reader", "land", "(I)V"⟩, 7), (⟨"CountingHorses", "isHorse", "(I)Z"⟩, 7), (⟨"CountingHorses$Driver", "nameHorse", "(I)V"⟩, 7), (⟨"CountingHorses$Driver", "namePlace", "(I)V"⟩, 7), (⟨"CountingHorses$Driver", "worked", "(LCountingHorses$Text;I)I"⟩, 7), (⟨"CountingHorses$Driver", "strideOf", "(LCountingHorses$Text;III)I"⟩, 7), (⟨"CountingHorses$Driver", "oatsOf", "(LCountingHorses$Text;II)I"⟩, 7), (⟨"CountingHorses", "driveByHand", "(I)Z"⟩, 7), (⟨"CountingHorses", "passDays", "(I)Z"⟩, 7), (⟨"CountingHorses$Team", "seek", "(LCountingHorses$Stops;IIII)V"⟩, 4), (⟨"CountingHorses$Team", "isHarnessed", "(II)Z"⟩, 4), (⟨"CountingHorses", "goOnFrom", "(I)V"⟩, 7)]
theorem lw_r2 : ∀ q ∈ lw_privs_2, lw_okq q := List.forall_mem_cons.mpr ⟨lw_p16, List.forall_mem_cons.mpr ⟨lw_p17, List.forall_mem_cons.mpr ⟨lw_p18, List.forall_mem_cons.mpr ⟨lw_p19, List.forall_mem_cons.mpr ⟨lw_p20, List.forall_mem_cons.mpr ⟨lw_p21, List.forall_mem_cons.mpr ⟨lw_p22, List.forall_mem_cons.mpr ⟨lw_p23, List.forall_mem_cons.mpr ⟨lw_p24, List.forall_mem_cons.mpr ⟨lw_p25, List.forall_mem_cons.mpr ⟨lw_p26, List.forall_mem_cons.mpr ⟨lw_p27, List.forall_mem_cons.mpr ⟨lw_p28, List.forall_mem_cons.mpr ⟨lw_p29, List.forall_mem_cons.mpr ⟨lw_p30, List.forall_mem_cons.mpr ⟨lw_p31, fun _ h => absurd h List.not_mem_nil⟩⟩⟩⟩⟩⟩⟩⟩⟩⟩⟩⟩⟩⟩⟩⟩
theorem lw_p32 : lw_okq (⟨"CountingHorses", "leads", "(III)Z"⟩, 7) := ⟨⟨by decide +kernel, by decide +kernel⟩, List.mem_of_getElem? (i := 24) (by decide +kernel), List.mem_of_getElem? (i := 864) (by decide +kernel), List.mem_of_getElem? (i := 865) (by decide +kernel)⟩
theorem lw_p33 : lw_okq (⟨"CountingHorses", "ordersFrom", "(III)I"⟩, 7) := ⟨⟨by decide +kernel, by decide +kernel⟩, List.mem_of_getElem? (i := 24) (by decide +kernel), List.mem_of_getElem? (i := 876) (by decide +kernel), List.mem_of_getElem? (i := 877) (by decide +kernel)⟩
theorem lw_p34 : lw_okq (⟨"CountingHorses", "fitsTried", "(LCountingHorses$Text;)Z"⟩, 7) := ⟨⟨by decide +kernel, by decide +kernel⟩, List.mem_of_getElem? (i := 24) (by decide +kernel), List.mem_of_getElem? (i := 888) (by decide +kernel), List.mem_of_getElem? (i := 889) (by decide +kernel)⟩
theorem lw_p35 : lw_okq (⟨"CountingHorses", "isStoppedAt", "(I)Z"⟩, 7) := ⟨⟨by decide +kernel, by decide +kernel⟩, List.mem_of_getElem? (i := 24) (by decide +kernel), List.mem_of_getElem? (i := 896) (by decide +kernel), List.mem_of_getElem? (i := 897) (by decide +kernel)⟩
theorem lw_p36 : lw_okq (⟨"CountingHorsesModel", "four", "(I)V"⟩, 36) := ⟨⟨by decide +kernel, by decide +kernel⟩, List.mem_of_getElem? (i := 932) (by decide +kernel), List.mem_of_getElem? (i := 1080) (by decide +kernel), List.mem_of_getElem? (i := 1081) (by decide +kernel)⟩
theorem lw_p37 : lw_okq (⟨"CountingHorsesModel", "readText", "()I"⟩, 36) := ⟨⟨by decide +kernel, by decide +kernel⟩, List.mem_of_getElem? (i := 932) (by decide +kernel), List.mem_of_getElem? (i := 1092) (by decide +kernel), List.mem_of_getElem? (i := 1093) (by decide +kernel)⟩
theorem lw_p38 : lw_okq (⟨"CountingHorsesModel", "nextToken", "()V"⟩, 36) := ⟨⟨by decide +kernel, by decide +kernel⟩, List.mem_of_getElem? (i := 932) (by decide +kernel), List.mem_of_getElem? (i := 1096) (by decide +kernel), List.mem_of_getElem? (i := 1097) (by decide +kernel)⟩
theorem lw_p39 : lw_okq (⟨"CountingHorsesModel", "byteAt", "(I)I"⟩, 36) := ⟨⟨by decide +kernel, by decide +kernel⟩, List.mem_of_getElem? (i := 932) (by decide +kernel), List.mem_of_getElem? (i := 1100) (by decide +kernel), List.mem_of_getElem? (i := 1101) (by decide +kernel)⟩
theorem lw_p40 : lw_okq (⟨"CountingHorsesModel", "clause", "()I"⟩, 36) := ⟨⟨by decide +kernel, by decide +kernel⟩, List.mem_of_getElem? (i := 932) (by decide +kernel), List.mem_of_getElem? (i := 1111) (by decide +kernel), List.mem_of_getElem? (i := 1112) (by decide +kernel)⟩
theorem lw_p41 : lw_okq (⟨"CountingHorsesModel", "sortOf", "()I"⟩, 36) := ⟨⟨by decide +kernel, by decide +kernel⟩, List.mem_of_getElem? (i := 932) (by decide +kernel), List.mem_of_getElem? (i := 1115) (by decide +kernel), List.mem_of_getElem? (i := 1116) (by decide +kernel)⟩
theorem lw_p42 : lw_okq (⟨"CountingHorsesModel", "isWord", "(J)Z"⟩, 36) := ⟨⟨by decide +kernel, by decide +kernel⟩, List.mem_of_getElem? (i := 932) (by decide +kernel), List.mem_of_getElem? (i := 1125) (by decide +kernel), List.mem_of_getElem? (i := 1126) (by decide +kernel)⟩
theorem lw_p43 : lw_okq (⟨"CountingHorsesModel", "parsed", "(Z)I"⟩, 36) := ⟨⟨by decide +kernel, by decide +kernel⟩, List.mem_of_getElem? (i := 932) (by decide +kernel), List.mem_of_getElem? (i := 1135) (by decide +kernel), List.mem_of_getElem? (i := 1136) (by decide +kernel)⟩
theorem lw_p44 : lw_okq (⟨"CountingHorsesModel", "behindOne", "(Z)Z"⟩, 36) := ⟨⟨by decide +kernel, by decide +kernel⟩, List.mem_of_getElem? (i := 932) (by decide +kernel), List.mem_of_getElem? (i := 1139) (by decide +kernel), List.mem_of_getElem? (i := 1140) (by decide +kernel)⟩
theorem lw_p45 : lw_okq (⟨"CountingHorsesModel", "betweenOf", "(Z)I"⟩, 36) := ⟨⟨by decide +kernel, by decide +kernel⟩, List.mem_of_getElem? (i := 932) (by decide +kernel), List.mem_of_getElem? (i := 1143) (by decide +kernel), List.mem_of_getElem? (i := 1144) (by decide +kernel)⟩
theorem lw_p46 : lw_okq (⟨"CountingHorsesModel", "kindOpen", "(Z)I"⟩, 36) := ⟨⟨by decide +kernel, by decide +kernel⟩, List.mem_of_getElem? (i := 932) (by decide +kernel), List.mem_of_getElem? (i := 1147) (by decide +kernel), List.mem_of_getElem? (i := 1148) (by decide +kernel)⟩
theorem lw_p47 : lw_okq (⟨"CountingHorsesModel", "marker", "()I"⟩, 36) := ⟨⟨by decide +kernel, by decide +kernel⟩, List.mem_of_getElem? (i := 932) (by decide +kernel), List.mem_of_getElem? (i := 1151) (by decide +kernel), List.mem_of_getElem? (i := 1152) (by decide +kernel)⟩
def lw_privs_3 : List (MethodName × Nat) := [(⟨"CountingHorses", "leads", "(III)Z"⟩, 7), (⟨"CountingHorses", "ordersFrom", "(III)I"⟩, 7), (⟨"CountingHorses", "fitsTried", "(LCountingHorses$Text;)Z"⟩, 7), (⟨"CountingHorses", "isStoppedAt", "(I)Z"⟩, 7), (⟨"CountingHorsesModel", "four", "(I)V"⟩, 36), (⟨"CountingHorsesModel", "readText", "()I"⟩, 36), (⟨"CountingHorsesModel", "nextToken", "()V"⟩, 36), (⟨"CountingHorsesModel", "byteAt", "(I)I"⟩, 36), (⟨"CountingHorsesModel", "clause", "()I"⟩, 36), (⟨"CountingHorsesModel", "sortOf", "()I"⟩, 36), (⟨"CountingHorsesModel", "isWord", "(J)Z"⟩, 36), (⟨"CountingHorsesModel", "parsed", "(Z)I"⟩, 36), (⟨"CountingHorsesModel", "behindOne", "(Z)Z"⟩, 36), (⟨"CountingHorsesModel", "betweenOf", "(Z)I"⟩, 36), (⟨"CountingHorsesModel", "kindOpen", "(Z)I"⟩, 36), (⟨"CountingHorsesModel", "marker", "()I"⟩, 36)]
theorem lw_r3 : ∀ q ∈ lw_privs_3, lw_okq q := List.forall_mem_cons.mpr ⟨lw_p32, List.forall_mem_cons.mpr ⟨lw_p33, List.forall_mem_cons.mpr ⟨lw_p34, List.forall_mem_cons.mpr ⟨lw_p35, List.forall_mem_cons.mpr ⟨lw_p36, List.forall_mem_cons.mpr ⟨lw_p37, List.forall_mem_cons.mpr ⟨lw_p38, List.forall_mem_cons.mpr ⟨lw_p39, List.forall_mem_cons.mpr ⟨lw_p40, List.forall_mem_cons.mpr ⟨lw_p41, List.forall_mem_cons.mpr ⟨lw_p42, List.forall_mem_cons.mpr ⟨lw_p43, List.forall_mem_cons.mpr ⟨lw_p44, List.forall_mem_cons.mpr ⟨lw_p45, List.forall_mem_cons.mpr ⟨lw_p46, List.forall_mem_cons.mpr ⟨lw_p47, fun _ h => absurd h List.not_mem_nil⟩⟩⟩⟩⟩⟩⟩⟩⟩⟩⟩⟩⟩⟩⟩⟩
theorem lw_p48 : lw_okq (⟨"CountingHorsesModel", "isCompared", "()Z"⟩, 36) := ⟨⟨by decide +kernel, by decide +kernel⟩, List.mem_of_getElem? (i := 932) (by decide +kernel), List.mem_of_getElem? (i := 1155) (by decide +kernel), List.mem_of_getElem? (i := 1156) (by decide +kernel)⟩
theorem lw_p49 : lw_okq (⟨"CountingHorsesModel", "compareOf", "()I"⟩, 36) := ⟨⟨by decide +kernel, by decide +kernel⟩, List.mem_of_getElem? (i := 932) (by decide +kernel), List.mem_of_getElem? (i := 1162) (by decide +kernel), List.mem_of_getElem? (i := 1163) (by decide +kernel)⟩
theorem lw_p50 : lw_okq (⟨"CountingHorsesModel", "settle", "(I)V"⟩, 36) := ⟨⟨by decide +kernel, by decide +kernel⟩, List.mem_of_getElem? (i := 932) (by decide +kernel), List.mem_of_getElem? (i := 1167) (by decide +kernel), List.mem_of_getElem? (i := 1168) (by decide +kernel)⟩
theorem lw_p51 : lw_okq (⟨"CountingHorsesModel", "emit", "(II)V"⟩, 36) := ⟨⟨by decide +kernel, by decide +kernel⟩, List.mem_of_getElem? (i := 932) (by decide +kernel), List.mem_of_getElem? (i := 1171) (by decide +kernel), List.mem_of_getElem? (i := 1172) (by decide +kernel)⟩
theorem lw_p52 : lw_okq (⟨"CountingHorsesModel", "push", "(I)V"⟩, 36) := ⟨⟨by decide +kernel, by decide +kernel⟩, List.mem_of_getElem? (i := 932) (by decide +kernel), List.mem_of_getElem? (i := 1175) (by decide +kernel), List.mem_of_getElem? (i := 1176) (by decide +kernel)⟩
theorem lw_p53 : lw_okq (⟨"CountingHorsesModel", "whole", "()V"⟩, 36) := ⟨⟨by decide +kernel, by decide +kernel⟩, List.mem_of_getElem? (i := 932) (by decide +kernel), List.mem_of_getElem? (i := 1179) (by decide +kernel), List.mem_of_getElem? (i := 1180) (by decide +kernel)⟩
theorem lw_p54 : lw_okq (⟨"CountingHorsesModel", "beginOne", "(Z)I"⟩, 36) := ⟨⟨by decide +kernel, by decide +kernel⟩, List.mem_of_getElem? (i := 932) (by decide +kernel), List.mem_of_getElem? (i := 1183) (by decide +kernel), List.mem_of_getElem? (i := 1184) (by decide +kernel)⟩
theorem lw_p55 : lw_okq (⟨"CountingHorsesModel", "nameOf", "()I"⟩, 36) := ⟨⟨by decide +kernel, by decide +kernel⟩, List.mem_of_getElem? (i := 932) (by decide +kernel), List.mem_of_getElem? (i := 1187) (by decide +kernel), List.mem_of_getElem? (i := 1188) (by decide +kernel)⟩
theorem lw_p56 : lw_okq (⟨"CountingHorsesModel", "isOf", "(I)Z"⟩, 36) := ⟨⟨by decide +kernel, by decide +kernel⟩, List.mem_of_getElem? (i := 932) (by decide +kernel), List.mem_of_getElem? (i := 1191) (by decide +kernel), List.mem_of_getElem? (i := 1192) (by decide +kernel)⟩
theorem lw_p57 : lw_okq (⟨"CountingHorsesModel", "opensBy", "(I)I"⟩, 36) := ⟨⟨by decide +kernel, by decide +kernel⟩, List.mem_of_getElem? (i := 932) (by decide +kernel), List.mem_of_getElem? (i := 1195) (by decide +kernel), List.mem_of_getElem? (i := 1196) (by decide +kernel)⟩
theorem lw_p58 : lw_okq (⟨"CountingHorsesModel", "isAskAhead", "(Z)Z"⟩, 36) := ⟨⟨by decide +kernel, by decide +kernel⟩, List.mem_of_getElem? (i := 932) (by decide +kernel), List.mem_of_getElem? (i := 1200) (by decide +kernel), List.mem_of_getElem? (i := 1201) (by decide +kernel)⟩
theorem lw_p59 : lw_okq (⟨"CountingHorsesModel", "figure", "(III)I"⟩, 36) := ⟨⟨by decide +kernel, by decide +kernel⟩, List.mem_of_getElem? (i := 932) (by decide +kernel), List.mem_of_getElem? (i := 1204) (by decide +kernel), List.mem_of_getElem? (i := 1205) (by decide +kernel)⟩
theorem lw_p60 : lw_okq (⟨"CountingHorsesModel", "isHorse", "(I)Z"⟩, 36) := ⟨⟨by decide +kernel, by decide +kernel⟩, List.mem_of_getElem? (i := 932) (by decide +kernel), List.mem_of_getElem? (i := 1220) (by decide +kernel), List.mem_of_getElem? (i := 1221) (by decide +kernel)⟩
theorem lw_p61 : lw_okq (⟨"CountingHorsesModel", "go", "(IIIZ)V"⟩, 36) := ⟨⟨by decide +kernel, by decide +kernel⟩, List.mem_of_getElem? (i := 932) (by decide +kernel), List.mem_of_getElem? (i := 1224) (by decide +kernel), List.mem_of_getElem? (i := 1225) (by decide +kernel)⟩
theorem lw_p62 : lw_okq (⟨"CountingHorsesModel", "nameHorse", "(II)V"⟩, 36) := ⟨⟨by decide +kernel, by decide +kernel⟩, List.mem_of_getElem? (i := 932) (by decide +kernel), List.mem_of_getElem? (i := 1228) (by decide +kernel), List.mem_of_getElem? (i := 1229) (by decide +kernel)⟩
theorem lw_p63 : lw_okq (⟨"CountingHorsesModel", "sumOf", "(IIII)I"⟩, 36) := ⟨⟨by decide +kernel, by decide +kernel⟩, List.mem_of_getElem? (i := 932) (by decide +kernel), List.mem_of_getElem? (i := 1232) (by decide +kernel), List.mem_of_getElem? (i := 1233) (by decide +kernel)⟩
def lw_privs_4 : List (MethodName × Nat) := [(⟨"CountingHorsesModel", "isCompared", "()Z"⟩, 36), (⟨"CountingHorsesModel", "compareOf", "()I"⟩, 36), (⟨"CountingHorsesModel", "settle", "(I)V"⟩, 36), (⟨"CountingHorsesModel", "emit", "(II)V"⟩, 36), (⟨"CountingHorsesModel", "push", "(I)V"⟩, 36), (⟨"CountingHorsesModel", "whole", "()V"⟩, 36), (⟨"CountingHorsesModel", "beginOne", "(Z)I"⟩, 36), (⟨"CountingHorsesModel", "nameOf", "()I"⟩, 36), (⟨"CountingHorsesModel", "isOf", "(I)Z"⟩, 36), (⟨"CountingHorsesModel", "opensBy", "(I)I"⟩, 36), (⟨"CountingHorsesModel", "isAskAhead", "(Z)Z"⟩, 36), (⟨"CountingHorsesModel", "figure", "(III)I"⟩, 36), (⟨"CountingHorsesModel", "isHorse", "(I)Z"⟩, 36), (⟨"CountingHorsesModel", "go", "(IIIZ)V"⟩, 36), (⟨"CountingHorsesModel", "nameHorse", "(II)V"⟩, 36), (⟨"CountingHorsesModel", "sumOf", "(IIII)I"⟩, 36)]
theorem lw_r4 : ∀ q ∈ lw_privs_4, lw_okq q := List.forall_mem_cons.mpr ⟨lw_p48, List.forall_mem_cons.mpr ⟨lw_p49, List.forall_mem_cons.mpr ⟨lw_p50, List.forall_mem_cons.mpr ⟨lw_p51, List.forall_mem_cons.mpr ⟨lw_p52, List.forall_mem_cons.mpr ⟨lw_p53, List.forall_mem_cons.mpr ⟨lw_p54, List.forall_mem_cons.mpr ⟨lw_p55, List.forall_mem_cons.mpr ⟨lw_p56, List.forall_mem_cons.mpr ⟨lw_p57, List.forall_mem_cons.mpr ⟨lw_p58, List.forall_mem_cons.mpr ⟨lw_p59, List.forall_mem_cons.mpr ⟨lw_p60, List.forall_mem_cons.mpr ⟨lw_p61, List.forall_mem_cons.mpr ⟨lw_p62, List.forall_mem_cons.mpr ⟨lw_p63, fun _ h => absurd h List.not_mem_nil⟩⟩⟩⟩⟩⟩⟩⟩⟩⟩⟩⟩⟩⟩⟩⟩
theorem lw_p64 : lw_okq (⟨"CountingHorsesModel", "clauseOf", "(II)I"⟩, 36) := ⟨⟨by decide +kernel, by decide +kernel⟩, List.mem_of_getElem? (i := 932) (by decide +kernel), List.mem_of_getElem? (i := 1236) (by decide +kernel), List.mem_of_getElem? (i := 1237) (by decide +kernel)⟩
theorem lw_p65 : lw_okq (⟨"CountingHorsesModel", "work", "(II)V"⟩, 36) := ⟨⟨by decide +kernel, by decide +kernel⟩, List.mem_of_getElem? (i := 932) (by decide +kernel), List.mem_of_getElem? (i := 1240) (by decide +kernel), List.mem_of_getElem? (i := 1241) (by decide +kernel)⟩
theorem lw_p66 : lw_okq (⟨"CountingHorsesModel", "slip", "()I"⟩, 36) := ⟨⟨by decide +kernel, by decide +kernel⟩, List.mem_of_getElem? (i := 932) (by decide +kernel), List.mem_of_getElem? (i := 1258) (by decide +kernel), List.mem_of_getElem? (i := 1259) (by decide +kernel)⟩
theorem lw_p67 : lw_okq (⟨"CountingHorsesModel", "over", "(I)I"⟩, 36) := ⟨⟨by decide +kernel, by decide +kernel⟩, List.mem_of_getElem? (i := 932) (by decide +kernel), List.mem_of_getElem? (i := 1262) (by decide +kernel), List.mem_of_getElem? (i := 1263) (by decide +kernel)⟩
theorem lw_p68 : lw_okq (⟨"CountingHorsesModel", "keep", "()V"⟩, 36) := ⟨⟨by decide +kernel, by decide +kernel⟩, List.mem_of_getElem? (i := 932) (by decide +kernel), List.mem_of_getElem? (i := 1274) (by decide +kernel), List.mem_of_getElem? (i := 1275) (by decide +kernel)⟩
theorem lw_p69 : lw_okq (⟨"CountingHorsesModel", "isPlayed", "(I)Z"⟩, 36) := ⟨⟨by decide +kernel, by decide +kernel⟩, List.mem_of_getElem? (i := 932) (by decide +kernel), List.mem_of_getElem? (i := 1294) (by decide +kernel), List.mem_of_getElem? (i := 1295) (by decide +kernel)⟩
theorem lw_p70 : lw_okq (⟨"CountingHorsesModel", "innAt", "(I)I"⟩, 36) := ⟨⟨by decide +kernel, by decide +kernel⟩, List.mem_of_getElem? (i := 932) (by decide +kernel), List.mem_of_getElem? (i := 1304) (by decide +kernel), List.mem_of_getElem? (i := 1305) (by decide +kernel)⟩
theorem lw_p71 : lw_okq (⟨"CountingHorsesModel", "tryRows", "(III)I"⟩, 36) := ⟨⟨by decide +kernel, by decide +kernel⟩, List.mem_of_getElem? (i := 932) (by decide +kernel), List.mem_of_getElem? (i := 1312) (by decide +kernel), List.mem_of_getElem? (i := 1313) (by decide +kernel)⟩
theorem lw_p72 : lw_okq (⟨"CountingHorsesModel", "isTwice", "(I)Z"⟩, 36) := ⟨⟨by decide +kernel, by decide +kernel⟩, List.mem_of_getElem? (i := 932) (by decide +kernel), List.mem_of_getElem? (i := 1317) (by decide +kernel), List.mem_of_getElem? (i := 1318) (by decide +kernel)⟩
theorem lw_p73 : lw_okq (⟨"CountingHorsesModel", "findAll", "()V"⟩, 36) := ⟨⟨by decide +kernel, by decide +kernel⟩, List.mem_of_getElem? (i := 932) (by decide +kernel), List.mem_of_getElem? (i := 1325) (by decide +kernel), List.mem_of_getElem? (i := 1326) (by decide +kernel)⟩
theorem lw_p74 : lw_okq (⟨"CountingHorsesModel", "isThief", "(III)Z"⟩, 36) := ⟨⟨by decide +kernel, by decide +kernel⟩, List.mem_of_getElem? (i := 932) (by decide +kernel), List.mem_of_getElem? (i := 1337) (by decide +kernel), List.mem_of_getElem? (i := 1338) (by decide +kernel)⟩
theorem lw_p75 : lw_okq (⟨"CountingHorsesModel", "stopOf", "(II)I"⟩, 36) := ⟨⟨by decide +kernel, by decide +kernel⟩, List.mem_of_getElem? (i := 932) (by decide +kernel), List.mem_of_getElem? (i := 1341) (by decide +kernel), List.mem_of_getElem? (i := 1342) (by decide +kernel)⟩
theorem lw_p76 : lw_okq (⟨"CountingHorsesModel", "orders", "(I)I"⟩, 36) := ⟨⟨by decide +kernel, by decide +kernel⟩, List.mem_of_getElem? (i := 932) (by decide +kernel), List.mem_of_getElem? (i := 1353) (by decide +kernel), List.mem_of_getElem? (i := 1354) (by decide +kernel)⟩
theorem lw_p77 : lw_okq (⟨"CountingHorsesModel", "makers", "(II)I"⟩, 36) := ⟨⟨by decide +kernel, by decide +kernel⟩, List.mem_of_getElem? (i := 932) (by decide +kernel), List.mem_of_getElem? (i := 1357) (by decide +kernel), List.mem_of_getElem? (i := 1358) (by decide +kernel)⟩
theorem lw_p78 : lw_okq (⟨"CountingHorsesModel", "isTaught", "(I)Z"⟩, 36) := ⟨⟨by decide +kernel, by decide +kernel⟩, List.mem_of_getElem? (i := 932) (by decide +kernel), List.mem_of_getElem? (i := 1372) (by decide +kernel), List.mem_of_getElem? (i := 1373) (by decide +kernel)⟩
def lw_privs_5 : List (MethodName × Nat) := [(⟨"CountingHorsesModel", "clauseOf", "(II)I"⟩, 36), (⟨"CountingHorsesModel", "work", "(II)V"⟩, 36), (⟨"CountingHorsesModel", "slip", "()I"⟩, 36), (⟨"CountingHorsesModel", "over", "(I)I"⟩, 36), (⟨"CountingHorsesModel", "keep", "()V"⟩, 36), (⟨"CountingHorsesModel", "isPlayed", "(I)Z"⟩, 36), (⟨"CountingHorsesModel", "innAt", "(I)I"⟩, 36), (⟨"CountingHorsesModel", "tryRows", "(III)I"⟩, 36), (⟨"CountingHorsesModel", "isTwice", "(I)Z"⟩, 36), (⟨"CountingHorsesModel", "findAll", "()V"⟩, 36), (⟨"CountingHorsesModel", "isThief", "(III)Z"⟩, 36), (⟨"CountingHorsesModel", "stopOf", "(II)I"⟩, 36), (⟨"CountingHorsesModel", "orders", "(I)I"⟩, 36), (⟨"CountingHorsesModel", "makers", "(II)I"⟩, 36), (⟨"CountingHorsesModel", "isTaught", "(I)Z"⟩, 36)]
theorem lw_r5 : ∀ q ∈ lw_privs_5, lw_okq q := List.forall_mem_cons.mpr ⟨lw_p64, List.forall_mem_cons.mpr ⟨lw_p65, List.forall_mem_cons.mpr ⟨lw_p66, List.forall_mem_cons.mpr ⟨lw_p67, List.forall_mem_cons.mpr ⟨lw_p68, List.forall_mem_cons.mpr ⟨lw_p69, List.forall_mem_cons.mpr ⟨lw_p70, List.forall_mem_cons.mpr ⟨lw_p71, List.forall_mem_cons.mpr ⟨lw_p72, List.forall_mem_cons.mpr ⟨lw_p73, List.forall_mem_cons.mpr ⟨lw_p74, List.forall_mem_cons.mpr ⟨lw_p75, List.forall_mem_cons.mpr ⟨lw_p76, List.forall_mem_cons.mpr ⟨lw_p77, List.forall_mem_cons.mpr ⟨lw_p78, fun _ h => absurd h List.not_mem_nil⟩⟩⟩⟩⟩⟩⟩⟩⟩⟩⟩⟩⟩⟩⟩
def lw_privs : List (MethodName × Nat) := lw_privs_1 ++ (lw_privs_2 ++ (lw_privs_3 ++ (lw_privs_4 ++ (lw_privs_5))))
def lw_tbl : List Cond := k2_sels lw_privs ++ tables_1
theorem lw_privs_ok : ∀ q ∈ lw_privs, lw_okq q := by
  show ∀ q ∈ lw_privs_1 ++ (lw_privs_2 ++ (lw_privs_3 ++ (lw_privs_4 ++ (lw_privs_5)))), lw_okq q
  exact List.forall_mem_append.mpr ⟨lw_r1, List.forall_mem_append.mpr ⟨lw_r2, List.forall_mem_append.mpr ⟨lw_r3, List.forall_mem_append.mpr ⟨lw_r4, lw_r5⟩⟩⟩⟩
end
section
def RX0 : String := "CountingHorses$Driver"
def TX0 : u_T := fun k => match k with
  | 0 => ("CountingHorses$Driver", "world", "LCountingHorses$World;", true)
  | 1 => ("CountingHorses$Driver", "texts", "[LCountingHorses$Text;", true)
  | 2 => ("CountingHorses$Driver", "lawless", "LCountingHorses$Text;", true)
  | 3 => ("CountingHorses$Driver", "names", "[I", true)
  | 4 => ("CountingHorses$Driver", "stack", "[I", true)
  | 5 => ("CountingHorses$Driver", "stopped", "I", false)
  | _ => ("CountingHorses$Driver", "eaten", "I", false)
def tyX0 : Nat → FieldType := fun k => match k with
  | 0 => .object "CountingHorses$World"
  | 1 => .array (.object "CountingHorses$Text")
  | 2 => .object "CountingHorses$Text"
  | 3 => .array .int
  | 4 => .array .int
  | 5 => .int
  | _ => .int
abbrev wsX00 : List Cond := u_ws RX0 TX0 7
theorem nmX0 : ∀ a, a < 7 → ∀ b, b < 7 → a ≠ b → (TX0 a).2.1 ≠ (TX0 b).2.1 := by decide +kernel
theorem tyX0_ok : ∀ k, k < 7 → parseFieldDescriptor (TX0 k).2.2.1 = some (tyX0 k) := by decide +kernel
abbrev cX0_init : ByteArray := prog_2_method_1_code
def yX0_init : MethodName := ⟨RX0, "<init>", "()V"⟩
abbrev cX0_ruling : ByteArray := prog_2_method_2_code
def yX0_ruling : MethodName := ⟨RX0, "ruling", "()LCountingHorses$Text;"⟩
abbrev cX0_go : ByteArray := prog_2_method_3_code
def yX0_go : MethodName := ⟨RX0, "go", "(LCountingHorses$Text;IIZ)V"⟩
abbrev cX0_stepsOf : ByteArray := prog_2_method_4_code
def yX0_stepsOf : MethodName := ⟨RX0, "stepsOf", "(LCountingHorses$Text;II)I"⟩
abbrev cX0_strideOf : ByteArray := prog_2_method_5_code
def yX0_strideOf : MethodName := ⟨RX0, "strideOf", "(LCountingHorses$Text;III)I"⟩
abbrev cX0_oatsOf : ByteArray := prog_2_method_6_code
def yX0_oatsOf : MethodName := ⟨RX0, "oatsOf", "(LCountingHorses$Text;II)I"⟩
abbrev cX0_nameHorse : ByteArray := prog_2_method_7_code
def yX0_nameHorse : MethodName := ⟨RX0, "nameHorse", "(I)V"⟩
abbrev cX0_namePlace : ByteArray := prog_2_method_8_code
def yX0_namePlace : MethodName := ⟨RX0, "namePlace", "(I)V"⟩
abbrev cX0_worked : ByteArray := prog_2_method_9_code
def yX0_worked : MethodName := ⟨RX0, "worked", "(LCountingHorses$Text;I)I"⟩
abbrev cX0_joined : ByteArray := prog_2_method_10_code
def yX0_joined : MethodName := ⟨RX0, "joined", "(III)I"⟩
def RX1 : String := "CountingHorses$Mail"
def TX1 : u_T := fun k => match k with
  | 0 => ("CountingHorses$Mail", "innAt", "[I", true)
  | 1 => ("CountingHorses$Mail", "inns", "I", false)
  | 2 => ("CountingHorses$Mail", "place", "I", false)
  | 3 => ("CountingHorses$Mail", "oats", "I", false)
  | 4 => ("CountingHorses$Mail", "drives", "I", false)
  | 5 => ("CountingHorses$Mail", "day", "I", false)
  | _ => ("CountingHorses$Mail", "x", "I", false)
def tyX1 : Nat → FieldType := fun k => match k with
  | 0 => .array .int
  | 1 => .int
  | 2 => .int
  | 3 => .int
  | 4 => .int
  | 5 => .int
  | _ => .int
abbrev wsX10 : List Cond := u_ws RX1 TX1 7
theorem nmX1 : ∀ a, a < 7 → ∀ b, b < 7 → a ≠ b → (TX1 a).2.1 ≠ (TX1 b).2.1 := by decide +kernel
theorem tyX1_ok : ∀ k, k < 7 → parseFieldDescriptor (TX1 k).2.2.1 = some (tyX1 k) := by decide +kernel
abbrev cX1_init : ByteArray := prog_3_method_1_code
def yX1_init : MethodName := ⟨RX1, "<init>", "()V"⟩
abbrev cX1_lowestInnHere : ByteArray := prog_3_method_2_code
def yX1_lowestInnHere : MethodName := ⟨RX1, "lowestInnHere", "()I"⟩
abbrev cX1_slips : ByteArray := prog_3_method_3_code
def yX1_slips : MethodName := ⟨RX1, "slips", "(I)Z"⟩
abbrev cX1_copyFrom : ByteArray := prog_3_method_4_code
def yX1_copyFrom : MethodName := ⟨RX1, "copyFrom", "(LCountingHorses$Mail;)V"⟩
def RX2 : String := "CountingHorses$Reader"
def TX2 : u_T := fun k => match k with
  | 0 => ("CountingHorses$Reader", "tape", "LCountingHorses$Tape;", true)
  | 1 => ("CountingHorses$Reader", "fault", "I", false)
  | 2 => ("CountingHorses$Reader", "faultAt", "I", false)
  | 3 => ("CountingHorses$Reader", "token", "I", false)
  | 4 => ("CountingHorses$Reader", "kind", "I", false)
  | 5 => ("CountingHorses$Reader", "number", "I", false)
  | _ => ("CountingHorses$Reader", "text", "LCountingHorses$Text;", false)
def tyX2 : Nat → FieldType := fun k => match k with
  | 0 => .object "CountingHorses$Tape"
  | 1 => .int
  | 2 => .int
  | 3 => .int
  | 4 => .int
  | 5 => .int
  | _ => .object "CountingHorses$Text"
abbrev wsX20 : List Cond := u_ws RX2 TX2 7
theorem nmX2 : ∀ a, a < 7 → ∀ b, b < 7 → a ≠ b → (TX2 a).2.1 ≠ (TX2 b).2.1 := by decide +kernel
theorem tyX2_ok : ∀ k, k < 7 → parseFieldDescriptor (TX2 k).2.2.1 = some (tyX2 k) := by decide +kernel
abbrev cX2_init : ByteArray := prog_4_method_1_code
def yX2_init : MethodName := ⟨RX2, "<init>", "()V"⟩
abbrev cX2_read : ByteArray := prog_4_method_2_code
def yX2_read : MethodName := ⟨RX2, "read", "(LCountingHorses$Text;)V"⟩
abbrev cX2_next : ByteArray := prog_4_method_3_code
def yX2_next : MethodName := ⟨RX2, "next", "()V"⟩
abbrev cX2_refuse : ByteArray := prog_4_method_4_code
def yX2_refuse : MethodName := ⟨RX2, "refuse", "(I)Z"⟩
abbrev cX2_expect : ByteArray := prog_4_method_5_code
def yX2_expect : MethodName := ⟨RX2, "expect", "(I)Z"⟩
abbrev cX2_clause : ByteArray := prog_4_method_6_code
def yX2_clause : MethodName := ⟨RX2, "clause", "()Z"⟩
abbrev cX2_order : ByteArray := prog_4_method_7_code
def yX2_order : MethodName := ⟨RX2, "order", "(III)Z"⟩
abbrev cX2_law : ByteArray := prog_4_method_8_code
def yX2_law : MethodName := ⟨RX2, "law", "(I)Z"⟩
abbrev cX2_sum : ByteArray := prog_4_method_9_code
def yX2_sum : MethodName := ⟨RX2, "sum", "(II)Z"⟩
abbrev cX2_product : ByteArray := prog_4_method_10_code
def yX2_product : MethodName := ⟨RX2, "product", "(II)Z"⟩
abbrev cX2_one : ByteArray := prog_4_method_11_code
def yX2_one : MethodName := ⟨RX2, "one", "(II)Z"⟩
abbrev cX2_numeral : ByteArray := prog_4_method_12_code
def yX2_numeral : MethodName := ⟨RX2, "numeral", "()Z"⟩
abbrev cX2_name : ByteArray := prog_4_method_13_code
def yX2_name : MethodName := ⟨RX2, "name", "(I)Z"⟩
abbrev cX2_choice : ByteArray := prog_4_method_14_code
def yX2_choice : MethodName := ⟨RX2, "choice", "(II)Z"⟩
abbrev cX2_jump : ByteArray := prog_4_method_15_code
def yX2_jump : MethodName := ⟨RX2, "jump", "(I)I"⟩
abbrev cX2_land : ByteArray := prog_4_method_16_code
def yX2_land : MethodName := ⟨RX2, "land", "(I)V"⟩
abbrev cX2_either : ByteArray := prog_4_method_17_code
def yX2_either : MethodName := ⟨RX2, "either", "(II)Z"⟩
abbrev cX2_both : ByteArray := prog_4_method_18_code
def yX2_both : MethodName := ⟨RX2, "both", "(II)Z"⟩
abbrev cX2_ask : ByteArray := prog_4_method_19_code
def yX2_ask : MethodName := ⟨RX2, "ask", "(II)Z"⟩
def RX3 : String := "CountingHorses$Road"
def TX3 : u_T := fun k => match k with
  | 0 => ("CountingHorses$Road", "mud", "[I", true)
  | 1 => ("CountingHorses$Road", "bridgeFrom", "[I", true)
  | 2 => ("CountingHorses$Road", "bridgeTo", "[I", true)
  | _ => ("CountingHorses$Road", "bridges", "I", false)
def tyX3 : Nat → FieldType := fun k => match k with
  | 0 => .array .int
  | 1 => .array .int
  | 2 => .array .int
  | _ => .int
abbrev wsX30 : List Cond := u_ws RX3 TX3 4
theorem nmX3 : ∀ a, a < 4 → ∀ b, b < 4 → a ≠ b → (TX3 a).2.1 ≠ (TX3 b).2.1 := by decide +kernel
theorem tyX3_ok : ∀ k, k < 4 → parseFieldDescriptor (TX3 k).2.2.1 = some (tyX3 k) := by decide +kernel
abbrev cX3_init : ByteArray := prog_5_method_1_code
def yX3_init : MethodName := ⟨RX3, "<init>", "()V"⟩
abbrev cX3_acrossFrom : ByteArray := prog_5_method_2_code
def yX3_acrossFrom : MethodName := ⟨RX3, "acrossFrom", "(I)I"⟩
abbrev cX3_copyFrom : ByteArray := prog_5_method_3_code
def yX3_copyFrom : MethodName := ⟨RX3, "copyFrom", "(LCountingHorses$Road;)V"⟩
def RX4 : String := "CountingHorses$Stable"
def TX4 : u_T := fun k => match k with
  | 0 => ("CountingHorses$Stable", "count", "[I", true)
  | 1 => ("CountingHorses$Stable", "shoe", "[I", true)
  | _ => ("CountingHorses$Stable", "horses", "I", false)
def tyX4 : Nat → FieldType := fun k => match k with
  | 0 => .array .int
  | 1 => .array .int
  | _ => .int
abbrev wsX40 : List Cond := u_ws RX4 TX4 3
theorem nmX4 : ∀ a, a < 3 → ∀ b, b < 3 → a ≠ b → (TX4 a).2.1 ≠ (TX4 b).2.1 := by decide +kernel
theorem tyX4_ok : ∀ k, k < 3 → parseFieldDescriptor (TX4 k).2.2.1 = some (tyX4 k) := by decide +kernel
abbrev cX4_init : ByteArray := prog_6_method_1_code
def yX4_init : MethodName := ⟨RX4, "<init>", "()V"⟩
abbrev cX4_copyFrom : ByteArray := prog_6_method_2_code
def yX4_copyFrom : MethodName := ⟨RX4, "copyFrom", "(LCountingHorses$Stable;)V"⟩
def RX5 : String := "CountingHorses$StepsBack"
def TX5 : u_T := fun k => match k with
  | 0 => ("CountingHorses$StepsBack", "ring", "[LCountingHorses$Mail;", true)
  | 1 => ("CountingHorses$StepsBack", "next", "I", false)
  | _ => ("CountingHorses$StepsBack", "size", "I", false)
def tyX5 : Nat → FieldType := fun k => match k with
  | 0 => .array (.object "CountingHorses$Mail")
  | 1 => .int
  | _ => .int
abbrev wsX50 : List Cond := u_ws RX5 TX5 3
theorem nmX5 : ∀ a, a < 3 → ∀ b, b < 3 → a ≠ b → (TX5 a).2.1 ≠ (TX5 b).2.1 := by decide +kernel
theorem tyX5_ok : ∀ k, k < 3 → parseFieldDescriptor (TX5 k).2.2.1 = some (tyX5 k) := by decide +kernel
abbrev cX5_init : ByteArray := prog_7_method_1_code
def yX5_init : MethodName := ⟨RX5, "<init>", "()V"⟩
abbrev cX5_keep : ByteArray := prog_7_method_2_code
def yX5_keep : MethodName := ⟨RX5, "keep", "(LCountingHorses$Mail;)V"⟩
abbrev cX5_takeBack : ByteArray := prog_7_method_3_code
def yX5_takeBack : MethodName := ⟨RX5, "takeBack", "(LCountingHorses$Mail;)Z"⟩
abbrev cX5_copyFrom : ByteArray := prog_7_method_4_code
def yX5_copyFrom : MethodName := ⟨RX5, "copyFrom", "(LCountingHorses$StepsBack;)V"⟩
def RX6 : String := "CountingHorses$Stops"
def TX6 : u_T := fun k => match k with
  | 0 => ("CountingHorses$Stops", "driver", "LCountingHorses$Driver;", true)
  | 1 => ("CountingHorses$Stops", "stop", "[I", true)
  | 2 => ("CountingHorses$Stops", "eaten", "[I", true)
  | 3 => ("CountingHorses$Stops", "filledIn", "[I", true)
  | _ => ("CountingHorses$Stops", "age", "I", false)
def tyX6 : Nat → FieldType := fun k => match k with
  | 0 => .object "CountingHorses$Driver"
  | 1 => .array .int
  | 2 => .array .int
  | 3 => .array .int
  | _ => .int
abbrev wsX60 : List Cond := u_ws RX6 TX6 5
theorem nmX6 : ∀ a, a < 5 → ∀ b, b < 5 → a ≠ b → (TX6 a).2.1 ≠ (TX6 b).2.1 := by decide +kernel
theorem tyX6_ok : ∀ k, k < 5 → parseFieldDescriptor (TX6 k).2.2.1 = some (tyX6 k) := by decide +kernel
abbrev cX6_init : ByteArray := prog_8_method_1_code
def yX6_init : MethodName := ⟨RX6, "<init>", "()V"⟩
abbrev cX6_forget : ByteArray := prog_8_method_2_code
def yX6_forget : MethodName := ⟨RX6, "forget", "()V"⟩
abbrev cX6_rowOf : ByteArray := prog_8_method_3_code
def yX6_rowOf : MethodName := ⟨RX6, "rowOf", "(II)I"⟩
def RX7 : String := "CountingHorses$Tape"
def TX7 : u_T := fun k => match k with
  | 0 => ("CountingHorses$Tape", "bytes", "[I", true)
  | 1 => ("CountingHorses$Tape", "kind", "[I", true)
  | 2 => ("CountingHorses$Tape", "at", "[I", true)
  | 3 => ("CountingHorses$Tape", "number", "[I", true)
  | 4 => ("CountingHorses$Tape", "length", "I", false)
  | _ => ("CountingHorses$Tape", "tokens", "I", false)
def tyX7 : Nat → FieldType := fun k => match k with
  | 0 => .array .int
  | 1 => .array .int
  | 2 => .array .int
  | 3 => .array .int
  | 4 => .int
  | _ => .int
abbrev wsX70 : List Cond := u_ws RX7 TX7 6
theorem nmX7 : ∀ a, a < 6 → ∀ b, b < 6 → a ≠ b → (TX7 a).2.1 ≠ (TX7 b).2.1 := by decide +kernel
theorem tyX7_ok : ∀ k, k < 6 → parseFieldDescriptor (TX7 k).2.2.1 = some (tyX7 k) := by decide +kernel
abbrev cX7_init : ByteArray := prog_9_method_1_code
def yX7_init : MethodName := ⟨RX7, "<init>", "()V"⟩
abbrev cX7_take : ByteArray := prog_9_method_2_code
def yX7_take : MethodName := ⟨RX7, "take", "(I)V"⟩
abbrev cX7_split : ByteArray := prog_9_method_3_code
def yX7_split : MethodName := ⟨RX7, "split", "()V"⟩
abbrev cX7_put : ByteArray := prog_9_method_4_code
def yX7_put : MethodName := ⟨RX7, "put", "(III)V"⟩
abbrev cX7_splitOff : ByteArray := prog_9_method_5_code
def yX7_splitOff : MethodName := ⟨RX7, "splitOff", "(I)I"⟩
abbrev cX7_isLetter : ByteArray := prog_9_method_6_code
def yX7_isLetter : MethodName := ⟨RX7, "isLetter", "(I)Z"⟩
abbrev cX7_isDigit : ByteArray := prog_9_method_7_code
def yX7_isDigit : MethodName := ⟨RX7, "isDigit", "(I)Z"⟩
abbrev cX7_wideKind : ByteArray := prog_9_method_8_code
def yX7_wideKind : MethodName := ⟨RX7, "wideKind", "(I)I"⟩
abbrev cX7_signKind : ByteArray := prog_9_method_9_code
def yX7_signKind : MethodName := ⟨RX7, "signKind", "(C)I"⟩
abbrev cX7_wordKind : ByteArray := prog_9_method_10_code
def yX7_wordKind : MethodName := ⟨RX7, "wordKind", "(II)I"⟩
abbrev cX7_isWord : ByteArray := prog_9_method_11_code
def yX7_isWord : MethodName := ⟨RX7, "isWord", "(III)Z"⟩
def RX8 : String := "CountingHorses$Team"
def TX8 : u_T := fun k => match k with
  | 0 => ("CountingHorses$Team", "best", "[I", true)
  | 1 => ("CountingHorses$Team", "order", "[I", true)
  | 2 => ("CountingHorses$Team", "size", "I", false)
  | _ => ("CountingHorses$Team", "oats", "I", false)
def tyX8 : Nat → FieldType := fun k => match k with
  | 0 => .array .int
  | 1 => .array .int
  | 2 => .int
  | _ => .int
abbrev wsX80 : List Cond := u_ws RX8 TX8 4
theorem nmX8 : ∀ a, a < 4 → ∀ b, b < 4 → a ≠ b → (TX8 a).2.1 ≠ (TX8 b).2.1 := by decide +kernel
theorem tyX8_ok : ∀ k, k < 4 → parseFieldDescriptor (TX8 k).2.2.1 = some (tyX8 k) := by decide +kernel
abbrev cX8_init : ByteArray := prog_10_method_1_code
def yX8_init : MethodName := ⟨RX8, "<init>", "()V"⟩
abbrev cX8_find : ByteArray := prog_10_method_2_code
def yX8_find : MethodName := ⟨RX8, "find", "(LCountingHorses$Stops;II)V"⟩
abbrev cX8_seek : ByteArray := prog_10_method_3_code
def yX8_seek : MethodName := ⟨RX8, "seek", "(LCountingHorses$Stops;IIII)V"⟩
abbrev cX8_isHarnessed : ByteArray := prog_10_method_4_code
def yX8_isHarnessed : MethodName := ⟨RX8, "isHarnessed", "(II)Z"⟩
def RX9 : String := "CountingHorses$Text"
def TX9 : u_T := fun k => match k with
  | 0 => ("CountingHorses$Text", "code", "[I", true)
  | 1 => ("CountingHorses$Text", "lawFrom", "[I", true)
  | 2 => ("CountingHorses$Text", "lawTo", "[I", true)
  | 3 => ("CountingHorses$Text", "clauseKind", "[I", true)
  | 4 => ("CountingHorses$Text", "clauseNumber", "[I", true)
  | 5 => ("CountingHorses$Text", "length", "I", false)
  | _ => ("CountingHorses$Text", "clauses", "I", false)
def tyX9 : Nat → FieldType := fun k => match k with
  | 0 => .array .int
  | 1 => .array .int
  | 2 => .array .int
  | 3 => .array .int
  | 4 => .array .int
  | 5 => .int
  | _ => .int
abbrev wsX90 : List Cond := u_ws RX9 TX9 7
theorem nmX9 : ∀ a, a < 7 → ∀ b, b < 7 → a ≠ b → (TX9 a).2.1 ≠ (TX9 b).2.1 := by decide +kernel
theorem tyX9_ok : ∀ k, k < 7 → parseFieldDescriptor (TX9 k).2.2.1 = some (tyX9 k) := by decide +kernel
abbrev cX9_init : ByteArray := prog_11_method_1_code
def yX9_init : MethodName := ⟨RX9, "<init>", "()V"⟩
abbrev cX9_clear : ByteArray := prog_11_method_2_code
def yX9_clear : MethodName := ⟨RX9, "clear", "()V"⟩
abbrev cX9_has : ByteArray := prog_11_method_3_code
def yX9_has : MethodName := ⟨RX9, "has", "(I)Z"⟩
abbrev cX9_put : ByteArray := prog_11_method_4_code
def yX9_put : MethodName := ⟨RX9, "put", "(I)V"⟩
abbrev cX9_add : ByteArray := prog_11_method_5_code
def yX9_add : MethodName := ⟨RX9, "add", "(II)V"⟩
def RX10 : String := "CountingHorses$World"
def TX10 : u_T := fun k => match k with
  | 0 => ("CountingHorses$World", "road", "LCountingHorses$Road;", true)
  | 1 => ("CountingHorses$World", "stable", "LCountingHorses$Stable;", true)
  | 2 => ("CountingHorses$World", "mail", "LCountingHorses$Mail;", true)
  | 3 => ("CountingHorses$World", "stepsBack", "LCountingHorses$StepsBack;", true)
  | 4 => ("CountingHorses$World", "seenAt", "[I", true)
  | 5 => ("CountingHorses$World", "triedHorse", "[I", true)
  | 6 => ("CountingHorses$World", "triedFrom", "[I", true)
  | 7 => ("CountingHorses$World", "triedStop", "[I", true)
  | 8 => ("CountingHorses$World", "slip", "I", false)
  | 9 => ("CountingHorses$World", "texts", "I", false)
  | 10 => ("CountingHorses$World", "ruling", "I", false)
  | 11 => ("CountingHorses$World", "seen", "I", false)
  | _ => ("CountingHorses$World", "tried", "I", false)
def tyX10 : Nat → FieldType := fun k => match k with
  | 0 => .object "CountingHorses$Road"
  | 1 => .object "CountingHorses$Stable"
  | 2 => .object "CountingHorses$Mail"
  | 3 => .object "CountingHorses$StepsBack"
  | 4 => .array .int
  | 5 => .array .int
  | 6 => .array .int
  | 7 => .array .int
  | 8 => .int
  | 9 => .int
  | 10 => .int
  | 11 => .int
  | _ => .int
abbrev wsX100 : List Cond := u_ws RX10 TX10 13
theorem nmX10 : ∀ a, a < 13 → ∀ b, b < 13 → a ≠ b → (TX10 a).2.1 ≠ (TX10 b).2.1 := by decide +kernel
theorem tyX10_ok : ∀ k, k < 13 → parseFieldDescriptor (TX10 k).2.2.1 = some (tyX10 k) := by decide +kernel
abbrev cX10_init : ByteArray := prog_12_method_1_code
def yX10_init : MethodName := ⟨RX10, "<init>", "()V"⟩
abbrev cX10_copyFrom : ByteArray := prog_12_method_2_code
def yX10_copyFrom : MethodName := ⟨RX10, "copyFrom", "(LCountingHorses$World;)V"⟩
def RX11 : String := "CountingHorses"
def TX11 : u_T := fun k => match k with
  | 0 => ("CountingHorses", "stops", "LCountingHorses$Stops;", true)
  | 1 => ("CountingHorses", "driver", "LCountingHorses$Driver;", true)
  | 2 => ("CountingHorses", "now", "LCountingHorses$World;", true)
  | 3 => ("CountingHorses", "kept", "LCountingHorses$World;", true)
  | 4 => ("CountingHorses", "reader", "LCountingHorses$Reader;", true)
  | 5 => ("CountingHorses", "team", "LCountingHorses$Team;", true)
  | _ => ("CountingHorses", "costs", "[I", true)
def tyX11 : Nat → FieldType := fun k => match k with
  | 0 => .object "CountingHorses$Stops"
  | 1 => .object "CountingHorses$Driver"
  | 2 => .object "CountingHorses$World"
  | 3 => .object "CountingHorses$World"
  | 4 => .object "CountingHorses$Reader"
  | 5 => .object "CountingHorses$Team"
  | _ => .array .int
abbrev wsX110 : List Cond := u_ws RX11 TX11 7
theorem nmX11 : ∀ a, a < 7 → ∀ b, b < 7 → a ≠ b → (TX11 a).2.1 ≠ (TX11 b).2.1 := by decide +kernel
theorem tyX11_ok : ∀ k, k < 7 → parseFieldDescriptor (TX11 k).2.2.1 = some (tyX11 k) := by decide +kernel
abbrev cX11_init : ByteArray := prog_1_method_1_code
def yX11_init : MethodName := ⟨RX11, "<init>", "()V"⟩
abbrev cX11_mud : ByteArray := prog_1_method_2_code
def yX11_mud : MethodName := ⟨RX11, "mud", "(III)Z"⟩
abbrev cX11_bridge : ByteArray := prog_1_method_3_code
def yX11_bridge : MethodName := ⟨RX11, "bridge", "(II)I"⟩
abbrev cX11_inn : ByteArray := prog_1_method_4_code
def yX11_inn : MethodName := ⟨RX11, "inn", "(I)I"⟩
abbrev cX11_move : ByteArray := prog_1_method_5_code
def yX11_move : MethodName := ⟨RX11, "move", "(II)Z"⟩
abbrev cX11_horse : ByteArray := prog_1_method_6_code
def yX11_horse : MethodName := ⟨RX11, "horse", "(II)I"⟩
abbrev cX11_weather : ByteArray := prog_1_method_7_code
def yX11_weather : MethodName := ⟨RX11, "weather", "(II)Z"⟩
abbrev cX11_feed : ByteArray := prog_1_method_8_code
def yX11_feed : MethodName := ⟨RX11, "feed", "(IIIII)I"⟩
abbrev cX11_end : ByteArray := prog_1_method_9_code
def yX11_end : MethodName := ⟨RX11, "end", "(I)I"⟩
abbrev cX11_text : ByteArray := prog_1_method_10_code
def yX11_text : MethodName := ⟨RX11, "text", "()I"⟩
abbrev cX11_fault : ByteArray := prog_1_method_11_code
def yX11_fault : MethodName := ⟨RX11, "fault", "(I)I"⟩
abbrev cX11_by : ByteArray := prog_1_method_12_code
def yX11_by : MethodName := ⟨RX11, "by", "(I)Z"⟩
abbrev cX11_start : ByteArray := prog_1_method_13_code
def yX11_start : MethodName := ⟨RX11, "start", "(I)Z"⟩
abbrev cX11_would : ByteArray := prog_1_method_14_code
def yX11_would : MethodName := ⟨RX11, "would", "(III)I"⟩
abbrev cX11_drive : ByteArray := prog_1_method_15_code
def yX11_drive : MethodName := ⟨RX11, "drive", "(I)I"⟩
abbrev cX11_pass : ByteArray := prog_1_method_16_code
def yX11_pass : MethodName := ⟨RX11, "pass", "(I)I"⟩
abbrev cX11_played : ByteArray := prog_1_method_17_code
def yX11_played : MethodName := ⟨RX11, "played", "(I)I"⟩
abbrev cX11_undo : ByteArray := prog_1_method_18_code
def yX11_undo : MethodName := ⟨RX11, "undo", "()I"⟩
abbrev cX11_coach : ByteArray := prog_1_method_19_code
def yX11_coach : MethodName := ⟨RX11, "coach", "(I)I"⟩
abbrev cX11_harness : ByteArray := prog_1_method_20_code
def yX11_harness : MethodName := ⟨RX11, "harness", "(III)I"⟩
abbrev cX11_least : ByteArray := prog_1_method_21_code
def yX11_least : MethodName := ⟨RX11, "least", "(IIZ)I"⟩
abbrev cX11_thief : ByteArray := prog_1_method_22_code
def yX11_thief : MethodName := ⟨RX11, "thief", "(III)I"⟩
abbrev cX11_seen : ByteArray := prog_1_method_23_code
def yX11_seen : MethodName := ⟨RX11, "seen", "(I)I"⟩
abbrev cX11_who : ByteArray := prog_1_method_24_code
def yX11_who : MethodName := ⟨RX11, "who", "(II)I"⟩
abbrev cX11_tried : ByteArray := prog_1_method_25_code
def yX11_tried : MethodName := ⟨RX11, "tried", "(III)I"⟩
abbrev cX11_taught : ByteArray := prog_1_method_26_code
def yX11_taught : MethodName := ⟨RX11, "taught", "()I"⟩
abbrev cX11_never : ByteArray := prog_1_method_27_code
def yX11_never : MethodName := ⟨RX11, "never", "()I"⟩
abbrev cX11_image : ByteArray := prog_1_method_28_code
def yX11_image : MethodName := ⟨RX11, "image", "()I"⟩
abbrev cX11_back : ByteArray := prog_1_method_29_code
def yX11_back : MethodName := ⟨RX11, "back", "()I"⟩
abbrev cX11_about : ByteArray := prog_1_method_30_code
def yX11_about : MethodName := ⟨RX11, "about", "(I)I"⟩
abbrev cX11_isWithin : ByteArray := prog_1_method_31_code
def yX11_isWithin : MethodName := ⟨RX11, "isWithin", "(III)Z"⟩
abbrev cX11_cut : ByteArray := prog_1_method_32_code
def yX11_cut : MethodName := ⟨RX11, "cut", "(III)I"⟩
abbrev cX11_isPlace : ByteArray := prog_1_method_33_code
def yX11_isPlace : MethodName := ⟨RX11, "isPlace", "(I)Z"⟩
abbrev cX11_isHorse : ByteArray := prog_1_method_34_code
def yX11_isHorse : MethodName := ⟨RX11, "isHorse", "(I)Z"⟩
abbrev cX11_driveByHand : ByteArray := prog_1_method_35_code
def yX11_driveByHand : MethodName := ⟨RX11, "driveByHand", "(I)Z"⟩
abbrev cX11_passDays : ByteArray := prog_1_method_36_code
def yX11_passDays : MethodName := ⟨RX11, "passDays", "(I)Z"⟩
abbrev cX11_goOnFrom : ByteArray := prog_1_method_37_code
def yX11_goOnFrom : MethodName := ⟨RX11, "goOnFrom", "(I)V"⟩
abbrev cX11_leads : ByteArray := prog_1_method_38_code
def yX11_leads : MethodName := ⟨RX11, "leads", "(III)Z"⟩
abbrev cX11_ordersFrom : ByteArray := prog_1_method_39_code
def yX11_ordersFrom : MethodName := ⟨RX11, "ordersFrom", "(III)I"⟩
abbrev cX11_fitsTried : ByteArray := prog_1_method_40_code
def yX11_fitsTried : MethodName := ⟨RX11, "fitsTried", "(LCountingHorses$Text;)Z"⟩
abbrev cX11_isStoppedAt : ByteArray := prog_1_method_41_code
def yX11_isStoppedAt : MethodName := ⟨RX11, "isStoppedAt", "(I)Z"⟩
def RX12 : String := "CountingHorsesModel"
def TX12 : u_T := fun k => match k with
  | 0 => ("CountingHorsesModel", "a", "[I", true)
  | 1 => ("CountingHorsesModel", "image", "[I", true)
  | 2 => ("CountingHorsesModel", "texts", "[I", true)
  | 3 => ("CountingHorsesModel", "tape", "[I", true)
  | 4 => ("CountingHorsesModel", "taped", "I", false)
  | 5 => ("CountingHorsesModel", "fault", "I", false)
  | 6 => ("CountingHorsesModel", "faultPlace", "I", false)
  | 7 => ("CountingHorsesModel", "at", "I", false)
  | 8 => ("CountingHorsesModel", "place", "I", false)
  | 9 => ("CountingHorsesModel", "token", "I", false)
  | 10 => ("CountingHorsesModel", "number", "I", false)
  | 11 => ("CountingHorsesModel", "word", "J", false)
  | 12 => ("CountingHorsesModel", "text0", "I", false)
  | 13 => ("CountingHorsesModel", "clauses", "I", false)
  | 14 => ("CountingHorsesModel", "written", "I", false)
  | 15 => ("CountingHorsesModel", "came", "I", false)
  | 16 => ("CountingHorsesModel", "pile", "[I", true)
  | 17 => ("CountingHorsesModel", "piled", "I", false)
  | 18 => ("CountingHorsesModel", "opens", "I", false)
  | 19 => ("CountingHorsesModel", "isWhole", "Z", false)
  | 20 => ("CountingHorsesModel", "sort0", "I", false)
  | 21 => ("CountingHorsesModel", "once", "I", false)
  | 22 => ("CountingHorsesModel", "named", "[I", true)
  | 23 => ("CountingHorsesModel", "values", "[J", true)
  | 24 => ("CountingHorsesModel", "truth", "[Z", true)
  | 25 => ("CountingHorsesModel", "stop", "I", false)
  | 26 => ("CountingHorsesModel", "eaten", "I", false)
  | 27 => ("CountingHorsesModel", "steps", "I", false)
  | 28 => ("CountingHorsesModel", "row", "[I", true)
  | 29 => ("CountingHorsesModel", "stops", "[I", true)
  | 30 => ("CountingHorsesModel", "oats", "[I", true)
  | 31 => ("CountingHorsesModel", "best", "[I", true)
  | 32 => ("CountingHorsesModel", "allStops", "[I", true)
  | 33 => ("CountingHorsesModel", "allOats", "[I", true)
  | 34 => ("CountingHorsesModel", "cost", "[I", true)
  | _ => ("CountingHorsesModel", "ways", "[I", true)
def tyX12 : Nat → FieldType := fun k => match k with
  | 0 => .array .int
  | 1 => .array .int
  | 2 => .array .int
  | 3 => .array .int
  | 4 => .int
  | 5 => .int
  | 6 => .int
  | 7 => .int
  | 8 => .int
  | 9 => .int
  | 10 => .int
  | 11 => .long
  | 12 => .int
  | 13 => .int
  | 14 => .int
  | 15 => .int
  | 16 => .array .int
  | 17 => .int
  | 18 => .int
  | 19 => .boolean
  | 20 => .int
  | 21 => .int
  | 22 => .array .int
  | 23 => .array .long
  | 24 => .array .boolean
  | 25 => .int
  | 26 => .int
  | 27 => .int
  | 28 => .array .int
  | 29 => .array .int
  | 30 => .array .int
  | 31 => .array .int
  | 32 => .array .int
  | 33 => .array .int
  | 34 => .array .int
  | _ => .array .int
abbrev wsX120 : List Cond := u_ws RX12 TX12 36
theorem nmX12 : ∀ a, a < 36 → ∀ b, b < 36 → a ≠ b → (TX12 a).2.1 ≠ (TX12 b).2.1 := by decide +kernel
theorem tyX12_ok : ∀ k, k < 36 → parseFieldDescriptor (TX12 k).2.2.1 = some (tyX12 k) := by decide +kernel
abbrev cX12_init : ByteArray := prog_14_method_1_code
def yX12_init : MethodName := ⟨RX12, "<init>", "()V"⟩
abbrev cX12_copy : ByteArray := prog_14_method_2_code
def yX12_copy : MethodName := ⟨RX12, "copy", "([I[I)V"⟩
abbrev cX12_isIn : ByteArray := prog_14_method_3_code
def yX12_isIn : MethodName := ⟨RX12, "isIn", "(III)Z"⟩
abbrev cX12_between : ByteArray := prog_14_method_4_code
def yX12_between : MethodName := ⟨RX12, "between", "(JI)I"⟩
abbrev cX12_has : ByteArray := prog_14_method_5_code
def yX12_has : MethodName := ⟨RX12, "has", "(II)Z"⟩
abbrev cX12_bits : ByteArray := prog_14_method_6_code
def yX12_bits : MethodName := ⟨RX12, "bits", "(I)I"⟩
abbrev cX12_isHorse : ByteArray := prog_14_method_7_code
def yX12_isHorse : MethodName := ⟨RX12, "isHorse", "(I)Z"⟩
abbrev cX12_isPlace : ByteArray := prog_14_method_8_code
def yX12_isPlace : MethodName := ⟨RX12, "isPlace", "(I)Z"⟩
abbrev cX12_mud : ByteArray := prog_14_method_9_code
def yX12_mud : MethodName := ⟨RX12, "mud", "(III)Z"⟩
abbrev cX12_bridge : ByteArray := prog_14_method_10_code
def yX12_bridge : MethodName := ⟨RX12, "bridge", "(II)I"⟩
abbrev cX12_inn : ByteArray := prog_14_method_11_code
def yX12_inn : MethodName := ⟨RX12, "inn", "(I)I"⟩
abbrev cX12_horse : ByteArray := prog_14_method_12_code
def yX12_horse : MethodName := ⟨RX12, "horse", "(II)I"⟩
abbrev cX12_weather : ByteArray := prog_14_method_13_code
def yX12_weather : MethodName := ⟨RX12, "weather", "(II)Z"⟩
abbrev cX12_four : ByteArray := prog_14_method_14_code
def yX12_four : MethodName := ⟨RX12, "four", "(I)V"⟩
abbrev cX12_feed : ByteArray := prog_14_method_15_code
def yX12_feed : MethodName := ⟨RX12, "feed", "(IIIII)I"⟩
abbrev cX12_end : ByteArray := prog_14_method_16_code
def yX12_end : MethodName := ⟨RX12, "end", "(I)I"⟩
abbrev cX12_byteAt : ByteArray := prog_14_method_17_code
def yX12_byteAt : MethodName := ⟨RX12, "byteAt", "(I)I"⟩
abbrev cX12_isLetter : ByteArray := prog_14_method_18_code
def yX12_isLetter : MethodName := ⟨RX12, "isLetter", "(I)Z"⟩
abbrev cX12_isDigit : ByteArray := prog_14_method_19_code
def yX12_isDigit : MethodName := ⟨RX12, "isDigit", "(I)Z"⟩
abbrev cX12_nextToken : ByteArray := prog_14_method_20_code
def yX12_nextToken : MethodName := ⟨RX12, "nextToken", "()V"⟩
abbrev cX12_w3 : ByteArray := prog_14_method_21_code
def yX12_w3 : MethodName := ⟨RX12, "w3", "(III)J"⟩
abbrev cX12_w5 : ByteArray := prog_14_method_22_code
def yX12_w5 : MethodName := ⟨RX12, "w5", "(IIIII)J"⟩
abbrev cX12_w4 : ByteArray := prog_14_method_23_code
def yX12_w4 : MethodName := ⟨RX12, "w4", "(IIII)J"⟩
abbrev cX12_w6 : ByteArray := prog_14_method_24_code
def yX12_w6 : MethodName := ⟨RX12, "w6", "(IIIIII)J"⟩
abbrev cX12_isWord : ByteArray := prog_14_method_25_code
def yX12_isWord : MethodName := ⟨RX12, "isWord", "(J)Z"⟩
abbrev cX12_emit : ByteArray := prog_14_method_26_code
def yX12_emit : MethodName := ⟨RX12, "emit", "(II)V"⟩
abbrev cX12_push : ByteArray := prog_14_method_27_code
def yX12_push : MethodName := ⟨RX12, "push", "(I)V"⟩
abbrev cX12_rank : ByteArray := prog_14_method_28_code
def yX12_rank : MethodName := ⟨RX12, "rank", "(I)I"⟩
abbrev cX12_settle : ByteArray := prog_14_method_29_code
def yX12_settle : MethodName := ⟨RX12, "settle", "(I)V"⟩
abbrev cX12_whole : ByteArray := prog_14_method_30_code
def yX12_whole : MethodName := ⟨RX12, "whole", "()V"⟩
abbrev cX12_marker : ByteArray := prog_14_method_31_code
def yX12_marker : MethodName := ⟨RX12, "marker", "()I"⟩
abbrev cX12_kindOpen : ByteArray := prog_14_method_32_code
def yX12_kindOpen : MethodName := ⟨RX12, "kindOpen", "(Z)I"⟩
abbrev cX12_isCompared : ByteArray := prog_14_method_33_code
def yX12_isCompared : MethodName := ⟨RX12, "isCompared", "()Z"⟩
abbrev cX12_isAskAhead : ByteArray := prog_14_method_34_code
def yX12_isAskAhead : MethodName := ⟨RX12, "isAskAhead", "(Z)Z"⟩
abbrev cX12_opensBy : ByteArray := prog_14_method_35_code
def yX12_opensBy : MethodName := ⟨RX12, "opensBy", "(I)I"⟩
abbrev cX12_beginOne : ByteArray := prog_14_method_36_code
def yX12_beginOne : MethodName := ⟨RX12, "beginOne", "(Z)I"⟩
abbrev cX12_compareOf : ByteArray := prog_14_method_37_code
def yX12_compareOf : MethodName := ⟨RX12, "compareOf", "()I"⟩
abbrev cX12_betweenOf : ByteArray := prog_14_method_38_code
def yX12_betweenOf : MethodName := ⟨RX12, "betweenOf", "(Z)I"⟩
abbrev cX12_behindOne : ByteArray := prog_14_method_39_code
def yX12_behindOne : MethodName := ⟨RX12, "behindOne", "(Z)Z"⟩
abbrev cX12_parsed : ByteArray := prog_14_method_40_code
def yX12_parsed : MethodName := ⟨RX12, "parsed", "(Z)I"⟩
abbrev cX12_nameOf : ByteArray := prog_14_method_41_code
def yX12_nameOf : MethodName := ⟨RX12, "nameOf", "()I"⟩
abbrev cX12_isOf : ByteArray := prog_14_method_42_code
def yX12_isOf : MethodName := ⟨RX12, "isOf", "(I)Z"⟩
abbrev cX12_sortOf : ByteArray := prog_14_method_43_code
def yX12_sortOf : MethodName := ⟨RX12, "sortOf", "()I"⟩
abbrev cX12_figure : ByteArray := prog_14_method_44_code
def yX12_figure : MethodName := ⟨RX12, "figure", "(III)I"⟩
abbrev cX12_clause : ByteArray := prog_14_method_45_code
def yX12_clause : MethodName := ⟨RX12, "clause", "()I"⟩
abbrev cX12_readText : ByteArray := prog_14_method_46_code
def yX12_readText : MethodName := ⟨RX12, "readText", "()I"⟩
abbrev cX12_text : ByteArray := prog_14_method_47_code
def yX12_text : MethodName := ⟨RX12, "text", "()I"⟩
abbrev cX12_fault : ByteArray := prog_14_method_48_code
def yX12_fault : MethodName := ⟨RX12, "fault", "(I)I"⟩
abbrev cX12_by : ByteArray := prog_14_method_49_code
def yX12_by : MethodName := ⟨RX12, "by", "(I)Z"⟩
abbrev cX12_clip : ByteArray := prog_14_method_50_code
def yX12_clip : MethodName := ⟨RX12, "clip", "(J)J"⟩
abbrev cX12_two : ByteArray := prog_14_method_51_code
def yX12_two : MethodName := ⟨RX12, "two", "(IJJ)J"⟩
abbrev cX12_isAsked : ByteArray := prog_14_method_52_code
def yX12_isAsked : MethodName := ⟨RX12, "isAsked", "(IJJ)Z"⟩
abbrev cX12_work : ByteArray := prog_14_method_53_code
def yX12_work : MethodName := ⟨RX12, "work", "(II)V"⟩
abbrev cX12_clauseOf : ByteArray := prog_14_method_54_code
def yX12_clauseOf : MethodName := ⟨RX12, "clauseOf", "(II)I"⟩
abbrev cX12_sumOf : ByteArray := prog_14_method_55_code
def yX12_sumOf : MethodName := ⟨RX12, "sumOf", "(IIII)I"⟩
abbrev cX12_nameHorse : ByteArray := prog_14_method_56_code
def yX12_nameHorse : MethodName := ⟨RX12, "nameHorse", "(II)V"⟩
abbrev cX12_over : ByteArray := prog_14_method_57_code
def yX12_over : MethodName := ⟨RX12, "over", "(I)I"⟩
abbrev cX12_slip : ByteArray := prog_14_method_58_code
def yX12_slip : MethodName := ⟨RX12, "slip", "()I"⟩
abbrev cX12_go : ByteArray := prog_14_method_59_code
def yX12_go : MethodName := ⟨RX12, "go", "(IIIZ)V"⟩
abbrev cX12_stopOf : ByteArray := prog_14_method_60_code
def yX12_stopOf : MethodName := ⟨RX12, "stopOf", "(II)I"⟩
abbrev cX12_would : ByteArray := prog_14_method_61_code
def yX12_would : MethodName := ⟨RX12, "would", "(III)I"⟩
abbrev cX12_keep : ByteArray := prog_14_method_62_code
def yX12_keep : MethodName := ⟨RX12, "keep", "()V"⟩
abbrev cX12_undo : ByteArray := prog_14_method_63_code
def yX12_undo : MethodName := ⟨RX12, "undo", "()I"⟩
abbrev cX12_move : ByteArray := prog_14_method_64_code
def yX12_move : MethodName := ⟨RX12, "move", "(II)Z"⟩
abbrev cX12_start : ByteArray := prog_14_method_65_code
def yX12_start : MethodName := ⟨RX12, "start", "(I)Z"⟩
abbrev cX12_drive : ByteArray := prog_14_method_66_code
def yX12_drive : MethodName := ⟨RX12, "drive", "(I)I"⟩
abbrev cX12_pass : ByteArray := prog_14_method_67_code
def yX12_pass : MethodName := ⟨RX12, "pass", "(I)I"⟩
abbrev cX12_isPlayed : ByteArray := prog_14_method_68_code
def yX12_isPlayed : MethodName := ⟨RX12, "isPlayed", "(I)Z"⟩
abbrev cX12_played : ByteArray := prog_14_method_69_code
def yX12_played : MethodName := ⟨RX12, "played", "(I)I"⟩
abbrev cX12_innAt : ByteArray := prog_14_method_70_code
def yX12_innAt : MethodName := ⟨RX12, "innAt", "(I)I"⟩
abbrev cX12_coach : ByteArray := prog_14_method_71_code
def yX12_coach : MethodName := ⟨RX12, "coach", "(I)I"⟩
abbrev cX12_isTwice : ByteArray := prog_14_method_72_code
def yX12_isTwice : MethodName := ⟨RX12, "isTwice", "(I)Z"⟩
abbrev cX12_tryRows : ByteArray := prog_14_method_73_code
def yX12_tryRows : MethodName := ⟨RX12, "tryRows", "(III)I"⟩
abbrev cX12_harness : ByteArray := prog_14_method_74_code
def yX12_harness : MethodName := ⟨RX12, "harness", "(III)I"⟩
abbrev cX12_findAll : ByteArray := prog_14_method_75_code
def yX12_findAll : MethodName := ⟨RX12, "findAll", "()V"⟩
abbrev cX12_least : ByteArray := prog_14_method_76_code
def yX12_least : MethodName := ⟨RX12, "least", "(IIZ)I"⟩
abbrev cX12_isThief : ByteArray := prog_14_method_77_code
def yX12_isThief : MethodName := ⟨RX12, "isThief", "(III)Z"⟩
abbrev cX12_thief : ByteArray := prog_14_method_78_code
def yX12_thief : MethodName := ⟨RX12, "thief", "(III)I"⟩
abbrev cX12_seen : ByteArray := prog_14_method_79_code
def yX12_seen : MethodName := ⟨RX12, "seen", "(I)I"⟩
abbrev cX12_makers : ByteArray := prog_14_method_80_code
def yX12_makers : MethodName := ⟨RX12, "makers", "(II)I"⟩
abbrev cX12_orders : ByteArray := prog_14_method_81_code
def yX12_orders : MethodName := ⟨RX12, "orders", "(I)I"⟩
abbrev cX12_who : ByteArray := prog_14_method_82_code
def yX12_who : MethodName := ⟨RX12, "who", "(II)I"⟩
abbrev cX12_tried : ByteArray := prog_14_method_83_code
def yX12_tried : MethodName := ⟨RX12, "tried", "(III)I"⟩
abbrev cX12_isTaught : ByteArray := prog_14_method_84_code
def yX12_isTaught : MethodName := ⟨RX12, "isTaught", "(I)Z"⟩
abbrev cX12_taught : ByteArray := prog_14_method_85_code
def yX12_taught : MethodName := ⟨RX12, "taught", "()I"⟩
abbrev cX12_never : ByteArray := prog_14_method_86_code
def yX12_never : MethodName := ⟨RX12, "never", "()I"⟩
abbrev cX12_image : ByteArray := prog_14_method_87_code
def yX12_image : MethodName := ⟨RX12, "image", "()I"⟩
abbrev cX12_back : ByteArray := prog_14_method_88_code
def yX12_back : MethodName := ⟨RX12, "back", "()I"⟩
abbrev cX12_about : ByteArray := prog_14_method_89_code
def yX12_about : MethodName := ⟨RX12, "about", "(I)I"⟩
def RJx145de : String := "java/io/Serializable"
def RJx9f9b0 : String := "java/lang/CharSequence"
def RJ11 : String := "java/lang/Character"
abbrev cJ11_isValidCodePoint_9a6ad : ByteArray := prog_15_method_11_code
def yJ11_isValidCodePoint_9a6ad : MethodName := ⟨RJ11, "isValidCodePoint", "(I)Z"⟩
abbrev cJ11_highSurrogate_5068e : ByteArray := prog_15_method_28_code
def yJ11_highSurrogate_5068e : MethodName := ⟨RJ11, "highSurrogate", "(I)C"⟩
abbrev cJ11_lowSurrogate_5068e : ByteArray := prog_15_method_29_code
def yJ11_lowSurrogate_5068e : MethodName := ⟨RJ11, "lowSurrogate", "(I)C"⟩
def RJxb160c : String := "java/lang/Comparable"
def RJ6 : String := "java/lang/Integer"
abbrev cJ6_bitCount_0f7a4 : ByteArray := prog_16_method_49_code
def yJ6_bitCount_0f7a4 : MethodName := ⟨RJ6, "bitCount", "(I)I"⟩
def RJ9 : String := "java/lang/Math"
abbrev cJ9_max_7cf53 : ByteArray := prog_17_method_65_code
def yJ9_max_7cf53 : MethodName := ⟨RJ9, "max", "(II)I"⟩
abbrev cJ9_min_7cf53 : ByteArray := prog_17_method_69_code
def yJ9_min_7cf53 : MethodName := ⟨RJ9, "min", "(II)I"⟩
def RJ0 : String := "java/lang/String"
abbrev cJ0_length_8abf5 : ByteArray := prog_18_method_54_code
def yJ0_length_8abf5 : MethodName := ⟨RJ0, "length", "()I"⟩
abbrev cJ0_charAt_5068e : ByteArray := prog_18_method_56_code
def yJ0_charAt_5068e : MethodName := ⟨RJ0, "charAt", "(I)C"⟩
abbrev cJ0_indexOf_0f7a4 : ByteArray := prog_18_method_79_code
def yJ0_indexOf_0f7a4 : MethodName := ⟨RJ0, "indexOf", "(I)I"⟩
abbrev cJ0_indexOf_7cf53 : ByteArray := prog_18_method_80_code
def yJ0_indexOf_7cf53 : MethodName := ⟨RJ0, "indexOf", "(II)I"⟩
abbrev cJ0_coder_7d493 : ByteArray := prog_18_method_152_code
def yJ0_coder_7d493 : MethodName := ⟨RJ0, "coder", "()B"⟩
abbrev cJ0_isLatin1_aae02 : ByteArray := prog_18_method_154_code
def yJ0_isLatin1_aae02 : MethodName := ⟨RJ0, "isLatin1", "()Z"⟩
abbrev cJ0_checkIndex_df160 : ByteArray := prog_18_method_155_code
def yJ0_checkIndex_df160 : MethodName := ⟨RJ0, "checkIndex", "(II)V"⟩
abbrev cJ0_checkBoundsBeginEnd_23922 : ByteArray := prog_18_method_158_code
def yJ0_checkBoundsBeginEnd_23922 : MethodName := ⟨RJ0, "checkBoundsBeginEnd", "(III)V"⟩
def RJ1 : String := "java/lang/StringLatin1"
abbrev cJ1_charAt_3b067 : ByteArray := prog_19_method_2_code
def yJ1_charAt_3b067 : MethodName := ⟨RJ1, "charAt", "([BI)C"⟩
abbrev cJ1_canEncode_9a6ad : ByteArray := prog_19_method_4_code
def yJ1_canEncode_9a6ad : MethodName := ⟨RJ1, "canEncode", "(I)Z"⟩
abbrev cJ1_indexOf_4cfef : ByteArray := prog_19_method_22_code
def yJ1_indexOf_4cfef : MethodName := ⟨RJ1, "indexOf", "([BIII)I"⟩
abbrev cJ1_indexOfChar_4cfef : ByteArray := prog_19_method_23_code
def yJ1_indexOfChar_4cfef : MethodName := ⟨RJ1, "indexOfChar", "([BIII)I"⟩
def RJ2 : String := "java/lang/StringUTF16"
abbrev cJ2_getChar_3b067 : ByteArray := prog_20_method_5_code
def yJ2_getChar_3b067 : MethodName := ⟨RJ2, "getChar", "([BI)C"⟩
abbrev cJ2_length_9d52b : ByteArray := prog_20_method_6_code
def yJ2_length_9d52b : MethodName := ⟨RJ2, "length", "([B)I"⟩
abbrev cJ2_indexOf_4cfef : ByteArray := prog_20_method_40_code
def yJ2_indexOf_4cfef : MethodName := ⟨RJ2, "indexOf", "([BIII)I"⟩
abbrev cJ2_indexOfChar_4cfef : ByteArray := prog_20_method_47_code
def yJ2_indexOfChar_4cfef : MethodName := ⟨RJ2, "indexOfChar", "([BIII)I"⟩
abbrev cJ2_indexOfCharUnsafe_4cfef : ByteArray := prog_20_method_48_code
def yJ2_indexOfCharUnsafe_4cfef : MethodName := ⟨RJ2, "indexOfCharUnsafe", "([BIII)I"⟩
abbrev cJ2_indexOfSupplementary_4cfef : ByteArray := prog_20_method_49_code
def yJ2_indexOfSupplementary_4cfef : MethodName := ⟨RJ2, "indexOfSupplementary", "([BIII)I"⟩
abbrev cJ2_charAt_3b067 : ByteArray := prog_20_method_83_code
def yJ2_charAt_3b067 : MethodName := ⟨RJ2, "charAt", "([BI)C"⟩
abbrev cJ2_checkIndex_2214a : ByteArray := prog_20_method_91_code
def yJ2_checkIndex_2214a : MethodName := ⟨RJ2, "checkIndex", "(I[B)V"⟩
abbrev cJ2_checkBoundsBeginEnd_d044e : ByteArray := prog_20_method_93_code
def yJ2_checkBoundsBeginEnd_d044e : MethodName := ⟨RJ2, "checkBoundsBeginEnd", "(II[B)V"⟩
def RJ10 : String := "java/lang/System"
def RJxfd54e : String := "java/lang/constant/Constable"
def RJx3cf43 : String := "java/lang/constant/ConstantDesc"
def RJ7 : String := "java/util/Arrays"
abbrev cJ7_fill_53178 : ByteArray := prog_22_method_103_code
def yJ7_fill_53178 : MethodName := ⟨RJ7, "fill", "([II)V"⟩
def RJ3 : String := "jdk/internal/util/Preconditions"
abbrev cJ3_checkIndex_8e157 : ByteArray := prog_23_method_11_code
def yJ3_checkIndex_8e157 : MethodName := ⟨RJ3, "checkIndex", "(IILjava/util/function/BiFunction;)I"⟩
abbrev cJ3_checkFromToIndex_8c36e : ByteArray := prog_23_method_12_code
def yJ3_checkFromToIndex_8c36e : MethodName := ⟨RJ3, "checkFromToIndex", "(IIILjava/util/function/BiFunction;)I"⟩
def RL : String := "CountingHorsesLaw"
abbrev cL_law : ByteArray := code
abbrev vwCl : List vw_C := [(RX0, TX0, 7), (RX1, TX1, 7), (RX2, TX2, 7), (RX3, TX3, 4), (RX4, TX4, 3), (RX5, TX5, 3), (RX6, TX6, 5), (RX7, TX7, 6), (RX8, TX8, 4), (RX9, TX9, 7), (RX10, TX10, 13), (RX11, TX11, 7), (RX12, TX12, 36)]
end
section
def nwq : List (String × Nat × MethodName) := [(RX11, 9, yX6_init), (RX0, 11, yX10_init), (RX10, 11, yX3_init), (RX10, 20, yX4_init), (RX10, 27, yX1_init), (RX5, 24, yX1_init), (RX0, 24, yX9_init), (RX11, 32, yX10_init), (RX11, 38, yX2_init), (RX2, 11, yX7_init), (RX2, 36, yX9_init), (RX11, 45, yX8_init), (RX7, 62, yX11_isWithin), (RX2, 69, yX11_isWithin), (RX0, 46, yX11_isWithin), (RX0, 113, yX11_cut)]
/-! ===== BASE: one word list for all methods, contracts of one shape, calls in one row ===== -/
def BW : List Cond := lw_tbl.filter goodWord
theorem bw_at {w : Cond} (i : Nat) (h : lw_tbl[i]? = some w) (g : goodWord w = true) : w ∈ BW := List.mem_filter.mpr ⟨List.mem_of_getElem? h, g⟩
theorem bw_good {w : Cond} (h : w ∈ BW) : (w.onTables && w.keeps) = true ∨ ∃ ty, w = .arrayClass ty := good_of_word (List.mem_filter.mp h).2
theorem bw_tbl {w : Cond} (h : w ∈ BW) : w ∈ lw_tbl := (List.mem_filter.mp h).1
theorem bw_in {ws : List Cond} (is : List Nat) (hs : ws = is.filterMap (fun i => lw_tbl[i]?)) (hg : ws.all goodWord = true) : ∀ w ∈ ws, w ∈ BW := by
  intro w hw
  have hg' := List.all_eq_true.mp hg w hw
  rw [hs] at hw
  obtain ⟨i, -, hi⟩ := List.mem_filterMap.mp hw
  exact bw_at i hi hg'
def bws (y : MethodName) (bytes : ByteArray) (maxL : Nat) (ret : Option FieldType) : List Cond := .code y bytes maxL ret :: BW
theorem bws_good {y : MethodName} {bytes : ByteArray} {maxL : Nat} {ret : Option FieldType} (h : Cond.code y bytes maxL ret ∈ BW) : GoodIn BW (bws y bytes maxL ret) := fun w hw => by
  rcases List.mem_cons.mp hw with rfl | h2
  · exact ⟨h, bw_good h⟩
  · exact ⟨h2, bw_good h2⟩
theorem bw_V {own C : String} {idx : Nat} {y : MethodName} {bytes : ByteArray} {maxL : Nat} {ret : Option FieldType} (h1 : Cond.methodLink own idx y ∈ BW) (h2 : Cond.instanceMethod y ∈ BW) (h3 : Cond.selects C y y ∈ BW) (h4 : Cond.initialized C ∈ BW) (h5 : Cond.code y bytes maxL ret ∈ BW) : GoodIn BW (wsV own idx C y (bws y bytes maxL ret)) := by
  intro w hw
  unfold wsV at hw
  rcases List.mem_append.mp hw with h | h
  · simp only [List.mem_cons, List.not_mem_nil, or_false] at h
    rcases h with rfl | rfl | rfl | rfl
    · exact ⟨h1, bw_good h1⟩
    · exact ⟨h2, bw_good h2⟩
    · exact ⟨h3, bw_good h3⟩
    · exact ⟨h4, bw_good h4⟩
  · exact bws_good h5 w h
theorem bw_S {own : String} {idx : Nat} {y : MethodName} {bytes : ByteArray} {maxL : Nat} {ret : Option FieldType} (h1 : Cond.methodLink own idx y ∈ BW) (h2 : Cond.static y ∈ BW) (h4 : Cond.initialized y.cls ∈ BW) (h5 : Cond.code y bytes maxL ret ∈ BW) : GoodIn BW (va_wsS own idx y (bws y bytes maxL ret)) := by
  intro w hw
  unfold va_wsS at hw
  rcases List.mem_append.mp hw with h | h
  · simp only [List.mem_cons, List.not_mem_nil, or_false] at h
    rcases h with rfl | rfl | rfl
    · exact ⟨h1, bw_good h1⟩
    · exact ⟨h2, bw_good h2⟩
    · exact ⟨h4, bw_good h4⟩
  · exact bws_good h5 w h
/-- the nest mates' links, and the arrays over the system's own classes: they aren't handed on as words -/
def NW (U : State) : Prop := (∀ q ∈ nwq, va_Nw (.methodLinkNest q.1 q.2.1 q.2.2 RX11) U) ∧ va_AO RX1 U ∧ va_AO RX9 U
theorem NW.warm {s U : State} (hW : s.WarmedH U.vm) (h : NW s) : NW U := ⟨fun q hq => va_Nw.warmM hW (h.1 q hq), h.2.1.moved hW.alike, h.2.2.moved hW.alike⟩
theorem NW.same {s U : State} (hW : s.vm = U.vm) (h : NW s) : NW U := ⟨fun q hq => va_Nw.same rfl hW (h.1 q hq), h.2.1.moved (by rw [hW]; exact Vm.Alike.refl _), h.2.2.moved (by rw [hW]; exact Vm.Alike.refl _)⟩
abbrev rmv (k mc ms : Nat) : Room := { frames := k, cells := mc, slots := ms, locals := 100 * k }
abbrev vw_Y : Type := List (ClassId × FieldType)
def cPc (D : va_G) (tys : vw_Y) (av : List Value) (wc : va_W) (sz : Nat) : Array Value → State → Prop := va_Pc av (fun U => U.heap.size = sz ∧ va_P D vwCl wc U.heap ∧ va_K D vwCl tys U ∧ va_D (fun _ => True) wc ∧ NW U)
def cB (D : va_G) (tys : vw_Y) (A : Nat → Prop) (u : va_W) (t : State) : Prop := va_P D vwCl u t.heap ∧ va_D A u
theorem cPc_blind {D : va_G} {tys : vw_Y} {av : List Value} {wc : va_W} {sz : Nat} : FrameBlind (cPc D tys av wc sz) := fun a U g mk h => ⟨h.1, h.2.1, h.2.2.1, va_K.moved (u := U) (U := U.calling g mk a) (Vm.Alike.refl U.vm) h.2.2.2.1, h.2.2.2.2.1, NW.same (s := U) (U := U.calling g mk a) rfl h.2.2.2.2.2⟩
/-- a contract with an int (or boolean) for its answer; the world behind it is a list of cells u -/
def Ci (l : Launch) (D : va_G) (tys : vw_Y) (y : MethodName) (bytes : ByteArray) (maxL : Nat) (ret : Option FieldType) (k mc ms : Nat) (av : List Value) (wc : va_W) (post : Int32 → va_W → Prop) : Prop := ∀ sz : Nat, Met l y (bws y bytes maxL ret) (rmv k mc ms) (cPc D tys av wc sz) (va_Qi post (cB D tys (va_A wc sz)) (va_A wc sz)) mc ms (va_A wc sz)
/-- a contract without an answer -/
def Cv (l : Launch) (D : va_G) (tys : vw_Y) (y : MethodName) (bytes : ByteArray) (maxL : Nat) (k mc ms : Nat) (av : List Value) (wc : va_W) (post : va_W → Prop) : Prop := ∀ sz : Nat, Met l y (bws y bytes maxL none) (rmv k mc ms) (cPc D tys av wc sz) (va_Qv post (cB D tys (va_A wc sz)) (va_A wc sz)) mc ms (va_A wc sz)
/-- what every row of a walk stands on -/
def Zx (p : Program) (s : State) (m : MethodId) (args : Array Value) (meth : Method) (c : Code) (cc : ByteArray) (nL : Nat) (ret : Option FieldType) (own : String) (A : Nat → Prop) (tys : vw_Y) (D : va_G) : Prop := p.tables.exec = Jvm.exec ∧ c.code = cc ∧ c.maxLocals = nL ∧ s.vm.findClass own = some m.cls ∧ (∀ w ∈ BW, w.before args s = true) ∧ NW s ∧ va_K D vwCl tys s ∧ (∀ q, s.heap.size ≤ q → A q) ∧ meth.locks = false ∧ meth.sig.returnType = ret
theorem Ci.of {l : Launch} {D : va_G} {tys : vw_Y} {y : MethodName} {bytes : ByteArray} {maxL : Nat} {ret : Option FieldType} {k mc ms : Nat} {av : List Value} {wc : va_W} {post : Int32 → va_W → Prop} (hy : plainName y.cls = true) (hav : (lg_sl av).length ≤ maxL)
    (body : ∀ (p : Program) (e : Env) (s : State) (m : MethodId) (below : List Frame) (meth : Method) (c : Code) (A : Nat → Prop) (ls : Array Slot), Zx p s m av.toArray meth c bytes maxL ret y.cls A tys D → meth.name = y.name → va_P D vwCl wc s.heap → va_D A wc → lv_has ls maxL (lv_args 0 av) →
      W p l e (rmv k mc ms) s m av.toArray below meth c s.heap [] 0 0 (MQ below (va_Qi post (cB D tys A) A) av.toArray s mc ms A) (F0 m 0 ls [])) : Ci l D tys y bytes maxL ret k mc ms av wc post := by
  intro sz
  refine Met.ofW (cc := bytes) (maxL := maxL) (ret := ret) hy rfl ?_
  intro p e s m args below meth c s₁ B hml hv
  obtain ⟨rfl, hsz, hP, hK, hD0, hN⟩ := hv
  subst hsz
  have hts := atoms_spec (ws := bws y bytes maxL ret) B.pre
  have hown : s.vm.findClass y.cls = some m.cls := findClass_of_methodNamed B.named
  have hin : meth.name = y.name := (name_of_methodNamed B.named B.method).1
  have hl := lv_entry av (n := maxL) hav
  rw [lg_entry_eq]
  exact body p e s m below meth c _ _ ⟨B.exec, B.bytes, hml, hown, fun w h => hts w (List.mem_cons_of_mem _ h), hN, hK, fun q h => Or.inr h, B.notSynchronized, B.returns⟩ hin hP hD0.self hl
theorem Cv.of {l : Launch} {D : va_G} {tys : vw_Y} {y : MethodName} {bytes : ByteArray} {maxL : Nat} {k mc ms : Nat} {av : List Value} {wc : va_W} {post : va_W → Prop} (hy : plainName y.cls = true) (hav : (lg_sl av).length ≤ maxL)
    (body : ∀ (p : Program) (e : Env) (s : State) (m : MethodId) (below : List Frame) (meth : Method) (c : Code) (A : Nat → Prop) (ls : Array Slot), Zx p s m av.toArray meth c bytes maxL none y.cls A tys D → meth.name = y.name → va_P D vwCl wc s.heap → va_D A wc → lv_has ls maxL (lv_args 0 av) →
      W p l e (rmv k mc ms) s m av.toArray below meth c s.heap [] 0 0 (MQ below (va_Qv post (cB D tys A) A) av.toArray s mc ms A) (F0 m 0 ls [])) : Cv l D tys y bytes maxL k mc ms av wc post := by
  intro sz
  refine Met.ofW (cc := bytes) (maxL := maxL) (ret := none) hy rfl ?_
  intro p e s m args below meth c s₁ B hml hv
  obtain ⟨rfl, hsz, hP, hK, hD0, hN⟩ := hv
  subst hsz
  have hts := atoms_spec (ws := bws y bytes maxL none) B.pre
  have hown : s.vm.findClass y.cls = some m.cls := findClass_of_methodNamed B.named
  have hin : meth.name = y.name := (name_of_methodNamed B.named B.method).1
  have hl := lv_entry av (n := maxL) hav
  rw [lg_entry_eq]
  exact body p e s m below meth c _ _ ⟨B.exec, B.bytes, hml, hown, fun w h => hts w (List.mem_cons_of_mem _ h), hN, hK, fun q h => Or.inr h, B.notSynchronized, B.returns⟩ hin hP hD0.self hl
theorem va_P.sub2 {D : va_G} {cl : List vw_C} {ws wc : va_W} {H : Heap} (h : va_P D cl ws H) (is : List Nat) (hs : is.map (fun i => ws[i]?) = wc.map some) : va_P D cl wc H := fun k q hk => by
  obtain ⟨i, -, h2⟩ := va_in_of is hs hk
  exact h i q h2
section ZC
variable {p : Program} {l : Launch} {e : Env} {R : Room} {s : State} {m : MethodId} {args : Array Value} {below : List Frame} {meth : Method} {c : Code} {H : Heap} {locs : List Loc} {cells slots : Nat} {Q : State → Prop}
variable {cc : ByteArray} {pc nL : Nat} {rt : Option FieldType} {ls : Array Slot} {rest st0 : List Value} {D : va_G} {A : Nat → Prop} {tys : vw_Y} {ws wc wr : va_W} {own : String}
variable {y : MethodName} {bytes : ByteArray} {maxL k mc ms index b nA : Nat} {ret : Option FieldType} {As : List Value} {post : Int32 → va_W → Prop} {postv : va_W → Prop}
theorem raw_free (hD : va_D A wc) (hA : ∀ q, s.heap.size ≤ q → A q) (hS : va_S A s.heap H locs) : ∀ q, va_A wc H.size q → A q := by
  intro q h
  rcases h with ⟨k, e, h⟩ | h
  · exact hD.2 k (q, e) h
  · exact hA q (Nat.le_trans hS.1 h)
/-- invokevirtual, an int answer: what the callee's cells are behind it, and that all else is kept -/
theorem raw_Vi {ci q0 : Nat} {fs : List Value} {qc : vw_C} (Z : Zx p s m args meth c cc nL rt own A tys D) (hl : ls.size = nL) (hM : Ci l D tys y bytes maxL ret k mc ms (.ref b :: As) wc post) (g : GoodIn BW (wsV own index y.cls y (bws y bytes maxL ret)))
    (hd : y.cls ≠ "java/lang/invoke/MethodHandle" ∧ y.cls ≠ "java/lang/invoke/VarHandle" ∧ (parseMethodDescriptor y.desc).map (fun d => d.parameters.length) = some nA) (hnA : As.length = nA) (hR : k + 1 ≤ R.frames ∧ 8 + (maxL + 11) + 100 * k ≤ R.locals)
    (hc : vwCl[ci]? = some qc) (hqc : qc.1 = y.cls) (he : wc[q0]? = some (b, .inr (ci, fs))) (hPc : va_P D vwCl wc H) (hDc : va_D A wc) (hS : va_S A s.heap H locs)
    (hst : st0 = As.reverse ++ .ref b :: rest) (hrm : (rest.map fun v => v.category).sum ≤ 8) (hdg : decode cc pc = .ok (.invokevirtual index, 3)) (hcs : cells + mc ≤ R.cells ∧ slots + ms ≤ R.slots)
    (kk : ∀ (r : Int32) (u : va_W) (H1 : Heap) (locs1 : List Loc), post r u → (∀ q : Nat, q < H.size → ¬ va_A wc H.size q → H1[q]? = H[q]?) → va_P D vwCl u H1 → va_D (va_A wc H.size) u → va_S A s.heap H1 locs1 → W p l e R s m args below meth c H1 locs1 (cells + mc) (slots + ms) Q (F0 m (pc + 3) ls (.int r :: rest))) :
    W p l e R s m args below meth c H locs cells slots Q (F0 m pc ls st0) := by
  obtain ⟨hx, hb, hml, hown, hw, hN, hK, hA, -, -⟩ := Z
  have hFc := raw_free hDc hA hS
  have hrec := va_recv hK hPc hc he
  rw [hqc] at hrec
  refine va_calli (va_runV (As := As) (rest := rest) ⟨hx, hb, hml, hown, hw⟩ (hM H.size) (cwV nA hw g rfl rfl rfl ⟨rfl, hd⟩ hR) ⟨cPc_blind, hrec, fun U hU hW => ⟨rfl, by rw [hU], by rw [hU]; exact hPc, va_K.moved hW.alike hK, hDc.weaken (fun _ _ _ _ => trivial), hN.warm hW⟩⟩ rfl hnA hl hst (lv_room hrm) hdg hcs) hS (fun q _ h => hFc q h) hFc (fun r u t H1 locs1 ht hvm hw1 hB hz1 hk1 hS1 => ?_)
  obtain ⟨hP1, hD1⟩ := hB
  rw [ht] at hP1
  exact kk r u H1 locs1 hw1 hk1 hP1 hD1 hS1
theorem raw_Vv {ci q0 : Nat} {fs : List Value} {qc : vw_C} (Z : Zx p s m args meth c cc nL rt own A tys D) (hl : ls.size = nL) (hM : Cv l D tys y bytes maxL k mc ms (.ref b :: As) wc postv) (g : GoodIn BW (wsV own index y.cls y (bws y bytes maxL none)))
    (hd : y.cls ≠ "java/lang/invoke/MethodHandle" ∧ y.cls ≠ "java/lang/invoke/VarHandle" ∧ (parseMethodDescriptor y.desc).map (fun d => d.parameters.length) = some nA) (hnA : As.length = nA) (hR : k + 1 ≤ R.frames ∧ 8 + (maxL + 11) + 100 * k ≤ R.locals)
    (hc : vwCl[ci]? = some qc) (hqc : qc.1 = y.cls) (he : wc[q0]? = some (b, .inr (ci, fs))) (hPc : va_P D vwCl wc H) (hDc : va_D A wc) (hS : va_S A s.heap H locs)
    (hst : st0 = As.reverse ++ .ref b :: rest) (hrm : (rest.map fun v => v.category).sum ≤ 8) (hdg : decode cc pc = .ok (.invokevirtual index, 3)) (hcs : cells + mc ≤ R.cells ∧ slots + ms ≤ R.slots)
    (kk : ∀ (u : va_W) (H1 : Heap) (locs1 : List Loc), postv u → (∀ q : Nat, q < H.size → ¬ va_A wc H.size q → H1[q]? = H[q]?) → va_P D vwCl u H1 → va_D (va_A wc H.size) u → va_S A s.heap H1 locs1 → W p l e R s m args below meth c H1 locs1 (cells + mc) (slots + ms) Q (F0 m (pc + 3) ls rest)) :
    W p l e R s m args below meth c H locs cells slots Q (F0 m pc ls st0) := by
  obtain ⟨hx, hb, hml, hown, hw, hN, hK, hA, -, -⟩ := Z
  have hFc := raw_free hDc hA hS
  have hrec := va_recv hK hPc hc he
  rw [hqc] at hrec
  refine va_callv (va_runV (As := As) (rest := rest) ⟨hx, hb, hml, hown, hw⟩ (hM H.size) (cwV nA hw g rfl rfl rfl ⟨rfl, hd⟩ hR) ⟨cPc_blind, hrec, fun U hU hW => ⟨rfl, by rw [hU], by rw [hU]; exact hPc, va_K.moved hW.alike hK, hDc.weaken (fun _ _ _ _ => trivial), hN.warm hW⟩⟩ rfl hnA hl hst (lv_room hrm) hdg hcs) hS (fun q _ h => hFc q h) hFc (fun u t H1 locs1 ht hvm hw1 hB hz1 hk1 hS1 => ?_)
  obtain ⟨hP1, hD1⟩ := hB
  rw [ht] at hP1
  exact kk u H1 locs1 hw1 hk1 hP1 hD1 hS1
theorem raw_Si (Z : Zx p s m args meth c cc nL rt own A tys D) (hl : ls.size = nL) (hM : Ci l D tys y bytes maxL ret k mc ms As wc post) (g : GoodIn BW (va_wsS own index y (bws y bytes maxL ret)))
    (hd : y.cls ≠ "java/lang/invoke/MethodHandle" ∧ y.cls ≠ "java/lang/invoke/VarHandle" ∧ (parseMethodDescriptor y.desc).map (fun d => d.parameters.length) = some nA) (hnA : As.length = nA) (hR : k + 1 ≤ R.frames ∧ 8 + (maxL + 11) + 100 * k ≤ R.locals)
    (hPc : va_P D vwCl wc H) (hDc : va_D A wc) (hS : va_S A s.heap H locs)
    (hst : st0 = As.reverse ++ rest) (hrm : (rest.map fun v => v.category).sum ≤ 8) (hdg : decode cc pc = .ok (.invokestatic index, 3)) (hcs : cells + mc ≤ R.cells ∧ slots + ms ≤ R.slots)
    (kk : ∀ (r : Int32) (u : va_W) (H1 : Heap) (locs1 : List Loc), post r u → (∀ q : Nat, q < H.size → ¬ va_A wc H.size q → H1[q]? = H[q]?) → va_P D vwCl u H1 → va_D (va_A wc H.size) u → va_S A s.heap H1 locs1 → W p l e R s m args below meth c H1 locs1 (cells + mc) (slots + ms) Q (F0 m (pc + 3) ls (.int r :: rest))) :
    W p l e R s m args below meth c H locs cells slots Q (F0 m pc ls st0) := by
  obtain ⟨hx, hb, hml, hown, hw, hN, hK, hA, -, -⟩ := Z
  have hFc := raw_free hDc hA hS
  refine va_calli (va_runS (As := As) (rest := rest) ⟨hx, hb, hml, hown, hw⟩ (hM H.size) (va_cwS nA hw g rfl rfl rfl hd hR) ⟨cPc_blind, fun U hU hW => ⟨rfl, by rw [hU], by rw [hU]; exact hPc, va_K.moved hW.alike hK, hDc.weaken (fun _ _ _ _ => trivial), hN.warm hW⟩⟩ rfl hnA hl hst (lv_room hrm) hdg hcs) hS (fun q _ h => hFc q h) hFc (fun r u t H1 locs1 ht hvm hw1 hB hz1 hk1 hS1 => ?_)
  obtain ⟨hP1, hD1⟩ := hB
  rw [ht] at hP1
  exact kk r u H1 locs1 hw1 hk1 hP1 hD1 hS1
theorem raw_Sv (Z : Zx p s m args meth c cc nL rt own A tys D) (hl : ls.size = nL) (hM : Cv l D tys y bytes maxL k mc ms As wc postv) (g : GoodIn BW (va_wsS own index y (bws y bytes maxL none)))
    (hd : y.cls ≠ "java/lang/invoke/MethodHandle" ∧ y.cls ≠ "java/lang/invoke/VarHandle" ∧ (parseMethodDescriptor y.desc).map (fun d => d.parameters.length) = some nA) (hnA : As.length = nA) (hR : k + 1 ≤ R.frames ∧ 8 + (maxL + 11) + 100 * k ≤ R.locals)
    (hPc : va_P D vwCl wc H) (hDc : va_D A wc) (hS : va_S A s.heap H locs)
    (hst : st0 = As.reverse ++ rest) (hrm : (rest.map fun v => v.category).sum ≤ 8) (hdg : decode cc pc = .ok (.invokestatic index, 3)) (hcs : cells + mc ≤ R.cells ∧ slots + ms ≤ R.slots)
    (kk : ∀ (u : va_W) (H1 : Heap) (locs1 : List Loc), postv u → (∀ q : Nat, q < H.size → ¬ va_A wc H.size q → H1[q]? = H[q]?) → va_P D vwCl u H1 → va_D (va_A wc H.size) u → va_S A s.heap H1 locs1 → W p l e R s m args below meth c H1 locs1 (cells + mc) (slots + ms) Q (F0 m (pc + 3) ls rest)) :
    W p l e R s m args below meth c H locs cells slots Q (F0 m pc ls st0) := by
  obtain ⟨hx, hb, hml, hown, hw, hN, hK, hA, -, -⟩ := Z
  have hFc := raw_free hDc hA hS
  refine va_callv (va_runS (As := As) (rest := rest) ⟨hx, hb, hml, hown, hw⟩ (hM H.size) (va_cwS nA hw g rfl rfl rfl hd hR) ⟨cPc_blind, fun U hU hW => ⟨rfl, by rw [hU], by rw [hU]; exact hPc, va_K.moved hW.alike hK, hDc.weaken (fun _ _ _ _ => trivial), hN.warm hW⟩⟩ rfl hnA hl hst (lv_room hrm) hdg hcs) hS (fun q _ h => hFc q h) hFc (fun u t H1 locs1 ht hvm hw1 hB hz1 hk1 hS1 => ?_)
  obtain ⟨hP1, hD1⟩ := hB
  rw [ht] at hP1
  exact kk u H1 locs1 hw1 hk1 hP1 hD1 hS1
/-- a constructor, by a plain link -/
theorem raw_I (Z : Zx p s m args meth c cc nL rt own A tys D) (hl : ls.size = nL) (hM : Cv l D tys y bytes maxL k mc ms (.ref b :: As) wc postv) (h1 : Cond.methodLink own index y ∈ BW) (h2 : Cond.instanceMethod y ∈ BW) (h4 : Cond.initialized y.cls ∈ BW) (h5 : Cond.code y bytes maxL none ∈ BW) (hy : y.name = "<init>")
    (hd : y.cls ≠ "java/lang/invoke/MethodHandle" ∧ y.cls ≠ "java/lang/invoke/VarHandle" ∧ (parseMethodDescriptor y.desc).map (fun d => d.parameters.length) = some nA) (hnA : As.length = nA) (hR : k + 1 ≤ R.frames ∧ 8 + (maxL + 11) + 100 * k ≤ R.locals)
    (hPc : va_P D vwCl wc H) (hDc : va_D A wc) (hS : va_S A s.heap H locs)
    (hst : st0 = As.reverse ++ .ref b :: rest) (hrm : (rest.map fun v => v.category).sum ≤ 8) (hdg : decode cc pc = .ok (.invokespecial index, 3)) (hcs : cells + mc ≤ R.cells ∧ slots + ms ≤ R.slots)
    (kk : ∀ (u : va_W) (H1 : Heap) (locs1 : List Loc), postv u → (∀ q : Nat, q < H.size → ¬ va_A wc H.size q → H1[q]? = H[q]?) → va_P D vwCl u H1 → va_D (va_A wc H.size) u → va_S A s.heap H1 locs1 → W p l e R s m args below meth c H1 locs1 (cells + mc) (slots + ms) Q (F0 m (pc + 3) ls rest)) :
    W p l e R s m args below meth c H locs cells slots Q (F0 m pc ls st0) := by
  obtain ⟨hx, hb, hml, hown, hw, hN, hK, hA, -, -⟩ := Z
  have hFc := raw_free hDc hA hS
  refine va_callv (va_runI (As := As) (rest := rest) ⟨hx, hb, hml, hown, hw⟩ (hM H.size) (cwI nA hw (bws_good h5) rfl rfl rfl (hw _ h4) (hw _ h1) (hw _ h2) hy hd hR) ⟨cPc_blind, fun U hU hW => ⟨rfl, by rw [hU], by rw [hU]; exact hPc, va_K.moved hW.alike hK, hDc.weaken (fun _ _ _ _ => trivial), hN.warm hW⟩⟩ rfl hnA hl hst (lv_room hrm) hdg hcs) hS (fun q _ h => hFc q h) hFc (fun u t H1 locs1 ht hvm hw1 hB hz1 hk1 hS1 => ?_)
  obtain ⟨hP1, hD1⟩ := hB
  rw [ht] at hP1
  exact kk u H1 locs1 hw1 hk1 hP1 hD1 hS1
/-- a constructor of a nest mate that is private -/
theorem raw_IN (Z : Zx p s m args meth c cc nL rt own A tys D) (hl : ls.size = nL) (hM : Cv l D tys y bytes maxL k mc ms (.ref b :: As) wc postv) (h1 : (own, index, y) ∈ nwq) (h2 : Cond.instanceMethod y ∈ BW) (h4 : Cond.initialized y.cls ∈ BW) (h5 : Cond.code y bytes maxL none ∈ BW) (hy : y.name = "<init>")
    (hd : y.cls ≠ "java/lang/invoke/MethodHandle" ∧ y.cls ≠ "java/lang/invoke/VarHandle" ∧ (parseMethodDescriptor y.desc).map (fun d => d.parameters.length) = some nA) (hnA : As.length = nA) (hR : k + 1 ≤ R.frames ∧ 8 + (maxL + 11) + 100 * k ≤ R.locals)
    (hPc : va_P D vwCl wc H) (hDc : va_D A wc) (hS : va_S A s.heap H locs)
    (hst : st0 = As.reverse ++ .ref b :: rest) (hrm : (rest.map fun v => v.category).sum ≤ 8) (hdg : decode cc pc = .ok (.invokespecial index, 3)) (hcs : cells + mc ≤ R.cells ∧ slots + ms ≤ R.slots)
    (kk : ∀ (u : va_W) (H1 : Heap) (locs1 : List Loc), postv u → (∀ q : Nat, q < H.size → ¬ va_A wc H.size q → H1[q]? = H[q]?) → va_P D vwCl u H1 → va_D (va_A wc H.size) u → va_S A s.heap H1 locs1 → W p l e R s m args below meth c H1 locs1 (cells + mc) (slots + ms) Q (F0 m (pc + 3) ls rest)) :
    W p l e R s m args below meth c H locs cells slots Q (F0 m pc ls st0) := by
  obtain ⟨hx, hb, hml, hown, hw, hN, hK, hA, -, -⟩ := Z
  have hFc := raw_free hDc hA hS
  refine va_callv (va_runIN (As := As) (rest := rest) ⟨hx, hb, hml, hown, hw⟩ (hM H.size) ⟨va_cnB nA hw (bws_good h5) rfl rfl rfl (hN.1 _ h1) (hw _ h4) hd hR, hy, hw _ h2⟩ ⟨cPc_blind, fun U hU hW => ⟨rfl, by rw [hU], by rw [hU]; exact hPc, va_K.moved hW.alike hK, hDc.weaken (fun _ _ _ _ => trivial), hN.warm hW⟩⟩ rfl hnA hl hst (lv_room hrm) hdg hcs) hS (fun q _ h => hFc q h) hFc (fun u t H1 locs1 ht hvm hw1 hB hz1 hk1 hS1 => ?_)
  obtain ⟨hP1, hD1⟩ := hB
  rw [ht] at hP1
  exact kk u H1 locs1 hw1 hk1 hP1 hD1 hS1
/-- behind a call: the caller's other cells, and the callee's world -/
theorem z_join {u : va_W} {H1 : Heap} (Z : Zx p s m args meth c cc nL rt own A tys D) (hS : va_S A s.heap H locs) (hP : va_P D vwCl ws H) (hD : va_D A ws) (isC isR : List Nat) (hC : isC.map (fun i => ws[i]?) = wc.map some) (hnC : va_nd isC = true) (hRr : isR.map (fun i => ws[i]?) = wr.map some) (hn : va_nd isR = true) (hdis : ∀ i ∈ isR, i ∉ isC)
    (hk1 : ∀ q : Nat, q < H.size → ¬ va_A wc H.size q → H1[q]? = H[q]?) (hP1 : va_P D vwCl u H1) (hD1 : va_D (va_A wc H.size) u) : va_P D vwCl (wr ++ u) H1 ∧ va_D A (wr ++ u) :=
  va_join hP hD isC isR hC hRr hn hdis hk1 (raw_free (hD.sub isC hnC hC) Z.2.2.2.2.2.2.2.1 hS) hP1 hD1
/-- getfield -/
theorem z_get (Z : Zx p s m args meth c cc nL rt own A tys D) {C : String} {T : u_T} {N ci a : Nat} (hin : ∀ w ∈ u_ws C T N, w ∈ BW) (hP : va_P D vwCl ws H) (q0 : Nat) {fs : List Value} (he : ws[q0]? = some (a, .inr (ci, fs))) (hc : vwCl[ci]? = some (C, T, N)) (k : Nat) (hk : k < N) (hlink : Cond.fieldLink own index (T k).1 (T k).2.1 (T k).2.2.1 ∈ BW) {v : Value} (hv : fs[k]? = some v) (hdg : decode cc pc = .ok (.getfield index, 3))
    (kk : W p l e R s m args below meth c H locs cells slots Q (F0 m (pc + 3) ls (v :: rest))) : W p l e R s m args below meth c H locs cells slots Q (F0 m pc ls (.ref a :: rest)) :=
  va_get Z.1 Z.2.1 Z.2.2.2.2.1 hin Z.2.2.2.1 Z.2.2.2.2.2.2.1 hP q0 he hc k hk (Z.2.2.2.2.1 _ hlink) (fun _ h => h) hv hdg kk
/-- putfield -/
theorem z_put (Z : Zx p s m args meth c cc nL rt own A tys D) {C : String} {T : u_T} {N ci a : Nat} (hin : ∀ w ∈ u_ws C T N, w ∈ BW) (ty0 : Nat → FieldType) (hty : ∀ k, k < N → parseFieldDescriptor (T k).2.2.1 = some (ty0 k)) (hnm : ∀ a, a < N → ∀ b, b < N → a ≠ b → (T a).2.1 ≠ (T b).2.1) (hP : va_P D vwCl ws H) (hD : va_D A ws) (hS : va_S A s.heap H locs) (q0 : Nat) {fs : List Value} (he : ws[q0]? = some (a, .inr (ci, fs))) (hc : vwCl[ci]? = some (C, T, N)) (k : Nat) (hk : k < N) (hlink : Cond.fieldLink own index (T k).1 (T k).2.1 (T k).2.2.1 ∈ BW) (hfin : (T k).2.2.2 = false) {v : Value} (hn : narrow (ty0 k) v = v) (hfit : fits (ty0 k) v = true) (hl : k < fs.length) (hdg : decode cc pc = .ok (.putfield index, 3))
    (kk : ∀ (H1 : Heap) (locs1 : List Loc), va_P D vwCl (ws.set q0 (a, .inr (ci, fs.set k v))) H1 → va_D A (ws.set q0 (a, .inr (ci, fs.set k v))) → va_S A s.heap H1 locs1 → W p l e R s m args below meth c H1 locs1 cells slots Q (F0 m (pc + 3) ls rest)) : W p l e R s m args below meth c H locs cells slots Q (F0 m pc ls (v :: .ref a :: rest)) :=
  va_put Z.1 Z.2.1 Z.2.2.2.2.1 hin ty0 hty hnm Z.2.2.2.1 Z.2.2.2.2.2.2.1 hP hD hS q0 he hc k hk (Z.2.2.2.2.1 _ hlink) (fun _ h => h) hfin (hty k hk) hn hfit hl hdg kk
/-- putfield of a final field, in the constructor -/
theorem z_putF (Z : Zx p s m args meth c cc nL rt own A tys D) {C : String} {T : u_T} {N ci a : Nat} (hin : ∀ w ∈ u_ws C T N, w ∈ BW) (ty0 : Nat → FieldType) (hty : ∀ k, k < N → parseFieldDescriptor (T k).2.2.1 = some (ty0 k)) (hnm : ∀ a, a < N → ∀ b, b < N → a ≠ b → (T a).2.1 ≠ (T b).2.1) (hP : va_P D vwCl ws H) (hD : va_D A ws) (hS : va_S A s.heap H locs) (q0 : Nat) {fs : List Value} (he : ws[q0]? = some (a, .inr (ci, fs))) (hc : vwCl[ci]? = some (C, T, N)) (k : Nat) (hk : k < N) (hlink : Cond.fieldLink own index (T k).1 (T k).2.1 (T k).2.2.1 ∈ BW) (hfin : (T k).2.2.2 = true) (hin2 : meth.name = "<init>") (hdecl : (T k).1 = own) {v : Value} (hn : narrow (ty0 k) v = v) (hfit : fits (ty0 k) v = true) (hl : k < fs.length) (hdg : decode cc pc = .ok (.putfield index, 3))
    (kk : ∀ (H1 : Heap) (locs1 : List Loc), va_P D vwCl (ws.set q0 (a, .inr (ci, fs.set k v))) H1 → va_D A (ws.set q0 (a, .inr (ci, fs.set k v))) → va_S A s.heap H1 locs1 → W p l e R s m args below meth c H1 locs1 cells slots Q (F0 m (pc + 3) ls rest)) : W p l e R s m args below meth c H locs cells slots Q (F0 m pc ls (v :: .ref a :: rest)) :=
  va_putF Z.1 Z.2.1 Z.2.2.2.2.1 hin ty0 hty hnm Z.2.2.2.1 Z.2.2.2.2.2.2.1 hP hD hS q0 he hc k hk (Z.2.2.2.2.1 _ hlink) (fun _ h => h) hfin hin2 hdecl (hty k hk) hn hfit hl hdg kk
/-- iaload, iastore, newarray of ints -/
theorem z_iald (Z : Zx p s m args meth c cc nL rt own A tys D) (hP : va_P D vwCl ws H) (q0 t0 : Nat) {a : Nat} {cA : ClassId} {n : Nat} {f : Nat → Int32} (ha : ws[q0]? = some (a, .inl (cA, n, .inl f))) (ht : tys[t0]? = some (cA, .int)) {i : Int32} (hin : vp_in i n) (hdg : decode cc pc = .ok (.iaload, 1))
    (kk : W p l e R s m args below meth c H locs cells slots Q (F0 m (pc + 1) ls (.int (f i.toNatClampNeg) :: rest))) : W p l e R s m args below meth c H locs cells slots Q (F0 m pc ls (.int i :: .ref a :: rest)) :=
  va_iald Z.1 Z.2.1 Z.2.2.2.2.2.2.1 hP q0 t0 ha ht hin hdg kk
theorem z_iast (Z : Zx p s m args meth c cc nL rt own A tys D) (hP : va_P D vwCl ws H) (hD : va_D A ws) (hS : va_S A s.heap H locs) (q0 t0 : Nat) {a : Nat} {cA : ClassId} {n : Nat} {f : Nat → Int32} {x : Int32} (ha : ws[q0]? = some (a, .inl (cA, n, .inl f))) (ht : tys[t0]? = some (cA, .int)) {i : Int32} (hin : vp_in i n) (hdg : decode cc pc = .ok (.iastore, 1))
    (kk : ∀ (H1 : Heap) (locs1 : List Loc), va_P D vwCl (ws.set q0 (a, .inl (cA, n, .inl (upd f i.toNatClampNeg x)))) H1 → va_D A (ws.set q0 (a, .inl (cA, n, .inl (upd f i.toNatClampNeg x)))) → va_S A s.heap H1 locs1 → W p l e R s m args below meth c H1 locs1 cells slots Q (F0 m (pc + 1) ls rest)) : W p l e R s m args below meth c H locs cells slots Q (F0 m pc ls (.int x :: .int i :: .ref a :: rest)) :=
  va_iast Z.1 Z.2.1 Z.2.2.2.2.2.2.1 hP hD hS q0 t0 ha ht hin hdg kk
theorem z_newi (Z : Zx p s m args meth c cc nL rt own A tys D) (harr : Cond.arrayClass .int ∈ BW) (hP : va_P D vwCl ws H) (hD : va_D A ws) (hS : va_S A s.heap H locs) (t0 : Nat) {cI : ClassId} (ht : tys[t0]? = some (cI, .int)) {n : Int32} {N : Nat} (hn : ¬ n < 0) (hN : n.toNatClampNeg = N) (hby : N * componentBytes .int ≤ 536870912) (hc : cells + 1 ≤ R.cells) (hs : slots + N ≤ R.slots) (hdg : decode cc pc = .ok (.newarray .int, 2))
    (kk : ∀ (q : Nat) (H1 : Heap), va_P D vwCl (ws ++ [(q, .inl (cI, N, .inl (fun _ => 0)))]) H1 → va_D A (ws ++ [(q, .inl (cI, N, .inl (fun _ => 0)))]) → va_S A s.heap H1 locs → W p l e R s m args below meth c H1 locs (cells + 1) (slots + N) Q (F0 m (pc + 2) ls (.ref q :: rest))) : W p l e R s m args below meth c H locs cells slots Q (F0 m pc ls (.int n :: rest)) := by
  refine va_newa (atype := .int) (ty := .int) (a0 := (N, .inl (fun _ => 0))) Z.1 Z.2.1 (Z.2.2.2.2.1 _ harr) rfl Z.2.2.2.2.2.2.1 hP hD hS Z.2.2.2.2.2.2.2.1 (fun cA => rfl) hn hN hby hc hs hdg (fun q cA H1 hK1 hP1 hD1 hS1 => ?_)
  have h1 : s.vm.findClass ("[" ++ (FieldType.int).toString) = some cI := (Z.2.2.2.2.2.2.1.2 t0 _ ht).2
  have h2 : s.vm.findClass ("[" ++ (FieldType.int).toString) = some cA := (hK1.2 tys.length (cA, .int) (by simp)).2
  have e : cA = cI := Option.some.inj (h2.symm.trans h1)
  subst e
  exact kk q H1 hP1 hD1 hS1
/-- new -/
theorem z_new (Z : Zx p s m args meth c cc nL rt own A tys D) {C : String} {T : u_T} {N ci : Nat} (hin : ∀ w ∈ u_ws C T N, w ∈ BW) (ty0 : Nat → FieldType) (hty : ∀ k, k < N → parseFieldDescriptor (T k).2.2.1 = some (ty0 k)) (hcl : Cond.classLink own index C ∈ BW) (hinst : Cond.instantiable C N ∈ BW) (hini : Cond.initialized C ∈ BW) (hP : va_P D vwCl ws H) (hD : va_D A ws) (hS : va_S A s.heap H locs) (hc : vwCl[ci]? = some (C, T, N)) {fs : List Value} (hfs : (List.range N).map (fun j => defaultValue (ty0 j)) = (List.range N).map (vp_V fs)) (hcells : cells + 1 ≤ R.cells) (hslots : slots + N ≤ R.slots) (hdg : decode cc pc = .ok (.new index, 3))
    (kk : ∀ (q : Nat) (H1 : Heap), va_P D vwCl (ws ++ [(q, .inr (ci, fs))]) H1 → va_D A (ws ++ [(q, .inr (ci, fs))]) → va_S A s.heap H1 locs → W p l e R s m args below meth c H1 locs (cells + 1) (slots + N) Q (F0 m (pc + 3) ls (.ref q :: rest))) : W p l e R s m args below meth c H locs cells slots Q (F0 m pc ls rest) :=
  va_new Z.1 Z.2.1 Z.2.2.2.2.1 hin ty0 hty Z.2.2.2.1 (Z.2.2.2.2.1 _ hcl) (Z.2.2.2.2.1 _ hinst) (Z.2.2.2.2.1 _ hini) Z.2.2.2.2.2.2.1 hP hD hS Z.2.2.2.2.2.2.2.1 hc (fun j hj => (List.map_inj_left.mp hfs) j (List.mem_range.mpr hj)) hcells hslots hdg kk
/-- Object.<init> -/
theorem z_obj (Z : Zx p s m args meth c cc nL rt own A tys D) (hl : ls.size = nL) {a : Nat} (h1 : Cond.methodLink own index Lib.objectInit ∈ BW) (h2 : Cond.instanceMethod Lib.objectInit ∈ BW) (h3 : Cond.code Lib.objectInit ⟨#[0xb1]⟩ 1 none ∈ BW) (hdg : decode cc pc = .ok (.invokespecial index, 3)) (hf : 1 ≤ R.frames) (hlo : (rest.map fun v => v.category).sum + 12 ≤ R.locals)
    (kk : W p l e R s m args below meth c H locs cells slots Q (F0 m (pc + 3) ls rest)) : W p l e R s m args below meth c H locs cells slots Q (F0 m pc ls (.ref a :: rest)) :=
  W.objInit Z.1 Z.2.1 Z.2.2.2.1 (Z.2.2.2.2.1 _ h1) (Z.2.2.2.2.1 _ h2) (Z.2.2.2.2.1 _ h3) rfl (by rw [Z.2.2.1]; exact hl) rfl hdg hf (by show 2 * 0 + _ + 12 ≤ _; omega) kk
/-- the ends -/
theorem z_ret {ty : FieldType} {v : Int32} {u : va_W} (Z : Zx p s m args meth c cc nL (some ty) own A tys D) (hnar : narrow ty (.int v) = .int v) (hP : va_P D vwCl u H) (hD : va_D A u) (hS : va_S A s.heap H locs) (hpost : post v u) (hdg : decode cc pc = .ok (.ireturn, 1)) (hc : cells ≤ mc) (hs : slots ≤ ms) :
    W p l e R s m args below meth c H locs cells slots (MQ below (va_Qi post (cB D tys A) A) args s mc ms A) (F0 m pc ls [.int v]) := by
  refine W.widen hc hs ?_
  have hlocks := Z.2.2.2.2.2.2.2.2.1
  exact W.zret Z.1 Z.2.1 Z.2.2.2.2.2.2.2.2.2 hnar (fun t ht hW => ⟨⟨v, u, rfl, hpost, by rw [ht]; exact hP, hD⟩, hS.F ht⟩) hS.2.2 hdg hlocks
theorem z_vret {u : va_W} (Z : Zx p s m args meth c cc nL none own A tys D) (hP : va_P D vwCl u H) (hD : va_D A u) (hS : va_S A s.heap H locs) (hpost : postv u) (hdg : decode cc pc = .ok (.return_, 1)) (hc : cells ≤ mc) (hs : slots ≤ ms) :
    W p l e R s m args below meth c H locs cells slots (MQ below (va_Qv postv (cB D tys A) A) args s mc ms A) (F0 m pc ls []) := by
  refine W.widen hc hs ?_
  have hlocks := Z.2.2.2.2.2.2.2.2.1
  exact W.vret Z.1 Z.2.1 Z.2.2.2.2.2.2.2.2.2 (fun t ht hW => ⟨⟨u, rfl, hpost, by rw [ht]; exact hP, hD⟩, hS.F ht⟩) hS.2.2 hdg hlocks
end ZC
abbrev ty3 (cI cM cT : ClassId) : vw_Y := [(cI, .int), (cM, .object RX1), (cT, .object RX9)]
theorem vin {i : Int32} {n : Nat} (h : ¬ (i < 0 ∨ n ≤ i.toNatClampNeg)) : vp_in i n := h
theorem zlt (a b : Int32) : a < b ↔ a.toInt < b.toInt := Int32.lt_iff_toInt_lt
theorem zle (a b : Int32) : a ≤ b ↔ a.toInt ≤ b.toInt := Int32.le_iff_toInt_le
theorem zeq (a b : Int32) : a = b ↔ a.toInt = b.toInt := Int32.toInt_inj.symm
theorem zl_0 : (0 : Int32).toInt = 0 := by decide
theorem zl_1 : (1 : Int32).toInt = 1 := by decide
theorem zl_2 : (2 : Int32).toInt = 2 := by decide
theorem zl_3 : (3 : Int32).toInt = 3 := by decide
theorem zl_4 : (4 : Int32).toInt = 4 := by decide
theorem zl_5 : (5 : Int32).toInt = 5 := by decide
theorem zl_6 : (6 : Int32).toInt = 6 := by decide
theorem zl_7 : (7 : Int32).toInt = 7 := by decide
theorem zl_8 : (8 : Int32).toInt = 8 := by decide
theorem zl_9 : (9 : Int32).toInt = 9 := by decide
theorem zl_10 : (10 : Int32).toInt = 10 := by decide
theorem zl_11 : (11 : Int32).toInt = 11 := by decide
theorem zl_12 : (12 : Int32).toInt = 12 := by decide
theorem zl_13 : (13 : Int32).toInt = 13 := by decide
theorem zl_19 : (19 : Int32).toInt = 19 := by decide
theorem zl_20 : (20 : Int32).toInt = 20 := by decide
theorem zl_30 : (30 : Int32).toInt = 30 := by decide
theorem zl_64 : (64 : Int32).toInt = 64 := by decide
theorem zl_99 : (99 : Int32).toInt = 99 := by decide
theorem zl_100 : (100 : Int32).toInt = 100 := by decide
theorem zl_299 : (299 : Int32).toInt = 299 := by decide
theorem zl_300 : (300 : Int32).toInt = 300 := by decide
theorem zl_399 : (399 : Int32).toInt = 399 := by decide
theorem zl_999 : (999 : Int32).toInt = 999 := by decide
theorem zl_9999 : (9999 : Int32).toInt = 9999 := by decide
theorem zl_m1 : ((-1) : Int32).toInt = (-1) := by decide
theorem zl_m2 : ((-2) : Int32).toInt = (-2) := by decide
theorem zl_m3 : ((-3) : Int32).toInt = (-3) := by decide
theorem zl_32 : (32 : Int32).toInt = 32 := by decide
theorem zl_280 : (280 : Int32).toInt = 280 := by decide
theorem zinc {i : Int32} (h : i.toInt < 2147483647) : (i + 1).toInt = i.toInt + 1 := by
  have h1 : -2147483648 ≤ i.toInt := Int32.le_toInt i
  rw [Int32.toInt_add, show (1 : Int32).toInt = 1 by decide, Int.bmod_eq_of_le (by omega) (by omega)]
theorem va_P_left {D : va_G} {cl : List vw_C} {a b : va_W} {H : Heap} (h : va_P D cl (a ++ b) H) : va_P D cl a H := fun k q hk => h k q (by rw [List.getElem?_append_left (List.getElem?_eq_some_iff.mp hk).1]; exact hk)
theorem va_D_left {A : Nat → Prop} {a b : va_W} (h : va_D A (a ++ b)) : va_D A a := ⟨fun i j x y hx hy hxy => h.1 i j x y (by rw [List.getElem?_append_left (List.getElem?_eq_some_iff.mp hx).1]; exact hx) (by rw [List.getElem?_append_left (List.getElem?_eq_some_iff.mp hy).1]; exact hy) hxy, fun k q hk => h.2 k q (by rw [List.getElem?_append_left (List.getElem?_eq_some_iff.mp hk).1]; exact hk)⟩
section ZT
variable {p : Program} {l : Launch} {e : Env} {R : Room} {s : State} {m : MethodId} {args : Array Value} {below : List Frame} {meth : Method} {c : Code} {H : Heap} {locs : List Loc} {cells slots : Nat} {Q : State → Prop} {pc : Nat} {ls : Array Slot} {rest : List Value}
theorem z_topi {x y : Int32} (h : x = y) (k : W p l e R s m args below meth c H locs cells slots Q (F0 m pc ls (.int y :: rest))) : W p l e R s m args below meth c H locs cells slots Q (F0 m pc ls (.int x :: rest)) := h ▸ k
end ZT
theorem upd_all {g : Nat → Int32} {i : Nat} {v : Int32} (h : ∀ j, j < i → g j = v) : ∀ j, j < i + 1 → upd g i v j = v := by
  intro j hj
  rcases Nat.lt_or_ge j i with q | q
  · rw [pk_un (Nat.ne_of_lt q)]; exact h j q
  · obtain rfl : j = i := by omega
    exact pk_us
theorem upd_ext {P : Nat → Int32 → Prop} {g : Nat → Int32} {i : Nat} {v : Int32} (h : ∀ j, j < i → P j (g j)) (hv : P i v) : ∀ j, j < i + 1 → P j (upd g i v j) := by
  intro j hj
  rcases Nat.lt_or_ge j i with q | q
  · rw [pk_un (Nat.ne_of_lt q)]; exact h j q
  · obtain rfl : j = i := by omega
    rw [pk_us]; exact hv
section ZA
variable {p : Program} {l : Launch} {e : Env} {R : Room} {s : State} {m : MethodId} {args : Array Value} {below : List Frame} {meth : Method} {c : Code} {H : Heap} {locs : List Loc} {cells slots : Nat} {Q : State → Prop}
variable {cc : ByteArray} {pc nL : Nat} {rt : Option FieldType} {ls : Array Slot} {rest : List Value} {D : va_G} {A : Nat → Prop} {tys : vw_Y} {ws : va_W} {own : String}
theorem z_aald (Z : Zx p s m args meth c cc nL rt own A tys D) (hP : va_P D vwCl ws H) (q0 t0 : Nat) {a : Nat} {cA : ClassId} {C : String} {n v : Nat} {f : Nat → Option Nat} (ha : ws[q0]? = some (a, .inl (cA, n, .inr (.inr (.inr (.inr f)))))) (ht : tys[t0]? = some (cA, .object C)) {i : Int32} (hin : vp_in i n) (hv : f i.toNatClampNeg = some v) (hdg : decode cc pc = .ok (.aaload, 1))
    (kk : W p l e R s m args below meth c H locs cells slots Q (F0 m (pc + 1) ls (.ref v :: rest))) : W p l e R s m args below meth c H locs cells slots Q (F0 m pc ls (.int i :: .ref a :: rest)) := by
  refine va_aldq Z.1 Z.2.1 Z.2.2.2.2.2.2.1 hP q0 t0 ha ht hin hdg ?_
  rw [hv]
  exact kk
end ZA
theorem zsub {i : Int32} (h0 : 100 ≤ i.toInt) (h1 : i.toInt < 2147483647) : (i - 100).toInt = i.toInt - 100 := by
  rw [Int32.toInt_sub, show (100 : Int32).toInt = 100 by decide, Int.bmod_eq_of_le (by omega) (by omega)]
theorem zcl {x : Int32} (h : 0 ≤ x.toInt) : (x.toNatClampNeg : Int) = x.toInt := by
  obtain ⟨j, hj, rfl⟩ := nI_of (x := x) (by rw [Int32.lt_iff_toInt_lt, show (0 : Int32).toInt = 0 by decide]; omega)
  rw [nI_clamp hj, nI_toInt hj]
theorem zclt {x : Int32} {n : Nat} (h : 0 ≤ x.toInt) (h2 : x.toInt < n) : x.toNatClampNeg < n := by
  have := zcl h
  omega
theorem zcinj {x y : Int32} (h : 0 ≤ x.toInt) (h2 : 0 ≤ y.toInt) (e : x.toNatClampNeg = y.toNatClampNeg) : x = y := by
  have h3 := zcl h
  have h4 := zcl h2
  exact Int32.toInt_inj.mp (by omega)

theorem i_X0 : ∀ w ∈ u_ws RX0 TX0 7, w ∈ BW := bw_in [344, 346, 348, 350, 352, 354, 356] (by decide +kernel) (by decide +kernel)
theorem i_X1 : ∀ w ∈ u_ws RX1 TX1 7, w ∈ BW := bw_in [196, 198, 200, 202, 204, 206, 208] (by decide +kernel) (by decide +kernel)
theorem i_X2 : ∀ w ∈ u_ws RX2 TX2 7, w ∈ BW := bw_in [431, 433, 435, 437, 439, 441, 443] (by decide +kernel) (by decide +kernel)
theorem i_X3 : ∀ w ∈ u_ws RX3 TX3 4, w ∈ BW := bw_in [143, 145, 147, 149] (by decide +kernel) (by decide +kernel)
theorem i_X4 : ∀ w ∈ u_ws RX4 TX4 3, w ∈ BW := bw_in [168, 170, 172] (by decide +kernel) (by decide +kernel)
theorem i_X5 : ∀ w ∈ u_ws RX5 TX5 3, w ∈ BW := bw_in [224, 226, 228] (by decide +kernel) (by decide +kernel)
theorem i_X6 : ∀ w ∈ u_ws RX6 TX6 5, w ∈ BW := bw_in [370, 372, 374, 376, 378] (by decide +kernel) (by decide +kernel)
theorem i_X7 : ∀ w ∈ u_ws RX7 TX7 6, w ∈ BW := bw_in [406, 408, 410, 412, 414, 416] (by decide +kernel) (by decide +kernel)
theorem i_X8 : ∀ w ∈ u_ws RX8 TX8 4, w ∈ BW := bw_in [459, 461, 463, 465] (by decide +kernel) (by decide +kernel)
theorem i_X9 : ∀ w ∈ u_ws RX9 TX9 7, w ∈ BW := bw_in [315, 317, 319, 321, 323, 325, 327] (by decide +kernel) (by decide +kernel)
theorem i_X10 : ∀ w ∈ u_ws RX10 TX10 13, w ∈ BW := bw_in [263, 265, 267, 269, 271, 273, 275, 277, 279, 281, 283, 285, 287] (by decide +kernel) (by decide +kernel)
theorem i_X11 : ∀ w ∈ u_ws RX11 TX11 7, w ∈ BW := bw_in [475, 477, 479, 481, 483, 485, 487] (by decide +kernel) (by decide +kernel)
theorem i_X12 : ∀ w ∈ u_ws RX12 TX12 36, w ∈ BW := bw_in [1053, 1055, 1057, 1059, 1061, 1063, 1065, 1067, 1069, 1071, 1073, 1075, 1077, 1079, 1081, 1083, 1085, 1087, 1089, 1091, 1093, 1095, 1097, 1099, 1101, 1103, 1105, 1107, 1109, 1111, 1113, 1115, 1117, 1119, 1121, 1123] (by decide +kernel) (by decide +kernel)
end
section
theorem dX11_isWithin_0 : decode cX11_isWithin 0 = .ok (.iload_n 0, 1) := by decide +kernel
theorem dX11_isWithin_1 : decode cX11_isWithin 1 = .ok (.iload_n 1, 1) := by decide +kernel
theorem dX11_isWithin_2 : decode cX11_isWithin 2 = .ok (.if_icmp .lt 12, 3) := by decide +kernel
theorem dX11_isWithin_5 : decode cX11_isWithin 5 = .ok (.iload_n 0, 1) := by decide +kernel
theorem dX11_isWithin_6 : decode cX11_isWithin 6 = .ok (.iload_n 2, 1) := by decide +kernel
theorem dX11_isWithin_7 : decode cX11_isWithin 7 = .ok (.if_icmp .gt 7, 3) := by decide +kernel
theorem dX11_isWithin_10 : decode cX11_isWithin 10 = .ok (.iconst 1, 1) := by decide +kernel
theorem dX11_isWithin_11 : decode cX11_isWithin 11 = .ok (.goto 4, 3) := by decide +kernel
theorem dX11_isWithin_14 : decode cX11_isWithin 14 = .ok (.iconst 0, 1) := by decide +kernel
theorem dX11_isWithin_15 : decode cX11_isWithin 15 = .ok (.ireturn, 1) := by decide +kernel
theorem dX11_isPlace_0 : decode cX11_isPlace 0 = .ok (.iload_n 0, 1) := by decide +kernel
theorem dX11_isPlace_1 : decode cX11_isPlace 1 = .ok (.ifCond .lt 14, 3) := by decide +kernel
theorem dX11_isPlace_4 : decode cX11_isPlace 4 = .ok (.iload_n 0, 1) := by decide +kernel
theorem dX11_isPlace_5 : decode cX11_isPlace 5 = .ok (.sipush 300, 3) := by decide +kernel
theorem dX11_isPlace_8 : decode cX11_isPlace 8 = .ok (.if_icmp .ge 7, 3) := by decide +kernel
theorem dX11_isPlace_11 : decode cX11_isPlace 11 = .ok (.iconst 1, 1) := by decide +kernel
theorem dX11_isPlace_12 : decode cX11_isPlace 12 = .ok (.goto 4, 3) := by decide +kernel
theorem dX11_isPlace_15 : decode cX11_isPlace 15 = .ok (.iconst 0, 1) := by decide +kernel
theorem dX11_isPlace_16 : decode cX11_isPlace 16 = .ok (.ireturn, 1) := by decide +kernel
theorem dX12_isIn_0 : decode cX12_isIn 0 = .ok (.iload_n 0, 1) := by decide +kernel
theorem dX12_isIn_1 : decode cX12_isIn 1 = .ok (.iload_n 1, 1) := by decide +kernel
theorem dX12_isIn_2 : decode cX12_isIn 2 = .ok (.if_icmp .lt 12, 3) := by decide +kernel
theorem dX12_isIn_5 : decode cX12_isIn 5 = .ok (.iload_n 0, 1) := by decide +kernel
theorem dX12_isIn_6 : decode cX12_isIn 6 = .ok (.iload_n 2, 1) := by decide +kernel
theorem dX12_isIn_7 : decode cX12_isIn 7 = .ok (.if_icmp .gt 7, 3) := by decide +kernel
theorem dX12_isIn_10 : decode cX12_isIn 10 = .ok (.iconst 1, 1) := by decide +kernel
theorem dX12_isIn_11 : decode cX12_isIn 11 = .ok (.goto 4, 3) := by decide +kernel
theorem dX12_isIn_14 : decode cX12_isIn 14 = .ok (.iconst 0, 1) := by decide +kernel
theorem dX12_isIn_15 : decode cX12_isIn 15 = .ok (.ireturn, 1) := by decide +kernel
set_option maxHeartbeats 4000000 in
set_option maxRecDepth 100000 in
theorem c_X11_isWithin (l : Launch) (D : va_G) (cI cM cT : ClassId) (a : Int32) (b : Int32) (d : Int32) : Ci l D (ty3 cI cM cT) yX11_isWithin cX11_isWithin 3 (some .boolean) 0 0 0 [.int a, .int b, .int d] ([]) (fun r u => r = (if b ≤ a ∧ a ≤ d then 1 else 0) ∧ u = []) := by
  refine Ci.of (by decide +kernel) (Nat.le_of_ble_eq_true rfl) ?_
  intro p e s m below meth c A ls Z hin hP hD hl
  have hx := Z.1
  have hb := Z.2.1
  have hS : va_S A s.heap s.heap [] := va_S.rf
  have hl : lv_has ls 3 [(0, .int a), (1, .int b), (2, .int d)] := hl
  skip
  refine lv_iload_n hx hb dX11_isWithin_0 rfl (lv_at hl 0 rfl) ?_
  refine lv_iload_n hx hb dX11_isWithin_1 rfl (lv_at hl 1 rfl) ?_
  refine lv_icmp_lt (tgt := 14) hx hb dX11_isWithin_2 (by decide) (fun c1 => ?_) (fun c1 => ?_)
  · refine lv_iconst (v := 0) hx hb dX11_isWithin_14 (by decide) ?_
    exact z_ret Z rfl hP hD hS (⟨(if_neg (by simp only [zlt, zle, zeq, zl_0, zl_1, zl_2, zl_3, zl_4, zl_5, zl_6, zl_7, zl_8, zl_9, zl_10, zl_11, zl_12, zl_13, zl_19, zl_20, zl_30, zl_64, zl_99, zl_100, zl_299, zl_300, zl_399, zl_999, zl_9999, zl_m1, zl_m2, zl_m3, zl_32, zl_280] at c1 ⊢; omega)).symm, rfl⟩) dX11_isWithin_15 (Nat.le_of_ble_eq_true rfl) (Nat.le_of_ble_eq_true rfl)
  · refine lv_iload_n hx hb dX11_isWithin_5 rfl (lv_at hl 0 rfl) ?_
    refine lv_iload_n hx hb dX11_isWithin_6 rfl (lv_at hl 2 rfl) ?_
    refine lv_icmp_gt (tgt := 14) hx hb dX11_isWithin_7 (by decide) (fun c2 => ?_) (fun c2 => ?_)
    · refine lv_iconst (v := 0) hx hb dX11_isWithin_14 (by decide) ?_
      exact z_ret Z rfl hP hD hS (⟨(if_neg (by simp only [zlt, zle, zeq, zl_0, zl_1, zl_2, zl_3, zl_4, zl_5, zl_6, zl_7, zl_8, zl_9, zl_10, zl_11, zl_12, zl_13, zl_19, zl_20, zl_30, zl_64, zl_99, zl_100, zl_299, zl_300, zl_399, zl_999, zl_9999, zl_m1, zl_m2, zl_m3, zl_32, zl_280] at c1 c2 ⊢; omega)).symm, rfl⟩) dX11_isWithin_15 (Nat.le_of_ble_eq_true rfl) (Nat.le_of_ble_eq_true rfl)
    · refine lv_iconst (v := 1) hx hb dX11_isWithin_10 (by decide) ?_
      refine lv_goto (tgt := 15) hx hb dX11_isWithin_11 (by decide) ?_
      exact z_ret Z rfl hP hD hS (⟨(if_pos (by simp only [zlt, zle, zeq, zl_0, zl_1, zl_2, zl_3, zl_4, zl_5, zl_6, zl_7, zl_8, zl_9, zl_10, zl_11, zl_12, zl_13, zl_19, zl_20, zl_30, zl_64, zl_99, zl_100, zl_299, zl_300, zl_399, zl_999, zl_9999, zl_m1, zl_m2, zl_m3, zl_32, zl_280] at c1 c2 ⊢; omega)).symm, rfl⟩) dX11_isWithin_15 (Nat.le_of_ble_eq_true rfl) (Nat.le_of_ble_eq_true rfl)
set_option maxHeartbeats 4000000 in
set_option maxRecDepth 100000 in
theorem c_X11_isPlace (l : Launch) (D : va_G) (cI cM cT : ClassId) (a : Int32) : Ci l D (ty3 cI cM cT) yX11_isPlace cX11_isPlace 1 (some .boolean) 0 0 0 [.int a] ([]) (fun r u => r = (if 0 ≤ a ∧ a < 300 then 1 else 0) ∧ u = []) := by
  refine Ci.of (by decide +kernel) (Nat.le_of_ble_eq_true rfl) ?_
  intro p e s m below meth c A ls Z hin hP hD hl
  have hx := Z.1
  have hb := Z.2.1
  have hS : va_S A s.heap s.heap [] := va_S.rf
  have hl : lv_has ls 1 [(0, .int a)] := hl
  skip
  refine lv_iload_n hx hb dX11_isPlace_0 rfl (lv_at hl 0 rfl) ?_
  refine lv_if_lt (tgt := 15) hx hb dX11_isPlace_1 (by decide) (fun c1 => ?_) (fun c1 => ?_)
  · refine lv_iconst (v := 0) hx hb dX11_isPlace_15 (by decide) ?_
    exact z_ret Z rfl hP hD hS (⟨(if_neg (by simp only [zlt, zle, zeq, zl_0, zl_1, zl_2, zl_3, zl_4, zl_5, zl_6, zl_7, zl_8, zl_9, zl_10, zl_11, zl_12, zl_13, zl_19, zl_20, zl_30, zl_64, zl_99, zl_100, zl_299, zl_300, zl_399, zl_999, zl_9999, zl_m1, zl_m2, zl_m3, zl_32, zl_280] at c1 ⊢; omega)).symm, rfl⟩) dX11_isPlace_16 (Nat.le_of_ble_eq_true rfl) (Nat.le_of_ble_eq_true rfl)
  · refine lv_iload_n hx hb dX11_isPlace_4 rfl (lv_at hl 0 rfl) ?_
    refine lv_sipush (v := 300) hx hb dX11_isPlace_5 (by decide) ?_
    refine lv_icmp_ge (tgt := 15) hx hb dX11_isPlace_8 (by decide) (fun c2 => ?_) (fun c2 => ?_)
    · refine lv_iconst (v := 0) hx hb dX11_isPlace_15 (by decide) ?_
      exact z_ret Z rfl hP hD hS (⟨(if_neg (by simp only [zlt, zle, zeq, zl_0, zl_1, zl_2, zl_3, zl_4, zl_5, zl_6, zl_7, zl_8, zl_9, zl_10, zl_11, zl_12, zl_13, zl_19, zl_20, zl_30, zl_64, zl_99, zl_100, zl_299, zl_300, zl_399, zl_999, zl_9999, zl_m1, zl_m2, zl_m3, zl_32, zl_280] at c1 c2 ⊢; omega)).symm, rfl⟩) dX11_isPlace_16 (Nat.le_of_ble_eq_true rfl) (Nat.le_of_ble_eq_true rfl)
    · refine lv_iconst (v := 1) hx hb dX11_isPlace_11 (by decide) ?_
      refine lv_goto (tgt := 16) hx hb dX11_isPlace_12 (by decide) ?_
      exact z_ret Z rfl hP hD hS (⟨(if_pos (by simp only [zlt, zle, zeq, zl_0, zl_1, zl_2, zl_3, zl_4, zl_5, zl_6, zl_7, zl_8, zl_9, zl_10, zl_11, zl_12, zl_13, zl_19, zl_20, zl_30, zl_64, zl_99, zl_100, zl_299, zl_300, zl_399, zl_999, zl_9999, zl_m1, zl_m2, zl_m3, zl_32, zl_280] at c1 c2 ⊢; omega)).symm, rfl⟩) dX11_isPlace_16 (Nat.le_of_ble_eq_true rfl) (Nat.le_of_ble_eq_true rfl)
set_option maxHeartbeats 4000000 in
set_option maxRecDepth 100000 in
theorem c_X12_isIn (l : Launch) (D : va_G) (cI cM cT : ClassId) (a : Int32) (b : Int32) (d : Int32) : Ci l D (ty3 cI cM cT) yX12_isIn cX12_isIn 3 (some .boolean) 0 0 0 [.int a, .int b, .int d] ([]) (fun r u => r = (if b ≤ a ∧ a ≤ d then 1 else 0) ∧ u = []) := by
  refine Ci.of (by decide +kernel) (Nat.le_of_ble_eq_true rfl) ?_
  intro p e s m below meth c A ls Z hin hP hD hl
  have hx := Z.1
  have hb := Z.2.1
  have hS : va_S A s.heap s.heap [] := va_S.rf
  have hl : lv_has ls 3 [(0, .int a), (1, .int b), (2, .int d)] := hl
  skip
  refine lv_iload_n hx hb dX12_isIn_0 rfl (lv_at hl 0 rfl) ?_
  refine lv_iload_n hx hb dX12_isIn_1 rfl (lv_at hl 1 rfl) ?_
  refine lv_icmp_lt (tgt := 14) hx hb dX12_isIn_2 (by decide) (fun c1 => ?_) (fun c1 => ?_)
  · refine lv_iconst (v := 0) hx hb dX12_isIn_14 (by decide) ?_
    exact z_ret Z rfl hP hD hS (⟨(if_neg (by simp only [zlt, zle, zeq, zl_0, zl_1, zl_2, zl_3, zl_4, zl_5, zl_6, zl_7, zl_8, zl_9, zl_10, zl_11, zl_12, zl_13, zl_19, zl_20, zl_30, zl_64, zl_99, zl_100, zl_299, zl_300, zl_399, zl_999, zl_9999, zl_m1, zl_m2, zl_m3, zl_32, zl_280] at c1 ⊢; omega)).symm, rfl⟩) dX12_isIn_15 (Nat.le_of_ble_eq_true rfl) (Nat.le_of_ble_eq_true rfl)
  · refine lv_iload_n hx hb dX12_isIn_5 rfl (lv_at hl 0 rfl) ?_
    refine lv_iload_n hx hb dX12_isIn_6 rfl (lv_at hl 2 rfl) ?_
    refine lv_icmp_gt (tgt := 14) hx hb dX12_isIn_7 (by decide) (fun c2 => ?_) (fun c2 => ?_)
    · refine lv_iconst (v := 0) hx hb dX12_isIn_14 (by decide) ?_
      exact z_ret Z rfl hP hD hS (⟨(if_neg (by simp only [zlt, zle, zeq, zl_0, zl_1, zl_2, zl_3, zl_4, zl_5, zl_6, zl_7, zl_8, zl_9, zl_10, zl_11, zl_12, zl_13, zl_19, zl_20, zl_30, zl_64, zl_99, zl_100, zl_299, zl_300, zl_399, zl_999, zl_9999, zl_m1, zl_m2, zl_m3, zl_32, zl_280] at c1 c2 ⊢; omega)).symm, rfl⟩) dX12_isIn_15 (Nat.le_of_ble_eq_true rfl) (Nat.le_of_ble_eq_true rfl)
    · refine lv_iconst (v := 1) hx hb dX12_isIn_10 (by decide) ?_
      refine lv_goto (tgt := 15) hx hb dX12_isIn_11 (by decide) ?_
      exact z_ret Z rfl hP hD hS (⟨(if_pos (by simp only [zlt, zle, zeq, zl_0, zl_1, zl_2, zl_3, zl_4, zl_5, zl_6, zl_7, zl_8, zl_9, zl_10, zl_11, zl_12, zl_13, zl_19, zl_20, zl_30, zl_64, zl_99, zl_100, zl_299, zl_300, zl_399, zl_999, zl_9999, zl_m1, zl_m2, zl_m3, zl_32, zl_280] at c1 c2 ⊢; omega)).symm, rfl⟩) dX12_isIn_15 (Nat.le_of_ble_eq_true rfl) (Nat.le_of_ble_eq_true rfl)
end
section
theorem dX6_forget_0 : decode cX6_forget 0 = .ok (.aload_n 0, 1) := by decide +kernel
theorem dX6_forget_1 : decode cX6_forget 1 = .ok (.dup, 1) := by decide +kernel
theorem dX6_forget_2 : decode cX6_forget 2 = .ok (.getfield 28, 3) := by decide +kernel
theorem dX6_forget_5 : decode cX6_forget 5 = .ok (.iconst 1, 1) := by decide +kernel
theorem dX6_forget_6 : decode cX6_forget 6 = .ok (.iadd, 1) := by decide +kernel
theorem dX6_forget_7 : decode cX6_forget 7 = .ok (.putfield 28, 3) := by decide +kernel
theorem dX6_forget_10 : decode cX6_forget 10 = .ok (.return_, 1) := by decide +kernel
theorem dX11_isHorse_0 : decode cX11_isHorse 0 = .ok (.iload_n 1, 1) := by decide +kernel
theorem dX11_isHorse_1 : decode cX11_isHorse 1 = .ok (.ifCond .lt 21, 3) := by decide +kernel
theorem dX11_isHorse_4 : decode cX11_isHorse 4 = .ok (.iload_n 1, 1) := by decide +kernel
theorem dX11_isHorse_5 : decode cX11_isHorse 5 = .ok (.aload_n 0, 1) := by decide +kernel
theorem dX11_isHorse_6 : decode cX11_isHorse 6 = .ok (.getfield 27, 3) := by decide +kernel
theorem dX11_isHorse_9 : decode cX11_isHorse 9 = .ok (.getfield 106, 3) := by decide +kernel
theorem dX11_isHorse_12 : decode cX11_isHorse 12 = .ok (.getfield 110, 3) := by decide +kernel
theorem dX11_isHorse_15 : decode cX11_isHorse 15 = .ok (.if_icmp .ge 7, 3) := by decide +kernel
theorem dX11_isHorse_18 : decode cX11_isHorse 18 = .ok (.iconst 1, 1) := by decide +kernel
theorem dX11_isHorse_19 : decode cX11_isHorse 19 = .ok (.goto 4, 3) := by decide +kernel
theorem dX11_isHorse_22 : decode cX11_isHorse 22 = .ok (.iconst 0, 1) := by decide +kernel
theorem dX11_isHorse_23 : decode cX11_isHorse 23 = .ok (.ireturn, 1) := by decide +kernel
theorem dX1_lowestInnHere_0 : decode cX1_lowestInnHere 0 = .ok (.iconst 0, 1) := by decide +kernel
theorem dX1_lowestInnHere_1 : decode cX1_lowestInnHere 1 = .ok (.istore_n 1, 1) := by decide +kernel
theorem dX1_lowestInnHere_2 : decode cX1_lowestInnHere 2 = .ok (.iload_n 1, 1) := by decide +kernel
theorem dX1_lowestInnHere_3 : decode cX1_lowestInnHere 3 = .ok (.aload_n 0, 1) := by decide +kernel
theorem dX1_lowestInnHere_4 : decode cX1_lowestInnHere 4 = .ok (.getfield 15, 3) := by decide +kernel
theorem dX1_lowestInnHere_7 : decode cX1_lowestInnHere 7 = .ok (.if_icmp .ge 24, 3) := by decide +kernel
theorem dX1_lowestInnHere_10 : decode cX1_lowestInnHere 10 = .ok (.aload_n 0, 1) := by decide +kernel
theorem dX1_lowestInnHere_11 : decode cX1_lowestInnHere 11 = .ok (.getfield 9, 3) := by decide +kernel
theorem dX1_lowestInnHere_14 : decode cX1_lowestInnHere 14 = .ok (.iload_n 1, 1) := by decide +kernel
theorem dX1_lowestInnHere_15 : decode cX1_lowestInnHere 15 = .ok (.iaload, 1) := by decide +kernel
theorem dX1_lowestInnHere_16 : decode cX1_lowestInnHere 16 = .ok (.aload_n 0, 1) := by decide +kernel
theorem dX1_lowestInnHere_17 : decode cX1_lowestInnHere 17 = .ok (.getfield 19, 3) := by decide +kernel
theorem dX1_lowestInnHere_20 : decode cX1_lowestInnHere 20 = .ok (.if_icmp .ne 5, 3) := by decide +kernel
theorem dX1_lowestInnHere_23 : decode cX1_lowestInnHere 23 = .ok (.iload_n 1, 1) := by decide +kernel
theorem dX1_lowestInnHere_24 : decode cX1_lowestInnHere 24 = .ok (.ireturn, 1) := by decide +kernel
theorem dX1_lowestInnHere_25 : decode cX1_lowestInnHere 25 = .ok (.iinc 1 1, 3) := by decide +kernel
theorem dX1_lowestInnHere_28 : decode cX1_lowestInnHere 28 = .ok (.goto (-26), 3) := by decide +kernel
theorem dX1_lowestInnHere_31 : decode cX1_lowestInnHere 31 = .ok (.iconst (-1), 1) := by decide +kernel
theorem dX1_lowestInnHere_32 : decode cX1_lowestInnHere 32 = .ok (.ireturn, 1) := by decide +kernel
theorem dX11_bridge_0 : decode cX11_bridge 0 = .ok (.aload_n 0, 1) := by decide +kernel
theorem dX11_bridge_1 : decode cX11_bridge 1 = .ok (.getfield 27, 3) := by decide +kernel
theorem dX11_bridge_4 : decode cX11_bridge 4 = .ok (.getfield 62, 3) := by decide +kernel
theorem dX11_bridge_7 : decode cX11_bridge 7 = .ok (.astore_n 3, 1) := by decide +kernel
theorem dX11_bridge_8 : decode cX11_bridge 8 = .ok (.iload_n 1, 1) := by decide +kernel
theorem dX11_bridge_9 : decode cX11_bridge 9 = .ok (.invokestatic 54, 3) := by decide +kernel
theorem dX11_bridge_12 : decode cX11_bridge 12 = .ok (.ifCond .eq 23, 3) := by decide +kernel
theorem dX11_bridge_15 : decode cX11_bridge 15 = .ok (.iload_n 2, 1) := by decide +kernel
theorem dX11_bridge_16 : decode cX11_bridge 16 = .ok (.invokestatic 54, 3) := by decide +kernel
theorem dX11_bridge_19 : decode cX11_bridge 19 = .ok (.ifCond .eq 16, 3) := by decide +kernel
theorem dX11_bridge_22 : decode cX11_bridge 22 = .ok (.iload_n 1, 1) := by decide +kernel
theorem dX11_bridge_23 : decode cX11_bridge 23 = .ok (.iload_n 2, 1) := by decide +kernel
theorem dX11_bridge_24 : decode cX11_bridge 24 = .ok (.if_icmp .ge 11, 3) := by decide +kernel
theorem dX11_bridge_27 : decode cX11_bridge 27 = .ok (.aload_n 3, 1) := by decide +kernel
theorem dX11_bridge_28 : decode cX11_bridge 28 = .ok (.getfield 74, 3) := by decide +kernel
theorem dX11_bridge_31 : decode cX11_bridge 31 = .ok (.iconst 4, 1) := by decide +kernel
theorem dX11_bridge_32 : decode cX11_bridge 32 = .ok (.if_icmp .lt 5, 3) := by decide +kernel
theorem dX11_bridge_35 : decode cX11_bridge 35 = .ok (.iconst (-1), 1) := by decide +kernel
theorem dX11_bridge_36 : decode cX11_bridge 36 = .ok (.ireturn, 1) := by decide +kernel
theorem dX11_bridge_37 : decode cX11_bridge 37 = .ok (.aload_n 3, 1) := by decide +kernel
theorem dX11_bridge_38 : decode cX11_bridge 38 = .ok (.getfield 78, 3) := by decide +kernel
theorem dX11_bridge_41 : decode cX11_bridge 41 = .ok (.aload_n 3, 1) := by decide +kernel
theorem dX11_bridge_42 : decode cX11_bridge 42 = .ok (.getfield 74, 3) := by decide +kernel
theorem dX11_bridge_45 : decode cX11_bridge 45 = .ok (.iload_n 1, 1) := by decide +kernel
theorem dX11_bridge_46 : decode cX11_bridge 46 = .ok (.iastore, 1) := by decide +kernel
theorem dX11_bridge_47 : decode cX11_bridge 47 = .ok (.aload_n 3, 1) := by decide +kernel
theorem dX11_bridge_48 : decode cX11_bridge 48 = .ok (.getfield 81, 3) := by decide +kernel
theorem dX11_bridge_51 : decode cX11_bridge 51 = .ok (.aload_n 3, 1) := by decide +kernel
theorem dX11_bridge_52 : decode cX11_bridge 52 = .ok (.getfield 74, 3) := by decide +kernel
theorem dX11_bridge_55 : decode cX11_bridge 55 = .ok (.iload_n 2, 1) := by decide +kernel
theorem dX11_bridge_56 : decode cX11_bridge 56 = .ok (.iastore, 1) := by decide +kernel
theorem dX11_bridge_57 : decode cX11_bridge 57 = .ok (.aload_n 3, 1) := by decide +kernel
theorem dX11_bridge_58 : decode cX11_bridge 58 = .ok (.dup, 1) := by decide +kernel
theorem dX11_bridge_59 : decode cX11_bridge 59 = .ok (.getfield 74, 3) := by decide +kernel
theorem dX11_bridge_62 : decode cX11_bridge 62 = .ok (.iconst 1, 1) := by decide +kernel
theorem dX11_bridge_63 : decode cX11_bridge 63 = .ok (.iadd, 1) := by decide +kernel
theorem dX11_bridge_64 : decode cX11_bridge 64 = .ok (.putfield 74, 3) := by decide +kernel
theorem dX11_bridge_67 : decode cX11_bridge 67 = .ok (.aload_n 0, 1) := by decide +kernel
theorem dX11_bridge_68 : decode cX11_bridge 68 = .ok (.getfield 10, 3) := by decide +kernel
theorem dX11_bridge_71 : decode cX11_bridge 71 = .ok (.invokevirtual 71, 3) := by decide +kernel
theorem dX11_bridge_74 : decode cX11_bridge 74 = .ok (.aload_n 3, 1) := by decide +kernel
theorem dX11_bridge_75 : decode cX11_bridge 75 = .ok (.getfield 74, 3) := by decide +kernel
theorem dX11_bridge_78 : decode cX11_bridge 78 = .ok (.ireturn, 1) := by decide +kernel
theorem dX11_inn_0 : decode cX11_inn 0 = .ok (.aload_n 0, 1) := by decide +kernel
theorem dX11_inn_1 : decode cX11_inn 1 = .ok (.getfield 27, 3) := by decide +kernel
theorem dX11_inn_4 : decode cX11_inn 4 = .ok (.getfield 84, 3) := by decide +kernel
theorem dX11_inn_7 : decode cX11_inn 7 = .ok (.astore_n 2, 1) := by decide +kernel
theorem dX11_inn_8 : decode cX11_inn 8 = .ok (.iload_n 1, 1) := by decide +kernel
theorem dX11_inn_9 : decode cX11_inn 9 = .ok (.invokestatic 54, 3) := by decide +kernel
theorem dX11_inn_12 : decode cX11_inn 12 = .ok (.ifCond .eq 12, 3) := by decide +kernel
theorem dX11_inn_15 : decode cX11_inn 15 = .ok (.aload_n 2, 1) := by decide +kernel
theorem dX11_inn_16 : decode cX11_inn 16 = .ok (.getfield 88, 3) := by decide +kernel
theorem dX11_inn_19 : decode cX11_inn 19 = .ok (.bipush 10, 2) := by decide +kernel
theorem dX11_inn_21 : decode cX11_inn 21 = .ok (.if_icmp .lt 5, 3) := by decide +kernel
theorem dX11_inn_24 : decode cX11_inn 24 = .ok (.iconst (-1), 1) := by decide +kernel
theorem dX11_inn_25 : decode cX11_inn 25 = .ok (.ireturn, 1) := by decide +kernel
theorem dX11_inn_26 : decode cX11_inn 26 = .ok (.aload_n 2, 1) := by decide +kernel
theorem dX11_inn_27 : decode cX11_inn 27 = .ok (.getfield 93, 3) := by decide +kernel
theorem dX11_inn_30 : decode cX11_inn 30 = .ok (.aload_n 2, 1) := by decide +kernel
theorem dX11_inn_31 : decode cX11_inn 31 = .ok (.getfield 88, 3) := by decide +kernel
theorem dX11_inn_34 : decode cX11_inn 34 = .ok (.iload_n 1, 1) := by decide +kernel
theorem dX11_inn_35 : decode cX11_inn 35 = .ok (.iastore, 1) := by decide +kernel
theorem dX11_inn_36 : decode cX11_inn 36 = .ok (.aload_n 2, 1) := by decide +kernel
theorem dX11_inn_37 : decode cX11_inn 37 = .ok (.dup, 1) := by decide +kernel
theorem dX11_inn_38 : decode cX11_inn 38 = .ok (.getfield 88, 3) := by decide +kernel
theorem dX11_inn_41 : decode cX11_inn 41 = .ok (.iconst 1, 1) := by decide +kernel
theorem dX11_inn_42 : decode cX11_inn 42 = .ok (.iadd, 1) := by decide +kernel
theorem dX11_inn_43 : decode cX11_inn 43 = .ok (.putfield 88, 3) := by decide +kernel
theorem dX11_inn_46 : decode cX11_inn 46 = .ok (.aload_n 2, 1) := by decide +kernel
theorem dX11_inn_47 : decode cX11_inn 47 = .ok (.getfield 88, 3) := by decide +kernel
theorem dX11_inn_50 : decode cX11_inn 50 = .ok (.ireturn, 1) := by decide +kernel
theorem dX11_move_0 : decode cX11_move 0 = .ok (.aload_n 0, 1) := by decide +kernel
theorem dX11_move_1 : decode cX11_move 1 = .ok (.getfield 27, 3) := by decide +kernel
theorem dX11_move_4 : decode cX11_move 4 = .ok (.getfield 84, 3) := by decide +kernel
theorem dX11_move_7 : decode cX11_move 7 = .ok (.astore_n 3, 1) := by decide +kernel
theorem dX11_move_8 : decode cX11_move 8 = .ok (.iload_n 1, 1) := by decide +kernel
theorem dX11_move_9 : decode cX11_move 9 = .ok (.iconst 0, 1) := by decide +kernel
theorem dX11_move_10 : decode cX11_move 10 = .ok (.aload_n 3, 1) := by decide +kernel
theorem dX11_move_11 : decode cX11_move 11 = .ok (.getfield 88, 3) := by decide +kernel
theorem dX11_move_14 : decode cX11_move 14 = .ok (.iconst 1, 1) := by decide +kernel
theorem dX11_move_15 : decode cX11_move 15 = .ok (.isub, 1) := by decide +kernel
theorem dX11_move_16 : decode cX11_move 16 = .ok (.invokestatic 58, 3) := by decide +kernel
theorem dX11_move_19 : decode cX11_move 19 = .ok (.ifCond .eq 20, 3) := by decide +kernel
theorem dX11_move_22 : decode cX11_move 22 = .ok (.iload_n 2, 1) := by decide +kernel
theorem dX11_move_23 : decode cX11_move 23 = .ok (.invokestatic 54, 3) := by decide +kernel
theorem dX11_move_26 : decode cX11_move 26 = .ok (.ifCond .eq 13, 3) := by decide +kernel
theorem dX11_move_29 : decode cX11_move 29 = .ok (.aload_n 3, 1) := by decide +kernel
theorem dX11_move_30 : decode cX11_move 30 = .ok (.getfield 93, 3) := by decide +kernel
theorem dX11_move_33 : decode cX11_move 33 = .ok (.iload_n 1, 1) := by decide +kernel
theorem dX11_move_34 : decode cX11_move 34 = .ok (.iaload, 1) := by decide +kernel
theorem dX11_move_35 : decode cX11_move 35 = .ok (.iload_n 2, 1) := by decide +kernel
theorem dX11_move_36 : decode cX11_move 36 = .ok (.if_icmp .ne 5, 3) := by decide +kernel
theorem dX11_move_39 : decode cX11_move 39 = .ok (.iconst 0, 1) := by decide +kernel
theorem dX11_move_40 : decode cX11_move 40 = .ok (.ireturn, 1) := by decide +kernel
theorem dX11_move_41 : decode cX11_move 41 = .ok (.aload_n 0, 1) := by decide +kernel
theorem dX11_move_42 : decode cX11_move 42 = .ok (.getfield 27, 3) := by decide +kernel
theorem dX11_move_45 : decode cX11_move 45 = .ok (.getfield 96, 3) := by decide +kernel
theorem dX11_move_48 : decode cX11_move 48 = .ok (.aload_n 3, 1) := by decide +kernel
theorem dX11_move_49 : decode cX11_move 49 = .ok (.invokevirtual 100, 3) := by decide +kernel
theorem dX11_move_52 : decode cX11_move 52 = .ok (.aload_n 3, 1) := by decide +kernel
theorem dX11_move_53 : decode cX11_move 53 = .ok (.getfield 93, 3) := by decide +kernel
theorem dX11_move_56 : decode cX11_move 56 = .ok (.iload_n 1, 1) := by decide +kernel
theorem dX11_move_57 : decode cX11_move 57 = .ok (.iload_n 2, 1) := by decide +kernel
theorem dX11_move_58 : decode cX11_move 58 = .ok (.iastore, 1) := by decide +kernel
theorem dX11_move_59 : decode cX11_move 59 = .ok (.iconst 1, 1) := by decide +kernel
theorem dX11_move_60 : decode cX11_move 60 = .ok (.ireturn, 1) := by decide +kernel
theorem dX11_horse_0 : decode cX11_horse 0 = .ok (.aload_n 0, 1) := by decide +kernel
theorem dX11_horse_1 : decode cX11_horse 1 = .ok (.getfield 27, 3) := by decide +kernel
theorem dX11_horse_4 : decode cX11_horse 4 = .ok (.getfield 106, 3) := by decide +kernel
theorem dX11_horse_7 : decode cX11_horse 7 = .ok (.astore_n 3, 1) := by decide +kernel
theorem dX11_horse_8 : decode cX11_horse 8 = .ok (.iload_n 1, 1) := by decide +kernel
theorem dX11_horse_9 : decode cX11_horse 9 = .ok (.iconst 1, 1) := by decide +kernel
theorem dX11_horse_10 : decode cX11_horse 10 = .ok (.bipush 99, 2) := by decide +kernel
theorem dX11_horse_12 : decode cX11_horse 12 = .ok (.invokestatic 58, 3) := by decide +kernel
theorem dX11_horse_15 : decode cX11_horse 15 = .ok (.ifCond .eq 22, 3) := by decide +kernel
theorem dX11_horse_18 : decode cX11_horse 18 = .ok (.iload_n 2, 1) := by decide +kernel
theorem dX11_horse_19 : decode cX11_horse 19 = .ok (.iconst 1, 1) := by decide +kernel
theorem dX11_horse_20 : decode cX11_horse 20 = .ok (.bipush 9, 2) := by decide +kernel
theorem dX11_horse_22 : decode cX11_horse 22 = .ok (.invokestatic 58, 3) := by decide +kernel
theorem dX11_horse_25 : decode cX11_horse 25 = .ok (.ifCond .eq 12, 3) := by decide +kernel
theorem dX11_horse_28 : decode cX11_horse 28 = .ok (.aload_n 3, 1) := by decide +kernel
theorem dX11_horse_29 : decode cX11_horse 29 = .ok (.getfield 110, 3) := by decide +kernel
theorem dX11_horse_32 : decode cX11_horse 32 = .ok (.bipush 6, 2) := by decide +kernel
theorem dX11_horse_34 : decode cX11_horse 34 = .ok (.if_icmp .lt 5, 3) := by decide +kernel
theorem dX11_horse_37 : decode cX11_horse 37 = .ok (.iconst (-1), 1) := by decide +kernel
theorem dX11_horse_38 : decode cX11_horse 38 = .ok (.ireturn, 1) := by decide +kernel
theorem dX11_horse_39 : decode cX11_horse 39 = .ok (.aload_n 3, 1) := by decide +kernel
theorem dX11_horse_40 : decode cX11_horse 40 = .ok (.getfield 115, 3) := by decide +kernel
theorem dX11_horse_43 : decode cX11_horse 43 = .ok (.aload_n 3, 1) := by decide +kernel
theorem dX11_horse_44 : decode cX11_horse 44 = .ok (.getfield 110, 3) := by decide +kernel
theorem dX11_horse_47 : decode cX11_horse 47 = .ok (.iload_n 1, 1) := by decide +kernel
theorem dX11_horse_48 : decode cX11_horse 48 = .ok (.iastore, 1) := by decide +kernel
theorem dX11_horse_49 : decode cX11_horse 49 = .ok (.aload_n 3, 1) := by decide +kernel
theorem dX11_horse_50 : decode cX11_horse 50 = .ok (.getfield 118, 3) := by decide +kernel
theorem dX11_horse_53 : decode cX11_horse 53 = .ok (.aload_n 3, 1) := by decide +kernel
theorem dX11_horse_54 : decode cX11_horse 54 = .ok (.getfield 110, 3) := by decide +kernel
theorem dX11_horse_57 : decode cX11_horse 57 = .ok (.iload_n 2, 1) := by decide +kernel
theorem dX11_horse_58 : decode cX11_horse 58 = .ok (.iastore, 1) := by decide +kernel
theorem dX11_horse_59 : decode cX11_horse 59 = .ok (.aload_n 3, 1) := by decide +kernel
theorem dX11_horse_60 : decode cX11_horse 60 = .ok (.dup, 1) := by decide +kernel
theorem dX11_horse_61 : decode cX11_horse 61 = .ok (.getfield 110, 3) := by decide +kernel
theorem dX11_horse_64 : decode cX11_horse 64 = .ok (.iconst 1, 1) := by decide +kernel
theorem dX11_horse_65 : decode cX11_horse 65 = .ok (.iadd, 1) := by decide +kernel
theorem dX11_horse_66 : decode cX11_horse 66 = .ok (.putfield 110, 3) := by decide +kernel
theorem dX11_horse_69 : decode cX11_horse 69 = .ok (.aload_n 0, 1) := by decide +kernel
theorem dX11_horse_70 : decode cX11_horse 70 = .ok (.getfield 10, 3) := by decide +kernel
theorem dX11_horse_73 : decode cX11_horse 73 = .ok (.invokevirtual 71, 3) := by decide +kernel
theorem dX11_horse_76 : decode cX11_horse 76 = .ok (.aload_n 3, 1) := by decide +kernel
theorem dX11_horse_77 : decode cX11_horse 77 = .ok (.getfield 110, 3) := by decide +kernel
theorem dX11_horse_80 : decode cX11_horse 80 = .ok (.iconst 1, 1) := by decide +kernel
theorem dX11_horse_81 : decode cX11_horse 81 = .ok (.isub, 1) := by decide +kernel
theorem dX11_horse_82 : decode cX11_horse 82 = .ok (.ireturn, 1) := by decide +kernel
theorem dX11_weather_0 : decode cX11_weather 0 = .ok (.iload_n 1, 1) := by decide +kernel
theorem dX11_weather_1 : decode cX11_weather 1 = .ok (.iconst 0, 1) := by decide +kernel
theorem dX11_weather_2 : decode cX11_weather 2 = .ok (.bipush 10, 2) := by decide +kernel
theorem dX11_weather_4 : decode cX11_weather 4 = .ok (.invokestatic 58, 3) := by decide +kernel
theorem dX11_weather_7 : decode cX11_weather 7 = .ok (.ifCond .eq 14, 3) := by decide +kernel
theorem dX11_weather_10 : decode cX11_weather 10 = .ok (.iload_n 2, 1) := by decide +kernel
theorem dX11_weather_11 : decode cX11_weather 11 = .ok (.iconst 0, 1) := by decide +kernel
theorem dX11_weather_12 : decode cX11_weather 12 = .ok (.sipush 9999, 3) := by decide +kernel
theorem dX11_weather_15 : decode cX11_weather 15 = .ok (.invokestatic 58, 3) := by decide +kernel
theorem dX11_weather_18 : decode cX11_weather 18 = .ok (.ifCond .ne 5, 3) := by decide +kernel
theorem dX11_weather_21 : decode cX11_weather 21 = .ok (.iconst 0, 1) := by decide +kernel
theorem dX11_weather_22 : decode cX11_weather 22 = .ok (.ireturn, 1) := by decide +kernel
theorem dX11_weather_23 : decode cX11_weather 23 = .ok (.aload_n 0, 1) := by decide +kernel
theorem dX11_weather_24 : decode cX11_weather 24 = .ok (.getfield 27, 3) := by decide +kernel
theorem dX11_weather_27 : decode cX11_weather 27 = .ok (.iload_n 1, 1) := by decide +kernel
theorem dX11_weather_28 : decode cX11_weather 28 = .ok (.putfield 121, 3) := by decide +kernel
theorem dX11_weather_31 : decode cX11_weather 31 = .ok (.aload_n 0, 1) := by decide +kernel
theorem dX11_weather_32 : decode cX11_weather 32 = .ok (.getfield 27, 3) := by decide +kernel
theorem dX11_weather_35 : decode cX11_weather 35 = .ok (.getfield 84, 3) := by decide +kernel
theorem dX11_weather_38 : decode cX11_weather 38 = .ok (.iload_n 2, 1) := by decide +kernel
theorem dX11_weather_39 : decode cX11_weather 39 = .ok (.bipush 7, 2) := by decide +kernel
theorem dX11_weather_41 : decode cX11_weather 41 = .ok (.imul, 1) := by decide +kernel
theorem dX11_weather_42 : decode cX11_weather 42 = .ok (.bipush 13, 2) := by decide +kernel
theorem dX11_weather_44 : decode cX11_weather 44 = .ok (.iadd, 1) := by decide +kernel
theorem dX11_weather_45 : decode cX11_weather 45 = .ok (.putfield 124, 3) := by decide +kernel
theorem dX11_weather_48 : decode cX11_weather 48 = .ok (.iconst 1, 1) := by decide +kernel
theorem dX11_weather_49 : decode cX11_weather 49 = .ok (.ireturn, 1) := by decide +kernel
theorem dX11_end_0 : decode cX11_end 0 = .ok (.iload_n 1, 1) := by decide +kernel
theorem dX11_end_1 : decode cX11_end 1 = .ok (.iconst 0, 1) := by decide +kernel
theorem dX11_end_2 : decode cX11_end 2 = .ok (.aload_n 0, 1) := by decide +kernel
theorem dX11_end_3 : decode cX11_end 3 = .ok (.getfield 39, 3) := by decide +kernel
theorem dX11_end_6 : decode cX11_end 6 = .ok (.getfield 127, 3) := by decide +kernel
theorem dX11_end_9 : decode cX11_end 9 = .ok (.getfield 131, 3) := by decide +kernel
theorem dX11_end_12 : decode cX11_end 12 = .ok (.invokestatic 58, 3) := by decide +kernel
theorem dX11_end_15 : decode cX11_end 15 = .ok (.ifCond .ne 5, 3) := by decide +kernel
theorem dX11_end_18 : decode cX11_end 18 = .ok (.iconst (-1), 1) := by decide +kernel
theorem dX11_end_19 : decode cX11_end 19 = .ok (.ireturn, 1) := by decide +kernel
theorem dX11_end_20 : decode cX11_end 20 = .ok (.aload_n 0, 1) := by decide +kernel
theorem dX11_end_21 : decode cX11_end 21 = .ok (.getfield 39, 3) := by decide +kernel
theorem dX11_end_24 : decode cX11_end 24 = .ok (.getfield 127, 3) := by decide +kernel
theorem dX11_end_27 : decode cX11_end 27 = .ok (.iload_n 1, 1) := by decide +kernel
theorem dX11_end_28 : decode cX11_end 28 = .ok (.putfield 131, 3) := by decide +kernel
theorem dX11_end_31 : decode cX11_end 31 = .ok (.iload_n 1, 1) := by decide +kernel
theorem dX11_end_32 : decode cX11_end 32 = .ok (.ireturn, 1) := by decide +kernel
theorem dX11_fault_0 : decode cX11_fault 0 = .ok (.iload_n 1, 1) := by decide +kernel
theorem dX11_fault_1 : decode cX11_fault 1 = .ok (.ifCond .ne 11, 3) := by decide +kernel
theorem dX11_fault_4 : decode cX11_fault 4 = .ok (.aload_n 0, 1) := by decide +kernel
theorem dX11_fault_5 : decode cX11_fault 5 = .ok (.getfield 39, 3) := by decide +kernel
theorem dX11_fault_8 : decode cX11_fault 8 = .ok (.getfield 150, 3) := by decide +kernel
theorem dX11_fault_11 : decode cX11_fault 11 = .ok (.ireturn, 1) := by decide +kernel
theorem dX11_fault_12 : decode cX11_fault 12 = .ok (.iload_n 1, 1) := by decide +kernel
theorem dX11_fault_13 : decode cX11_fault 13 = .ok (.iconst 1, 1) := by decide +kernel
theorem dX11_fault_14 : decode cX11_fault 14 = .ok (.if_icmp .ne 13, 3) := by decide +kernel
theorem dX11_fault_17 : decode cX11_fault 17 = .ok (.aload_n 0, 1) := by decide +kernel
theorem dX11_fault_18 : decode cX11_fault 18 = .ok (.getfield 39, 3) := by decide +kernel
theorem dX11_fault_21 : decode cX11_fault 21 = .ok (.getfield 153, 3) := by decide +kernel
theorem dX11_fault_24 : decode cX11_fault 24 = .ok (.goto 4, 3) := by decide +kernel
theorem dX11_fault_27 : decode cX11_fault 27 = .ok (.iconst (-1), 1) := by decide +kernel
theorem dX11_fault_28 : decode cX11_fault 28 = .ok (.ireturn, 1) := by decide +kernel
theorem dX11_by_0 : decode cX11_by 0 = .ok (.iload_n 1, 1) := by decide +kernel
theorem dX11_by_1 : decode cX11_by 1 = .ok (.iconst (-1), 1) := by decide +kernel
theorem dX11_by_2 : decode cX11_by 2 = .ok (.aload_n 0, 1) := by decide +kernel
theorem dX11_by_3 : decode cX11_by 3 = .ok (.getfield 27, 3) := by decide +kernel
theorem dX11_by_6 : decode cX11_by 6 = .ok (.getfield 140, 3) := by decide +kernel
theorem dX11_by_9 : decode cX11_by 9 = .ok (.iconst 1, 1) := by decide +kernel
theorem dX11_by_10 : decode cX11_by 10 = .ok (.isub, 1) := by decide +kernel
theorem dX11_by_11 : decode cX11_by 11 = .ok (.invokestatic 58, 3) := by decide +kernel
theorem dX11_by_14 : decode cX11_by 14 = .ok (.ifCond .ne 5, 3) := by decide +kernel
theorem dX11_by_17 : decode cX11_by 17 = .ok (.iconst 0, 1) := by decide +kernel
theorem dX11_by_18 : decode cX11_by 18 = .ok (.ireturn, 1) := by decide +kernel
theorem dX11_by_19 : decode cX11_by 19 = .ok (.aload_n 0, 1) := by decide +kernel
theorem dX11_by_20 : decode cX11_by 20 = .ok (.getfield 27, 3) := by decide +kernel
theorem dX11_by_23 : decode cX11_by 23 = .ok (.iload_n 1, 1) := by decide +kernel
theorem dX11_by_24 : decode cX11_by 24 = .ok (.putfield 156, 3) := by decide +kernel
theorem dX11_by_27 : decode cX11_by 27 = .ok (.aload_n 0, 1) := by decide +kernel
theorem dX11_by_28 : decode cX11_by 28 = .ok (.getfield 10, 3) := by decide +kernel
theorem dX11_by_31 : decode cX11_by 31 = .ok (.invokevirtual 71, 3) := by decide +kernel
theorem dX11_by_34 : decode cX11_by 34 = .ok (.iconst 1, 1) := by decide +kernel
theorem dX11_by_35 : decode cX11_by 35 = .ok (.ireturn, 1) := by decide +kernel
theorem dX11_start_0 : decode cX11_start 0 = .ok (.iload_n 1, 1) := by decide +kernel
theorem dX11_start_1 : decode cX11_start 1 = .ok (.invokestatic 54, 3) := by decide +kernel
theorem dX11_start_4 : decode cX11_start 4 = .ok (.ifCond .ne 5, 3) := by decide +kernel
theorem dX11_start_7 : decode cX11_start 7 = .ok (.iconst 0, 1) := by decide +kernel
theorem dX11_start_8 : decode cX11_start 8 = .ok (.ireturn, 1) := by decide +kernel
theorem dX11_start_9 : decode cX11_start 9 = .ok (.aload_n 0, 1) := by decide +kernel
theorem dX11_start_10 : decode cX11_start 10 = .ok (.getfield 27, 3) := by decide +kernel
theorem dX11_start_13 : decode cX11_start 13 = .ok (.getfield 84, 3) := by decide +kernel
theorem dX11_start_16 : decode cX11_start 16 = .ok (.iload_n 1, 1) := by decide +kernel
theorem dX11_start_17 : decode cX11_start 17 = .ok (.putfield 159, 3) := by decide +kernel
theorem dX11_start_20 : decode cX11_start 20 = .ok (.aload_n 0, 1) := by decide +kernel
theorem dX11_start_21 : decode cX11_start 21 = .ok (.getfield 27, 3) := by decide +kernel
theorem dX11_start_24 : decode cX11_start 24 = .ok (.getfield 84, 3) := by decide +kernel
theorem dX11_start_27 : decode cX11_start 27 = .ok (.iconst 0, 1) := by decide +kernel
theorem dX11_start_28 : decode cX11_start 28 = .ok (.putfield 162, 3) := by decide +kernel
theorem dX11_start_31 : decode cX11_start 31 = .ok (.aload_n 0, 1) := by decide +kernel
theorem dX11_start_32 : decode cX11_start 32 = .ok (.getfield 27, 3) := by decide +kernel
theorem dX11_start_35 : decode cX11_start 35 = .ok (.getfield 84, 3) := by decide +kernel
theorem dX11_start_38 : decode cX11_start 38 = .ok (.iconst 0, 1) := by decide +kernel
theorem dX11_start_39 : decode cX11_start 39 = .ok (.putfield 165, 3) := by decide +kernel
theorem dX11_start_42 : decode cX11_start 42 = .ok (.aload_n 0, 1) := by decide +kernel
theorem dX11_start_43 : decode cX11_start 43 = .ok (.getfield 27, 3) := by decide +kernel
theorem dX11_start_46 : decode cX11_start 46 = .ok (.getfield 96, 3) := by decide +kernel
theorem dX11_start_49 : decode cX11_start 49 = .ok (.iconst 0, 1) := by decide +kernel
theorem dX11_start_50 : decode cX11_start 50 = .ok (.putfield 168, 3) := by decide +kernel
theorem dX11_start_53 : decode cX11_start 53 = .ok (.iconst 1, 1) := by decide +kernel
theorem dX11_start_54 : decode cX11_start 54 = .ok (.ireturn, 1) := by decide +kernel
theorem dX11_would_0 : decode cX11_would 0 = .ok (.aload_n 0, 1) := by decide +kernel
theorem dX11_would_1 : decode cX11_would 1 = .ok (.iload_n 1, 1) := by decide +kernel
theorem dX11_would_2 : decode cX11_would 2 = .ok (.invokevirtual 171, 3) := by decide +kernel
theorem dX11_would_5 : decode cX11_would 5 = .ok (.ifCond .eq 10, 3) := by decide +kernel
theorem dX11_would_8 : decode cX11_would 8 = .ok (.iload_n 2, 1) := by decide +kernel
theorem dX11_would_9 : decode cX11_would 9 = .ok (.invokestatic 54, 3) := by decide +kernel
theorem dX11_would_12 : decode cX11_would 12 = .ok (.ifCond .ne 5, 3) := by decide +kernel
theorem dX11_would_15 : decode cX11_would 15 = .ok (.iconst (-1), 1) := by decide +kernel
theorem dX11_would_16 : decode cX11_would 16 = .ok (.ireturn, 1) := by decide +kernel
theorem dX11_would_17 : decode cX11_would 17 = .ok (.iload_n 3, 1) := by decide +kernel
theorem dX11_would_18 : decode cX11_would 18 = .ok (.iconst 2, 1) := by decide +kernel
theorem dX11_would_19 : decode cX11_would 19 = .ok (.if_icmp .ne 20, 3) := by decide +kernel
theorem dX11_would_22 : decode cX11_would 22 = .ok (.aload_n 0, 1) := by decide +kernel
theorem dX11_would_23 : decode cX11_would 23 = .ok (.getfield 20, 3) := by decide +kernel
theorem dX11_would_26 : decode cX11_would 26 = .ok (.aload_n 0, 1) := by decide +kernel
theorem dX11_would_27 : decode cX11_would 27 = .ok (.getfield 20, 3) := by decide +kernel
theorem dX11_would_30 : decode cX11_would 30 = .ok (.invokevirtual 174, 3) := by decide +kernel
theorem dX11_would_33 : decode cX11_would 33 = .ok (.iload_n 1, 1) := by decide +kernel
theorem dX11_would_34 : decode cX11_would 34 = .ok (.iload_n 2, 1) := by decide +kernel
theorem dX11_would_35 : decode cX11_would 35 = .ok (.invokevirtual 177, 3) := by decide +kernel
theorem dX11_would_38 : decode cX11_would 38 = .ok (.ireturn, 1) := by decide +kernel
theorem dX11_would_39 : decode cX11_would 39 = .ok (.iload_n 3, 1) := by decide +kernel
theorem dX11_would_40 : decode cX11_would 40 = .ok (.ifCond .eq 10, 3) := by decide +kernel
theorem dX11_would_43 : decode cX11_would 43 = .ok (.iload_n 3, 1) := by decide +kernel
theorem dX11_would_44 : decode cX11_would 44 = .ok (.iconst 1, 1) := by decide +kernel
theorem dX11_would_45 : decode cX11_would 45 = .ok (.if_icmp .eq 5, 3) := by decide +kernel
theorem dX11_would_48 : decode cX11_would 48 = .ok (.iconst (-1), 1) := by decide +kernel
theorem dX11_would_49 : decode cX11_would 49 = .ok (.ireturn, 1) := by decide +kernel
theorem dX11_would_50 : decode cX11_would 50 = .ok (.aload_n 0, 1) := by decide +kernel
theorem dX11_would_51 : decode cX11_would 51 = .ok (.getfield 10, 3) := by decide +kernel
theorem dX11_would_54 : decode cX11_would 54 = .ok (.iload_n 1, 1) := by decide +kernel
theorem dX11_would_55 : decode cX11_would 55 = .ok (.iload_n 2, 1) := by decide +kernel
theorem dX11_would_56 : decode cX11_would 56 = .ok (.invokevirtual 181, 3) := by decide +kernel
theorem dX11_would_59 : decode cX11_would 59 = .ok (.istore 4, 2) := by decide +kernel
theorem dX11_would_61 : decode cX11_would 61 = .ok (.iload_n 3, 1) := by decide +kernel
theorem dX11_would_62 : decode cX11_would 62 = .ok (.ifCond .ne 16, 3) := by decide +kernel
theorem dX11_would_65 : decode cX11_would 65 = .ok (.aload_n 0, 1) := by decide +kernel
theorem dX11_would_66 : decode cX11_would 66 = .ok (.getfield 10, 3) := by decide +kernel
theorem dX11_would_69 : decode cX11_would 69 = .ok (.getfield 185, 3) := by decide +kernel
theorem dX11_would_72 : decode cX11_would 72 = .ok (.iload 4, 2) := by decide +kernel
theorem dX11_would_74 : decode cX11_would 74 = .ok (.iaload, 1) := by decide +kernel
theorem dX11_would_75 : decode cX11_would 75 = .ok (.goto 13, 3) := by decide +kernel
theorem dX11_would_78 : decode cX11_would 78 = .ok (.aload_n 0, 1) := by decide +kernel
theorem dX11_would_79 : decode cX11_would 79 = .ok (.getfield 10, 3) := by decide +kernel
theorem dX11_would_82 : decode cX11_would 82 = .ok (.getfield 188, 3) := by decide +kernel
theorem dX11_would_85 : decode cX11_would 85 = .ok (.iload 4, 2) := by decide +kernel
theorem dX11_would_87 : decode cX11_would 87 = .ok (.iaload, 1) := by decide +kernel
theorem dX11_would_88 : decode cX11_would 88 = .ok (.ireturn, 1) := by decide +kernel
theorem dX11_driveByHand_0 : decode cX11_driveByHand 0 = .ok (.aload_n 0, 1) := by decide +kernel
theorem dX11_driveByHand_1 : decode cX11_driveByHand 1 = .ok (.getfield 27, 3) := by decide +kernel
theorem dX11_driveByHand_4 : decode cX11_driveByHand 4 = .ok (.getfield 84, 3) := by decide +kernel
theorem dX11_driveByHand_7 : decode cX11_driveByHand 7 = .ok (.astore_n 2, 1) := by decide +kernel
theorem dX11_driveByHand_8 : decode cX11_driveByHand 8 = .ok (.aload_n 0, 1) := by decide +kernel
theorem dX11_driveByHand_9 : decode cX11_driveByHand 9 = .ok (.iload_n 1, 1) := by decide +kernel
theorem dX11_driveByHand_10 : decode cX11_driveByHand 10 = .ok (.invokevirtual 171, 3) := by decide +kernel
theorem dX11_driveByHand_13 : decode cX11_driveByHand 13 = .ok (.ifCond .eq 13, 3) := by decide +kernel
theorem dX11_driveByHand_16 : decode cX11_driveByHand 16 = .ok (.aload_n 2, 1) := by decide +kernel
theorem dX11_driveByHand_17 : decode cX11_driveByHand 17 = .ok (.getfield 159, 3) := by decide +kernel
theorem dX11_driveByHand_20 : decode cX11_driveByHand 20 = .ok (.sipush 299, 3) := by decide +kernel
theorem dX11_driveByHand_23 : decode cX11_driveByHand 23 = .ok (.if_icmp .lt 5, 3) := by decide +kernel
theorem dX11_driveByHand_26 : decode cX11_driveByHand 26 = .ok (.iconst 0, 1) := by decide +kernel
theorem dX11_driveByHand_27 : decode cX11_driveByHand 27 = .ok (.ireturn, 1) := by decide +kernel
theorem dX11_driveByHand_28 : decode cX11_driveByHand 28 = .ok (.aload_n 0, 1) := by decide +kernel
theorem dX11_driveByHand_29 : decode cX11_driveByHand 29 = .ok (.getfield 27, 3) := by decide +kernel
theorem dX11_driveByHand_32 : decode cX11_driveByHand 32 = .ok (.getfield 96, 3) := by decide +kernel
theorem dX11_driveByHand_35 : decode cX11_driveByHand 35 = .ok (.aload_n 2, 1) := by decide +kernel
theorem dX11_driveByHand_36 : decode cX11_driveByHand 36 = .ok (.invokevirtual 100, 3) := by decide +kernel
theorem dX11_driveByHand_39 : decode cX11_driveByHand 39 = .ok (.aload_n 0, 1) := by decide +kernel
theorem dX11_driveByHand_40 : decode cX11_driveByHand 40 = .ok (.getfield 20, 3) := by decide +kernel
theorem dX11_driveByHand_43 : decode cX11_driveByHand 43 = .ok (.aload_n 0, 1) := by decide +kernel
theorem dX11_driveByHand_44 : decode cX11_driveByHand 44 = .ok (.getfield 20, 3) := by decide +kernel
theorem dX11_driveByHand_47 : decode cX11_driveByHand 47 = .ok (.invokevirtual 174, 3) := by decide +kernel
theorem dX11_driveByHand_50 : decode cX11_driveByHand 50 = .ok (.iload_n 1, 1) := by decide +kernel
theorem dX11_driveByHand_51 : decode cX11_driveByHand 51 = .ok (.aload_n 2, 1) := by decide +kernel
theorem dX11_driveByHand_52 : decode cX11_driveByHand 52 = .ok (.getfield 159, 3) := by decide +kernel
theorem dX11_driveByHand_55 : decode cX11_driveByHand 55 = .ok (.iconst 1, 1) := by decide +kernel
theorem dX11_driveByHand_56 : decode cX11_driveByHand 56 = .ok (.invokevirtual 280, 3) := by decide +kernel
theorem dX11_driveByHand_59 : decode cX11_driveByHand 59 = .ok (.aload_n 2, 1) := by decide +kernel
theorem dX11_driveByHand_60 : decode cX11_driveByHand 60 = .ok (.aload_n 0, 1) := by decide +kernel
theorem dX11_driveByHand_61 : decode cX11_driveByHand 61 = .ok (.getfield 20, 3) := by decide +kernel
theorem dX11_driveByHand_64 : decode cX11_driveByHand 64 = .ok (.getfield 284, 3) := by decide +kernel
theorem dX11_driveByHand_67 : decode cX11_driveByHand 67 = .ok (.putfield 159, 3) := by decide +kernel
theorem dX11_driveByHand_70 : decode cX11_driveByHand 70 = .ok (.aload_n 2, 1) := by decide +kernel
theorem dX11_driveByHand_71 : decode cX11_driveByHand 71 = .ok (.dup, 1) := by decide +kernel
theorem dX11_driveByHand_72 : decode cX11_driveByHand 72 = .ok (.getfield 162, 3) := by decide +kernel
theorem dX11_driveByHand_75 : decode cX11_driveByHand 75 = .ok (.aload_n 0, 1) := by decide +kernel
theorem dX11_driveByHand_76 : decode cX11_driveByHand 76 = .ok (.getfield 20, 3) := by decide +kernel
theorem dX11_driveByHand_79 : decode cX11_driveByHand 79 = .ok (.getfield 287, 3) := by decide +kernel
theorem dX11_driveByHand_82 : decode cX11_driveByHand 82 = .ok (.iadd, 1) := by decide +kernel
theorem dX11_driveByHand_83 : decode cX11_driveByHand 83 = .ok (.putfield 162, 3) := by decide +kernel
theorem dX11_driveByHand_86 : decode cX11_driveByHand 86 = .ok (.aload_n 2, 1) := by decide +kernel
theorem dX11_driveByHand_87 : decode cX11_driveByHand 87 = .ok (.dup, 1) := by decide +kernel
theorem dX11_driveByHand_88 : decode cX11_driveByHand 88 = .ok (.getfield 165, 3) := by decide +kernel
theorem dX11_driveByHand_91 : decode cX11_driveByHand 91 = .ok (.iconst 1, 1) := by decide +kernel
theorem dX11_driveByHand_92 : decode cX11_driveByHand 92 = .ok (.iadd, 1) := by decide +kernel
theorem dX11_driveByHand_93 : decode cX11_driveByHand 93 = .ok (.putfield 165, 3) := by decide +kernel
theorem dX11_driveByHand_96 : decode cX11_driveByHand 96 = .ok (.iconst 1, 1) := by decide +kernel
theorem dX11_driveByHand_97 : decode cX11_driveByHand 97 = .ok (.ireturn, 1) := by decide +kernel
theorem dX11_drive_0 : decode cX11_drive 0 = .ok (.aload_n 0, 1) := by decide +kernel
theorem dX11_drive_1 : decode cX11_drive 1 = .ok (.iload_n 1, 1) := by decide +kernel
theorem dX11_drive_2 : decode cX11_drive 2 = .ok (.invokevirtual 191, 3) := by decide +kernel
theorem dX11_drive_5 : decode cX11_drive 5 = .ok (.ifCond .eq 16, 3) := by decide +kernel
theorem dX11_drive_8 : decode cX11_drive 8 = .ok (.aload_n 0, 1) := by decide +kernel
theorem dX11_drive_9 : decode cX11_drive 9 = .ok (.getfield 27, 3) := by decide +kernel
theorem dX11_drive_12 : decode cX11_drive 12 = .ok (.getfield 84, 3) := by decide +kernel
theorem dX11_drive_15 : decode cX11_drive 15 = .ok (.getfield 159, 3) := by decide +kernel
theorem dX11_drive_18 : decode cX11_drive 18 = .ok (.goto 4, 3) := by decide +kernel
theorem dX11_drive_21 : decode cX11_drive 21 = .ok (.iconst (-1), 1) := by decide +kernel
theorem dX11_drive_22 : decode cX11_drive 22 = .ok (.ireturn, 1) := by decide +kernel
theorem dX11_played_0 : decode cX11_played 0 = .ok (.iload_n 1, 1) := by decide +kernel
theorem dX11_played_1 : decode cX11_played 1 = .ok (.iconst 0, 1) := by decide +kernel
theorem dX11_played_2 : decode cX11_played 2 = .ok (.aload_n 0, 1) := by decide +kernel
theorem dX11_played_3 : decode cX11_played 3 = .ok (.getfield 27, 3) := by decide +kernel
theorem dX11_played_6 : decode cX11_played 6 = .ok (.getfield 140, 3) := by decide +kernel
theorem dX11_played_9 : decode cX11_played 9 = .ok (.iconst 1, 1) := by decide +kernel
theorem dX11_played_10 : decode cX11_played 10 = .ok (.isub, 1) := by decide +kernel
theorem dX11_played_11 : decode cX11_played 11 = .ok (.invokestatic 58, 3) := by decide +kernel
theorem dX11_played_14 : decode cX11_played 14 = .ok (.ifCond .ne 6, 3) := by decide +kernel
theorem dX11_played_17 : decode cX11_played 17 = .ok (.bipush (-2), 2) := by decide +kernel
theorem dX11_played_19 : decode cX11_played 19 = .ok (.ireturn, 1) := by decide +kernel
theorem dX11_played_20 : decode cX11_played 20 = .ok (.aload_n 0, 1) := by decide +kernel
theorem dX11_played_21 : decode cX11_played 21 = .ok (.getfield 20, 3) := by decide +kernel
theorem dX11_played_24 : decode cX11_played 24 = .ok (.getfield 143, 3) := by decide +kernel
theorem dX11_played_27 : decode cX11_played 27 = .ok (.iload_n 1, 1) := by decide +kernel
theorem dX11_played_28 : decode cX11_played 28 = .ok (.aaload, 1) := by decide +kernel
theorem dX11_played_29 : decode cX11_played 29 = .ok (.astore_n 2, 1) := by decide +kernel
theorem dX11_played_30 : decode cX11_played 30 = .ok (.iconst 0, 1) := by decide +kernel
theorem dX11_played_31 : decode cX11_played 31 = .ok (.istore_n 3, 1) := by decide +kernel
theorem dX11_played_32 : decode cX11_played 32 = .ok (.iload_n 3, 1) := by decide +kernel
theorem dX11_played_33 : decode cX11_played 33 = .ok (.aload_n 2, 1) := by decide +kernel
theorem dX11_played_34 : decode cX11_played 34 = .ok (.getfield 200, 3) := by decide +kernel
theorem dX11_played_37 : decode cX11_played 37 = .ok (.if_icmp .ge 57, 3) := by decide +kernel
theorem dX11_played_40 : decode cX11_played 40 = .ok (.aload_n 2, 1) := by decide +kernel
theorem dX11_played_41 : decode cX11_played 41 = .ok (.getfield 205, 3) := by decide +kernel
theorem dX11_played_44 : decode cX11_played 44 = .ok (.iload_n 3, 1) := by decide +kernel
theorem dX11_played_45 : decode cX11_played 45 = .ok (.iaload, 1) := by decide +kernel
theorem dX11_played_46 : decode cX11_played 46 = .ok (.istore 4, 2) := by decide +kernel
theorem dX11_played_48 : decode cX11_played 48 = .ok (.aload_n 2, 1) := by decide +kernel
theorem dX11_played_49 : decode cX11_played 49 = .ok (.getfield 208, 3) := by decide +kernel
theorem dX11_played_52 : decode cX11_played 52 = .ok (.iload_n 3, 1) := by decide +kernel
theorem dX11_played_53 : decode cX11_played 53 = .ok (.iaload, 1) := by decide +kernel
theorem dX11_played_54 : decode cX11_played 54 = .ok (.istore 5, 2) := by decide +kernel
theorem dX11_played_56 : decode cX11_played 56 = .ok (.iload 4, 2) := by decide +kernel
theorem dX11_played_58 : decode cX11_played 58 = .ok (.iconst 4, 1) := by decide +kernel
theorem dX11_played_59 : decode cX11_played 59 = .ok (.if_icmp .ne 12, 3) := by decide +kernel
theorem dX11_played_62 : decode cX11_played 62 = .ok (.aload_n 0, 1) := by decide +kernel
theorem dX11_played_63 : decode cX11_played 63 = .ok (.iload 5, 2) := by decide +kernel
theorem dX11_played_65 : decode cX11_played 65 = .ok (.invokevirtual 191, 3) := by decide +kernel
theorem dX11_played_68 : decode cX11_played 68 = .ok (.ifCond .eq 18, 3) := by decide +kernel
theorem dX11_played_71 : decode cX11_played 71 = .ok (.iload 4, 2) := by decide +kernel
theorem dX11_played_73 : decode cX11_played 73 = .ok (.iconst 5, 1) := by decide +kernel
theorem dX11_played_74 : decode cX11_played 74 = .ok (.if_icmp .ne 14, 3) := by decide +kernel
theorem dX11_played_77 : decode cX11_played 77 = .ok (.aload_n 0, 1) := by decide +kernel
theorem dX11_played_78 : decode cX11_played 78 = .ok (.iload 5, 2) := by decide +kernel
theorem dX11_played_80 : decode cX11_played 80 = .ok (.invokevirtual 194, 3) := by decide +kernel
theorem dX11_played_83 : decode cX11_played 83 = .ok (.ifCond .ne 5, 3) := by decide +kernel
theorem dX11_played_86 : decode cX11_played 86 = .ok (.iload_n 3, 1) := by decide +kernel
theorem dX11_played_87 : decode cX11_played 87 = .ok (.ireturn, 1) := by decide +kernel
theorem dX11_played_88 : decode cX11_played 88 = .ok (.iinc 3 1, 3) := by decide +kernel
theorem dX11_played_91 : decode cX11_played 91 = .ok (.goto (-59), 3) := by decide +kernel
theorem dX11_played_94 : decode cX11_played 94 = .ok (.iconst (-1), 1) := by decide +kernel
theorem dX11_played_95 : decode cX11_played 95 = .ok (.ireturn, 1) := by decide +kernel
theorem dX11_coach_0 : decode cX11_coach 0 = .ok (.iload_n 1, 1) := by decide +kernel
theorem dX11_coach_1 : decode cX11_coach 1 = .ok (.tableswitch 75 0 3 #[31, 42, 53, 64], 31) := by decide +kernel
theorem dX11_coach_32 : decode cX11_coach 32 = .ok (.aload_n 0, 1) := by decide +kernel
theorem dX11_coach_33 : decode cX11_coach 33 = .ok (.getfield 27, 3) := by decide +kernel
theorem dX11_coach_36 : decode cX11_coach 36 = .ok (.getfield 84, 3) := by decide +kernel
theorem dX11_coach_39 : decode cX11_coach 39 = .ok (.getfield 159, 3) := by decide +kernel
theorem dX11_coach_42 : decode cX11_coach 42 = .ok (.ireturn, 1) := by decide +kernel
theorem dX11_coach_43 : decode cX11_coach 43 = .ok (.aload_n 0, 1) := by decide +kernel
theorem dX11_coach_44 : decode cX11_coach 44 = .ok (.getfield 27, 3) := by decide +kernel
theorem dX11_coach_47 : decode cX11_coach 47 = .ok (.getfield 84, 3) := by decide +kernel
theorem dX11_coach_50 : decode cX11_coach 50 = .ok (.getfield 162, 3) := by decide +kernel
theorem dX11_coach_53 : decode cX11_coach 53 = .ok (.ireturn, 1) := by decide +kernel
theorem dX11_coach_54 : decode cX11_coach 54 = .ok (.aload_n 0, 1) := by decide +kernel
theorem dX11_coach_55 : decode cX11_coach 55 = .ok (.getfield 27, 3) := by decide +kernel
theorem dX11_coach_58 : decode cX11_coach 58 = .ok (.getfield 84, 3) := by decide +kernel
theorem dX11_coach_61 : decode cX11_coach 61 = .ok (.getfield 165, 3) := by decide +kernel
theorem dX11_coach_64 : decode cX11_coach 64 = .ok (.ireturn, 1) := by decide +kernel
theorem dX11_coach_65 : decode cX11_coach 65 = .ok (.aload_n 0, 1) := by decide +kernel
theorem dX11_coach_66 : decode cX11_coach 66 = .ok (.getfield 27, 3) := by decide +kernel
theorem dX11_coach_69 : decode cX11_coach 69 = .ok (.getfield 84, 3) := by decide +kernel
theorem dX11_coach_72 : decode cX11_coach 72 = .ok (.invokevirtual 215, 3) := by decide +kernel
theorem dX11_coach_75 : decode cX11_coach 75 = .ok (.ireturn, 1) := by decide +kernel
theorem dX11_coach_76 : decode cX11_coach 76 = .ok (.iconst (-1), 1) := by decide +kernel
theorem dX11_coach_77 : decode cX11_coach 77 = .ok (.ireturn, 1) := by decide +kernel
theorem dX11_seen_0 : decode cX11_seen 0 = .ok (.iload_n 1, 1) := by decide +kernel
theorem dX11_seen_1 : decode cX11_seen 1 = .ok (.iconst (-1), 1) := by decide +kernel
theorem dX11_seen_2 : decode cX11_seen 2 = .ok (.if_icmp .ne 13, 3) := by decide +kernel
theorem dX11_seen_5 : decode cX11_seen 5 = .ok (.aload_n 0, 1) := by decide +kernel
theorem dX11_seen_6 : decode cX11_seen 6 = .ok (.getfield 27, 3) := by decide +kernel
theorem dX11_seen_9 : decode cX11_seen 9 = .ok (.iconst 0, 1) := by decide +kernel
theorem dX11_seen_10 : decode cX11_seen 10 = .ok (.putfield 247, 3) := by decide +kernel
theorem dX11_seen_13 : decode cX11_seen 13 = .ok (.iconst 0, 1) := by decide +kernel
theorem dX11_seen_14 : decode cX11_seen 14 = .ok (.ireturn, 1) := by decide +kernel
theorem dX11_seen_15 : decode cX11_seen 15 = .ok (.iload_n 1, 1) := by decide +kernel
theorem dX11_seen_16 : decode cX11_seen 16 = .ok (.invokestatic 54, 3) := by decide +kernel
theorem dX11_seen_19 : decode cX11_seen 19 = .ok (.ifCond .eq 15, 3) := by decide +kernel
theorem dX11_seen_22 : decode cX11_seen 22 = .ok (.aload_n 0, 1) := by decide +kernel
theorem dX11_seen_23 : decode cX11_seen 23 = .ok (.getfield 27, 3) := by decide +kernel
theorem dX11_seen_26 : decode cX11_seen 26 = .ok (.getfield 247, 3) := by decide +kernel
theorem dX11_seen_29 : decode cX11_seen 29 = .ok (.bipush 6, 2) := by decide +kernel
theorem dX11_seen_31 : decode cX11_seen 31 = .ok (.if_icmp .lt 6, 3) := by decide +kernel
theorem dX11_seen_34 : decode cX11_seen 34 = .ok (.bipush (-2), 2) := by decide +kernel
theorem dX11_seen_36 : decode cX11_seen 36 = .ok (.ireturn, 1) := by decide +kernel
theorem dX11_seen_37 : decode cX11_seen 37 = .ok (.aload_n 0, 1) := by decide +kernel
theorem dX11_seen_38 : decode cX11_seen 38 = .ok (.getfield 27, 3) := by decide +kernel
theorem dX11_seen_41 : decode cX11_seen 41 = .ok (.getfield 250, 3) := by decide +kernel
theorem dX11_seen_44 : decode cX11_seen 44 = .ok (.aload_n 0, 1) := by decide +kernel
theorem dX11_seen_45 : decode cX11_seen 45 = .ok (.getfield 27, 3) := by decide +kernel
theorem dX11_seen_48 : decode cX11_seen 48 = .ok (.getfield 247, 3) := by decide +kernel
theorem dX11_seen_51 : decode cX11_seen 51 = .ok (.iload_n 1, 1) := by decide +kernel
theorem dX11_seen_52 : decode cX11_seen 52 = .ok (.iastore, 1) := by decide +kernel
theorem dX11_seen_53 : decode cX11_seen 53 = .ok (.aload_n 0, 1) := by decide +kernel
theorem dX11_seen_54 : decode cX11_seen 54 = .ok (.getfield 27, 3) := by decide +kernel
theorem dX11_seen_57 : decode cX11_seen 57 = .ok (.dup, 1) := by decide +kernel
theorem dX11_seen_58 : decode cX11_seen 58 = .ok (.getfield 247, 3) := by decide +kernel
theorem dX11_seen_61 : decode cX11_seen 61 = .ok (.iconst 1, 1) := by decide +kernel
theorem dX11_seen_62 : decode cX11_seen 62 = .ok (.iadd, 1) := by decide +kernel
theorem dX11_seen_63 : decode cX11_seen 63 = .ok (.putfield 247, 3) := by decide +kernel
theorem dX11_seen_66 : decode cX11_seen 66 = .ok (.aload_n 0, 1) := by decide +kernel
theorem dX11_seen_67 : decode cX11_seen 67 = .ok (.getfield 27, 3) := by decide +kernel
theorem dX11_seen_70 : decode cX11_seen 70 = .ok (.getfield 247, 3) := by decide +kernel
theorem dX11_seen_73 : decode cX11_seen 73 = .ok (.ireturn, 1) := by decide +kernel
theorem dX11_tried_0 : decode cX11_tried 0 = .ok (.iload_n 1, 1) := by decide +kernel
theorem dX11_tried_1 : decode cX11_tried 1 = .ok (.iconst (-1), 1) := by decide +kernel
theorem dX11_tried_2 : decode cX11_tried 2 = .ok (.if_icmp .ne 13, 3) := by decide +kernel
theorem dX11_tried_5 : decode cX11_tried 5 = .ok (.aload_n 0, 1) := by decide +kernel
theorem dX11_tried_6 : decode cX11_tried 6 = .ok (.getfield 27, 3) := by decide +kernel
theorem dX11_tried_9 : decode cX11_tried 9 = .ok (.iconst 0, 1) := by decide +kernel
theorem dX11_tried_10 : decode cX11_tried 10 = .ok (.putfield 257, 3) := by decide +kernel
theorem dX11_tried_13 : decode cX11_tried 13 = .ok (.iconst 0, 1) := by decide +kernel
theorem dX11_tried_14 : decode cX11_tried 14 = .ok (.ireturn, 1) := by decide +kernel
theorem dX11_tried_15 : decode cX11_tried 15 = .ok (.aload_n 0, 1) := by decide +kernel
theorem dX11_tried_16 : decode cX11_tried 16 = .ok (.iload_n 1, 1) := by decide +kernel
theorem dX11_tried_17 : decode cX11_tried 17 = .ok (.invokevirtual 171, 3) := by decide +kernel
theorem dX11_tried_20 : decode cX11_tried 20 = .ok (.ifCond .eq 29, 3) := by decide +kernel
theorem dX11_tried_23 : decode cX11_tried 23 = .ok (.iload_n 2, 1) := by decide +kernel
theorem dX11_tried_24 : decode cX11_tried 24 = .ok (.invokestatic 54, 3) := by decide +kernel
theorem dX11_tried_27 : decode cX11_tried 27 = .ok (.ifCond .eq 22, 3) := by decide +kernel
theorem dX11_tried_30 : decode cX11_tried 30 = .ok (.iload_n 3, 1) := by decide +kernel
theorem dX11_tried_31 : decode cX11_tried 31 = .ok (.invokestatic 54, 3) := by decide +kernel
theorem dX11_tried_34 : decode cX11_tried 34 = .ok (.ifCond .eq 15, 3) := by decide +kernel
theorem dX11_tried_37 : decode cX11_tried 37 = .ok (.aload_n 0, 1) := by decide +kernel
theorem dX11_tried_38 : decode cX11_tried 38 = .ok (.getfield 27, 3) := by decide +kernel
theorem dX11_tried_41 : decode cX11_tried 41 = .ok (.getfield 257, 3) := by decide +kernel
theorem dX11_tried_44 : decode cX11_tried 44 = .ok (.bipush 10, 2) := by decide +kernel
theorem dX11_tried_46 : decode cX11_tried 46 = .ok (.if_icmp .lt 6, 3) := by decide +kernel
theorem dX11_tried_49 : decode cX11_tried 49 = .ok (.bipush (-2), 2) := by decide +kernel
theorem dX11_tried_51 : decode cX11_tried 51 = .ok (.ireturn, 1) := by decide +kernel
theorem dX11_tried_52 : decode cX11_tried 52 = .ok (.aload_n 0, 1) := by decide +kernel
theorem dX11_tried_53 : decode cX11_tried 53 = .ok (.getfield 27, 3) := by decide +kernel
theorem dX11_tried_56 : decode cX11_tried 56 = .ok (.getfield 260, 3) := by decide +kernel
theorem dX11_tried_59 : decode cX11_tried 59 = .ok (.aload_n 0, 1) := by decide +kernel
theorem dX11_tried_60 : decode cX11_tried 60 = .ok (.getfield 27, 3) := by decide +kernel
theorem dX11_tried_63 : decode cX11_tried 63 = .ok (.getfield 257, 3) := by decide +kernel
theorem dX11_tried_66 : decode cX11_tried 66 = .ok (.iload_n 1, 1) := by decide +kernel
theorem dX11_tried_67 : decode cX11_tried 67 = .ok (.iastore, 1) := by decide +kernel
theorem dX11_tried_68 : decode cX11_tried 68 = .ok (.aload_n 0, 1) := by decide +kernel
theorem dX11_tried_69 : decode cX11_tried 69 = .ok (.getfield 27, 3) := by decide +kernel
theorem dX11_tried_72 : decode cX11_tried 72 = .ok (.getfield 263, 3) := by decide +kernel
theorem dX11_tried_75 : decode cX11_tried 75 = .ok (.aload_n 0, 1) := by decide +kernel
theorem dX11_tried_76 : decode cX11_tried 76 = .ok (.getfield 27, 3) := by decide +kernel
theorem dX11_tried_79 : decode cX11_tried 79 = .ok (.getfield 257, 3) := by decide +kernel
theorem dX11_tried_82 : decode cX11_tried 82 = .ok (.iload_n 2, 1) := by decide +kernel
theorem dX11_tried_83 : decode cX11_tried 83 = .ok (.iastore, 1) := by decide +kernel
theorem dX11_tried_84 : decode cX11_tried 84 = .ok (.aload_n 0, 1) := by decide +kernel
theorem dX11_tried_85 : decode cX11_tried 85 = .ok (.getfield 27, 3) := by decide +kernel
theorem dX11_tried_88 : decode cX11_tried 88 = .ok (.getfield 266, 3) := by decide +kernel
theorem dX11_tried_91 : decode cX11_tried 91 = .ok (.aload_n 0, 1) := by decide +kernel
theorem dX11_tried_92 : decode cX11_tried 92 = .ok (.getfield 27, 3) := by decide +kernel
theorem dX11_tried_95 : decode cX11_tried 95 = .ok (.getfield 257, 3) := by decide +kernel
theorem dX11_tried_98 : decode cX11_tried 98 = .ok (.iload_n 3, 1) := by decide +kernel
theorem dX11_tried_99 : decode cX11_tried 99 = .ok (.iastore, 1) := by decide +kernel
theorem dX11_tried_100 : decode cX11_tried 100 = .ok (.aload_n 0, 1) := by decide +kernel
theorem dX11_tried_101 : decode cX11_tried 101 = .ok (.getfield 27, 3) := by decide +kernel
theorem dX11_tried_104 : decode cX11_tried 104 = .ok (.dup, 1) := by decide +kernel
theorem dX11_tried_105 : decode cX11_tried 105 = .ok (.getfield 257, 3) := by decide +kernel
theorem dX11_tried_108 : decode cX11_tried 108 = .ok (.iconst 1, 1) := by decide +kernel
theorem dX11_tried_109 : decode cX11_tried 109 = .ok (.iadd, 1) := by decide +kernel
theorem dX11_tried_110 : decode cX11_tried 110 = .ok (.putfield 257, 3) := by decide +kernel
theorem dX11_tried_113 : decode cX11_tried 113 = .ok (.aload_n 0, 1) := by decide +kernel
theorem dX11_tried_114 : decode cX11_tried 114 = .ok (.getfield 27, 3) := by decide +kernel
theorem dX11_tried_117 : decode cX11_tried 117 = .ok (.getfield 257, 3) := by decide +kernel
theorem dX11_tried_120 : decode cX11_tried 120 = .ok (.ireturn, 1) := by decide +kernel
theorem dX11_taught_0 : decode cX11_taught 0 = .ok (.iconst 0, 1) := by decide +kernel
theorem dX11_taught_1 : decode cX11_taught 1 = .ok (.istore_n 1, 1) := by decide +kernel
theorem dX11_taught_2 : decode cX11_taught 2 = .ok (.iconst 0, 1) := by decide +kernel
theorem dX11_taught_3 : decode cX11_taught 3 = .ok (.istore_n 2, 1) := by decide +kernel
theorem dX11_taught_4 : decode cX11_taught 4 = .ok (.iload_n 2, 1) := by decide +kernel
theorem dX11_taught_5 : decode cX11_taught 5 = .ok (.aload_n 0, 1) := by decide +kernel
theorem dX11_taught_6 : decode cX11_taught 6 = .ok (.getfield 27, 3) := by decide +kernel
theorem dX11_taught_9 : decode cX11_taught 9 = .ok (.getfield 140, 3) := by decide +kernel
theorem dX11_taught_12 : decode cX11_taught 12 = .ok (.if_icmp .ge 31, 3) := by decide +kernel
theorem dX11_taught_15 : decode cX11_taught 15 = .ok (.aload_n 0, 1) := by decide +kernel
theorem dX11_taught_16 : decode cX11_taught 16 = .ok (.aload_n 0, 1) := by decide +kernel
theorem dX11_taught_17 : decode cX11_taught 17 = .ok (.getfield 20, 3) := by decide +kernel
theorem dX11_taught_20 : decode cX11_taught 20 = .ok (.getfield 143, 3) := by decide +kernel
theorem dX11_taught_23 : decode cX11_taught 23 = .ok (.iload_n 2, 1) := by decide +kernel
theorem dX11_taught_24 : decode cX11_taught 24 = .ok (.aaload, 1) := by decide +kernel
theorem dX11_taught_25 : decode cX11_taught 25 = .ok (.invokevirtual 269, 3) := by decide +kernel
theorem dX11_taught_28 : decode cX11_taught 28 = .ok (.ifCond .eq 9, 3) := by decide +kernel
theorem dX11_taught_31 : decode cX11_taught 31 = .ok (.iload_n 1, 1) := by decide +kernel
theorem dX11_taught_32 : decode cX11_taught 32 = .ok (.iconst 1, 1) := by decide +kernel
theorem dX11_taught_33 : decode cX11_taught 33 = .ok (.iload_n 2, 1) := by decide +kernel
theorem dX11_taught_34 : decode cX11_taught 34 = .ok (.ishl, 1) := by decide +kernel
theorem dX11_taught_35 : decode cX11_taught 35 = .ok (.ior, 1) := by decide +kernel
theorem dX11_taught_36 : decode cX11_taught 36 = .ok (.istore_n 1, 1) := by decide +kernel
theorem dX11_taught_37 : decode cX11_taught 37 = .ok (.iinc 2 1, 3) := by decide +kernel
theorem dX11_taught_40 : decode cX11_taught 40 = .ok (.goto (-36), 3) := by decide +kernel
theorem dX11_taught_43 : decode cX11_taught 43 = .ok (.iload_n 1, 1) := by decide +kernel
theorem dX11_taught_44 : decode cX11_taught 44 = .ok (.ireturn, 1) := by decide +kernel
theorem dX11_never_0 : decode cX11_never 0 = .ok (.iconst 0, 1) := by decide +kernel
theorem dX11_never_1 : decode cX11_never 1 = .ok (.istore_n 1, 1) := by decide +kernel
theorem dX11_never_2 : decode cX11_never 2 = .ok (.iconst 0, 1) := by decide +kernel
theorem dX11_never_3 : decode cX11_never 3 = .ok (.istore_n 2, 1) := by decide +kernel
theorem dX11_never_4 : decode cX11_never 4 = .ok (.iload_n 2, 1) := by decide +kernel
theorem dX11_never_5 : decode cX11_never 5 = .ok (.aload_n 0, 1) := by decide +kernel
theorem dX11_never_6 : decode cX11_never 6 = .ok (.getfield 27, 3) := by decide +kernel
theorem dX11_never_9 : decode cX11_never 9 = .ok (.getfield 84, 3) := by decide +kernel
theorem dX11_never_12 : decode cX11_never 12 = .ok (.getfield 88, 3) := by decide +kernel
theorem dX11_never_15 : decode cX11_never 15 = .ok (.if_icmp .ge 34, 3) := by decide +kernel
theorem dX11_never_18 : decode cX11_never 18 = .ok (.aload_n 0, 1) := by decide +kernel
theorem dX11_never_19 : decode cX11_never 19 = .ok (.aload_n 0, 1) := by decide +kernel
theorem dX11_never_20 : decode cX11_never 20 = .ok (.getfield 27, 3) := by decide +kernel
theorem dX11_never_23 : decode cX11_never 23 = .ok (.getfield 84, 3) := by decide +kernel
theorem dX11_never_26 : decode cX11_never 26 = .ok (.getfield 93, 3) := by decide +kernel
theorem dX11_never_29 : decode cX11_never 29 = .ok (.iload_n 2, 1) := by decide +kernel
theorem dX11_never_30 : decode cX11_never 30 = .ok (.iaload, 1) := by decide +kernel
theorem dX11_never_31 : decode cX11_never 31 = .ok (.invokevirtual 273, 3) := by decide +kernel
theorem dX11_never_34 : decode cX11_never 34 = .ok (.ifCond .ne 9, 3) := by decide +kernel
theorem dX11_never_37 : decode cX11_never 37 = .ok (.iload_n 1, 1) := by decide +kernel
theorem dX11_never_38 : decode cX11_never 38 = .ok (.iconst 1, 1) := by decide +kernel
theorem dX11_never_39 : decode cX11_never 39 = .ok (.iload_n 2, 1) := by decide +kernel
theorem dX11_never_40 : decode cX11_never 40 = .ok (.ishl, 1) := by decide +kernel
theorem dX11_never_41 : decode cX11_never 41 = .ok (.ior, 1) := by decide +kernel
theorem dX11_never_42 : decode cX11_never 42 = .ok (.istore_n 1, 1) := by decide +kernel
theorem dX11_never_43 : decode cX11_never 43 = .ok (.iinc 2 1, 3) := by decide +kernel
theorem dX11_never_46 : decode cX11_never 46 = .ok (.goto (-42), 3) := by decide +kernel
theorem dX11_never_49 : decode cX11_never 49 = .ok (.iload_n 1, 1) := by decide +kernel
theorem dX11_never_50 : decode cX11_never 50 = .ok (.ireturn, 1) := by decide +kernel
theorem dX5_takeBack_0 : decode cX5_takeBack 0 = .ok (.aload_n 0, 1) := by decide +kernel
theorem dX5_takeBack_1 : decode cX5_takeBack 1 = .ok (.getfield 21, 3) := by decide +kernel
theorem dX5_takeBack_4 : decode cX5_takeBack 4 = .ok (.ifCond .ne 5, 3) := by decide +kernel
theorem dX5_takeBack_7 : decode cX5_takeBack 7 = .ok (.iconst 0, 1) := by decide +kernel
theorem dX5_takeBack_8 : decode cX5_takeBack 8 = .ok (.ireturn, 1) := by decide +kernel
theorem dX5_takeBack_9 : decode cX5_takeBack 9 = .ok (.aload_n 0, 1) := by decide +kernel
theorem dX5_takeBack_10 : decode cX5_takeBack 10 = .ok (.aload_n 0, 1) := by decide +kernel
theorem dX5_takeBack_11 : decode cX5_takeBack 11 = .ok (.getfield 17, 3) := by decide +kernel
theorem dX5_takeBack_14 : decode cX5_takeBack 14 = .ok (.bipush 30, 2) := by decide +kernel
theorem dX5_takeBack_16 : decode cX5_takeBack 16 = .ok (.iadd, 1) := by decide +kernel
theorem dX5_takeBack_17 : decode cX5_takeBack 17 = .ok (.iconst 1, 1) := by decide +kernel
theorem dX5_takeBack_18 : decode cX5_takeBack 18 = .ok (.isub, 1) := by decide +kernel
theorem dX5_takeBack_19 : decode cX5_takeBack 19 = .ok (.bipush 30, 2) := by decide +kernel
theorem dX5_takeBack_21 : decode cX5_takeBack 21 = .ok (.irem, 1) := by decide +kernel
theorem dX5_takeBack_22 : decode cX5_takeBack 22 = .ok (.putfield 17, 3) := by decide +kernel
theorem dX5_takeBack_25 : decode cX5_takeBack 25 = .ok (.aload_n 0, 1) := by decide +kernel
theorem dX5_takeBack_26 : decode cX5_takeBack 26 = .ok (.dup, 1) := by decide +kernel
theorem dX5_takeBack_27 : decode cX5_takeBack 27 = .ok (.getfield 21, 3) := by decide +kernel
theorem dX5_takeBack_30 : decode cX5_takeBack 30 = .ok (.iconst 1, 1) := by decide +kernel
theorem dX5_takeBack_31 : decode cX5_takeBack 31 = .ok (.isub, 1) := by decide +kernel
theorem dX5_takeBack_32 : decode cX5_takeBack 32 = .ok (.putfield 21, 3) := by decide +kernel
theorem dX5_takeBack_35 : decode cX5_takeBack 35 = .ok (.aload_n 1, 1) := by decide +kernel
theorem dX5_takeBack_36 : decode cX5_takeBack 36 = .ok (.aload_n 0, 1) := by decide +kernel
theorem dX5_takeBack_37 : decode cX5_takeBack 37 = .ok (.getfield 11, 3) := by decide +kernel
theorem dX5_takeBack_40 : decode cX5_takeBack 40 = .ok (.aload_n 0, 1) := by decide +kernel
theorem dX5_takeBack_41 : decode cX5_takeBack 41 = .ok (.getfield 17, 3) := by decide +kernel
theorem dX5_takeBack_44 : decode cX5_takeBack 44 = .ok (.aaload, 1) := by decide +kernel
theorem dX5_takeBack_45 : decode cX5_takeBack 45 = .ok (.invokevirtual 25, 3) := by decide +kernel
theorem dX5_takeBack_48 : decode cX5_takeBack 48 = .ok (.iconst 1, 1) := by decide +kernel
theorem dX5_takeBack_49 : decode cX5_takeBack 49 = .ok (.ireturn, 1) := by decide +kernel
theorem dX11_undo_0 : decode cX11_undo 0 = .ok (.aload_n 0, 1) := by decide +kernel
theorem dX11_undo_1 : decode cX11_undo 1 = .ok (.getfield 27, 3) := by decide +kernel
theorem dX11_undo_4 : decode cX11_undo 4 = .ok (.getfield 96, 3) := by decide +kernel
theorem dX11_undo_7 : decode cX11_undo 7 = .ok (.aload_n 0, 1) := by decide +kernel
theorem dX11_undo_8 : decode cX11_undo 8 = .ok (.getfield 27, 3) := by decide +kernel
theorem dX11_undo_11 : decode cX11_undo 11 = .ok (.getfield 84, 3) := by decide +kernel
theorem dX11_undo_14 : decode cX11_undo 14 = .ok (.invokevirtual 211, 3) := by decide +kernel
theorem dX11_undo_17 : decode cX11_undo 17 = .ok (.ifCond .ne 5, 3) := by decide +kernel
theorem dX11_undo_20 : decode cX11_undo 20 = .ok (.iconst (-1), 1) := by decide +kernel
theorem dX11_undo_21 : decode cX11_undo 21 = .ok (.ireturn, 1) := by decide +kernel
theorem dX11_undo_22 : decode cX11_undo 22 = .ok (.aload_n 0, 1) := by decide +kernel
theorem dX11_undo_23 : decode cX11_undo 23 = .ok (.getfield 10, 3) := by decide +kernel
theorem dX11_undo_26 : decode cX11_undo 26 = .ok (.invokevirtual 71, 3) := by decide +kernel
theorem dX11_undo_29 : decode cX11_undo 29 = .ok (.aload_n 0, 1) := by decide +kernel
theorem dX11_undo_30 : decode cX11_undo 30 = .ok (.getfield 27, 3) := by decide +kernel
theorem dX11_undo_33 : decode cX11_undo 33 = .ok (.getfield 96, 3) := by decide +kernel
theorem dX11_undo_36 : decode cX11_undo 36 = .ok (.getfield 168, 3) := by decide +kernel
theorem dX11_undo_39 : decode cX11_undo 39 = .ok (.ireturn, 1) := by decide +kernel
theorem dX11_ordersFrom_0 : decode cX11_ordersFrom 0 = .ok (.iload_n 2, 1) := by decide +kernel
theorem dX11_ordersFrom_1 : decode cX11_ordersFrom 1 = .ok (.aload_n 0, 1) := by decide +kernel
theorem dX11_ordersFrom_2 : decode cX11_ordersFrom 2 = .ok (.getfield 27, 3) := by decide +kernel
theorem dX11_ordersFrom_5 : decode cX11_ordersFrom 5 = .ok (.getfield 247, 3) := by decide +kernel
theorem dX11_ordersFrom_8 : decode cX11_ordersFrom 8 = .ok (.if_icmp .lt 5, 3) := by decide +kernel
theorem dX11_ordersFrom_11 : decode cX11_ordersFrom 11 = .ok (.iconst 1, 1) := by decide +kernel
theorem dX11_ordersFrom_12 : decode cX11_ordersFrom 12 = .ok (.ireturn, 1) := by decide +kernel
theorem dX11_ordersFrom_13 : decode cX11_ordersFrom 13 = .ok (.iconst 0, 1) := by decide +kernel
theorem dX11_ordersFrom_14 : decode cX11_ordersFrom 14 = .ok (.istore 4, 2) := by decide +kernel
theorem dX11_ordersFrom_16 : decode cX11_ordersFrom 16 = .ok (.iconst 0, 1) := by decide +kernel
theorem dX11_ordersFrom_17 : decode cX11_ordersFrom 17 = .ok (.istore 5, 2) := by decide +kernel
theorem dX11_ordersFrom_19 : decode cX11_ordersFrom 19 = .ok (.iload 5, 2) := by decide +kernel
theorem dX11_ordersFrom_21 : decode cX11_ordersFrom 21 = .ok (.aload_n 0, 1) := by decide +kernel
theorem dX11_ordersFrom_22 : decode cX11_ordersFrom 22 = .ok (.getfield 27, 3) := by decide +kernel
theorem dX11_ordersFrom_25 : decode cX11_ordersFrom 25 = .ok (.getfield 106, 3) := by decide +kernel
theorem dX11_ordersFrom_28 : decode cX11_ordersFrom 28 = .ok (.getfield 110, 3) := by decide +kernel
theorem dX11_ordersFrom_31 : decode cX11_ordersFrom 31 = .ok (.if_icmp .ge 77, 3) := by decide +kernel
theorem dX11_ordersFrom_34 : decode cX11_ordersFrom 34 = .ok (.iconst 1, 1) := by decide +kernel
theorem dX11_ordersFrom_35 : decode cX11_ordersFrom 35 = .ok (.iload 5, 2) := by decide +kernel
theorem dX11_ordersFrom_37 : decode cX11_ordersFrom 37 = .ok (.ishl, 1) := by decide +kernel
theorem dX11_ordersFrom_38 : decode cX11_ordersFrom 38 = .ok (.istore 6, 2) := by decide +kernel
theorem dX11_ordersFrom_40 : decode cX11_ordersFrom 40 = .ok (.iload_n 3, 1) := by decide +kernel
theorem dX11_ordersFrom_41 : decode cX11_ordersFrom 41 = .ok (.iload 6, 2) := by decide +kernel
theorem dX11_ordersFrom_43 : decode cX11_ordersFrom 43 = .ok (.iand, 1) := by decide +kernel
theorem dX11_ordersFrom_44 : decode cX11_ordersFrom 44 = .ok (.ifCond .ne 58, 3) := by decide +kernel
theorem dX11_ordersFrom_47 : decode cX11_ordersFrom 47 = .ok (.aload_n 0, 1) := by decide +kernel
theorem dX11_ordersFrom_48 : decode cX11_ordersFrom 48 = .ok (.getfield 10, 3) := by decide +kernel
theorem dX11_ordersFrom_51 : decode cX11_ordersFrom 51 = .ok (.getfield 185, 3) := by decide +kernel
theorem dX11_ordersFrom_54 : decode cX11_ordersFrom 54 = .ok (.aload_n 0, 1) := by decide +kernel
theorem dX11_ordersFrom_55 : decode cX11_ordersFrom 55 = .ok (.getfield 10, 3) := by decide +kernel
theorem dX11_ordersFrom_58 : decode cX11_ordersFrom 58 = .ok (.iload 5, 2) := by decide +kernel
theorem dX11_ordersFrom_60 : decode cX11_ordersFrom 60 = .ok (.iload_n 1, 1) := by decide +kernel
theorem dX11_ordersFrom_61 : decode cX11_ordersFrom 61 = .ok (.invokevirtual 181, 3) := by decide +kernel
theorem dX11_ordersFrom_64 : decode cX11_ordersFrom 64 = .ok (.iaload, 1) := by decide +kernel
theorem dX11_ordersFrom_65 : decode cX11_ordersFrom 65 = .ok (.aload_n 0, 1) := by decide +kernel
theorem dX11_ordersFrom_66 : decode cX11_ordersFrom 66 = .ok (.getfield 27, 3) := by decide +kernel
theorem dX11_ordersFrom_69 : decode cX11_ordersFrom 69 = .ok (.getfield 250, 3) := by decide +kernel
theorem dX11_ordersFrom_72 : decode cX11_ordersFrom 72 = .ok (.iload_n 2, 1) := by decide +kernel
theorem dX11_ordersFrom_73 : decode cX11_ordersFrom 73 = .ok (.iaload, 1) := by decide +kernel
theorem dX11_ordersFrom_74 : decode cX11_ordersFrom 74 = .ok (.if_icmp .ne 28, 3) := by decide +kernel
theorem dX11_ordersFrom_77 : decode cX11_ordersFrom 77 = .ok (.iload 4, 2) := by decide +kernel
theorem dX11_ordersFrom_79 : decode cX11_ordersFrom 79 = .ok (.aload_n 0, 1) := by decide +kernel
theorem dX11_ordersFrom_80 : decode cX11_ordersFrom 80 = .ok (.aload_n 0, 1) := by decide +kernel
theorem dX11_ordersFrom_81 : decode cX11_ordersFrom 81 = .ok (.getfield 27, 3) := by decide +kernel
theorem dX11_ordersFrom_84 : decode cX11_ordersFrom 84 = .ok (.getfield 250, 3) := by decide +kernel
theorem dX11_ordersFrom_87 : decode cX11_ordersFrom 87 = .ok (.iload_n 2, 1) := by decide +kernel
theorem dX11_ordersFrom_88 : decode cX11_ordersFrom 88 = .ok (.iaload, 1) := by decide +kernel
theorem dX11_ordersFrom_89 : decode cX11_ordersFrom 89 = .ok (.iload_n 2, 1) := by decide +kernel
theorem dX11_ordersFrom_90 : decode cX11_ordersFrom 90 = .ok (.iconst 1, 1) := by decide +kernel
theorem dX11_ordersFrom_91 : decode cX11_ordersFrom 91 = .ok (.iadd, 1) := by decide +kernel
theorem dX11_ordersFrom_92 : decode cX11_ordersFrom 92 = .ok (.iload_n 3, 1) := by decide +kernel
theorem dX11_ordersFrom_93 : decode cX11_ordersFrom 93 = .ok (.iload 6, 2) := by decide +kernel
theorem dX11_ordersFrom_95 : decode cX11_ordersFrom 95 = .ok (.ior, 1) := by decide +kernel
theorem dX11_ordersFrom_96 : decode cX11_ordersFrom 96 = .ok (.invokevirtual 253, 3) := by decide +kernel
theorem dX11_ordersFrom_99 : decode cX11_ordersFrom 99 = .ok (.iadd, 1) := by decide +kernel
theorem dX11_ordersFrom_100 : decode cX11_ordersFrom 100 = .ok (.istore 4, 2) := by decide +kernel
theorem dX11_ordersFrom_102 : decode cX11_ordersFrom 102 = .ok (.iinc 5 1, 3) := by decide +kernel
theorem dX11_ordersFrom_105 : decode cX11_ordersFrom 105 = .ok (.goto (-86), 3) := by decide +kernel
theorem dX11_ordersFrom_108 : decode cX11_ordersFrom 108 = .ok (.iload 4, 2) := by decide +kernel
theorem dX11_ordersFrom_110 : decode cX11_ordersFrom 110 = .ok (.ireturn, 1) := by decide +kernel
theorem dX11_who_0 : decode cX11_who 0 = .ok (.iload_n 1, 1) := by decide +kernel
theorem dX11_who_1 : decode cX11_who 1 = .ok (.invokestatic 54, 3) := by decide +kernel
theorem dX11_who_4 : decode cX11_who 4 = .ok (.ifCond .eq 20, 3) := by decide +kernel
theorem dX11_who_7 : decode cX11_who 7 = .ok (.iload_n 2, 1) := by decide +kernel
theorem dX11_who_8 : decode cX11_who 8 = .ok (.iconst (-1), 1) := by decide +kernel
theorem dX11_who_9 : decode cX11_who 9 = .ok (.aload_n 0, 1) := by decide +kernel
theorem dX11_who_10 : decode cX11_who 10 = .ok (.getfield 27, 3) := by decide +kernel
theorem dX11_who_13 : decode cX11_who 13 = .ok (.getfield 247, 3) := by decide +kernel
theorem dX11_who_16 : decode cX11_who 16 = .ok (.iconst 1, 1) := by decide +kernel
theorem dX11_who_17 : decode cX11_who 17 = .ok (.isub, 1) := by decide +kernel
theorem dX11_who_18 : decode cX11_who 18 = .ok (.invokestatic 58, 3) := by decide +kernel
theorem dX11_who_21 : decode cX11_who 21 = .ok (.ifCond .ne 6, 3) := by decide +kernel
theorem dX11_who_24 : decode cX11_who 24 = .ok (.bipush (-2), 2) := by decide +kernel
theorem dX11_who_26 : decode cX11_who 26 = .ok (.ireturn, 1) := by decide +kernel
theorem dX11_who_27 : decode cX11_who 27 = .ok (.iload_n 2, 1) := by decide +kernel
theorem dX11_who_28 : decode cX11_who 28 = .ok (.iconst (-1), 1) := by decide +kernel
theorem dX11_who_29 : decode cX11_who 29 = .ok (.if_icmp .ne 11, 3) := by decide +kernel
theorem dX11_who_32 : decode cX11_who 32 = .ok (.aload_n 0, 1) := by decide +kernel
theorem dX11_who_33 : decode cX11_who 33 = .ok (.iload_n 1, 1) := by decide +kernel
theorem dX11_who_34 : decode cX11_who 34 = .ok (.iconst 0, 1) := by decide +kernel
theorem dX11_who_35 : decode cX11_who 35 = .ok (.iconst 0, 1) := by decide +kernel
theorem dX11_who_36 : decode cX11_who 36 = .ok (.invokevirtual 253, 3) := by decide +kernel
theorem dX11_who_39 : decode cX11_who 39 = .ok (.ireturn, 1) := by decide +kernel
theorem dX11_who_40 : decode cX11_who 40 = .ok (.iload_n 2, 1) := by decide +kernel
theorem dX11_who_41 : decode cX11_who 41 = .ok (.ifCond .ne 7, 3) := by decide +kernel
theorem dX11_who_44 : decode cX11_who 44 = .ok (.iload_n 1, 1) := by decide +kernel
theorem dX11_who_45 : decode cX11_who 45 = .ok (.goto 14, 3) := by decide +kernel
theorem dX11_who_48 : decode cX11_who 48 = .ok (.aload_n 0, 1) := by decide +kernel
theorem dX11_who_49 : decode cX11_who 49 = .ok (.getfield 27, 3) := by decide +kernel
theorem dX11_who_52 : decode cX11_who 52 = .ok (.getfield 250, 3) := by decide +kernel
theorem dX11_who_55 : decode cX11_who 55 = .ok (.iload_n 2, 1) := by decide +kernel
theorem dX11_who_56 : decode cX11_who 56 = .ok (.iconst 1, 1) := by decide +kernel
theorem dX11_who_57 : decode cX11_who 57 = .ok (.isub, 1) := by decide +kernel
theorem dX11_who_58 : decode cX11_who 58 = .ok (.iaload, 1) := by decide +kernel
theorem dX11_who_59 : decode cX11_who 59 = .ok (.istore_n 3, 1) := by decide +kernel
theorem dX11_who_60 : decode cX11_who 60 = .ok (.iconst 0, 1) := by decide +kernel
theorem dX11_who_61 : decode cX11_who 61 = .ok (.istore 4, 2) := by decide +kernel
theorem dX11_who_63 : decode cX11_who 63 = .ok (.iconst 0, 1) := by decide +kernel
theorem dX11_who_64 : decode cX11_who 64 = .ok (.istore 5, 2) := by decide +kernel
theorem dX11_who_66 : decode cX11_who 66 = .ok (.iload 5, 2) := by decide +kernel
theorem dX11_who_68 : decode cX11_who 68 = .ok (.aload_n 0, 1) := by decide +kernel
theorem dX11_who_69 : decode cX11_who 69 = .ok (.getfield 27, 3) := by decide +kernel
theorem dX11_who_72 : decode cX11_who 72 = .ok (.getfield 106, 3) := by decide +kernel
theorem dX11_who_75 : decode cX11_who 75 = .ok (.getfield 110, 3) := by decide +kernel
theorem dX11_who_78 : decode cX11_who 78 = .ok (.if_icmp .ge 48, 3) := by decide +kernel
theorem dX11_who_81 : decode cX11_who 81 = .ok (.aload_n 0, 1) := by decide +kernel
theorem dX11_who_82 : decode cX11_who 82 = .ok (.getfield 10, 3) := by decide +kernel
theorem dX11_who_85 : decode cX11_who 85 = .ok (.getfield 185, 3) := by decide +kernel
theorem dX11_who_88 : decode cX11_who 88 = .ok (.aload_n 0, 1) := by decide +kernel
theorem dX11_who_89 : decode cX11_who 89 = .ok (.getfield 10, 3) := by decide +kernel
theorem dX11_who_92 : decode cX11_who 92 = .ok (.iload 5, 2) := by decide +kernel
theorem dX11_who_94 : decode cX11_who 94 = .ok (.iload_n 3, 1) := by decide +kernel
theorem dX11_who_95 : decode cX11_who 95 = .ok (.invokevirtual 181, 3) := by decide +kernel
theorem dX11_who_98 : decode cX11_who 98 = .ok (.iaload, 1) := by decide +kernel
theorem dX11_who_99 : decode cX11_who 99 = .ok (.aload_n 0, 1) := by decide +kernel
theorem dX11_who_100 : decode cX11_who 100 = .ok (.getfield 27, 3) := by decide +kernel
theorem dX11_who_103 : decode cX11_who 103 = .ok (.getfield 250, 3) := by decide +kernel
theorem dX11_who_106 : decode cX11_who 106 = .ok (.iload_n 2, 1) := by decide +kernel
theorem dX11_who_107 : decode cX11_who 107 = .ok (.iaload, 1) := by decide +kernel
theorem dX11_who_108 : decode cX11_who 108 = .ok (.if_icmp .ne 12, 3) := by decide +kernel
theorem dX11_who_111 : decode cX11_who 111 = .ok (.iload 4, 2) := by decide +kernel
theorem dX11_who_113 : decode cX11_who 113 = .ok (.iconst 1, 1) := by decide +kernel
theorem dX11_who_114 : decode cX11_who 114 = .ok (.iload 5, 2) := by decide +kernel
theorem dX11_who_116 : decode cX11_who 116 = .ok (.ishl, 1) := by decide +kernel
theorem dX11_who_117 : decode cX11_who 117 = .ok (.ior, 1) := by decide +kernel
theorem dX11_who_118 : decode cX11_who 118 = .ok (.istore 4, 2) := by decide +kernel
theorem dX11_who_120 : decode cX11_who 120 = .ok (.iinc 5 1, 3) := by decide +kernel
theorem dX11_who_123 : decode cX11_who 123 = .ok (.goto (-57), 3) := by decide +kernel
theorem dX11_who_126 : decode cX11_who 126 = .ok (.iload 4, 2) := by decide +kernel
theorem dX11_who_128 : decode cX11_who 128 = .ok (.ireturn, 1) := by decide +kernel
theorem bw_21 : Cond.selects "CountingHorses" ⟨"CountingHorses", "isHorse", "(I)Z"⟩ ⟨"CountingHorses", "isHorse", "(I)Z"⟩ ∈ BW := bw_at 21 (by decide +kernel) (by decide +kernel)
theorem bw_27 : Cond.selects "CountingHorses" ⟨"CountingHorses", "driveByHand", "(I)Z"⟩ ⟨"CountingHorses", "driveByHand", "(I)Z"⟩ ∈ BW := bw_at 27 (by decide +kernel) (by decide +kernel)
theorem bw_33 : Cond.selects "CountingHorses" ⟨"CountingHorses", "ordersFrom", "(III)I"⟩ ⟨"CountingHorses", "ordersFrom", "(III)I"⟩ ∈ BW := bw_at 33 (by decide +kernel) (by decide +kernel)
theorem bw_80 : Cond.initialized "CountingHorses" ∈ BW := bw_at 80 (by decide +kernel) (by decide +kernel)
theorem bw_81 : Cond.initialized "CountingHorses$Stops" ∈ BW := bw_at 81 (by decide +kernel) (by decide +kernel)
theorem bw_86 : Cond.initialized "CountingHorses$Mail" ∈ BW := bw_at 86 (by decide +kernel) (by decide +kernel)
theorem bw_87 : Cond.initialized "CountingHorses$StepsBack" ∈ BW := bw_at 87 (by decide +kernel) (by decide +kernel)
theorem bw_138 : Cond.fieldLink "CountingHorses" 78 "CountingHorses$Road" "bridgeFrom" "[I" ∈ BW := bw_at 138 (by decide +kernel) (by decide +kernel)
theorem bw_140 : Cond.fieldLink "CountingHorses" 81 "CountingHorses$Road" "bridgeTo" "[I" ∈ BW := bw_at 140 (by decide +kernel) (by decide +kernel)
theorem bw_142 : Cond.fieldLink "CountingHorses" 74 "CountingHorses$Road" "bridges" "I" ∈ BW := bw_at 142 (by decide +kernel) (by decide +kernel)
theorem bw_161 : Cond.fieldLink "CountingHorses" 115 "CountingHorses$Stable" "count" "[I" ∈ BW := bw_at 161 (by decide +kernel) (by decide +kernel)
theorem bw_164 : Cond.fieldLink "CountingHorses" 118 "CountingHorses$Stable" "shoe" "[I" ∈ BW := bw_at 164 (by decide +kernel) (by decide +kernel)
theorem bw_167 : Cond.fieldLink "CountingHorses" 110 "CountingHorses$Stable" "horses" "I" ∈ BW := bw_at 167 (by decide +kernel) (by decide +kernel)
theorem bw_182 : Cond.fieldLink "CountingHorses" 93 "CountingHorses$Mail" "innAt" "[I" ∈ BW := bw_at 182 (by decide +kernel) (by decide +kernel)
theorem bw_183 : Cond.fieldLink "CountingHorses$Mail" 15 "CountingHorses$Mail" "inns" "I" ∈ BW := bw_at 183 (by decide +kernel) (by decide +kernel)
theorem bw_184 : Cond.fieldLink "CountingHorses" 88 "CountingHorses$Mail" "inns" "I" ∈ BW := bw_at 184 (by decide +kernel) (by decide +kernel)
theorem bw_186 : Cond.fieldLink "CountingHorses" 159 "CountingHorses$Mail" "place" "I" ∈ BW := bw_at 186 (by decide +kernel) (by decide +kernel)
theorem bw_188 : Cond.fieldLink "CountingHorses" 162 "CountingHorses$Mail" "oats" "I" ∈ BW := bw_at 188 (by decide +kernel) (by decide +kernel)
theorem bw_190 : Cond.fieldLink "CountingHorses" 165 "CountingHorses$Mail" "drives" "I" ∈ BW := bw_at 190 (by decide +kernel) (by decide +kernel)
theorem bw_195 : Cond.fieldLink "CountingHorses" 124 "CountingHorses$Mail" "x" "I" ∈ BW := bw_at 195 (by decide +kernel) (by decide +kernel)
theorem bw_222 : Cond.fieldLink "CountingHorses$StepsBack" 21 "CountingHorses$StepsBack" "size" "I" ∈ BW := bw_at 222 (by decide +kernel) (by decide +kernel)
theorem bw_223 : Cond.fieldLink "CountingHorses" 168 "CountingHorses$StepsBack" "size" "I" ∈ BW := bw_at 223 (by decide +kernel) (by decide +kernel)
theorem bw_232 : Cond.fieldLink "CountingHorses" 62 "CountingHorses$World" "road" "LCountingHorses$Road;" ∈ BW := bw_at 232 (by decide +kernel) (by decide +kernel)
theorem bw_237 : Cond.fieldLink "CountingHorses" 106 "CountingHorses$World" "stable" "LCountingHorses$Stable;" ∈ BW := bw_at 237 (by decide +kernel) (by decide +kernel)
theorem bw_240 : Cond.fieldLink "CountingHorses" 84 "CountingHorses$World" "mail" "LCountingHorses$Mail;" ∈ BW := bw_at 240 (by decide +kernel) (by decide +kernel)
theorem bw_242 : Cond.fieldLink "CountingHorses" 96 "CountingHorses$World" "stepsBack" "LCountingHorses$StepsBack;" ∈ BW := bw_at 242 (by decide +kernel) (by decide +kernel)
theorem bw_244 : Cond.fieldLink "CountingHorses" 250 "CountingHorses$World" "seenAt" "[I" ∈ BW := bw_at 244 (by decide +kernel) (by decide +kernel)
theorem bw_253 : Cond.fieldLink "CountingHorses" 121 "CountingHorses$World" "slip" "I" ∈ BW := bw_at 253 (by decide +kernel) (by decide +kernel)
theorem bw_255 : Cond.fieldLink "CountingHorses" 140 "CountingHorses$World" "texts" "I" ∈ BW := bw_at 255 (by decide +kernel) (by decide +kernel)
theorem bw_258 : Cond.fieldLink "CountingHorses" 156 "CountingHorses$World" "ruling" "I" ∈ BW := bw_at 258 (by decide +kernel) (by decide +kernel)
theorem bw_260 : Cond.fieldLink "CountingHorses" 247 "CountingHorses$World" "seen" "I" ∈ BW := bw_at 260 (by decide +kernel) (by decide +kernel)
theorem bw_262 : Cond.fieldLink "CountingHorses" 257 "CountingHorses$World" "tried" "I" ∈ BW := bw_at 262 (by decide +kernel) (by decide +kernel)
theorem bw_369 : Cond.fieldLink "CountingHorses$Stops" 28 "CountingHorses$Stops" "age" "I" ∈ BW := bw_at 369 (by decide +kernel) (by decide +kernel)
theorem bw_403 : Cond.fieldLink "CountingHorses" 131 "CountingHorses$Tape" "length" "I" ∈ BW := bw_at 403 (by decide +kernel) (by decide +kernel)
theorem bw_422 : Cond.fieldLink "CountingHorses" 127 "CountingHorses$Reader" "tape" "LCountingHorses$Tape;" ∈ BW := bw_at 422 (by decide +kernel) (by decide +kernel)
theorem bw_424 : Cond.fieldLink "CountingHorses" 150 "CountingHorses$Reader" "fault" "I" ∈ BW := bw_at 424 (by decide +kernel) (by decide +kernel)
theorem bw_426 : Cond.fieldLink "CountingHorses" 153 "CountingHorses$Reader" "faultAt" "I" ∈ BW := bw_at 426 (by decide +kernel) (by decide +kernel)
theorem bw_468 : Cond.fieldLink "CountingHorses" 10 "CountingHorses" "stops" "LCountingHorses$Stops;" ∈ BW := bw_at 468 (by decide +kernel) (by decide +kernel)
theorem bw_470 : Cond.fieldLink "CountingHorses" 27 "CountingHorses" "now" "LCountingHorses$World;" ∈ BW := bw_at 470 (by decide +kernel) (by decide +kernel)
theorem bw_472 : Cond.fieldLink "CountingHorses" 39 "CountingHorses" "reader" "LCountingHorses$Reader;" ∈ BW := bw_at 472 (by decide +kernel) (by decide +kernel)
theorem bw_494 : Cond.methodLink "CountingHorses" 54 ⟨"CountingHorses", "isPlace", "(I)Z"⟩ ∈ BW := bw_at 494 (by decide +kernel) (by decide +kernel)
theorem bw_495 : Cond.static ⟨"CountingHorses", "isPlace", "(I)Z"⟩ ∈ BW := bw_at 495 (by decide +kernel) (by decide +kernel)
theorem bw_496 : Cond.code ⟨"CountingHorses", "isPlace", "(I)Z"⟩ prog_1_method_33_code 1 (some .boolean) ∈ BW := bw_at 496 (by decide +kernel) (by decide +kernel)
theorem bw_497 : Cond.methodLink "CountingHorses" 58 ⟨"CountingHorses", "isWithin", "(III)Z"⟩ ∈ BW := bw_at 497 (by decide +kernel) (by decide +kernel)
theorem bw_498 : Cond.static ⟨"CountingHorses", "isWithin", "(III)Z"⟩ ∈ BW := bw_at 498 (by decide +kernel) (by decide +kernel)
theorem bw_499 : Cond.code ⟨"CountingHorses", "isWithin", "(III)Z"⟩ prog_1_method_31_code 3 (some .boolean) ∈ BW := bw_at 499 (by decide +kernel) (by decide +kernel)
theorem bw_500 : Cond.methodLink "CountingHorses" 71 ⟨"CountingHorses$Stops", "forget", "()V"⟩ ∈ BW := bw_at 500 (by decide +kernel) (by decide +kernel)
theorem bw_501 : Cond.instanceMethod ⟨"CountingHorses$Stops", "forget", "()V"⟩ ∈ BW := bw_at 501 (by decide +kernel) (by decide +kernel)
theorem bw_502 : Cond.selects "CountingHorses$Stops" ⟨"CountingHorses$Stops", "forget", "()V"⟩ ⟨"CountingHorses$Stops", "forget", "()V"⟩ ∈ BW := bw_at 502 (by decide +kernel) (by decide +kernel)
theorem bw_503 : Cond.code ⟨"CountingHorses$Stops", "forget", "()V"⟩ prog_8_method_2_code 1 none ∈ BW := bw_at 503 (by decide +kernel) (by decide +kernel)
theorem bw_803 : Cond.methodLink "CountingHorses" 171 ⟨"CountingHorses", "isHorse", "(I)Z"⟩ ∈ BW := bw_at 803 (by decide +kernel) (by decide +kernel)
theorem bw_805 : Cond.instanceMethod ⟨"CountingHorses", "isHorse", "(I)Z"⟩ ∈ BW := bw_at 805 (by decide +kernel) (by decide +kernel)
theorem bw_806 : Cond.code ⟨"CountingHorses", "isHorse", "(I)Z"⟩ prog_1_method_34_code 2 (some .boolean) ∈ BW := bw_at 806 (by decide +kernel) (by decide +kernel)
theorem bw_871 : Cond.methodLink "CountingHorses" 191 ⟨"CountingHorses", "driveByHand", "(I)Z"⟩ ∈ BW := bw_at 871 (by decide +kernel) (by decide +kernel)
theorem bw_873 : Cond.instanceMethod ⟨"CountingHorses", "driveByHand", "(I)Z"⟩ ∈ BW := bw_at 873 (by decide +kernel) (by decide +kernel)
theorem bw_874 : Cond.code ⟨"CountingHorses", "driveByHand", "(I)Z"⟩ prog_1_method_35_code 3 (some .boolean) ∈ BW := bw_at 874 (by decide +kernel) (by decide +kernel)
theorem bw_892 : Cond.methodLink "CountingHorses" 211 ⟨"CountingHorses$StepsBack", "takeBack", "(LCountingHorses$Mail;)Z"⟩ ∈ BW := bw_at 892 (by decide +kernel) (by decide +kernel)
theorem bw_893 : Cond.instanceMethod ⟨"CountingHorses$StepsBack", "takeBack", "(LCountingHorses$Mail;)Z"⟩ ∈ BW := bw_at 893 (by decide +kernel) (by decide +kernel)
theorem bw_894 : Cond.selects "CountingHorses$StepsBack" ⟨"CountingHorses$StepsBack", "takeBack", "(LCountingHorses$Mail;)Z"⟩ ⟨"CountingHorses$StepsBack", "takeBack", "(LCountingHorses$Mail;)Z"⟩ ∈ BW := bw_at 894 (by decide +kernel) (by decide +kernel)
theorem bw_895 : Cond.code ⟨"CountingHorses$StepsBack", "takeBack", "(LCountingHorses$Mail;)Z"⟩ prog_7_method_3_code 2 (some .boolean) ∈ BW := bw_at 895 (by decide +kernel) (by decide +kernel)
theorem bw_900 : Cond.methodLink "CountingHorses" 215 ⟨"CountingHorses$Mail", "lowestInnHere", "()I"⟩ ∈ BW := bw_at 900 (by decide +kernel) (by decide +kernel)
theorem bw_901 : Cond.instanceMethod ⟨"CountingHorses$Mail", "lowestInnHere", "()I"⟩ ∈ BW := bw_at 901 (by decide +kernel) (by decide +kernel)
theorem bw_902 : Cond.selects "CountingHorses$Mail" ⟨"CountingHorses$Mail", "lowestInnHere", "()I"⟩ ⟨"CountingHorses$Mail", "lowestInnHere", "()I"⟩ ∈ BW := bw_at 902 (by decide +kernel) (by decide +kernel)
theorem bw_903 : Cond.code ⟨"CountingHorses$Mail", "lowestInnHere", "()I"⟩ prog_3_method_2_code 2 (some .int) ∈ BW := bw_at 903 (by decide +kernel) (by decide +kernel)
theorem bw_954 : Cond.methodLink "CountingHorses" 253 ⟨"CountingHorses", "ordersFrom", "(III)I"⟩ ∈ BW := bw_at 954 (by decide +kernel) (by decide +kernel)
theorem bw_956 : Cond.instanceMethod ⟨"CountingHorses", "ordersFrom", "(III)I"⟩ ∈ BW := bw_at 956 (by decide +kernel) (by decide +kernel)
theorem bw_957 : Cond.code ⟨"CountingHorses", "ordersFrom", "(III)I"⟩ prog_1_method_39_code 7 (some .int) ∈ BW := bw_at 957 (by decide +kernel) (by decide +kernel)
set_option maxHeartbeats 4000000 in
set_option maxRecDepth 100000 in
theorem c_X6_forget (l : Launch) (D : va_G) (cI cM cT : ClassId) (st : Nat) (dr : Nat) (s1 : Nat) (s2 : Nat) (s3 : Nat) (g : Int32) : Cv l D (ty3 cI cM cT) yX6_forget cX6_forget 1 0 0 0 [.ref st] ([(st, .inr (6, [.ref dr, .ref s1, .ref s2, .ref s3, .int g]))]) (fun u => u = [(st, .inr (6, [.ref dr, .ref s1, .ref s2, .ref s3, .int (g + 1)]))]) := by
  refine Cv.of (by decide +kernel) (Nat.le_of_ble_eq_true rfl) ?_
  intro p e s m below meth c A ls Z hin hP hD hl
  have hx := Z.1
  have hb := Z.2.1
  have hS : va_S A s.heap s.heap [] := va_S.rf
  have hl : lv_has ls 1 [(0, .ref st)] := hl
  skip
  refine lv_aload_n hx hb dX6_forget_0 rfl (lv_at hl 0 rfl) ?_
  refine lv_dup hx hb dX6_forget_1 rfl ?_
  refine z_get Z i_X6 hP 0 rfl rfl 4 (by decide) bw_369 rfl dX6_forget_2 ?_
  refine lv_iconst (v := 1) hx hb dX6_forget_5 (by decide) ?_
  refine lv_iadd hx hb dX6_forget_6 ?_
  refine z_put Z i_X6 tyX6 tyX6_ok nmX6 hP hD hS 0 rfl rfl 4 (by decide) bw_369 rfl rfl rfl (Nat.le_of_ble_eq_true rfl) dX6_forget_7 (fun H locs hP hD hS => ?_)
  have hP : va_P D vwCl ([(st, .inr (6, [.ref dr, .ref s1, .ref s2, .ref s3, .int (g + 1)]))]) H := hP
  have hD : va_D A ([(st, .inr (6, [.ref dr, .ref s1, .ref s2, .ref s3, .int (g + 1)]))]) := hD
  exact z_vret Z hP hD hS (rfl) dX6_forget_10 (Nat.le_of_ble_eq_true rfl) (Nat.le_of_ble_eq_true rfl)
set_option maxHeartbeats 4000000 in
set_option maxRecDepth 100000 in
theorem c_X11_isHorse (l : Launch) (D : va_G) (cI cM cT : ClassId) (x : Nat) (st : Nat) (dr : Nat) (nw : Nat) (kp : Nat) (rd : Nat) (tm : Nat) (co : Nat) (rO : Nat) (sT : Nat) (mA : Nat) (sB : Nat) (sA : Nat) (tH : Nat) (tF : Nat) (tS : Nat) (cO : Nat) (sH : Nat) (p0 : Int32) : Ci l D (ty3 cI cM cT) yX11_isHorse cX11_isHorse 2 (some .boolean) 0 0 0 [.ref x, .int p0] ([(x, .inr (11, [.ref st, .ref dr, .ref nw, .ref kp, .ref rd, .ref tm, .ref co])), (nw, .inr (10, [.ref rO, .ref sT, .ref mA, .ref sB, .ref sA, .ref tH, .ref tF, .ref tS, .int 0, .int 0, .int (-1), .int 0, .int 0])), (sT, .inr (4, [.ref cO, .ref sH, .int 0]))]) (fun r u => r = 0 ∧ u = [(x, .inr (11, [.ref st, .ref dr, .ref nw, .ref kp, .ref rd, .ref tm, .ref co])), (nw, .inr (10, [.ref rO, .ref sT, .ref mA, .ref sB, .ref sA, .ref tH, .ref tF, .ref tS, .int 0, .int 0, .int (-1), .int 0, .int 0])), (sT, .inr (4, [.ref cO, .ref sH, .int 0]))]) := by
  refine Ci.of (by decide +kernel) (Nat.le_of_ble_eq_true rfl) ?_
  intro p e s m below meth c A ls Z hin hP hD hl
  have hx := Z.1
  have hb := Z.2.1
  have hS : va_S A s.heap s.heap [] := va_S.rf
  have hl : lv_has ls 2 [(0, .ref x), (1, .int p0)] := hl
  skip
  refine lv_iload_n hx hb dX11_isHorse_0 rfl (lv_at hl 1 rfl) ?_
  refine lv_if_lt (tgt := 22) hx hb dX11_isHorse_1 (by decide) (fun c1 => ?_) (fun c1 => ?_)
  · refine lv_iconst (v := 0) hx hb dX11_isHorse_22 (by decide) ?_
    exact z_ret Z rfl hP hD hS (⟨rfl, rfl⟩) dX11_isHorse_23 (Nat.le_of_ble_eq_true rfl) (Nat.le_of_ble_eq_true rfl)
  · refine lv_iload_n hx hb dX11_isHorse_4 rfl (lv_at hl 1 rfl) ?_
    refine lv_aload_n hx hb dX11_isHorse_5 rfl (lv_at hl 0 rfl) ?_
    refine z_get Z i_X11 hP 0 rfl rfl 2 (by decide) bw_470 rfl dX11_isHorse_6 ?_
    refine z_get Z i_X10 hP 1 rfl rfl 1 (by decide) bw_237 rfl dX11_isHorse_9 ?_
    refine z_get Z i_X4 hP 2 rfl rfl 2 (by decide) bw_167 rfl dX11_isHorse_12 ?_
    refine lv_icmp_ge (tgt := 22) hx hb dX11_isHorse_15 (by decide) (fun c2 => ?_) (fun c2 => ?_)
    · refine lv_iconst (v := 0) hx hb dX11_isHorse_22 (by decide) ?_
      exact z_ret Z rfl hP hD hS (⟨rfl, rfl⟩) dX11_isHorse_23 (Nat.le_of_ble_eq_true rfl) (Nat.le_of_ble_eq_true rfl)
    · refine lv_iconst (v := 1) hx hb dX11_isHorse_18 (by decide) ?_
      refine lv_goto (tgt := 23) hx hb dX11_isHorse_19 (by decide) ?_
      exact z_ret Z rfl hP hD hS (⟨(by exfalso; simp only [zlt, zle, zeq, zl_0, zl_1, zl_2, zl_3, zl_4, zl_5, zl_6, zl_7, zl_8, zl_9, zl_10, zl_11, zl_12, zl_13, zl_19, zl_20, zl_30, zl_64, zl_99, zl_100, zl_299, zl_300, zl_399, zl_999, zl_9999, zl_m1, zl_m2, zl_m3, zl_32, zl_280] at c1 c2; omega), rfl⟩) dX11_isHorse_23 (Nat.le_of_ble_eq_true rfl) (Nat.le_of_ble_eq_true rfl)
set_option maxHeartbeats 4000000 in
set_option maxRecDepth 100000 in
theorem c_X1_lowestInnHere (l : Launch) (D : va_G) (cI cM cT : ClassId) (mA : Nat) (iA : Nat) : Ci l D (ty3 cI cM cT) yX1_lowestInnHere cX1_lowestInnHere 2 (some .int) 0 0 0 [.ref mA] ([(mA, .inr (1, [.ref iA, .int 0, .int 0, .int 0, .int 0, .int 0, .int 13]))]) (fun r u => r = (-1) ∧ u = [(mA, .inr (1, [.ref iA, .int 0, .int 0, .int 0, .int 0, .int 0, .int 13]))]) := by
  refine Ci.of (by decide +kernel) (Nat.le_of_ble_eq_true rfl) ?_
  intro p e s m below meth c A ls Z hin hP hD hl
  have hx := Z.1
  have hb := Z.2.1
  have hS : va_S A s.heap s.heap [] := va_S.rf
  have hl : lv_has ls 2 [(0, .ref mA)] := hl
  skip
  refine lv_iconst (v := 0) hx hb dX1_lowestInnHere_0 (by decide) ?_
  refine lv_istore_n (lv' := [(1, .int 0), (0, .ref mA)]) hx hb dX1_lowestInnHere_1 rfl hl (by decide) rfl (fun ls hl => ?_)
  refine lv_iload_n hx hb dX1_lowestInnHere_2 rfl (lv_at hl 0 rfl) ?_
  refine lv_aload_n hx hb dX1_lowestInnHere_3 rfl (lv_at hl 1 rfl) ?_
  refine z_get Z i_X1 hP 0 rfl rfl 1 (by decide) bw_183 rfl dX1_lowestInnHere_4 ?_
  refine lv_icmp_ge (tgt := 31) hx hb dX1_lowestInnHere_7 (by decide) (fun c1 => ?_) (fun h => absurd (by decide) h)
  refine lv_iconst (v := (-1)) hx hb dX1_lowestInnHere_31 (by decide) ?_
  exact z_ret Z rfl hP hD hS (⟨rfl, rfl⟩) dX1_lowestInnHere_32 (Nat.le_of_ble_eq_true rfl) (Nat.le_of_ble_eq_true rfl)
set_option maxHeartbeats 4000000 in
set_option maxRecDepth 100000 in
theorem c_X11_bridge (l : Launch) (D : va_G) (cI cM cT : ClassId) (x : Nat) (st : Nat) (dr : Nat) (nw : Nat) (kp : Nat) (rd : Nat) (tm : Nat) (co : Nat) (rO : Nat) (sT : Nat) (mA : Nat) (sB : Nat) (sA : Nat) (tH : Nat) (tF : Nat) (tS : Nat) (mU : Nat) (bF : Nat) (bT : Nat) (s1 : Nat) (s2 : Nat) (s3 : Nat) (p0 : Int32) (p1 : Int32) : Ci l D (ty3 cI cM cT) yX11_bridge cX11_bridge 4 (some .int) 3 0 0 [.ref x, .int p0, .int p1] ([(x, .inr (11, [.ref st, .ref dr, .ref nw, .ref kp, .ref rd, .ref tm, .ref co])), (nw, .inr (10, [.ref rO, .ref sT, .ref mA, .ref sB, .ref sA, .ref tH, .ref tF, .ref tS, .int 0, .int 0, .int (-1), .int 0, .int 0])), (rO, .inr (3, [.ref mU, .ref bF, .ref bT, .int 0])), (bF, .inl (cI, 4, .inl (fun _ => 0))), (bT, .inl (cI, 4, .inl (fun _ => 0))), (st, .inr (6, [.ref dr, .ref s1, .ref s2, .ref s3, .int 1]))]) (fun r u => r = (if (0 ≤ p0 ∧ p0 < 300) ∧ (0 ≤ p1 ∧ p1 < 300) ∧ p0 < p1 then 1 else (-1))) := by
  refine Ci.of (by decide +kernel) (Nat.le_of_ble_eq_true rfl) ?_
  intro p e s m below meth c A ls Z hin hP hD hl
  have hx := Z.1
  have hb := Z.2.1
  have hS : va_S A s.heap s.heap [] := va_S.rf
  have hl : lv_has ls 4 [(0, .ref x), (1, .int p0), (2, .int p1)] := hl
  skip
  refine lv_aload_n hx hb dX11_bridge_0 rfl (lv_at hl 0 rfl) ?_
  refine z_get Z i_X11 hP 0 rfl rfl 2 (by decide) bw_470 rfl dX11_bridge_1 ?_
  refine z_get Z i_X10 hP 1 rfl rfl 0 (by decide) bw_232 rfl dX11_bridge_4 ?_
  refine lv_astore_n (lv' := [(3, .ref rO), (0, .ref x), (1, .int p0), (2, .int p1)]) hx hb dX11_bridge_7 rfl hl (by decide) rfl (fun ls hl => ?_)
  refine lv_iload_n hx hb dX11_bridge_8 rfl (lv_at hl 2 rfl) ?_
  have hPc := hP.sub2 (wc := []) [] rfl
  have hDc := hD.sub (ws' := []) [] (by decide) rfl
  refine raw_Si (nA := 1) (As := [.int p0]) (rest := []) Z hl.1 (c_X11_isPlace l D cI cM cT p0) (bw_S bw_494 bw_495 bw_80 bw_496) ⟨by decide +kernel, by decide +kernel, by decide +kernel⟩ rfl ⟨Nat.le_of_ble_eq_true rfl, Nat.le_of_ble_eq_true rfl⟩ hPc hDc hS rfl (Nat.le_of_ble_eq_true rfl) dX11_bridge_9 ⟨Nat.le_of_ble_eq_true rfl, Nat.le_of_ble_eq_true rfl⟩ (fun r2 u1 H1 locs1 h3 hku1 hP1 hD1 hS1 => ?_)
  obtain ⟨hrh3, rfl⟩ := h3
  obtain ⟨hP, hD⟩ := z_join (wr := [(x, .inr (11, [.ref st, .ref dr, .ref nw, .ref kp, .ref rd, .ref tm, .ref co])), (nw, .inr (10, [.ref rO, .ref sT, .ref mA, .ref sB, .ref sA, .ref tH, .ref tF, .ref tS, .int 0, .int 0, .int (-1), .int 0, .int 0])), (rO, .inr (3, [.ref mU, .ref bF, .ref bT, .int 0])), (bF, .inl (cI, 4, .inl (fun _ => 0))), (bT, .inl (cI, 4, .inl (fun _ => 0))), (st, .inr (6, [.ref dr, .ref s1, .ref s2, .ref s3, .int 1]))]) Z hS hP hD [] [0, 1, 2, 3, 4, 5] rfl (by decide) rfl (by decide) (by decide) hku1 hP1 hD1
  have hS := hS1
  clear hS1
  generalize H1 = H at hP hS ⊢
  generalize locs1 = locs at hS ⊢
  have hP : va_P D vwCl ([(x, .inr (11, [.ref st, .ref dr, .ref nw, .ref kp, .ref rd, .ref tm, .ref co])), (nw, .inr (10, [.ref rO, .ref sT, .ref mA, .ref sB, .ref sA, .ref tH, .ref tF, .ref tS, .int 0, .int 0, .int (-1), .int 0, .int 0])), (rO, .inr (3, [.ref mU, .ref bF, .ref bT, .int 0])), (bF, .inl (cI, 4, .inl (fun _ => 0))), (bT, .inl (cI, 4, .inl (fun _ => 0))), (st, .inr (6, [.ref dr, .ref s1, .ref s2, .ref s3, .int 1]))]) H := hP
  have hD : va_D A ([(x, .inr (11, [.ref st, .ref dr, .ref nw, .ref kp, .ref rd, .ref tm, .ref co])), (nw, .inr (10, [.ref rO, .ref sT, .ref mA, .ref sB, .ref sA, .ref tH, .ref tF, .ref tS, .int 0, .int 0, .int (-1), .int 0, .int 0])), (rO, .inr (3, [.ref mU, .ref bF, .ref bT, .int 0])), (bF, .inl (cI, 4, .inl (fun _ => 0))), (bT, .inl (cI, 4, .inl (fun _ => 0))), (st, .inr (6, [.ref dr, .ref s1, .ref s2, .ref s3, .int 1]))]) := hD
  by_cases c4 : 0 ≤ p0 ∧ p0 < 300
  · obtain rfl : r2 = 1 := by rw [hrh3, if_pos c4]
    refine lv_if_eq (tgt := 35) hx hb dX11_bridge_12 (by decide) (fun h => absurd h (by decide)) (fun c5 => ?_)
    refine lv_iload_n hx hb dX11_bridge_15 rfl (lv_at hl 3 rfl) ?_
    have hPc := hP.sub2 (wc := []) [] rfl
    have hDc := hD.sub (ws' := []) [] (by decide) rfl
    refine raw_Si (nA := 1) (As := [.int p1]) (rest := []) Z hl.1 (c_X11_isPlace l D cI cM cT p1) (bw_S bw_494 bw_495 bw_80 bw_496) ⟨by decide +kernel, by decide +kernel, by decide +kernel⟩ rfl ⟨Nat.le_of_ble_eq_true rfl, Nat.le_of_ble_eq_true rfl⟩ hPc hDc hS rfl (Nat.le_of_ble_eq_true rfl) dX11_bridge_16 ⟨Nat.le_of_ble_eq_true rfl, Nat.le_of_ble_eq_true rfl⟩ (fun r7 u6 H1 locs1 h8 hku6 hP1 hD1 hS1 => ?_)
    obtain ⟨hrh8, rfl⟩ := h8
    obtain ⟨hP, hD⟩ := z_join (wr := [(x, .inr (11, [.ref st, .ref dr, .ref nw, .ref kp, .ref rd, .ref tm, .ref co])), (nw, .inr (10, [.ref rO, .ref sT, .ref mA, .ref sB, .ref sA, .ref tH, .ref tF, .ref tS, .int 0, .int 0, .int (-1), .int 0, .int 0])), (rO, .inr (3, [.ref mU, .ref bF, .ref bT, .int 0])), (bF, .inl (cI, 4, .inl (fun _ => 0))), (bT, .inl (cI, 4, .inl (fun _ => 0))), (st, .inr (6, [.ref dr, .ref s1, .ref s2, .ref s3, .int 1]))]) Z hS hP hD [] [0, 1, 2, 3, 4, 5] rfl (by decide) rfl (by decide) (by decide) hku6 hP1 hD1
    have hS := hS1
    clear hS1
    generalize H1 = H at hP hS ⊢
    generalize locs1 = locs at hS ⊢
    have hP : va_P D vwCl ([(x, .inr (11, [.ref st, .ref dr, .ref nw, .ref kp, .ref rd, .ref tm, .ref co])), (nw, .inr (10, [.ref rO, .ref sT, .ref mA, .ref sB, .ref sA, .ref tH, .ref tF, .ref tS, .int 0, .int 0, .int (-1), .int 0, .int 0])), (rO, .inr (3, [.ref mU, .ref bF, .ref bT, .int 0])), (bF, .inl (cI, 4, .inl (fun _ => 0))), (bT, .inl (cI, 4, .inl (fun _ => 0))), (st, .inr (6, [.ref dr, .ref s1, .ref s2, .ref s3, .int 1]))]) H := hP
    have hD : va_D A ([(x, .inr (11, [.ref st, .ref dr, .ref nw, .ref kp, .ref rd, .ref tm, .ref co])), (nw, .inr (10, [.ref rO, .ref sT, .ref mA, .ref sB, .ref sA, .ref tH, .ref tF, .ref tS, .int 0, .int 0, .int (-1), .int 0, .int 0])), (rO, .inr (3, [.ref mU, .ref bF, .ref bT, .int 0])), (bF, .inl (cI, 4, .inl (fun _ => 0))), (bT, .inl (cI, 4, .inl (fun _ => 0))), (st, .inr (6, [.ref dr, .ref s1, .ref s2, .ref s3, .int 1]))]) := hD
    by_cases c9 : 0 ≤ p1 ∧ p1 < 300
    · obtain rfl : r7 = 1 := by rw [hrh8, if_pos c9]
      refine lv_if_eq (tgt := 35) hx hb dX11_bridge_19 (by decide) (fun h => absurd h (by decide)) (fun c10 => ?_)
      refine lv_iload_n hx hb dX11_bridge_22 rfl (lv_at hl 2 rfl) ?_
      refine lv_iload_n hx hb dX11_bridge_23 rfl (lv_at hl 3 rfl) ?_
      refine lv_icmp_ge (tgt := 35) hx hb dX11_bridge_24 (by decide) (fun c11 => ?_) (fun c11 => ?_)
      · refine lv_iconst (v := (-1)) hx hb dX11_bridge_35 (by decide) ?_
        exact z_ret Z rfl hP hD hS ((by first | rfl | assumption | (rw [if_pos (by (try simp only [zlt, zle, zeq, zl_0, zl_1, zl_2, zl_3, zl_4, zl_5, zl_6, zl_7, zl_8, zl_9, zl_10, zl_11, zl_12, zl_13, zl_19, zl_20, zl_30, zl_64, zl_99, zl_100, zl_299, zl_300, zl_399, zl_999, zl_9999, zl_m1, zl_m2, zl_m3, zl_32, zl_280] at c4 c5 c9 c10 c11 ⊢); omega)]; first | done | ((try simp only [zlt, zle, zeq, zl_0, zl_1, zl_2, zl_3, zl_4, zl_5, zl_6, zl_7, zl_8, zl_9, zl_10, zl_11, zl_12, zl_13, zl_19, zl_20, zl_30, zl_64, zl_99, zl_100, zl_299, zl_300, zl_399, zl_999, zl_9999, zl_m1, zl_m2, zl_m3, zl_32, zl_280] at c4 c5 c9 c10 c11 ⊢); omega)) | (rw [if_neg (by (try simp only [zlt, zle, zeq, zl_0, zl_1, zl_2, zl_3, zl_4, zl_5, zl_6, zl_7, zl_8, zl_9, zl_10, zl_11, zl_12, zl_13, zl_19, zl_20, zl_30, zl_64, zl_99, zl_100, zl_299, zl_300, zl_399, zl_999, zl_9999, zl_m1, zl_m2, zl_m3, zl_32, zl_280] at c4 c5 c9 c10 c11 ⊢); omega)]; first | done | ((try simp only [zlt, zle, zeq, zl_0, zl_1, zl_2, zl_3, zl_4, zl_5, zl_6, zl_7, zl_8, zl_9, zl_10, zl_11, zl_12, zl_13, zl_19, zl_20, zl_30, zl_64, zl_99, zl_100, zl_299, zl_300, zl_399, zl_999, zl_9999, zl_m1, zl_m2, zl_m3, zl_32, zl_280] at c4 c5 c9 c10 c11 ⊢); omega)))) dX11_bridge_36 (Nat.le_of_ble_eq_true rfl) (Nat.le_of_ble_eq_true rfl)
      · refine lv_aload_n hx hb dX11_bridge_27 rfl (lv_at hl 0 rfl) ?_
        refine z_get Z i_X3 hP 2 rfl rfl 3 (by decide) bw_142 rfl dX11_bridge_28 ?_
        refine lv_iconst (v := 4) hx hb dX11_bridge_31 (by decide) ?_
        refine lv_icmp_lt (tgt := 37) hx hb dX11_bridge_32 (by decide) (fun c12 => ?_) (fun h => absurd (by decide) h)
        refine lv_aload_n hx hb dX11_bridge_37 rfl (lv_at hl 0 rfl) ?_
        refine z_get Z i_X3 hP 2 rfl rfl 1 (by decide) bw_138 rfl dX11_bridge_38 ?_
        refine lv_aload_n hx hb dX11_bridge_41 rfl (lv_at hl 0 rfl) ?_
        refine z_get Z i_X3 hP 2 rfl rfl 3 (by decide) bw_142 rfl dX11_bridge_42 ?_
        refine lv_iload_n hx hb dX11_bridge_45 rfl (lv_at hl 2 rfl) ?_
        refine z_iast Z hP hD hS 3 0 rfl rfl (vin (by decide)) dX11_bridge_46 (fun H locs hP hD hS => ?_)
        have hP : va_P D vwCl ([(x, .inr (11, [.ref st, .ref dr, .ref nw, .ref kp, .ref rd, .ref tm, .ref co])), (nw, .inr (10, [.ref rO, .ref sT, .ref mA, .ref sB, .ref sA, .ref tH, .ref tF, .ref tS, .int 0, .int 0, .int (-1), .int 0, .int 0])), (rO, .inr (3, [.ref mU, .ref bF, .ref bT, .int 0])), (bF, .inl (cI, 4, .inl (upd (fun _ => 0) (0 : Int32).toNatClampNeg p0))), (bT, .inl (cI, 4, .inl (fun _ => 0))), (st, .inr (6, [.ref dr, .ref s1, .ref s2, .ref s3, .int 1]))]) H := hP
        have hD : va_D A ([(x, .inr (11, [.ref st, .ref dr, .ref nw, .ref kp, .ref rd, .ref tm, .ref co])), (nw, .inr (10, [.ref rO, .ref sT, .ref mA, .ref sB, .ref sA, .ref tH, .ref tF, .ref tS, .int 0, .int 0, .int (-1), .int 0, .int 0])), (rO, .inr (3, [.ref mU, .ref bF, .ref bT, .int 0])), (bF, .inl (cI, 4, .inl (upd (fun _ => 0) (0 : Int32).toNatClampNeg p0))), (bT, .inl (cI, 4, .inl (fun _ => 0))), (st, .inr (6, [.ref dr, .ref s1, .ref s2, .ref s3, .int 1]))]) := hD
        refine lv_aload_n hx hb dX11_bridge_47 rfl (lv_at hl 0 rfl) ?_
        refine z_get Z i_X3 hP 2 rfl rfl 2 (by decide) bw_140 rfl dX11_bridge_48 ?_
        refine lv_aload_n hx hb dX11_bridge_51 rfl (lv_at hl 0 rfl) ?_
        refine z_get Z i_X3 hP 2 rfl rfl 3 (by decide) bw_142 rfl dX11_bridge_52 ?_
        refine lv_iload_n hx hb dX11_bridge_55 rfl (lv_at hl 3 rfl) ?_
        refine z_iast Z hP hD hS 4 0 rfl rfl (vin (by decide)) dX11_bridge_56 (fun H locs hP hD hS => ?_)
        have hP : va_P D vwCl ([(x, .inr (11, [.ref st, .ref dr, .ref nw, .ref kp, .ref rd, .ref tm, .ref co])), (nw, .inr (10, [.ref rO, .ref sT, .ref mA, .ref sB, .ref sA, .ref tH, .ref tF, .ref tS, .int 0, .int 0, .int (-1), .int 0, .int 0])), (rO, .inr (3, [.ref mU, .ref bF, .ref bT, .int 0])), (bF, .inl (cI, 4, .inl (upd (fun _ => 0) (0 : Int32).toNatClampNeg p0))), (bT, .inl (cI, 4, .inl (upd (fun _ => 0) (0 : Int32).toNatClampNeg p1))), (st, .inr (6, [.ref dr, .ref s1, .ref s2, .ref s3, .int 1]))]) H := hP
        have hD : va_D A ([(x, .inr (11, [.ref st, .ref dr, .ref nw, .ref kp, .ref rd, .ref tm, .ref co])), (nw, .inr (10, [.ref rO, .ref sT, .ref mA, .ref sB, .ref sA, .ref tH, .ref tF, .ref tS, .int 0, .int 0, .int (-1), .int 0, .int 0])), (rO, .inr (3, [.ref mU, .ref bF, .ref bT, .int 0])), (bF, .inl (cI, 4, .inl (upd (fun _ => 0) (0 : Int32).toNatClampNeg p0))), (bT, .inl (cI, 4, .inl (upd (fun _ => 0) (0 : Int32).toNatClampNeg p1))), (st, .inr (6, [.ref dr, .ref s1, .ref s2, .ref s3, .int 1]))]) := hD
        refine lv_aload_n hx hb dX11_bridge_57 rfl (lv_at hl 0 rfl) ?_
        refine lv_dup hx hb dX11_bridge_58 rfl ?_
        refine z_get Z i_X3 hP 2 rfl rfl 3 (by decide) bw_142 rfl dX11_bridge_59 ?_
        refine lv_iconst (v := 1) hx hb dX11_bridge_62 (by decide) ?_
        refine lv_iadd hx hb dX11_bridge_63 ?_
        refine z_topi (y := 1) (by decide) ?_
        refine z_put Z i_X3 tyX3 tyX3_ok nmX3 hP hD hS 2 rfl rfl 3 (by decide) bw_142 rfl rfl rfl (Nat.le_of_ble_eq_true rfl) dX11_bridge_64 (fun H locs hP hD hS => ?_)
        have hP : va_P D vwCl ([(x, .inr (11, [.ref st, .ref dr, .ref nw, .ref kp, .ref rd, .ref tm, .ref co])), (nw, .inr (10, [.ref rO, .ref sT, .ref mA, .ref sB, .ref sA, .ref tH, .ref tF, .ref tS, .int 0, .int 0, .int (-1), .int 0, .int 0])), (rO, .inr (3, [.ref mU, .ref bF, .ref bT, .int 1])), (bF, .inl (cI, 4, .inl (upd (fun _ => 0) (0 : Int32).toNatClampNeg p0))), (bT, .inl (cI, 4, .inl (upd (fun _ => 0) (0 : Int32).toNatClampNeg p1))), (st, .inr (6, [.ref dr, .ref s1, .ref s2, .ref s3, .int 1]))]) H := hP
        have hD : va_D A ([(x, .inr (11, [.ref st, .ref dr, .ref nw, .ref kp, .ref rd, .ref tm, .ref co])), (nw, .inr (10, [.ref rO, .ref sT, .ref mA, .ref sB, .ref sA, .ref tH, .ref tF, .ref tS, .int 0, .int 0, .int (-1), .int 0, .int 0])), (rO, .inr (3, [.ref mU, .ref bF, .ref bT, .int 1])), (bF, .inl (cI, 4, .inl (upd (fun _ => 0) (0 : Int32).toNatClampNeg p0))), (bT, .inl (cI, 4, .inl (upd (fun _ => 0) (0 : Int32).toNatClampNeg p1))), (st, .inr (6, [.ref dr, .ref s1, .ref s2, .ref s3, .int 1]))]) := hD
        refine lv_aload_n hx hb dX11_bridge_67 rfl (lv_at hl 1 rfl) ?_
        refine z_get Z i_X11 hP 0 rfl rfl 0 (by decide) bw_468 rfl dX11_bridge_68 ?_
        have hPc := hP.sub2 (wc := [(st, .inr (6, [.ref dr, .ref s1, .ref s2, .ref s3, .int 1]))]) [5] rfl
        have hDc := hD.sub (ws' := [(st, .inr (6, [.ref dr, .ref s1, .ref s2, .ref s3, .int 1]))]) [5] (by decide) rfl
        refine raw_Vv (ci := 6) (q0 := 0) (nA := 0) (As := []) (rest := []) Z hl.1 (c_X6_forget l D cI cM cT st dr s1 s2 s3 1) (bw_V bw_500 bw_501 bw_502 bw_81 bw_503) ⟨by decide +kernel, by decide +kernel, by decide +kernel⟩ rfl ⟨Nat.le_of_ble_eq_true rfl, Nat.le_of_ble_eq_true rfl⟩ rfl rfl rfl hPc hDc hS rfl (Nat.le_of_ble_eq_true rfl) dX11_bridge_71 ⟨Nat.le_of_ble_eq_true rfl, Nat.le_of_ble_eq_true rfl⟩ (fun u13 H1 locs1 h15 hku13 hP1 hD1 hS1 => ?_)
        obtain rfl := h15
        obtain ⟨hP, hD⟩ := z_join (wr := [(x, .inr (11, [.ref st, .ref dr, .ref nw, .ref kp, .ref rd, .ref tm, .ref co])), (nw, .inr (10, [.ref rO, .ref sT, .ref mA, .ref sB, .ref sA, .ref tH, .ref tF, .ref tS, .int 0, .int 0, .int (-1), .int 0, .int 0])), (rO, .inr (3, [.ref mU, .ref bF, .ref bT, .int 1])), (bF, .inl (cI, 4, .inl (upd (fun _ => 0) (0 : Int32).toNatClampNeg p0))), (bT, .inl (cI, 4, .inl (upd (fun _ => 0) (0 : Int32).toNatClampNeg p1)))]) Z hS hP hD [5] [0, 1, 2, 3, 4] rfl (by decide) rfl (by decide) (by decide) hku13 hP1 hD1
        have hS := hS1
        clear hS1
        generalize H1 = H at hP hS ⊢
        generalize locs1 = locs at hS ⊢
        have hP : va_P D vwCl ([(x, .inr (11, [.ref st, .ref dr, .ref nw, .ref kp, .ref rd, .ref tm, .ref co])), (nw, .inr (10, [.ref rO, .ref sT, .ref mA, .ref sB, .ref sA, .ref tH, .ref tF, .ref tS, .int 0, .int 0, .int (-1), .int 0, .int 0])), (rO, .inr (3, [.ref mU, .ref bF, .ref bT, .int 1])), (bF, .inl (cI, 4, .inl (upd (fun _ => 0) (0 : Int32).toNatClampNeg p0))), (bT, .inl (cI, 4, .inl (upd (fun _ => 0) (0 : Int32).toNatClampNeg p1))), (st, .inr (6, [.ref dr, .ref s1, .ref s2, .ref s3, .int (1 + 1)]))]) H := hP
        have hD : va_D A ([(x, .inr (11, [.ref st, .ref dr, .ref nw, .ref kp, .ref rd, .ref tm, .ref co])), (nw, .inr (10, [.ref rO, .ref sT, .ref mA, .ref sB, .ref sA, .ref tH, .ref tF, .ref tS, .int 0, .int 0, .int (-1), .int 0, .int 0])), (rO, .inr (3, [.ref mU, .ref bF, .ref bT, .int 1])), (bF, .inl (cI, 4, .inl (upd (fun _ => 0) (0 : Int32).toNatClampNeg p0))), (bT, .inl (cI, 4, .inl (upd (fun _ => 0) (0 : Int32).toNatClampNeg p1))), (st, .inr (6, [.ref dr, .ref s1, .ref s2, .ref s3, .int (1 + 1)]))]) := hD
        refine lv_aload_n hx hb dX11_bridge_74 rfl (lv_at hl 0 rfl) ?_
        refine z_get Z i_X3 hP 2 rfl rfl 3 (by decide) bw_142 rfl dX11_bridge_75 ?_
        exact z_ret Z rfl hP hD hS ((by first | rfl | assumption | (rw [if_pos (by (try simp only [zlt, zle, zeq, zl_0, zl_1, zl_2, zl_3, zl_4, zl_5, zl_6, zl_7, zl_8, zl_9, zl_10, zl_11, zl_12, zl_13, zl_19, zl_20, zl_30, zl_64, zl_99, zl_100, zl_299, zl_300, zl_399, zl_999, zl_9999, zl_m1, zl_m2, zl_m3, zl_32, zl_280] at c4 c5 c9 c10 c11 c12 ⊢); omega)]; first | done | ((try simp only [zlt, zle, zeq, zl_0, zl_1, zl_2, zl_3, zl_4, zl_5, zl_6, zl_7, zl_8, zl_9, zl_10, zl_11, zl_12, zl_13, zl_19, zl_20, zl_30, zl_64, zl_99, zl_100, zl_299, zl_300, zl_399, zl_999, zl_9999, zl_m1, zl_m2, zl_m3, zl_32, zl_280] at c4 c5 c9 c10 c11 c12 ⊢); omega)) | (rw [if_neg (by (try simp only [zlt, zle, zeq, zl_0, zl_1, zl_2, zl_3, zl_4, zl_5, zl_6, zl_7, zl_8, zl_9, zl_10, zl_11, zl_12, zl_13, zl_19, zl_20, zl_30, zl_64, zl_99, zl_100, zl_299, zl_300, zl_399, zl_999, zl_9999, zl_m1, zl_m2, zl_m3, zl_32, zl_280] at c4 c5 c9 c10 c11 c12 ⊢); omega)]; first | done | ((try simp only [zlt, zle, zeq, zl_0, zl_1, zl_2, zl_3, zl_4, zl_5, zl_6, zl_7, zl_8, zl_9, zl_10, zl_11, zl_12, zl_13, zl_19, zl_20, zl_30, zl_64, zl_99, zl_100, zl_299, zl_300, zl_399, zl_999, zl_9999, zl_m1, zl_m2, zl_m3, zl_32, zl_280] at c4 c5 c9 c10 c11 c12 ⊢); omega)))) dX11_bridge_78 (Nat.le_of_ble_eq_true rfl) (Nat.le_of_ble_eq_true rfl)
    · obtain rfl : r7 = 0 := by rw [hrh8, if_neg c9]
      refine lv_if_eq (tgt := 35) hx hb dX11_bridge_19 (by decide) (fun c16 => ?_) (fun h => absurd (by decide) h)
      refine lv_iconst (v := (-1)) hx hb dX11_bridge_35 (by decide) ?_
      exact z_ret Z rfl hP hD hS ((by first | rfl | assumption | (rw [if_pos (by (try simp only [zlt, zle, zeq, zl_0, zl_1, zl_2, zl_3, zl_4, zl_5, zl_6, zl_7, zl_8, zl_9, zl_10, zl_11, zl_12, zl_13, zl_19, zl_20, zl_30, zl_64, zl_99, zl_100, zl_299, zl_300, zl_399, zl_999, zl_9999, zl_m1, zl_m2, zl_m3, zl_32, zl_280] at c4 c5 c9 c16 ⊢); omega)]; first | done | ((try simp only [zlt, zle, zeq, zl_0, zl_1, zl_2, zl_3, zl_4, zl_5, zl_6, zl_7, zl_8, zl_9, zl_10, zl_11, zl_12, zl_13, zl_19, zl_20, zl_30, zl_64, zl_99, zl_100, zl_299, zl_300, zl_399, zl_999, zl_9999, zl_m1, zl_m2, zl_m3, zl_32, zl_280] at c4 c5 c9 c16 ⊢); omega)) | (rw [if_neg (by (try simp only [zlt, zle, zeq, zl_0, zl_1, zl_2, zl_3, zl_4, zl_5, zl_6, zl_7, zl_8, zl_9, zl_10, zl_11, zl_12, zl_13, zl_19, zl_20, zl_30, zl_64, zl_99, zl_100, zl_299, zl_300, zl_399, zl_999, zl_9999, zl_m1, zl_m2, zl_m3, zl_32, zl_280] at c4 c5 c9 c16 ⊢); omega)]; first | done | ((try simp only [zlt, zle, zeq, zl_0, zl_1, zl_2, zl_3, zl_4, zl_5, zl_6, zl_7, zl_8, zl_9, zl_10, zl_11, zl_12, zl_13, zl_19, zl_20, zl_30, zl_64, zl_99, zl_100, zl_299, zl_300, zl_399, zl_999, zl_9999, zl_m1, zl_m2, zl_m3, zl_32, zl_280] at c4 c5 c9 c16 ⊢); omega)))) dX11_bridge_36 (Nat.le_of_ble_eq_true rfl) (Nat.le_of_ble_eq_true rfl)
  · obtain rfl : r2 = 0 := by rw [hrh3, if_neg c4]
    refine lv_if_eq (tgt := 35) hx hb dX11_bridge_12 (by decide) (fun c17 => ?_) (fun h => absurd (by decide) h)
    refine lv_iconst (v := (-1)) hx hb dX11_bridge_35 (by decide) ?_
    exact z_ret Z rfl hP hD hS ((by first | rfl | assumption | (rw [if_pos (by (try simp only [zlt, zle, zeq, zl_0, zl_1, zl_2, zl_3, zl_4, zl_5, zl_6, zl_7, zl_8, zl_9, zl_10, zl_11, zl_12, zl_13, zl_19, zl_20, zl_30, zl_64, zl_99, zl_100, zl_299, zl_300, zl_399, zl_999, zl_9999, zl_m1, zl_m2, zl_m3, zl_32, zl_280] at c4 c17 ⊢); omega)]; first | done | ((try simp only [zlt, zle, zeq, zl_0, zl_1, zl_2, zl_3, zl_4, zl_5, zl_6, zl_7, zl_8, zl_9, zl_10, zl_11, zl_12, zl_13, zl_19, zl_20, zl_30, zl_64, zl_99, zl_100, zl_299, zl_300, zl_399, zl_999, zl_9999, zl_m1, zl_m2, zl_m3, zl_32, zl_280] at c4 c17 ⊢); omega)) | (rw [if_neg (by (try simp only [zlt, zle, zeq, zl_0, zl_1, zl_2, zl_3, zl_4, zl_5, zl_6, zl_7, zl_8, zl_9, zl_10, zl_11, zl_12, zl_13, zl_19, zl_20, zl_30, zl_64, zl_99, zl_100, zl_299, zl_300, zl_399, zl_999, zl_9999, zl_m1, zl_m2, zl_m3, zl_32, zl_280] at c4 c17 ⊢); omega)]; first | done | ((try simp only [zlt, zle, zeq, zl_0, zl_1, zl_2, zl_3, zl_4, zl_5, zl_6, zl_7, zl_8, zl_9, zl_10, zl_11, zl_12, zl_13, zl_19, zl_20, zl_30, zl_64, zl_99, zl_100, zl_299, zl_300, zl_399, zl_999, zl_9999, zl_m1, zl_m2, zl_m3, zl_32, zl_280] at c4 c17 ⊢); omega)))) dX11_bridge_36 (Nat.le_of_ble_eq_true rfl) (Nat.le_of_ble_eq_true rfl)
set_option maxHeartbeats 4000000 in
set_option maxRecDepth 100000 in
theorem c_X11_inn (l : Launch) (D : va_G) (cI cM cT : ClassId) (x : Nat) (st : Nat) (dr : Nat) (nw : Nat) (kp : Nat) (rd : Nat) (tm : Nat) (co : Nat) (rO : Nat) (sT : Nat) (mA : Nat) (sB : Nat) (sA : Nat) (tH : Nat) (tF : Nat) (tS : Nat) (iA : Nat) (p0 : Int32) : Ci l D (ty3 cI cM cT) yX11_inn cX11_inn 3 (some .int) 3 0 0 [.ref x, .int p0] ([(x, .inr (11, [.ref st, .ref dr, .ref nw, .ref kp, .ref rd, .ref tm, .ref co])), (nw, .inr (10, [.ref rO, .ref sT, .ref mA, .ref sB, .ref sA, .ref tH, .ref tF, .ref tS, .int 0, .int 0, .int (-1), .int 0, .int 0])), (mA, .inr (1, [.ref iA, .int 0, .int 0, .int 0, .int 0, .int 0, .int 13])), (iA, .inl (cI, 10, .inl (fun _ => 0)))]) (fun r u => r = (if 0 ≤ p0 ∧ p0 < 300 then 1 else (-1))) := by
  refine Ci.of (by decide +kernel) (Nat.le_of_ble_eq_true rfl) ?_
  intro p e s m below meth c A ls Z hin hP hD hl
  have hx := Z.1
  have hb := Z.2.1
  have hS : va_S A s.heap s.heap [] := va_S.rf
  have hl : lv_has ls 3 [(0, .ref x), (1, .int p0)] := hl
  skip
  refine lv_aload_n hx hb dX11_inn_0 rfl (lv_at hl 0 rfl) ?_
  refine z_get Z i_X11 hP 0 rfl rfl 2 (by decide) bw_470 rfl dX11_inn_1 ?_
  refine z_get Z i_X10 hP 1 rfl rfl 2 (by decide) bw_240 rfl dX11_inn_4 ?_
  refine lv_astore_n (lv' := [(2, .ref mA), (0, .ref x), (1, .int p0)]) hx hb dX11_inn_7 rfl hl (by decide) rfl (fun ls hl => ?_)
  refine lv_iload_n hx hb dX11_inn_8 rfl (lv_at hl 2 rfl) ?_
  have hPc := hP.sub2 (wc := []) [] rfl
  have hDc := hD.sub (ws' := []) [] (by decide) rfl
  refine raw_Si (nA := 1) (As := [.int p0]) (rest := []) Z hl.1 (c_X11_isPlace l D cI cM cT p0) (bw_S bw_494 bw_495 bw_80 bw_496) ⟨by decide +kernel, by decide +kernel, by decide +kernel⟩ rfl ⟨Nat.le_of_ble_eq_true rfl, Nat.le_of_ble_eq_true rfl⟩ hPc hDc hS rfl (Nat.le_of_ble_eq_true rfl) dX11_inn_9 ⟨Nat.le_of_ble_eq_true rfl, Nat.le_of_ble_eq_true rfl⟩ (fun r2 u1 H1 locs1 h3 hku1 hP1 hD1 hS1 => ?_)
  obtain ⟨hrh3, rfl⟩ := h3
  obtain ⟨hP, hD⟩ := z_join (wr := [(x, .inr (11, [.ref st, .ref dr, .ref nw, .ref kp, .ref rd, .ref tm, .ref co])), (nw, .inr (10, [.ref rO, .ref sT, .ref mA, .ref sB, .ref sA, .ref tH, .ref tF, .ref tS, .int 0, .int 0, .int (-1), .int 0, .int 0])), (mA, .inr (1, [.ref iA, .int 0, .int 0, .int 0, .int 0, .int 0, .int 13])), (iA, .inl (cI, 10, .inl (fun _ => 0)))]) Z hS hP hD [] [0, 1, 2, 3] rfl (by decide) rfl (by decide) (by decide) hku1 hP1 hD1
  have hS := hS1
  clear hS1
  generalize H1 = H at hP hS ⊢
  generalize locs1 = locs at hS ⊢
  have hP : va_P D vwCl ([(x, .inr (11, [.ref st, .ref dr, .ref nw, .ref kp, .ref rd, .ref tm, .ref co])), (nw, .inr (10, [.ref rO, .ref sT, .ref mA, .ref sB, .ref sA, .ref tH, .ref tF, .ref tS, .int 0, .int 0, .int (-1), .int 0, .int 0])), (mA, .inr (1, [.ref iA, .int 0, .int 0, .int 0, .int 0, .int 0, .int 13])), (iA, .inl (cI, 10, .inl (fun _ => 0)))]) H := hP
  have hD : va_D A ([(x, .inr (11, [.ref st, .ref dr, .ref nw, .ref kp, .ref rd, .ref tm, .ref co])), (nw, .inr (10, [.ref rO, .ref sT, .ref mA, .ref sB, .ref sA, .ref tH, .ref tF, .ref tS, .int 0, .int 0, .int (-1), .int 0, .int 0])), (mA, .inr (1, [.ref iA, .int 0, .int 0, .int 0, .int 0, .int 0, .int 13])), (iA, .inl (cI, 10, .inl (fun _ => 0)))]) := hD
  by_cases c4 : 0 ≤ p0 ∧ p0 < 300
  · obtain rfl : r2 = 1 := by rw [hrh3, if_pos c4]
    refine lv_if_eq (tgt := 24) hx hb dX11_inn_12 (by decide) (fun h => absurd h (by decide)) (fun c5 => ?_)
    refine lv_aload_n hx hb dX11_inn_15 rfl (lv_at hl 0 rfl) ?_
    refine z_get Z i_X1 hP 2 rfl rfl 1 (by decide) bw_184 rfl dX11_inn_16 ?_
    refine lv_bipush (v := 10) hx hb dX11_inn_19 (by decide) ?_
    refine lv_icmp_lt (tgt := 26) hx hb dX11_inn_21 (by decide) (fun c6 => ?_) (fun h => absurd (by decide) h)
    refine lv_aload_n hx hb dX11_inn_26 rfl (lv_at hl 0 rfl) ?_
    refine z_get Z i_X1 hP 2 rfl rfl 0 (by decide) bw_182 rfl dX11_inn_27 ?_
    refine lv_aload_n hx hb dX11_inn_30 rfl (lv_at hl 0 rfl) ?_
    refine z_get Z i_X1 hP 2 rfl rfl 1 (by decide) bw_184 rfl dX11_inn_31 ?_
    refine lv_iload_n hx hb dX11_inn_34 rfl (lv_at hl 2 rfl) ?_
    refine z_iast Z hP hD hS 3 0 rfl rfl (vin (by decide)) dX11_inn_35 (fun H locs hP hD hS => ?_)
    have hP : va_P D vwCl ([(x, .inr (11, [.ref st, .ref dr, .ref nw, .ref kp, .ref rd, .ref tm, .ref co])), (nw, .inr (10, [.ref rO, .ref sT, .ref mA, .ref sB, .ref sA, .ref tH, .ref tF, .ref tS, .int 0, .int 0, .int (-1), .int 0, .int 0])), (mA, .inr (1, [.ref iA, .int 0, .int 0, .int 0, .int 0, .int 0, .int 13])), (iA, .inl (cI, 10, .inl (upd (fun _ => 0) (0 : Int32).toNatClampNeg p0)))]) H := hP
    have hD : va_D A ([(x, .inr (11, [.ref st, .ref dr, .ref nw, .ref kp, .ref rd, .ref tm, .ref co])), (nw, .inr (10, [.ref rO, .ref sT, .ref mA, .ref sB, .ref sA, .ref tH, .ref tF, .ref tS, .int 0, .int 0, .int (-1), .int 0, .int 0])), (mA, .inr (1, [.ref iA, .int 0, .int 0, .int 0, .int 0, .int 0, .int 13])), (iA, .inl (cI, 10, .inl (upd (fun _ => 0) (0 : Int32).toNatClampNeg p0)))]) := hD
    refine lv_aload_n hx hb dX11_inn_36 rfl (lv_at hl 0 rfl) ?_
    refine lv_dup hx hb dX11_inn_37 rfl ?_
    refine z_get Z i_X1 hP 2 rfl rfl 1 (by decide) bw_184 rfl dX11_inn_38 ?_
    refine lv_iconst (v := 1) hx hb dX11_inn_41 (by decide) ?_
    refine lv_iadd hx hb dX11_inn_42 ?_
    refine z_topi (y := 1) (by decide) ?_
    refine z_put Z i_X1 tyX1 tyX1_ok nmX1 hP hD hS 2 rfl rfl 1 (by decide) bw_184 rfl rfl rfl (Nat.le_of_ble_eq_true rfl) dX11_inn_43 (fun H locs hP hD hS => ?_)
    have hP : va_P D vwCl ([(x, .inr (11, [.ref st, .ref dr, .ref nw, .ref kp, .ref rd, .ref tm, .ref co])), (nw, .inr (10, [.ref rO, .ref sT, .ref mA, .ref sB, .ref sA, .ref tH, .ref tF, .ref tS, .int 0, .int 0, .int (-1), .int 0, .int 0])), (mA, .inr (1, [.ref iA, .int 1, .int 0, .int 0, .int 0, .int 0, .int 13])), (iA, .inl (cI, 10, .inl (upd (fun _ => 0) (0 : Int32).toNatClampNeg p0)))]) H := hP
    have hD : va_D A ([(x, .inr (11, [.ref st, .ref dr, .ref nw, .ref kp, .ref rd, .ref tm, .ref co])), (nw, .inr (10, [.ref rO, .ref sT, .ref mA, .ref sB, .ref sA, .ref tH, .ref tF, .ref tS, .int 0, .int 0, .int (-1), .int 0, .int 0])), (mA, .inr (1, [.ref iA, .int 1, .int 0, .int 0, .int 0, .int 0, .int 13])), (iA, .inl (cI, 10, .inl (upd (fun _ => 0) (0 : Int32).toNatClampNeg p0)))]) := hD
    refine lv_aload_n hx hb dX11_inn_46 rfl (lv_at hl 0 rfl) ?_
    refine z_get Z i_X1 hP 2 rfl rfl 1 (by decide) bw_184 rfl dX11_inn_47 ?_
    exact z_ret Z rfl hP hD hS ((by first | rfl | assumption | (rw [if_pos (by (try simp only [zlt, zle, zeq, zl_0, zl_1, zl_2, zl_3, zl_4, zl_5, zl_6, zl_7, zl_8, zl_9, zl_10, zl_11, zl_12, zl_13, zl_19, zl_20, zl_30, zl_64, zl_99, zl_100, zl_299, zl_300, zl_399, zl_999, zl_9999, zl_m1, zl_m2, zl_m3, zl_32, zl_280] at c4 c5 c6 ⊢); omega)]; first | done | ((try simp only [zlt, zle, zeq, zl_0, zl_1, zl_2, zl_3, zl_4, zl_5, zl_6, zl_7, zl_8, zl_9, zl_10, zl_11, zl_12, zl_13, zl_19, zl_20, zl_30, zl_64, zl_99, zl_100, zl_299, zl_300, zl_399, zl_999, zl_9999, zl_m1, zl_m2, zl_m3, zl_32, zl_280] at c4 c5 c6 ⊢); omega)) | (rw [if_neg (by (try simp only [zlt, zle, zeq, zl_0, zl_1, zl_2, zl_3, zl_4, zl_5, zl_6, zl_7, zl_8, zl_9, zl_10, zl_11, zl_12, zl_13, zl_19, zl_20, zl_30, zl_64, zl_99, zl_100, zl_299, zl_300, zl_399, zl_999, zl_9999, zl_m1, zl_m2, zl_m3, zl_32, zl_280] at c4 c5 c6 ⊢); omega)]; first | done | ((try simp only [zlt, zle, zeq, zl_0, zl_1, zl_2, zl_3, zl_4, zl_5, zl_6, zl_7, zl_8, zl_9, zl_10, zl_11, zl_12, zl_13, zl_19, zl_20, zl_30, zl_64, zl_99, zl_100, zl_299, zl_300, zl_399, zl_999, zl_9999, zl_m1, zl_m2, zl_m3, zl_32, zl_280] at c4 c5 c6 ⊢); omega)))) dX11_inn_50 (Nat.le_of_ble_eq_true rfl) (Nat.le_of_ble_eq_true rfl)
  · obtain rfl : r2 = 0 := by rw [hrh3, if_neg c4]
    refine lv_if_eq (tgt := 24) hx hb dX11_inn_12 (by decide) (fun c7 => ?_) (fun h => absurd (by decide) h)
    refine lv_iconst (v := (-1)) hx hb dX11_inn_24 (by decide) ?_
    exact z_ret Z rfl hP hD hS ((by first | rfl | assumption | (rw [if_pos (by (try simp only [zlt, zle, zeq, zl_0, zl_1, zl_2, zl_3, zl_4, zl_5, zl_6, zl_7, zl_8, zl_9, zl_10, zl_11, zl_12, zl_13, zl_19, zl_20, zl_30, zl_64, zl_99, zl_100, zl_299, zl_300, zl_399, zl_999, zl_9999, zl_m1, zl_m2, zl_m3, zl_32, zl_280] at c4 c7 ⊢); omega)]; first | done | ((try simp only [zlt, zle, zeq, zl_0, zl_1, zl_2, zl_3, zl_4, zl_5, zl_6, zl_7, zl_8, zl_9, zl_10, zl_11, zl_12, zl_13, zl_19, zl_20, zl_30, zl_64, zl_99, zl_100, zl_299, zl_300, zl_399, zl_999, zl_9999, zl_m1, zl_m2, zl_m3, zl_32, zl_280] at c4 c7 ⊢); omega)) | (rw [if_neg (by (try simp only [zlt, zle, zeq, zl_0, zl_1, zl_2, zl_3, zl_4, zl_5, zl_6, zl_7, zl_8, zl_9, zl_10, zl_11, zl_12, zl_13, zl_19, zl_20, zl_30, zl_64, zl_99, zl_100, zl_299, zl_300, zl_399, zl_999, zl_9999, zl_m1, zl_m2, zl_m3, zl_32, zl_280] at c4 c7 ⊢); omega)]; first | done | ((try simp only [zlt, zle, zeq, zl_0, zl_1, zl_2, zl_3, zl_4, zl_5, zl_6, zl_7, zl_8, zl_9, zl_10, zl_11, zl_12, zl_13, zl_19, zl_20, zl_30, zl_64, zl_99, zl_100, zl_299, zl_300, zl_399, zl_999, zl_9999, zl_m1, zl_m2, zl_m3, zl_32, zl_280] at c4 c7 ⊢); omega)))) dX11_inn_25 (Nat.le_of_ble_eq_true rfl) (Nat.le_of_ble_eq_true rfl)
set_option maxHeartbeats 4000000 in
set_option maxRecDepth 100000 in
theorem c_X11_move (l : Launch) (D : va_G) (cI cM cT : ClassId) (x : Nat) (st : Nat) (dr : Nat) (nw : Nat) (kp : Nat) (rd : Nat) (tm : Nat) (co : Nat) (rO : Nat) (sT : Nat) (mA : Nat) (sB : Nat) (sA : Nat) (tH : Nat) (tF : Nat) (tS : Nat) (iA : Nat) (p0 : Int32) (p1 : Int32) : Ci l D (ty3 cI cM cT) yX11_move cX11_move 4 (some .boolean) 3 0 0 [.ref x, .int p0, .int p1] ([(x, .inr (11, [.ref st, .ref dr, .ref nw, .ref kp, .ref rd, .ref tm, .ref co])), (nw, .inr (10, [.ref rO, .ref sT, .ref mA, .ref sB, .ref sA, .ref tH, .ref tF, .ref tS, .int 0, .int 0, .int (-1), .int 0, .int 0])), (mA, .inr (1, [.ref iA, .int 0, .int 0, .int 0, .int 0, .int 0, .int 13]))]) (fun r u => r = 0) := by
  refine Ci.of (by decide +kernel) (Nat.le_of_ble_eq_true rfl) ?_
  intro p e s m below meth c A ls Z hin hP hD hl
  have hx := Z.1
  have hb := Z.2.1
  have hS : va_S A s.heap s.heap [] := va_S.rf
  have hl : lv_has ls 4 [(0, .ref x), (1, .int p0), (2, .int p1)] := hl
  skip
  refine lv_aload_n hx hb dX11_move_0 rfl (lv_at hl 0 rfl) ?_
  refine z_get Z i_X11 hP 0 rfl rfl 2 (by decide) bw_470 rfl dX11_move_1 ?_
  refine z_get Z i_X10 hP 1 rfl rfl 2 (by decide) bw_240 rfl dX11_move_4 ?_
  refine lv_astore_n (lv' := [(3, .ref mA), (0, .ref x), (1, .int p0), (2, .int p1)]) hx hb dX11_move_7 rfl hl (by decide) rfl (fun ls hl => ?_)
  refine lv_iload_n hx hb dX11_move_8 rfl (lv_at hl 2 rfl) ?_
  refine lv_iconst (v := 0) hx hb dX11_move_9 (by decide) ?_
  refine lv_aload_n hx hb dX11_move_10 rfl (lv_at hl 0 rfl) ?_
  refine z_get Z i_X1 hP 2 rfl rfl 1 (by decide) bw_184 rfl dX11_move_11 ?_
  refine lv_iconst (v := 1) hx hb dX11_move_14 (by decide) ?_
  refine lv_isub hx hb dX11_move_15 ?_
  refine z_topi (y := (-1)) (by decide) ?_
  have hPc := hP.sub2 (wc := []) [] rfl
  have hDc := hD.sub (ws' := []) [] (by decide) rfl
  refine raw_Si (nA := 3) (As := [.int p0, .int 0, .int (-1)]) (rest := []) Z hl.1 (c_X11_isWithin l D cI cM cT p0 0 (-1)) (bw_S bw_497 bw_498 bw_80 bw_499) ⟨by decide +kernel, by decide +kernel, by decide +kernel⟩ rfl ⟨Nat.le_of_ble_eq_true rfl, Nat.le_of_ble_eq_true rfl⟩ hPc hDc hS rfl (Nat.le_of_ble_eq_true rfl) dX11_move_16 ⟨Nat.le_of_ble_eq_true rfl, Nat.le_of_ble_eq_true rfl⟩ (fun r2 u1 H1 locs1 h3 hku1 hP1 hD1 hS1 => ?_)
  obtain ⟨hrh3, rfl⟩ := h3
  obtain ⟨hP, hD⟩ := z_join (wr := [(x, .inr (11, [.ref st, .ref dr, .ref nw, .ref kp, .ref rd, .ref tm, .ref co])), (nw, .inr (10, [.ref rO, .ref sT, .ref mA, .ref sB, .ref sA, .ref tH, .ref tF, .ref tS, .int 0, .int 0, .int (-1), .int 0, .int 0])), (mA, .inr (1, [.ref iA, .int 0, .int 0, .int 0, .int 0, .int 0, .int 13]))]) Z hS hP hD [] [0, 1, 2] rfl (by decide) rfl (by decide) (by decide) hku1 hP1 hD1
  have hS := hS1
  clear hS1
  generalize H1 = H at hP hS ⊢
  generalize locs1 = locs at hS ⊢
  have hP : va_P D vwCl ([(x, .inr (11, [.ref st, .ref dr, .ref nw, .ref kp, .ref rd, .ref tm, .ref co])), (nw, .inr (10, [.ref rO, .ref sT, .ref mA, .ref sB, .ref sA, .ref tH, .ref tF, .ref tS, .int 0, .int 0, .int (-1), .int 0, .int 0])), (mA, .inr (1, [.ref iA, .int 0, .int 0, .int 0, .int 0, .int 0, .int 13]))]) H := hP
  have hD : va_D A ([(x, .inr (11, [.ref st, .ref dr, .ref nw, .ref kp, .ref rd, .ref tm, .ref co])), (nw, .inr (10, [.ref rO, .ref sT, .ref mA, .ref sB, .ref sA, .ref tH, .ref tF, .ref tS, .int 0, .int 0, .int (-1), .int 0, .int 0])), (mA, .inr (1, [.ref iA, .int 0, .int 0, .int 0, .int 0, .int 0, .int 13]))]) := hD
  obtain rfl : r2 = 0 := by rw [hrh3, if_neg (by simp only [zlt, zle, zeq, zl_0, zl_1, zl_2, zl_3, zl_4, zl_5, zl_6, zl_7, zl_8, zl_9, zl_10, zl_11, zl_12, zl_13, zl_19, zl_20, zl_30, zl_64, zl_99, zl_100, zl_299, zl_300, zl_399, zl_999, zl_9999, zl_m1, zl_m2, zl_m3, zl_32, zl_280]; omega)]
  refine lv_if_eq (tgt := 39) hx hb dX11_move_19 (by decide) (fun c5 => ?_) (fun h => absurd (by decide) h)
  refine lv_iconst (v := 0) hx hb dX11_move_39 (by decide) ?_
  exact z_ret Z rfl hP hD hS ((by first | rfl | assumption)) dX11_move_40 (Nat.le_of_ble_eq_true rfl) (Nat.le_of_ble_eq_true rfl)
set_option maxHeartbeats 4000000 in
set_option maxRecDepth 100000 in
theorem c_X11_horse (l : Launch) (D : va_G) (cI cM cT : ClassId) (x : Nat) (st : Nat) (dr : Nat) (nw : Nat) (kp : Nat) (rd : Nat) (tm : Nat) (co : Nat) (rO : Nat) (sT : Nat) (mA : Nat) (sB : Nat) (sA : Nat) (tH : Nat) (tF : Nat) (tS : Nat) (cO : Nat) (sH : Nat) (s1 : Nat) (s2 : Nat) (s3 : Nat) (p0 : Int32) (p1 : Int32) : Ci l D (ty3 cI cM cT) yX11_horse cX11_horse 4 (some .int) 3 0 0 [.ref x, .int p0, .int p1] ([(x, .inr (11, [.ref st, .ref dr, .ref nw, .ref kp, .ref rd, .ref tm, .ref co])), (nw, .inr (10, [.ref rO, .ref sT, .ref mA, .ref sB, .ref sA, .ref tH, .ref tF, .ref tS, .int 0, .int 0, .int (-1), .int 0, .int 0])), (sT, .inr (4, [.ref cO, .ref sH, .int 0])), (cO, .inl (cI, 6, .inl (fun _ => 0))), (sH, .inl (cI, 6, .inl (fun _ => 0))), (st, .inr (6, [.ref dr, .ref s1, .ref s2, .ref s3, .int 1]))]) (fun r u => r = (if (1 ≤ p0 ∧ p0 ≤ 99) ∧ (1 ≤ p1 ∧ p1 ≤ 9) then 0 else (-1))) := by
  refine Ci.of (by decide +kernel) (Nat.le_of_ble_eq_true rfl) ?_
  intro p e s m below meth c A ls Z hin hP hD hl
  have hx := Z.1
  have hb := Z.2.1
  have hS : va_S A s.heap s.heap [] := va_S.rf
  have hl : lv_has ls 4 [(0, .ref x), (1, .int p0), (2, .int p1)] := hl
  skip
  refine lv_aload_n hx hb dX11_horse_0 rfl (lv_at hl 0 rfl) ?_
  refine z_get Z i_X11 hP 0 rfl rfl 2 (by decide) bw_470 rfl dX11_horse_1 ?_
  refine z_get Z i_X10 hP 1 rfl rfl 1 (by decide) bw_237 rfl dX11_horse_4 ?_
  refine lv_astore_n (lv' := [(3, .ref sT), (0, .ref x), (1, .int p0), (2, .int p1)]) hx hb dX11_horse_7 rfl hl (by decide) rfl (fun ls hl => ?_)
  refine lv_iload_n hx hb dX11_horse_8 rfl (lv_at hl 2 rfl) ?_
  refine lv_iconst (v := 1) hx hb dX11_horse_9 (by decide) ?_
  refine lv_bipush (v := 99) hx hb dX11_horse_10 (by decide) ?_
  have hPc := hP.sub2 (wc := []) [] rfl
  have hDc := hD.sub (ws' := []) [] (by decide) rfl
  refine raw_Si (nA := 3) (As := [.int p0, .int 1, .int 99]) (rest := []) Z hl.1 (c_X11_isWithin l D cI cM cT p0 1 99) (bw_S bw_497 bw_498 bw_80 bw_499) ⟨by decide +kernel, by decide +kernel, by decide +kernel⟩ rfl ⟨Nat.le_of_ble_eq_true rfl, Nat.le_of_ble_eq_true rfl⟩ hPc hDc hS rfl (Nat.le_of_ble_eq_true rfl) dX11_horse_12 ⟨Nat.le_of_ble_eq_true rfl, Nat.le_of_ble_eq_true rfl⟩ (fun r2 u1 H1 locs1 h3 hku1 hP1 hD1 hS1 => ?_)
  obtain ⟨hrh3, rfl⟩ := h3
  obtain ⟨hP, hD⟩ := z_join (wr := [(x, .inr (11, [.ref st, .ref dr, .ref nw, .ref kp, .ref rd, .ref tm, .ref co])), (nw, .inr (10, [.ref rO, .ref sT, .ref mA, .ref sB, .ref sA, .ref tH, .ref tF, .ref tS, .int 0, .int 0, .int (-1), .int 0, .int 0])), (sT, .inr (4, [.ref cO, .ref sH, .int 0])), (cO, .inl (cI, 6, .inl (fun _ => 0))), (sH, .inl (cI, 6, .inl (fun _ => 0))), (st, .inr (6, [.ref dr, .ref s1, .ref s2, .ref s3, .int 1]))]) Z hS hP hD [] [0, 1, 2, 3, 4, 5] rfl (by decide) rfl (by decide) (by decide) hku1 hP1 hD1
  have hS := hS1
  clear hS1
  generalize H1 = H at hP hS ⊢
  generalize locs1 = locs at hS ⊢
  have hP : va_P D vwCl ([(x, .inr (11, [.ref st, .ref dr, .ref nw, .ref kp, .ref rd, .ref tm, .ref co])), (nw, .inr (10, [.ref rO, .ref sT, .ref mA, .ref sB, .ref sA, .ref tH, .ref tF, .ref tS, .int 0, .int 0, .int (-1), .int 0, .int 0])), (sT, .inr (4, [.ref cO, .ref sH, .int 0])), (cO, .inl (cI, 6, .inl (fun _ => 0))), (sH, .inl (cI, 6, .inl (fun _ => 0))), (st, .inr (6, [.ref dr, .ref s1, .ref s2, .ref s3, .int 1]))]) H := hP
  have hD : va_D A ([(x, .inr (11, [.ref st, .ref dr, .ref nw, .ref kp, .ref rd, .ref tm, .ref co])), (nw, .inr (10, [.ref rO, .ref sT, .ref mA, .ref sB, .ref sA, .ref tH, .ref tF, .ref tS, .int 0, .int 0, .int (-1), .int 0, .int 0])), (sT, .inr (4, [.ref cO, .ref sH, .int 0])), (cO, .inl (cI, 6, .inl (fun _ => 0))), (sH, .inl (cI, 6, .inl (fun _ => 0))), (st, .inr (6, [.ref dr, .ref s1, .ref s2, .ref s3, .int 1]))]) := hD
  by_cases c4 : 1 ≤ p0 ∧ p0 ≤ 99
  · obtain rfl : r2 = 1 := by rw [hrh3, if_pos c4]
    refine lv_if_eq (tgt := 37) hx hb dX11_horse_15 (by decide) (fun h => absurd h (by decide)) (fun c5 => ?_)
    refine lv_iload_n hx hb dX11_horse_18 rfl (lv_at hl 3 rfl) ?_
    refine lv_iconst (v := 1) hx hb dX11_horse_19 (by decide) ?_
    refine lv_bipush (v := 9) hx hb dX11_horse_20 (by decide) ?_
    have hPc := hP.sub2 (wc := []) [] rfl
    have hDc := hD.sub (ws' := []) [] (by decide) rfl
    refine raw_Si (nA := 3) (As := [.int p1, .int 1, .int 9]) (rest := []) Z hl.1 (c_X11_isWithin l D cI cM cT p1 1 9) (bw_S bw_497 bw_498 bw_80 bw_499) ⟨by decide +kernel, by decide +kernel, by decide +kernel⟩ rfl ⟨Nat.le_of_ble_eq_true rfl, Nat.le_of_ble_eq_true rfl⟩ hPc hDc hS rfl (Nat.le_of_ble_eq_true rfl) dX11_horse_22 ⟨Nat.le_of_ble_eq_true rfl, Nat.le_of_ble_eq_true rfl⟩ (fun r7 u6 H1 locs1 h8 hku6 hP1 hD1 hS1 => ?_)
    obtain ⟨hrh8, rfl⟩ := h8
    obtain ⟨hP, hD⟩ := z_join (wr := [(x, .inr (11, [.ref st, .ref dr, .ref nw, .ref kp, .ref rd, .ref tm, .ref co])), (nw, .inr (10, [.ref rO, .ref sT, .ref mA, .ref sB, .ref sA, .ref tH, .ref tF, .ref tS, .int 0, .int 0, .int (-1), .int 0, .int 0])), (sT, .inr (4, [.ref cO, .ref sH, .int 0])), (cO, .inl (cI, 6, .inl (fun _ => 0))), (sH, .inl (cI, 6, .inl (fun _ => 0))), (st, .inr (6, [.ref dr, .ref s1, .ref s2, .ref s3, .int 1]))]) Z hS hP hD [] [0, 1, 2, 3, 4, 5] rfl (by decide) rfl (by decide) (by decide) hku6 hP1 hD1
    have hS := hS1
    clear hS1
    generalize H1 = H at hP hS ⊢
    generalize locs1 = locs at hS ⊢
    have hP : va_P D vwCl ([(x, .inr (11, [.ref st, .ref dr, .ref nw, .ref kp, .ref rd, .ref tm, .ref co])), (nw, .inr (10, [.ref rO, .ref sT, .ref mA, .ref sB, .ref sA, .ref tH, .ref tF, .ref tS, .int 0, .int 0, .int (-1), .int 0, .int 0])), (sT, .inr (4, [.ref cO, .ref sH, .int 0])), (cO, .inl (cI, 6, .inl (fun _ => 0))), (sH, .inl (cI, 6, .inl (fun _ => 0))), (st, .inr (6, [.ref dr, .ref s1, .ref s2, .ref s3, .int 1]))]) H := hP
    have hD : va_D A ([(x, .inr (11, [.ref st, .ref dr, .ref nw, .ref kp, .ref rd, .ref tm, .ref co])), (nw, .inr (10, [.ref rO, .ref sT, .ref mA, .ref sB, .ref sA, .ref tH, .ref tF, .ref tS, .int 0, .int 0, .int (-1), .int 0, .int 0])), (sT, .inr (4, [.ref cO, .ref sH, .int 0])), (cO, .inl (cI, 6, .inl (fun _ => 0))), (sH, .inl (cI, 6, .inl (fun _ => 0))), (st, .inr (6, [.ref dr, .ref s1, .ref s2, .ref s3, .int 1]))]) := hD
    by_cases c9 : 1 ≤ p1 ∧ p1 ≤ 9
    · obtain rfl : r7 = 1 := by rw [hrh8, if_pos c9]
      refine lv_if_eq (tgt := 37) hx hb dX11_horse_25 (by decide) (fun h => absurd h (by decide)) (fun c10 => ?_)
      refine lv_aload_n hx hb dX11_horse_28 rfl (lv_at hl 0 rfl) ?_
      refine z_get Z i_X4 hP 2 rfl rfl 2 (by decide) bw_167 rfl dX11_horse_29 ?_
      refine lv_bipush (v := 6) hx hb dX11_horse_32 (by decide) ?_
      refine lv_icmp_lt (tgt := 39) hx hb dX11_horse_34 (by decide) (fun c11 => ?_) (fun h => absurd (by decide) h)
      refine lv_aload_n hx hb dX11_horse_39 rfl (lv_at hl 0 rfl) ?_
      refine z_get Z i_X4 hP 2 rfl rfl 0 (by decide) bw_161 rfl dX11_horse_40 ?_
      refine lv_aload_n hx hb dX11_horse_43 rfl (lv_at hl 0 rfl) ?_
      refine z_get Z i_X4 hP 2 rfl rfl 2 (by decide) bw_167 rfl dX11_horse_44 ?_
      refine lv_iload_n hx hb dX11_horse_47 rfl (lv_at hl 2 rfl) ?_
      refine z_iast Z hP hD hS 3 0 rfl rfl (vin (by decide)) dX11_horse_48 (fun H locs hP hD hS => ?_)
      have hP : va_P D vwCl ([(x, .inr (11, [.ref st, .ref dr, .ref nw, .ref kp, .ref rd, .ref tm, .ref co])), (nw, .inr (10, [.ref rO, .ref sT, .ref mA, .ref sB, .ref sA, .ref tH, .ref tF, .ref tS, .int 0, .int 0, .int (-1), .int 0, .int 0])), (sT, .inr (4, [.ref cO, .ref sH, .int 0])), (cO, .inl (cI, 6, .inl (upd (fun _ => 0) (0 : Int32).toNatClampNeg p0))), (sH, .inl (cI, 6, .inl (fun _ => 0))), (st, .inr (6, [.ref dr, .ref s1, .ref s2, .ref s3, .int 1]))]) H := hP
      have hD : va_D A ([(x, .inr (11, [.ref st, .ref dr, .ref nw, .ref kp, .ref rd, .ref tm, .ref co])), (nw, .inr (10, [.ref rO, .ref sT, .ref mA, .ref sB, .ref sA, .ref tH, .ref tF, .ref tS, .int 0, .int 0, .int (-1), .int 0, .int 0])), (sT, .inr (4, [.ref cO, .ref sH, .int 0])), (cO, .inl (cI, 6, .inl (upd (fun _ => 0) (0 : Int32).toNatClampNeg p0))), (sH, .inl (cI, 6, .inl (fun _ => 0))), (st, .inr (6, [.ref dr, .ref s1, .ref s2, .ref s3, .int 1]))]) := hD
      refine lv_aload_n hx hb dX11_horse_49 rfl (lv_at hl 0 rfl) ?_
      refine z_get Z i_X4 hP 2 rfl rfl 1 (by decide) bw_164 rfl dX11_horse_50 ?_
      refine lv_aload_n hx hb dX11_horse_53 rfl (lv_at hl 0 rfl) ?_
      refine z_get Z i_X4 hP 2 rfl rfl 2 (by decide) bw_167 rfl dX11_horse_54 ?_
      refine lv_iload_n hx hb dX11_horse_57 rfl (lv_at hl 3 rfl) ?_
      refine z_iast Z hP hD hS 4 0 rfl rfl (vin (by decide)) dX11_horse_58 (fun H locs hP hD hS => ?_)
      have hP : va_P D vwCl ([(x, .inr (11, [.ref st, .ref dr, .ref nw, .ref kp, .ref rd, .ref tm, .ref co])), (nw, .inr (10, [.ref rO, .ref sT, .ref mA, .ref sB, .ref sA, .ref tH, .ref tF, .ref tS, .int 0, .int 0, .int (-1), .int 0, .int 0])), (sT, .inr (4, [.ref cO, .ref sH, .int 0])), (cO, .inl (cI, 6, .inl (upd (fun _ => 0) (0 : Int32).toNatClampNeg p0))), (sH, .inl (cI, 6, .inl (upd (fun _ => 0) (0 : Int32).toNatClampNeg p1))), (st, .inr (6, [.ref dr, .ref s1, .ref s2, .ref s3, .int 1]))]) H := hP
      have hD : va_D A ([(x, .inr (11, [.ref st, .ref dr, .ref nw, .ref kp, .ref rd, .ref tm, .ref co])), (nw, .inr (10, [.ref rO, .ref sT, .ref mA, .ref sB, .ref sA, .ref tH, .ref tF, .ref tS, .int 0, .int 0, .int (-1), .int 0, .int 0])), (sT, .inr (4, [.ref cO, .ref sH, .int 0])), (cO, .inl (cI, 6, .inl (upd (fun _ => 0) (0 : Int32).toNatClampNeg p0))), (sH, .inl (cI, 6, .inl (upd (fun _ => 0) (0 : Int32).toNatClampNeg p1))), (st, .inr (6, [.ref dr, .ref s1, .ref s2, .ref s3, .int 1]))]) := hD
      refine lv_aload_n hx hb dX11_horse_59 rfl (lv_at hl 0 rfl) ?_
      refine lv_dup hx hb dX11_horse_60 rfl ?_
      refine z_get Z i_X4 hP 2 rfl rfl 2 (by decide) bw_167 rfl dX11_horse_61 ?_
      refine lv_iconst (v := 1) hx hb dX11_horse_64 (by decide) ?_
      refine lv_iadd hx hb dX11_horse_65 ?_
      refine z_topi (y := 1) (by decide) ?_
      refine z_put Z i_X4 tyX4 tyX4_ok nmX4 hP hD hS 2 rfl rfl 2 (by decide) bw_167 rfl rfl rfl (Nat.le_of_ble_eq_true rfl) dX11_horse_66 (fun H locs hP hD hS => ?_)
      have hP : va_P D vwCl ([(x, .inr (11, [.ref st, .ref dr, .ref nw, .ref kp, .ref rd, .ref tm, .ref co])), (nw, .inr (10, [.ref rO, .ref sT, .ref mA, .ref sB, .ref sA, .ref tH, .ref tF, .ref tS, .int 0, .int 0, .int (-1), .int 0, .int 0])), (sT, .inr (4, [.ref cO, .ref sH, .int 1])), (cO, .inl (cI, 6, .inl (upd (fun _ => 0) (0 : Int32).toNatClampNeg p0))), (sH, .inl (cI, 6, .inl (upd (fun _ => 0) (0 : Int32).toNatClampNeg p1))), (st, .inr (6, [.ref dr, .ref s1, .ref s2, .ref s3, .int 1]))]) H := hP
      have hD : va_D A ([(x, .inr (11, [.ref st, .ref dr, .ref nw, .ref kp, .ref rd, .ref tm, .ref co])), (nw, .inr (10, [.ref rO, .ref sT, .ref mA, .ref sB, .ref sA, .ref tH, .ref tF, .ref tS, .int 0, .int 0, .int (-1), .int 0, .int 0])), (sT, .inr (4, [.ref cO, .ref sH, .int 1])), (cO, .inl (cI, 6, .inl (upd (fun _ => 0) (0 : Int32).toNatClampNeg p0))), (sH, .inl (cI, 6, .inl (upd (fun _ => 0) (0 : Int32).toNatClampNeg p1))), (st, .inr (6, [.ref dr, .ref s1, .ref s2, .ref s3, .int 1]))]) := hD
      refine lv_aload_n hx hb dX11_horse_69 rfl (lv_at hl 1 rfl) ?_
      refine z_get Z i_X11 hP 0 rfl rfl 0 (by decide) bw_468 rfl dX11_horse_70 ?_
      have hPc := hP.sub2 (wc := [(st, .inr (6, [.ref dr, .ref s1, .ref s2, .ref s3, .int 1]))]) [5] rfl
      have hDc := hD.sub (ws' := [(st, .inr (6, [.ref dr, .ref s1, .ref s2, .ref s3, .int 1]))]) [5] (by decide) rfl
      refine raw_Vv (ci := 6) (q0 := 0) (nA := 0) (As := []) (rest := []) Z hl.1 (c_X6_forget l D cI cM cT st dr s1 s2 s3 1) (bw_V bw_500 bw_501 bw_502 bw_81 bw_503) ⟨by decide +kernel, by decide +kernel, by decide +kernel⟩ rfl ⟨Nat.le_of_ble_eq_true rfl, Nat.le_of_ble_eq_true rfl⟩ rfl rfl rfl hPc hDc hS rfl (Nat.le_of_ble_eq_true rfl) dX11_horse_73 ⟨Nat.le_of_ble_eq_true rfl, Nat.le_of_ble_eq_true rfl⟩ (fun u12 H1 locs1 h14 hku12 hP1 hD1 hS1 => ?_)
      obtain rfl := h14
      obtain ⟨hP, hD⟩ := z_join (wr := [(x, .inr (11, [.ref st, .ref dr, .ref nw, .ref kp, .ref rd, .ref tm, .ref co])), (nw, .inr (10, [.ref rO, .ref sT, .ref mA, .ref sB, .ref sA, .ref tH, .ref tF, .ref tS, .int 0, .int 0, .int (-1), .int 0, .int 0])), (sT, .inr (4, [.ref cO, .ref sH, .int 1])), (cO, .inl (cI, 6, .inl (upd (fun _ => 0) (0 : Int32).toNatClampNeg p0))), (sH, .inl (cI, 6, .inl (upd (fun _ => 0) (0 : Int32).toNatClampNeg p1)))]) Z hS hP hD [5] [0, 1, 2, 3, 4] rfl (by decide) rfl (by decide) (by decide) hku12 hP1 hD1
      have hS := hS1
      clear hS1
      generalize H1 = H at hP hS ⊢
      generalize locs1 = locs at hS ⊢
      have hP : va_P D vwCl ([(x, .inr (11, [.ref st, .ref dr, .ref nw, .ref kp, .ref rd, .ref tm, .ref co])), (nw, .inr (10, [.ref rO, .ref sT, .ref mA, .ref sB, .ref sA, .ref tH, .ref tF, .ref tS, .int 0, .int 0, .int (-1), .int 0, .int 0])), (sT, .inr (4, [.ref cO, .ref sH, .int 1])), (cO, .inl (cI, 6, .inl (upd (fun _ => 0) (0 : Int32).toNatClampNeg p0))), (sH, .inl (cI, 6, .inl (upd (fun _ => 0) (0 : Int32).toNatClampNeg p1))), (st, .inr (6, [.ref dr, .ref s1, .ref s2, .ref s3, .int (1 + 1)]))]) H := hP
      have hD : va_D A ([(x, .inr (11, [.ref st, .ref dr, .ref nw, .ref kp, .ref rd, .ref tm, .ref co])), (nw, .inr (10, [.ref rO, .ref sT, .ref mA, .ref sB, .ref sA, .ref tH, .ref tF, .ref tS, .int 0, .int 0, .int (-1), .int 0, .int 0])), (sT, .inr (4, [.ref cO, .ref sH, .int 1])), (cO, .inl (cI, 6, .inl (upd (fun _ => 0) (0 : Int32).toNatClampNeg p0))), (sH, .inl (cI, 6, .inl (upd (fun _ => 0) (0 : Int32).toNatClampNeg p1))), (st, .inr (6, [.ref dr, .ref s1, .ref s2, .ref s3, .int (1 + 1)]))]) := hD
      refine lv_aload_n hx hb dX11_horse_76 rfl (lv_at hl 0 rfl) ?_
      refine z_get Z i_X4 hP 2 rfl rfl 2 (by decide) bw_167 rfl dX11_horse_77 ?_
      refine lv_iconst (v := 1) hx hb dX11_horse_80 (by decide) ?_
      refine lv_isub hx hb dX11_horse_81 ?_
      refine z_topi (y := 0) (by decide) ?_
      exact z_ret Z rfl hP hD hS ((by first | rfl | assumption | (rw [if_pos (by (try simp only [zlt, zle, zeq, zl_0, zl_1, zl_2, zl_3, zl_4, zl_5, zl_6, zl_7, zl_8, zl_9, zl_10, zl_11, zl_12, zl_13, zl_19, zl_20, zl_30, zl_64, zl_99, zl_100, zl_299, zl_300, zl_399, zl_999, zl_9999, zl_m1, zl_m2, zl_m3, zl_32, zl_280] at c4 c5 c9 c10 c11 ⊢); omega)]; first | done | ((try simp only [zlt, zle, zeq, zl_0, zl_1, zl_2, zl_3, zl_4, zl_5, zl_6, zl_7, zl_8, zl_9, zl_10, zl_11, zl_12, zl_13, zl_19, zl_20, zl_30, zl_64, zl_99, zl_100, zl_299, zl_300, zl_399, zl_999, zl_9999, zl_m1, zl_m2, zl_m3, zl_32, zl_280] at c4 c5 c9 c10 c11 ⊢); omega)) | (rw [if_neg (by (try simp only [zlt, zle, zeq, zl_0, zl_1, zl_2, zl_3, zl_4, zl_5, zl_6, zl_7, zl_8, zl_9, zl_10, zl_11, zl_12, zl_13, zl_19, zl_20, zl_30, zl_64, zl_99, zl_100, zl_299, zl_300, zl_399, zl_999, zl_9999, zl_m1, zl_m2, zl_m3, zl_32, zl_280] at c4 c5 c9 c10 c11 ⊢); omega)]; first | done | ((try simp only [zlt, zle, zeq, zl_0, zl_1, zl_2, zl_3, zl_4, zl_5, zl_6, zl_7, zl_8, zl_9, zl_10, zl_11, zl_12, zl_13, zl_19, zl_20, zl_30, zl_64, zl_99, zl_100, zl_299, zl_300, zl_399, zl_999, zl_9999, zl_m1, zl_m2, zl_m3, zl_32, zl_280] at c4 c5 c9 c10 c11 ⊢); omega)))) dX11_horse_82 (Nat.le_of_ble_eq_true rfl) (Nat.le_of_ble_eq_true rfl)
    · obtain rfl : r7 = 0 := by rw [hrh8, if_neg c9]
      refine lv_if_eq (tgt := 37) hx hb dX11_horse_25 (by decide) (fun c15 => ?_) (fun h => absurd (by decide) h)
      refine lv_iconst (v := (-1)) hx hb dX11_horse_37 (by decide) ?_
      exact z_ret Z rfl hP hD hS ((by first | rfl | assumption | (rw [if_pos (by (try simp only [zlt, zle, zeq, zl_0, zl_1, zl_2, zl_3, zl_4, zl_5, zl_6, zl_7, zl_8, zl_9, zl_10, zl_11, zl_12, zl_13, zl_19, zl_20, zl_30, zl_64, zl_99, zl_100, zl_299, zl_300, zl_399, zl_999, zl_9999, zl_m1, zl_m2, zl_m3, zl_32, zl_280] at c4 c5 c9 c15 ⊢); omega)]; first | done | ((try simp only [zlt, zle, zeq, zl_0, zl_1, zl_2, zl_3, zl_4, zl_5, zl_6, zl_7, zl_8, zl_9, zl_10, zl_11, zl_12, zl_13, zl_19, zl_20, zl_30, zl_64, zl_99, zl_100, zl_299, zl_300, zl_399, zl_999, zl_9999, zl_m1, zl_m2, zl_m3, zl_32, zl_280] at c4 c5 c9 c15 ⊢); omega)) | (rw [if_neg (by (try simp only [zlt, zle, zeq, zl_0, zl_1, zl_2, zl_3, zl_4, zl_5, zl_6, zl_7, zl_8, zl_9, zl_10, zl_11, zl_12, zl_13, zl_19, zl_20, zl_30, zl_64, zl_99, zl_100, zl_299, zl_300, zl_399, zl_999, zl_9999, zl_m1, zl_m2, zl_m3, zl_32, zl_280] at c4 c5 c9 c15 ⊢); omega)]; first | done | ((try simp only [zlt, zle, zeq, zl_0, zl_1, zl_2, zl_3, zl_4, zl_5, zl_6, zl_7, zl_8, zl_9, zl_10, zl_11, zl_12, zl_13, zl_19, zl_20, zl_30, zl_64, zl_99, zl_100, zl_299, zl_300, zl_399, zl_999, zl_9999, zl_m1, zl_m2, zl_m3, zl_32, zl_280] at c4 c5 c9 c15 ⊢); omega)))) dX11_horse_38 (Nat.le_of_ble_eq_true rfl) (Nat.le_of_ble_eq_true rfl)
  · obtain rfl : r2 = 0 := by rw [hrh3, if_neg c4]
    refine lv_if_eq (tgt := 37) hx hb dX11_horse_15 (by decide) (fun c16 => ?_) (fun h => absurd (by decide) h)
    refine lv_iconst (v := (-1)) hx hb dX11_horse_37 (by decide) ?_
    exact z_ret Z rfl hP hD hS ((by first | rfl | assumption | (rw [if_pos (by (try simp only [zlt, zle, zeq, zl_0, zl_1, zl_2, zl_3, zl_4, zl_5, zl_6, zl_7, zl_8, zl_9, zl_10, zl_11, zl_12, zl_13, zl_19, zl_20, zl_30, zl_64, zl_99, zl_100, zl_299, zl_300, zl_399, zl_999, zl_9999, zl_m1, zl_m2, zl_m3, zl_32, zl_280] at c4 c16 ⊢); omega)]; first | done | ((try simp only [zlt, zle, zeq, zl_0, zl_1, zl_2, zl_3, zl_4, zl_5, zl_6, zl_7, zl_8, zl_9, zl_10, zl_11, zl_12, zl_13, zl_19, zl_20, zl_30, zl_64, zl_99, zl_100, zl_299, zl_300, zl_399, zl_999, zl_9999, zl_m1, zl_m2, zl_m3, zl_32, zl_280] at c4 c16 ⊢); omega)) | (rw [if_neg (by (try simp only [zlt, zle, zeq, zl_0, zl_1, zl_2, zl_3, zl_4, zl_5, zl_6, zl_7, zl_8, zl_9, zl_10, zl_11, zl_12, zl_13, zl_19, zl_20, zl_30, zl_64, zl_99, zl_100, zl_299, zl_300, zl_399, zl_999, zl_9999, zl_m1, zl_m2, zl_m3, zl_32, zl_280] at c4 c16 ⊢); omega)]; first | done | ((try simp only [zlt, zle, zeq, zl_0, zl_1, zl_2, zl_3, zl_4, zl_5, zl_6, zl_7, zl_8, zl_9, zl_10, zl_11, zl_12, zl_13, zl_19, zl_20, zl_30, zl_64, zl_99, zl_100, zl_299, zl_300, zl_399, zl_999, zl_9999, zl_m1, zl_m2, zl_m3, zl_32, zl_280] at c4 c16 ⊢); omega)))) dX11_horse_38 (Nat.le_of_ble_eq_true rfl) (Nat.le_of_ble_eq_true rfl)
set_option maxHeartbeats 4000000 in
set_option maxRecDepth 100000 in
theorem c_X11_weather (l : Launch) (D : va_G) (cI cM cT : ClassId) (x : Nat) (st : Nat) (dr : Nat) (nw : Nat) (kp : Nat) (rd : Nat) (tm : Nat) (co : Nat) (rO : Nat) (sT : Nat) (mA : Nat) (sB : Nat) (sA : Nat) (tH : Nat) (tF : Nat) (tS : Nat) (iA : Nat) (p0 : Int32) (p1 : Int32) : Ci l D (ty3 cI cM cT) yX11_weather cX11_weather 3 (some .boolean) 3 0 0 [.ref x, .int p0, .int p1] ([(x, .inr (11, [.ref st, .ref dr, .ref nw, .ref kp, .ref rd, .ref tm, .ref co])), (nw, .inr (10, [.ref rO, .ref sT, .ref mA, .ref sB, .ref sA, .ref tH, .ref tF, .ref tS, .int 0, .int 0, .int (-1), .int 0, .int 0])), (mA, .inr (1, [.ref iA, .int 0, .int 0, .int 0, .int 0, .int 0, .int 13]))]) (fun r u => r = (if (0 ≤ p0 ∧ p0 ≤ 10) ∧ (0 ≤ p1 ∧ p1 ≤ 9999) then 1 else 0)) := by
  refine Ci.of (by decide +kernel) (Nat.le_of_ble_eq_true rfl) ?_
  intro p e s m below meth c A ls Z hin hP hD hl
  have hx := Z.1
  have hb := Z.2.1
  have hS : va_S A s.heap s.heap [] := va_S.rf
  have hl : lv_has ls 3 [(0, .ref x), (1, .int p0), (2, .int p1)] := hl
  skip
  refine lv_iload_n hx hb dX11_weather_0 rfl (lv_at hl 1 rfl) ?_
  refine lv_iconst (v := 0) hx hb dX11_weather_1 (by decide) ?_
  refine lv_bipush (v := 10) hx hb dX11_weather_2 (by decide) ?_
  have hPc := hP.sub2 (wc := []) [] rfl
  have hDc := hD.sub (ws' := []) [] (by decide) rfl
  refine raw_Si (nA := 3) (As := [.int p0, .int 0, .int 10]) (rest := []) Z hl.1 (c_X11_isWithin l D cI cM cT p0 0 10) (bw_S bw_497 bw_498 bw_80 bw_499) ⟨by decide +kernel, by decide +kernel, by decide +kernel⟩ rfl ⟨Nat.le_of_ble_eq_true rfl, Nat.le_of_ble_eq_true rfl⟩ hPc hDc hS rfl (Nat.le_of_ble_eq_true rfl) dX11_weather_4 ⟨Nat.le_of_ble_eq_true rfl, Nat.le_of_ble_eq_true rfl⟩ (fun r2 u1 H1 locs1 h3 hku1 hP1 hD1 hS1 => ?_)
  obtain ⟨hrh3, rfl⟩ := h3
  obtain ⟨hP, hD⟩ := z_join (wr := [(x, .inr (11, [.ref st, .ref dr, .ref nw, .ref kp, .ref rd, .ref tm, .ref co])), (nw, .inr (10, [.ref rO, .ref sT, .ref mA, .ref sB, .ref sA, .ref tH, .ref tF, .ref tS, .int 0, .int 0, .int (-1), .int 0, .int 0])), (mA, .inr (1, [.ref iA, .int 0, .int 0, .int 0, .int 0, .int 0, .int 13]))]) Z hS hP hD [] [0, 1, 2] rfl (by decide) rfl (by decide) (by decide) hku1 hP1 hD1
  have hS := hS1
  clear hS1
  generalize H1 = H at hP hS ⊢
  generalize locs1 = locs at hS ⊢
  have hP : va_P D vwCl ([(x, .inr (11, [.ref st, .ref dr, .ref nw, .ref kp, .ref rd, .ref tm, .ref co])), (nw, .inr (10, [.ref rO, .ref sT, .ref mA, .ref sB, .ref sA, .ref tH, .ref tF, .ref tS, .int 0, .int 0, .int (-1), .int 0, .int 0])), (mA, .inr (1, [.ref iA, .int 0, .int 0, .int 0, .int 0, .int 0, .int 13]))]) H := hP
  have hD : va_D A ([(x, .inr (11, [.ref st, .ref dr, .ref nw, .ref kp, .ref rd, .ref tm, .ref co])), (nw, .inr (10, [.ref rO, .ref sT, .ref mA, .ref sB, .ref sA, .ref tH, .ref tF, .ref tS, .int 0, .int 0, .int (-1), .int 0, .int 0])), (mA, .inr (1, [.ref iA, .int 0, .int 0, .int 0, .int 0, .int 0, .int 13]))]) := hD
  by_cases c4 : 0 ≤ p0 ∧ p0 ≤ 10
  · obtain rfl : r2 = 1 := by rw [hrh3, if_pos c4]
    refine lv_if_eq (tgt := 21) hx hb dX11_weather_7 (by decide) (fun h => absurd h (by decide)) (fun c5 => ?_)
    refine lv_iload_n hx hb dX11_weather_10 rfl (lv_at hl 2 rfl) ?_
    refine lv_iconst (v := 0) hx hb dX11_weather_11 (by decide) ?_
    refine lv_sipush (v := 9999) hx hb dX11_weather_12 (by decide) ?_
    have hPc := hP.sub2 (wc := []) [] rfl
    have hDc := hD.sub (ws' := []) [] (by decide) rfl
    refine raw_Si (nA := 3) (As := [.int p1, .int 0, .int 9999]) (rest := []) Z hl.1 (c_X11_isWithin l D cI cM cT p1 0 9999) (bw_S bw_497 bw_498 bw_80 bw_499) ⟨by decide +kernel, by decide +kernel, by decide +kernel⟩ rfl ⟨Nat.le_of_ble_eq_true rfl, Nat.le_of_ble_eq_true rfl⟩ hPc hDc hS rfl (Nat.le_of_ble_eq_true rfl) dX11_weather_15 ⟨Nat.le_of_ble_eq_true rfl, Nat.le_of_ble_eq_true rfl⟩ (fun r7 u6 H1 locs1 h8 hku6 hP1 hD1 hS1 => ?_)
    obtain ⟨hrh8, rfl⟩ := h8
    obtain ⟨hP, hD⟩ := z_join (wr := [(x, .inr (11, [.ref st, .ref dr, .ref nw, .ref kp, .ref rd, .ref tm, .ref co])), (nw, .inr (10, [.ref rO, .ref sT, .ref mA, .ref sB, .ref sA, .ref tH, .ref tF, .ref tS, .int 0, .int 0, .int (-1), .int 0, .int 0])), (mA, .inr (1, [.ref iA, .int 0, .int 0, .int 0, .int 0, .int 0, .int 13]))]) Z hS hP hD [] [0, 1, 2] rfl (by decide) rfl (by decide) (by decide) hku6 hP1 hD1
    have hS := hS1
    clear hS1
    generalize H1 = H at hP hS ⊢
    generalize locs1 = locs at hS ⊢
    have hP : va_P D vwCl ([(x, .inr (11, [.ref st, .ref dr, .ref nw, .ref kp, .ref rd, .ref tm, .ref co])), (nw, .inr (10, [.ref rO, .ref sT, .ref mA, .ref sB, .ref sA, .ref tH, .ref tF, .ref tS, .int 0, .int 0, .int (-1), .int 0, .int 0])), (mA, .inr (1, [.ref iA, .int 0, .int 0, .int 0, .int 0, .int 0, .int 13]))]) H := hP
    have hD : va_D A ([(x, .inr (11, [.ref st, .ref dr, .ref nw, .ref kp, .ref rd, .ref tm, .ref co])), (nw, .inr (10, [.ref rO, .ref sT, .ref mA, .ref sB, .ref sA, .ref tH, .ref tF, .ref tS, .int 0, .int 0, .int (-1), .int 0, .int 0])), (mA, .inr (1, [.ref iA, .int 0, .int 0, .int 0, .int 0, .int 0, .int 13]))]) := hD
    by_cases c9 : 0 ≤ p1 ∧ p1 ≤ 9999
    · obtain rfl : r7 = 1 := by rw [hrh8, if_pos c9]
      refine lv_if_ne (tgt := 23) hx hb dX11_weather_18 (by decide) (fun c10 => ?_) (fun h => absurd h (by decide))
      refine lv_aload_n hx hb dX11_weather_23 rfl (lv_at hl 0 rfl) ?_
      refine z_get Z i_X11 hP 0 rfl rfl 2 (by decide) bw_470 rfl dX11_weather_24 ?_
      refine lv_iload_n hx hb dX11_weather_27 rfl (lv_at hl 1 rfl) ?_
      refine z_put Z i_X10 tyX10 tyX10_ok nmX10 hP hD hS 1 rfl rfl 8 (by decide) bw_253 rfl rfl rfl (Nat.le_of_ble_eq_true rfl) dX11_weather_28 (fun H locs hP hD hS => ?_)
      have hP : va_P D vwCl ([(x, .inr (11, [.ref st, .ref dr, .ref nw, .ref kp, .ref rd, .ref tm, .ref co])), (nw, .inr (10, [.ref rO, .ref sT, .ref mA, .ref sB, .ref sA, .ref tH, .ref tF, .ref tS, .int p0, .int 0, .int (-1), .int 0, .int 0])), (mA, .inr (1, [.ref iA, .int 0, .int 0, .int 0, .int 0, .int 0, .int 13]))]) H := hP
      have hD : va_D A ([(x, .inr (11, [.ref st, .ref dr, .ref nw, .ref kp, .ref rd, .ref tm, .ref co])), (nw, .inr (10, [.ref rO, .ref sT, .ref mA, .ref sB, .ref sA, .ref tH, .ref tF, .ref tS, .int p0, .int 0, .int (-1), .int 0, .int 0])), (mA, .inr (1, [.ref iA, .int 0, .int 0, .int 0, .int 0, .int 0, .int 13]))]) := hD
      refine lv_aload_n hx hb dX11_weather_31 rfl (lv_at hl 0 rfl) ?_
      refine z_get Z i_X11 hP 0 rfl rfl 2 (by decide) bw_470 rfl dX11_weather_32 ?_
      refine z_get Z i_X10 hP 1 rfl rfl 2 (by decide) bw_240 rfl dX11_weather_35 ?_
      refine lv_iload_n hx hb dX11_weather_38 rfl (lv_at hl 2 rfl) ?_
      refine lv_bipush (v := 7) hx hb dX11_weather_39 (by decide) ?_
      refine lv_imul hx hb dX11_weather_41 ?_
      refine lv_bipush (v := 13) hx hb dX11_weather_42 (by decide) ?_
      refine lv_iadd hx hb dX11_weather_44 ?_
      refine z_put Z i_X1 tyX1 tyX1_ok nmX1 hP hD hS 2 rfl rfl 6 (by decide) bw_195 rfl rfl rfl (Nat.le_of_ble_eq_true rfl) dX11_weather_45 (fun H locs hP hD hS => ?_)
      have hP : va_P D vwCl ([(x, .inr (11, [.ref st, .ref dr, .ref nw, .ref kp, .ref rd, .ref tm, .ref co])), (nw, .inr (10, [.ref rO, .ref sT, .ref mA, .ref sB, .ref sA, .ref tH, .ref tF, .ref tS, .int p0, .int 0, .int (-1), .int 0, .int 0])), (mA, .inr (1, [.ref iA, .int 0, .int 0, .int 0, .int 0, .int 0, .int ((p1 * 7) + 13)]))]) H := hP
      have hD : va_D A ([(x, .inr (11, [.ref st, .ref dr, .ref nw, .ref kp, .ref rd, .ref tm, .ref co])), (nw, .inr (10, [.ref rO, .ref sT, .ref mA, .ref sB, .ref sA, .ref tH, .ref tF, .ref tS, .int p0, .int 0, .int (-1), .int 0, .int 0])), (mA, .inr (1, [.ref iA, .int 0, .int 0, .int 0, .int 0, .int 0, .int ((p1 * 7) + 13)]))]) := hD
      refine lv_iconst (v := 1) hx hb dX11_weather_48 (by decide) ?_
      exact z_ret Z rfl hP hD hS ((by first | rfl | assumption | (rw [if_pos (by (try simp only [zlt, zle, zeq, zl_0, zl_1, zl_2, zl_3, zl_4, zl_5, zl_6, zl_7, zl_8, zl_9, zl_10, zl_11, zl_12, zl_13, zl_19, zl_20, zl_30, zl_64, zl_99, zl_100, zl_299, zl_300, zl_399, zl_999, zl_9999, zl_m1, zl_m2, zl_m3, zl_32, zl_280] at c4 c5 c9 c10 ⊢); omega)]; first | done | ((try simp only [zlt, zle, zeq, zl_0, zl_1, zl_2, zl_3, zl_4, zl_5, zl_6, zl_7, zl_8, zl_9, zl_10, zl_11, zl_12, zl_13, zl_19, zl_20, zl_30, zl_64, zl_99, zl_100, zl_299, zl_300, zl_399, zl_999, zl_9999, zl_m1, zl_m2, zl_m3, zl_32, zl_280] at c4 c5 c9 c10 ⊢); omega)) | (rw [if_neg (by (try simp only [zlt, zle, zeq, zl_0, zl_1, zl_2, zl_3, zl_4, zl_5, zl_6, zl_7, zl_8, zl_9, zl_10, zl_11, zl_12, zl_13, zl_19, zl_20, zl_30, zl_64, zl_99, zl_100, zl_299, zl_300, zl_399, zl_999, zl_9999, zl_m1, zl_m2, zl_m3, zl_32, zl_280] at c4 c5 c9 c10 ⊢); omega)]; first | done | ((try simp only [zlt, zle, zeq, zl_0, zl_1, zl_2, zl_3, zl_4, zl_5, zl_6, zl_7, zl_8, zl_9, zl_10, zl_11, zl_12, zl_13, zl_19, zl_20, zl_30, zl_64, zl_99, zl_100, zl_299, zl_300, zl_399, zl_999, zl_9999, zl_m1, zl_m2, zl_m3, zl_32, zl_280] at c4 c5 c9 c10 ⊢); omega)))) dX11_weather_49 (Nat.le_of_ble_eq_true rfl) (Nat.le_of_ble_eq_true rfl)
    · obtain rfl : r7 = 0 := by rw [hrh8, if_neg c9]
      refine lv_if_ne (tgt := 23) hx hb dX11_weather_18 (by decide) (fun h => absurd (by decide) h) (fun c11 => ?_)
      refine lv_iconst (v := 0) hx hb dX11_weather_21 (by decide) ?_
      exact z_ret Z rfl hP hD hS ((by first | rfl | assumption | (rw [if_pos (by (try simp only [zlt, zle, zeq, zl_0, zl_1, zl_2, zl_3, zl_4, zl_5, zl_6, zl_7, zl_8, zl_9, zl_10, zl_11, zl_12, zl_13, zl_19, zl_20, zl_30, zl_64, zl_99, zl_100, zl_299, zl_300, zl_399, zl_999, zl_9999, zl_m1, zl_m2, zl_m3, zl_32, zl_280] at c4 c5 c9 c11 ⊢); omega)]; first | done | ((try simp only [zlt, zle, zeq, zl_0, zl_1, zl_2, zl_3, zl_4, zl_5, zl_6, zl_7, zl_8, zl_9, zl_10, zl_11, zl_12, zl_13, zl_19, zl_20, zl_30, zl_64, zl_99, zl_100, zl_299, zl_300, zl_399, zl_999, zl_9999, zl_m1, zl_m2, zl_m3, zl_32, zl_280] at c4 c5 c9 c11 ⊢); omega)) | (rw [if_neg (by (try simp only [zlt, zle, zeq, zl_0, zl_1, zl_2, zl_3, zl_4, zl_5, zl_6, zl_7, zl_8, zl_9, zl_10, zl_11, zl_12, zl_13, zl_19, zl_20, zl_30, zl_64, zl_99, zl_100, zl_299, zl_300, zl_399, zl_999, zl_9999, zl_m1, zl_m2, zl_m3, zl_32, zl_280] at c4 c5 c9 c11 ⊢); omega)]; first | done | ((try simp only [zlt, zle, zeq, zl_0, zl_1, zl_2, zl_3, zl_4, zl_5, zl_6, zl_7, zl_8, zl_9, zl_10, zl_11, zl_12, zl_13, zl_19, zl_20, zl_30, zl_64, zl_99, zl_100, zl_299, zl_300, zl_399, zl_999, zl_9999, zl_m1, zl_m2, zl_m3, zl_32, zl_280] at c4 c5 c9 c11 ⊢); omega)))) dX11_weather_22 (Nat.le_of_ble_eq_true rfl) (Nat.le_of_ble_eq_true rfl)
  · obtain rfl : r2 = 0 := by rw [hrh3, if_neg c4]
    refine lv_if_eq (tgt := 21) hx hb dX11_weather_7 (by decide) (fun c12 => ?_) (fun h => absurd (by decide) h)
    refine lv_iconst (v := 0) hx hb dX11_weather_21 (by decide) ?_
    exact z_ret Z rfl hP hD hS ((by first | rfl | assumption | (rw [if_pos (by (try simp only [zlt, zle, zeq, zl_0, zl_1, zl_2, zl_3, zl_4, zl_5, zl_6, zl_7, zl_8, zl_9, zl_10, zl_11, zl_12, zl_13, zl_19, zl_20, zl_30, zl_64, zl_99, zl_100, zl_299, zl_300, zl_399, zl_999, zl_9999, zl_m1, zl_m2, zl_m3, zl_32, zl_280] at c4 c12 ⊢); omega)]; first | done | ((try simp only [zlt, zle, zeq, zl_0, zl_1, zl_2, zl_3, zl_4, zl_5, zl_6, zl_7, zl_8, zl_9, zl_10, zl_11, zl_12, zl_13, zl_19, zl_20, zl_30, zl_64, zl_99, zl_100, zl_299, zl_300, zl_399, zl_999, zl_9999, zl_m1, zl_m2, zl_m3, zl_32, zl_280] at c4 c12 ⊢); omega)) | (rw [if_neg (by (try simp only [zlt, zle, zeq, zl_0, zl_1, zl_2, zl_3, zl_4, zl_5, zl_6, zl_7, zl_8, zl_9, zl_10, zl_11, zl_12, zl_13, zl_19, zl_20, zl_30, zl_64, zl_99, zl_100, zl_299, zl_300, zl_399, zl_999, zl_9999, zl_m1, zl_m2, zl_m3, zl_32, zl_280] at c4 c12 ⊢); omega)]; first | done | ((try simp only [zlt, zle, zeq, zl_0, zl_1, zl_2, zl_3, zl_4, zl_5, zl_6, zl_7, zl_8, zl_9, zl_10, zl_11, zl_12, zl_13, zl_19, zl_20, zl_30, zl_64, zl_99, zl_100, zl_299, zl_300, zl_399, zl_999, zl_9999, zl_m1, zl_m2, zl_m3, zl_32, zl_280] at c4 c12 ⊢); omega)))) dX11_weather_22 (Nat.le_of_ble_eq_true rfl) (Nat.le_of_ble_eq_true rfl)
set_option maxHeartbeats 4000000 in
set_option maxRecDepth 100000 in
theorem c_X11_end (l : Launch) (D : va_G) (cI cM cT : ClassId) (x : Nat) (st : Nat) (dr : Nat) (nw : Nat) (kp : Nat) (rd : Nat) (tm : Nat) (co : Nat) (tP : Nat) (tX : Nat) (bY : Nat) (ki : Nat) (at_ : Nat) (nu : Nat) (p0 : Int32) : Ci l D (ty3 cI cM cT) yX11_end cX11_end 2 (some .int) 3 0 0 [.ref x, .int p0] ([(x, .inr (11, [.ref st, .ref dr, .ref nw, .ref kp, .ref rd, .ref tm, .ref co])), (rd, .inr (2, [.ref tP, .int (-1), .int (-1), .int 0, .int 37, .int 0, .ref tX])), (tP, .inr (7, [.ref bY, .ref ki, .ref at_, .ref nu, .int 0, .int 0]))]) (fun r u => r = (if p0 = 0 then 0 else (-1))) := by
  refine Ci.of (by decide +kernel) (Nat.le_of_ble_eq_true rfl) ?_
  intro p e s m below meth c A ls Z hin hP hD hl
  have hx := Z.1
  have hb := Z.2.1
  have hS : va_S A s.heap s.heap [] := va_S.rf
  have hl : lv_has ls 2 [(0, .ref x), (1, .int p0)] := hl
  skip
  refine lv_iload_n hx hb dX11_end_0 rfl (lv_at hl 1 rfl) ?_
  refine lv_iconst (v := 0) hx hb dX11_end_1 (by decide) ?_
  refine lv_aload_n hx hb dX11_end_2 rfl (lv_at hl 0 rfl) ?_
  refine z_get Z i_X11 hP 0 rfl rfl 4 (by decide) bw_472 rfl dX11_end_3 ?_
  refine z_get Z i_X2 hP 1 rfl rfl 0 (by decide) bw_422 rfl dX11_end_6 ?_
  refine z_get Z i_X7 hP 2 rfl rfl 4 (by decide) bw_403 rfl dX11_end_9 ?_
  have hPc := hP.sub2 (wc := []) [] rfl
  have hDc := hD.sub (ws' := []) [] (by decide) rfl
  refine raw_Si (nA := 3) (As := [.int p0, .int 0, .int 0]) (rest := []) Z hl.1 (c_X11_isWithin l D cI cM cT p0 0 0) (bw_S bw_497 bw_498 bw_80 bw_499) ⟨by decide +kernel, by decide +kernel, by decide +kernel⟩ rfl ⟨Nat.le_of_ble_eq_true rfl, Nat.le_of_ble_eq_true rfl⟩ hPc hDc hS rfl (Nat.le_of_ble_eq_true rfl) dX11_end_12 ⟨Nat.le_of_ble_eq_true rfl, Nat.le_of_ble_eq_true rfl⟩ (fun r2 u1 H1 locs1 h3 hku1 hP1 hD1 hS1 => ?_)
  obtain ⟨hrh3, rfl⟩ := h3
  obtain ⟨hP, hD⟩ := z_join (wr := [(x, .inr (11, [.ref st, .ref dr, .ref nw, .ref kp, .ref rd, .ref tm, .ref co])), (rd, .inr (2, [.ref tP, .int (-1), .int (-1), .int 0, .int 37, .int 0, .ref tX])), (tP, .inr (7, [.ref bY, .ref ki, .ref at_, .ref nu, .int 0, .int 0]))]) Z hS hP hD [] [0, 1, 2] rfl (by decide) rfl (by decide) (by decide) hku1 hP1 hD1
  have hS := hS1
  clear hS1
  generalize H1 = H at hP hS ⊢
  generalize locs1 = locs at hS ⊢
  have hP : va_P D vwCl ([(x, .inr (11, [.ref st, .ref dr, .ref nw, .ref kp, .ref rd, .ref tm, .ref co])), (rd, .inr (2, [.ref tP, .int (-1), .int (-1), .int 0, .int 37, .int 0, .ref tX])), (tP, .inr (7, [.ref bY, .ref ki, .ref at_, .ref nu, .int 0, .int 0]))]) H := hP
  have hD : va_D A ([(x, .inr (11, [.ref st, .ref dr, .ref nw, .ref kp, .ref rd, .ref tm, .ref co])), (rd, .inr (2, [.ref tP, .int (-1), .int (-1), .int 0, .int 37, .int 0, .ref tX])), (tP, .inr (7, [.ref bY, .ref ki, .ref at_, .ref nu, .int 0, .int 0]))]) := hD
  by_cases c4 : 0 ≤ p0 ∧ p0 ≤ 0
  · obtain rfl : r2 = 1 := by rw [hrh3, if_pos c4]
    refine lv_if_ne (tgt := 20) hx hb dX11_end_15 (by decide) (fun c5 => ?_) (fun h => absurd h (by decide))
    refine lv_aload_n hx hb dX11_end_20 rfl (lv_at hl 0 rfl) ?_
    refine z_get Z i_X11 hP 0 rfl rfl 4 (by decide) bw_472 rfl dX11_end_21 ?_
    refine z_get Z i_X2 hP 1 rfl rfl 0 (by decide) bw_422 rfl dX11_end_24 ?_
    refine lv_iload_n hx hb dX11_end_27 rfl (lv_at hl 1 rfl) ?_
    refine z_put Z i_X7 tyX7 tyX7_ok nmX7 hP hD hS 2 rfl rfl 4 (by decide) bw_403 rfl rfl rfl (Nat.le_of_ble_eq_true rfl) dX11_end_28 (fun H locs hP hD hS => ?_)
    have hP : va_P D vwCl ([(x, .inr (11, [.ref st, .ref dr, .ref nw, .ref kp, .ref rd, .ref tm, .ref co])), (rd, .inr (2, [.ref tP, .int (-1), .int (-1), .int 0, .int 37, .int 0, .ref tX])), (tP, .inr (7, [.ref bY, .ref ki, .ref at_, .ref nu, .int p0, .int 0]))]) H := hP
    have hD : va_D A ([(x, .inr (11, [.ref st, .ref dr, .ref nw, .ref kp, .ref rd, .ref tm, .ref co])), (rd, .inr (2, [.ref tP, .int (-1), .int (-1), .int 0, .int 37, .int 0, .ref tX])), (tP, .inr (7, [.ref bY, .ref ki, .ref at_, .ref nu, .int p0, .int 0]))]) := hD
    refine lv_iload_n hx hb dX11_end_31 rfl (lv_at hl 1 rfl) ?_
    exact z_ret Z rfl hP hD hS ((by first | rfl | assumption | (rw [if_pos (by (try simp only [zlt, zle, zeq, zl_0, zl_1, zl_2, zl_3, zl_4, zl_5, zl_6, zl_7, zl_8, zl_9, zl_10, zl_11, zl_12, zl_13, zl_19, zl_20, zl_30, zl_64, zl_99, zl_100, zl_299, zl_300, zl_399, zl_999, zl_9999, zl_m1, zl_m2, zl_m3, zl_32, zl_280] at c4 c5 ⊢); omega)]; first | done | ((try simp only [zlt, zle, zeq, zl_0, zl_1, zl_2, zl_3, zl_4, zl_5, zl_6, zl_7, zl_8, zl_9, zl_10, zl_11, zl_12, zl_13, zl_19, zl_20, zl_30, zl_64, zl_99, zl_100, zl_299, zl_300, zl_399, zl_999, zl_9999, zl_m1, zl_m2, zl_m3, zl_32, zl_280] at c4 c5 ⊢); omega)) | (rw [if_neg (by (try simp only [zlt, zle, zeq, zl_0, zl_1, zl_2, zl_3, zl_4, zl_5, zl_6, zl_7, zl_8, zl_9, zl_10, zl_11, zl_12, zl_13, zl_19, zl_20, zl_30, zl_64, zl_99, zl_100, zl_299, zl_300, zl_399, zl_999, zl_9999, zl_m1, zl_m2, zl_m3, zl_32, zl_280] at c4 c5 ⊢); omega)]; first | done | ((try simp only [zlt, zle, zeq, zl_0, zl_1, zl_2, zl_3, zl_4, zl_5, zl_6, zl_7, zl_8, zl_9, zl_10, zl_11, zl_12, zl_13, zl_19, zl_20, zl_30, zl_64, zl_99, zl_100, zl_299, zl_300, zl_399, zl_999, zl_9999, zl_m1, zl_m2, zl_m3, zl_32, zl_280] at c4 c5 ⊢); omega)))) dX11_end_32 (Nat.le_of_ble_eq_true rfl) (Nat.le_of_ble_eq_true rfl)
  · obtain rfl : r2 = 0 := by rw [hrh3, if_neg c4]
    refine lv_if_ne (tgt := 20) hx hb dX11_end_15 (by decide) (fun h => absurd (by decide) h) (fun c6 => ?_)
    refine lv_iconst (v := (-1)) hx hb dX11_end_18 (by decide) ?_
    exact z_ret Z rfl hP hD hS ((by first | rfl | assumption | (rw [if_pos (by (try simp only [zlt, zle, zeq, zl_0, zl_1, zl_2, zl_3, zl_4, zl_5, zl_6, zl_7, zl_8, zl_9, zl_10, zl_11, zl_12, zl_13, zl_19, zl_20, zl_30, zl_64, zl_99, zl_100, zl_299, zl_300, zl_399, zl_999, zl_9999, zl_m1, zl_m2, zl_m3, zl_32, zl_280] at c4 c6 ⊢); omega)]; first | done | ((try simp only [zlt, zle, zeq, zl_0, zl_1, zl_2, zl_3, zl_4, zl_5, zl_6, zl_7, zl_8, zl_9, zl_10, zl_11, zl_12, zl_13, zl_19, zl_20, zl_30, zl_64, zl_99, zl_100, zl_299, zl_300, zl_399, zl_999, zl_9999, zl_m1, zl_m2, zl_m3, zl_32, zl_280] at c4 c6 ⊢); omega)) | (rw [if_neg (by (try simp only [zlt, zle, zeq, zl_0, zl_1, zl_2, zl_3, zl_4, zl_5, zl_6, zl_7, zl_8, zl_9, zl_10, zl_11, zl_12, zl_13, zl_19, zl_20, zl_30, zl_64, zl_99, zl_100, zl_299, zl_300, zl_399, zl_999, zl_9999, zl_m1, zl_m2, zl_m3, zl_32, zl_280] at c4 c6 ⊢); omega)]; first | done | ((try simp only [zlt, zle, zeq, zl_0, zl_1, zl_2, zl_3, zl_4, zl_5, zl_6, zl_7, zl_8, zl_9, zl_10, zl_11, zl_12, zl_13, zl_19, zl_20, zl_30, zl_64, zl_99, zl_100, zl_299, zl_300, zl_399, zl_999, zl_9999, zl_m1, zl_m2, zl_m3, zl_32, zl_280] at c4 c6 ⊢); omega)))) dX11_end_19 (Nat.le_of_ble_eq_true rfl) (Nat.le_of_ble_eq_true rfl)
set_option maxHeartbeats 4000000 in
set_option maxRecDepth 100000 in
theorem c_X11_fault (l : Launch) (D : va_G) (cI cM cT : ClassId) (x : Nat) (st : Nat) (dr : Nat) (nw : Nat) (kp : Nat) (rd : Nat) (tm : Nat) (co : Nat) (tP : Nat) (tX : Nat) (p0 : Int32) : Ci l D (ty3 cI cM cT) yX11_fault cX11_fault 2 (some .int) 3 0 0 [.ref x, .int p0] ([(x, .inr (11, [.ref st, .ref dr, .ref nw, .ref kp, .ref rd, .ref tm, .ref co])), (rd, .inr (2, [.ref tP, .int (-1), .int (-1), .int 0, .int 37, .int 0, .ref tX]))]) (fun r u => r = (-1)) := by
  refine Ci.of (by decide +kernel) (Nat.le_of_ble_eq_true rfl) ?_
  intro p e s m below meth c A ls Z hin hP hD hl
  have hx := Z.1
  have hb := Z.2.1
  have hS : va_S A s.heap s.heap [] := va_S.rf
  have hl : lv_has ls 2 [(0, .ref x), (1, .int p0)] := hl
  skip
  refine lv_iload_n hx hb dX11_fault_0 rfl (lv_at hl 1 rfl) ?_
  refine lv_if_ne (tgt := 12) hx hb dX11_fault_1 (by decide) (fun c1 => ?_) (fun c1 => ?_)
  · refine lv_iload_n hx hb dX11_fault_12 rfl (lv_at hl 1 rfl) ?_
    refine lv_iconst (v := 1) hx hb dX11_fault_13 (by decide) ?_
    refine lv_icmp_ne (tgt := 27) hx hb dX11_fault_14 (by decide) (fun c2 => ?_) (fun c2 => ?_)
    · refine lv_iconst (v := (-1)) hx hb dX11_fault_27 (by decide) ?_
      exact z_ret Z rfl hP hD hS ((by first | rfl | assumption)) dX11_fault_28 (Nat.le_of_ble_eq_true rfl) (Nat.le_of_ble_eq_true rfl)
    · refine lv_aload_n hx hb dX11_fault_17 rfl (lv_at hl 0 rfl) ?_
      refine z_get Z i_X11 hP 0 rfl rfl 4 (by decide) bw_472 rfl dX11_fault_18 ?_
      refine z_get Z i_X2 hP 1 rfl rfl 2 (by decide) bw_426 rfl dX11_fault_21 ?_
      refine lv_goto (tgt := 28) hx hb dX11_fault_24 (by decide) ?_
      exact z_ret Z rfl hP hD hS ((by first | rfl | assumption)) dX11_fault_28 (Nat.le_of_ble_eq_true rfl) (Nat.le_of_ble_eq_true rfl)
  · refine lv_aload_n hx hb dX11_fault_4 rfl (lv_at hl 0 rfl) ?_
    refine z_get Z i_X11 hP 0 rfl rfl 4 (by decide) bw_472 rfl dX11_fault_5 ?_
    refine z_get Z i_X2 hP 1 rfl rfl 1 (by decide) bw_424 rfl dX11_fault_8 ?_
    exact z_ret Z rfl hP hD hS ((by first | rfl | assumption)) dX11_fault_11 (Nat.le_of_ble_eq_true rfl) (Nat.le_of_ble_eq_true rfl)
set_option maxHeartbeats 4000000 in
set_option maxRecDepth 100000 in
theorem c_X11_by (l : Launch) (D : va_G) (cI cM cT : ClassId) (x : Nat) (st : Nat) (dr : Nat) (nw : Nat) (kp : Nat) (rd : Nat) (tm : Nat) (co : Nat) (rO : Nat) (sT : Nat) (mA : Nat) (sB : Nat) (sA : Nat) (tH : Nat) (tF : Nat) (tS : Nat) (s1 : Nat) (s2 : Nat) (s3 : Nat) (p0 : Int32) : Ci l D (ty3 cI cM cT) yX11_by cX11_by 2 (some .boolean) 3 0 0 [.ref x, .int p0] ([(x, .inr (11, [.ref st, .ref dr, .ref nw, .ref kp, .ref rd, .ref tm, .ref co])), (nw, .inr (10, [.ref rO, .ref sT, .ref mA, .ref sB, .ref sA, .ref tH, .ref tF, .ref tS, .int 0, .int 0, .int (-1), .int 0, .int 0])), (st, .inr (6, [.ref dr, .ref s1, .ref s2, .ref s3, .int 1]))]) (fun r u => r = (if p0 = (-1) then 1 else 0)) := by
  refine Ci.of (by decide +kernel) (Nat.le_of_ble_eq_true rfl) ?_
  intro p e s m below meth c A ls Z hin hP hD hl
  have hx := Z.1
  have hb := Z.2.1
  have hS : va_S A s.heap s.heap [] := va_S.rf
  have hl : lv_has ls 2 [(0, .ref x), (1, .int p0)] := hl
  skip
  refine lv_iload_n hx hb dX11_by_0 rfl (lv_at hl 1 rfl) ?_
  refine lv_iconst (v := (-1)) hx hb dX11_by_1 (by decide) ?_
  refine lv_aload_n hx hb dX11_by_2 rfl (lv_at hl 0 rfl) ?_
  refine z_get Z i_X11 hP 0 rfl rfl 2 (by decide) bw_470 rfl dX11_by_3 ?_
  refine z_get Z i_X10 hP 1 rfl rfl 9 (by decide) bw_255 rfl dX11_by_6 ?_
  refine lv_iconst (v := 1) hx hb dX11_by_9 (by decide) ?_
  refine lv_isub hx hb dX11_by_10 ?_
  refine z_topi (y := (-1)) (by decide) ?_
  have hPc := hP.sub2 (wc := []) [] rfl
  have hDc := hD.sub (ws' := []) [] (by decide) rfl
  refine raw_Si (nA := 3) (As := [.int p0, .int (-1), .int (-1)]) (rest := []) Z hl.1 (c_X11_isWithin l D cI cM cT p0 (-1) (-1)) (bw_S bw_497 bw_498 bw_80 bw_499) ⟨by decide +kernel, by decide +kernel, by decide +kernel⟩ rfl ⟨Nat.le_of_ble_eq_true rfl, Nat.le_of_ble_eq_true rfl⟩ hPc hDc hS rfl (Nat.le_of_ble_eq_true rfl) dX11_by_11 ⟨Nat.le_of_ble_eq_true rfl, Nat.le_of_ble_eq_true rfl⟩ (fun r2 u1 H1 locs1 h3 hku1 hP1 hD1 hS1 => ?_)
  obtain ⟨hrh3, rfl⟩ := h3
  obtain ⟨hP, hD⟩ := z_join (wr := [(x, .inr (11, [.ref st, .ref dr, .ref nw, .ref kp, .ref rd, .ref tm, .ref co])), (nw, .inr (10, [.ref rO, .ref sT, .ref mA, .ref sB, .ref sA, .ref tH, .ref tF, .ref tS, .int 0, .int 0, .int (-1), .int 0, .int 0])), (st, .inr (6, [.ref dr, .ref s1, .ref s2, .ref s3, .int 1]))]) Z hS hP hD [] [0, 1, 2] rfl (by decide) rfl (by decide) (by decide) hku1 hP1 hD1
  have hS := hS1
  clear hS1
  generalize H1 = H at hP hS ⊢
  generalize locs1 = locs at hS ⊢
  have hP : va_P D vwCl ([(x, .inr (11, [.ref st, .ref dr, .ref nw, .ref kp, .ref rd, .ref tm, .ref co])), (nw, .inr (10, [.ref rO, .ref sT, .ref mA, .ref sB, .ref sA, .ref tH, .ref tF, .ref tS, .int 0, .int 0, .int (-1), .int 0, .int 0])), (st, .inr (6, [.ref dr, .ref s1, .ref s2, .ref s3, .int 1]))]) H := hP
  have hD : va_D A ([(x, .inr (11, [.ref st, .ref dr, .ref nw, .ref kp, .ref rd, .ref tm, .ref co])), (nw, .inr (10, [.ref rO, .ref sT, .ref mA, .ref sB, .ref sA, .ref tH, .ref tF, .ref tS, .int 0, .int 0, .int (-1), .int 0, .int 0])), (st, .inr (6, [.ref dr, .ref s1, .ref s2, .ref s3, .int 1]))]) := hD
  by_cases c4 : (-1) ≤ p0 ∧ p0 ≤ (-1)
  · obtain rfl : r2 = 1 := by rw [hrh3, if_pos c4]
    refine lv_if_ne (tgt := 19) hx hb dX11_by_14 (by decide) (fun c5 => ?_) (fun h => absurd h (by decide))
    refine lv_aload_n hx hb dX11_by_19 rfl (lv_at hl 0 rfl) ?_
    refine z_get Z i_X11 hP 0 rfl rfl 2 (by decide) bw_470 rfl dX11_by_20 ?_
    refine lv_iload_n hx hb dX11_by_23 rfl (lv_at hl 1 rfl) ?_
    refine z_put Z i_X10 tyX10 tyX10_ok nmX10 hP hD hS 1 rfl rfl 10 (by decide) bw_258 rfl rfl rfl (Nat.le_of_ble_eq_true rfl) dX11_by_24 (fun H locs hP hD hS => ?_)
    have hP : va_P D vwCl ([(x, .inr (11, [.ref st, .ref dr, .ref nw, .ref kp, .ref rd, .ref tm, .ref co])), (nw, .inr (10, [.ref rO, .ref sT, .ref mA, .ref sB, .ref sA, .ref tH, .ref tF, .ref tS, .int 0, .int 0, .int p0, .int 0, .int 0])), (st, .inr (6, [.ref dr, .ref s1, .ref s2, .ref s3, .int 1]))]) H := hP
    have hD : va_D A ([(x, .inr (11, [.ref st, .ref dr, .ref nw, .ref kp, .ref rd, .ref tm, .ref co])), (nw, .inr (10, [.ref rO, .ref sT, .ref mA, .ref sB, .ref sA, .ref tH, .ref tF, .ref tS, .int 0, .int 0, .int p0, .int 0, .int 0])), (st, .inr (6, [.ref dr, .ref s1, .ref s2, .ref s3, .int 1]))]) := hD
    refine lv_aload_n hx hb dX11_by_27 rfl (lv_at hl 0 rfl) ?_
    refine z_get Z i_X11 hP 0 rfl rfl 0 (by decide) bw_468 rfl dX11_by_28 ?_
    have hPc := hP.sub2 (wc := [(st, .inr (6, [.ref dr, .ref s1, .ref s2, .ref s3, .int 1]))]) [2] rfl
    have hDc := hD.sub (ws' := [(st, .inr (6, [.ref dr, .ref s1, .ref s2, .ref s3, .int 1]))]) [2] (by decide) rfl
    refine raw_Vv (ci := 6) (q0 := 0) (nA := 0) (As := []) (rest := []) Z hl.1 (c_X6_forget l D cI cM cT st dr s1 s2 s3 1) (bw_V bw_500 bw_501 bw_502 bw_81 bw_503) ⟨by decide +kernel, by decide +kernel, by decide +kernel⟩ rfl ⟨Nat.le_of_ble_eq_true rfl, Nat.le_of_ble_eq_true rfl⟩ rfl rfl rfl hPc hDc hS rfl (Nat.le_of_ble_eq_true rfl) dX11_by_31 ⟨Nat.le_of_ble_eq_true rfl, Nat.le_of_ble_eq_true rfl⟩ (fun u6 H1 locs1 h8 hku6 hP1 hD1 hS1 => ?_)
    obtain rfl := h8
    obtain ⟨hP, hD⟩ := z_join (wr := [(x, .inr (11, [.ref st, .ref dr, .ref nw, .ref kp, .ref rd, .ref tm, .ref co])), (nw, .inr (10, [.ref rO, .ref sT, .ref mA, .ref sB, .ref sA, .ref tH, .ref tF, .ref tS, .int 0, .int 0, .int p0, .int 0, .int 0]))]) Z hS hP hD [2] [0, 1] rfl (by decide) rfl (by decide) (by decide) hku6 hP1 hD1
    have hS := hS1
    clear hS1
    generalize H1 = H at hP hS ⊢
    generalize locs1 = locs at hS ⊢
    have hP : va_P D vwCl ([(x, .inr (11, [.ref st, .ref dr, .ref nw, .ref kp, .ref rd, .ref tm, .ref co])), (nw, .inr (10, [.ref rO, .ref sT, .ref mA, .ref sB, .ref sA, .ref tH, .ref tF, .ref tS, .int 0, .int 0, .int p0, .int 0, .int 0])), (st, .inr (6, [.ref dr, .ref s1, .ref s2, .ref s3, .int (1 + 1)]))]) H := hP
    have hD : va_D A ([(x, .inr (11, [.ref st, .ref dr, .ref nw, .ref kp, .ref rd, .ref tm, .ref co])), (nw, .inr (10, [.ref rO, .ref sT, .ref mA, .ref sB, .ref sA, .ref tH, .ref tF, .ref tS, .int 0, .int 0, .int p0, .int 0, .int 0])), (st, .inr (6, [.ref dr, .ref s1, .ref s2, .ref s3, .int (1 + 1)]))]) := hD
    refine lv_iconst (v := 1) hx hb dX11_by_34 (by decide) ?_
    exact z_ret Z rfl hP hD hS ((by first | rfl | assumption | (rw [if_pos (by (try simp only [zlt, zle, zeq, zl_0, zl_1, zl_2, zl_3, zl_4, zl_5, zl_6, zl_7, zl_8, zl_9, zl_10, zl_11, zl_12, zl_13, zl_19, zl_20, zl_30, zl_64, zl_99, zl_100, zl_299, zl_300, zl_399, zl_999, zl_9999, zl_m1, zl_m2, zl_m3, zl_32, zl_280] at c4 c5 ⊢); omega)]; first | done | ((try simp only [zlt, zle, zeq, zl_0, zl_1, zl_2, zl_3, zl_4, zl_5, zl_6, zl_7, zl_8, zl_9, zl_10, zl_11, zl_12, zl_13, zl_19, zl_20, zl_30, zl_64, zl_99, zl_100, zl_299, zl_300, zl_399, zl_999, zl_9999, zl_m1, zl_m2, zl_m3, zl_32, zl_280] at c4 c5 ⊢); omega)) | (rw [if_neg (by (try simp only [zlt, zle, zeq, zl_0, zl_1, zl_2, zl_3, zl_4, zl_5, zl_6, zl_7, zl_8, zl_9, zl_10, zl_11, zl_12, zl_13, zl_19, zl_20, zl_30, zl_64, zl_99, zl_100, zl_299, zl_300, zl_399, zl_999, zl_9999, zl_m1, zl_m2, zl_m3, zl_32, zl_280] at c4 c5 ⊢); omega)]; first | done | ((try simp only [zlt, zle, zeq, zl_0, zl_1, zl_2, zl_3, zl_4, zl_5, zl_6, zl_7, zl_8, zl_9, zl_10, zl_11, zl_12, zl_13, zl_19, zl_20, zl_30, zl_64, zl_99, zl_100, zl_299, zl_300, zl_399, zl_999, zl_9999, zl_m1, zl_m2, zl_m3, zl_32, zl_280] at c4 c5 ⊢); omega)))) dX11_by_35 (Nat.le_of_ble_eq_true rfl) (Nat.le_of_ble_eq_true rfl)
  · obtain rfl : r2 = 0 := by rw [hrh3, if_neg c4]
    refine lv_if_ne (tgt := 19) hx hb dX11_by_14 (by decide) (fun h => absurd (by decide) h) (fun c9 => ?_)
    refine lv_iconst (v := 0) hx hb dX11_by_17 (by decide) ?_
    exact z_ret Z rfl hP hD hS ((by first | rfl | assumption | (rw [if_pos (by (try simp only [zlt, zle, zeq, zl_0, zl_1, zl_2, zl_3, zl_4, zl_5, zl_6, zl_7, zl_8, zl_9, zl_10, zl_11, zl_12, zl_13, zl_19, zl_20, zl_30, zl_64, zl_99, zl_100, zl_299, zl_300, zl_399, zl_999, zl_9999, zl_m1, zl_m2, zl_m3, zl_32, zl_280] at c4 c9 ⊢); omega)]; first | done | ((try simp only [zlt, zle, zeq, zl_0, zl_1, zl_2, zl_3, zl_4, zl_5, zl_6, zl_7, zl_8, zl_9, zl_10, zl_11, zl_12, zl_13, zl_19, zl_20, zl_30, zl_64, zl_99, zl_100, zl_299, zl_300, zl_399, zl_999, zl_9999, zl_m1, zl_m2, zl_m3, zl_32, zl_280] at c4 c9 ⊢); omega)) | (rw [if_neg (by (try simp only [zlt, zle, zeq, zl_0, zl_1, zl_2, zl_3, zl_4, zl_5, zl_6, zl_7, zl_8, zl_9, zl_10, zl_11, zl_12, zl_13, zl_19, zl_20, zl_30, zl_64, zl_99, zl_100, zl_299, zl_300, zl_399, zl_999, zl_9999, zl_m1, zl_m2, zl_m3, zl_32, zl_280] at c4 c9 ⊢); omega)]; first | done | ((try simp only [zlt, zle, zeq, zl_0, zl_1, zl_2, zl_3, zl_4, zl_5, zl_6, zl_7, zl_8, zl_9, zl_10, zl_11, zl_12, zl_13, zl_19, zl_20, zl_30, zl_64, zl_99, zl_100, zl_299, zl_300, zl_399, zl_999, zl_9999, zl_m1, zl_m2, zl_m3, zl_32, zl_280] at c4 c9 ⊢); omega)))) dX11_by_18 (Nat.le_of_ble_eq_true rfl) (Nat.le_of_ble_eq_true rfl)
set_option maxHeartbeats 4000000 in
set_option maxRecDepth 100000 in
theorem c_X11_start (l : Launch) (D : va_G) (cI cM cT : ClassId) (x : Nat) (st : Nat) (dr : Nat) (nw : Nat) (kp : Nat) (rd : Nat) (tm : Nat) (co : Nat) (rO : Nat) (sT : Nat) (mA : Nat) (sB : Nat) (sA : Nat) (tH : Nat) (tF : Nat) (tS : Nat) (iA : Nat) (rG : Nat) (p0 : Int32) : Ci l D (ty3 cI cM cT) yX11_start cX11_start 2 (some .boolean) 3 0 0 [.ref x, .int p0] ([(x, .inr (11, [.ref st, .ref dr, .ref nw, .ref kp, .ref rd, .ref tm, .ref co])), (nw, .inr (10, [.ref rO, .ref sT, .ref mA, .ref sB, .ref sA, .ref tH, .ref tF, .ref tS, .int 0, .int 0, .int (-1), .int 0, .int 0])), (mA, .inr (1, [.ref iA, .int 0, .int 0, .int 0, .int 0, .int 0, .int 13])), (sB, .inr (5, [.ref rG, .int 0, .int 0]))]) (fun r u => r = (if 0 ≤ p0 ∧ p0 < 300 then 1 else 0)) := by
  refine Ci.of (by decide +kernel) (Nat.le_of_ble_eq_true rfl) ?_
  intro p e s m below meth c A ls Z hin hP hD hl
  have hx := Z.1
  have hb := Z.2.1
  have hS : va_S A s.heap s.heap [] := va_S.rf
  have hl : lv_has ls 2 [(0, .ref x), (1, .int p0)] := hl
  skip
  refine lv_iload_n hx hb dX11_start_0 rfl (lv_at hl 1 rfl) ?_
  have hPc := hP.sub2 (wc := []) [] rfl
  have hDc := hD.sub (ws' := []) [] (by decide) rfl
  refine raw_Si (nA := 1) (As := [.int p0]) (rest := []) Z hl.1 (c_X11_isPlace l D cI cM cT p0) (bw_S bw_494 bw_495 bw_80 bw_496) ⟨by decide +kernel, by decide +kernel, by decide +kernel⟩ rfl ⟨Nat.le_of_ble_eq_true rfl, Nat.le_of_ble_eq_true rfl⟩ hPc hDc hS rfl (Nat.le_of_ble_eq_true rfl) dX11_start_1 ⟨Nat.le_of_ble_eq_true rfl, Nat.le_of_ble_eq_true rfl⟩ (fun r2 u1 H1 locs1 h3 hku1 hP1 hD1 hS1 => ?_)
  obtain ⟨hrh3, rfl⟩ := h3
  obtain ⟨hP, hD⟩ := z_join (wr := [(x, .inr (11, [.ref st, .ref dr, .ref nw, .ref kp, .ref rd, .ref tm, .ref co])), (nw, .inr (10, [.ref rO, .ref sT, .ref mA, .ref sB, .ref sA, .ref tH, .ref tF, .ref tS, .int 0, .int 0, .int (-1), .int 0, .int 0])), (mA, .inr (1, [.ref iA, .int 0, .int 0, .int 0, .int 0, .int 0, .int 13])), (sB, .inr (5, [.ref rG, .int 0, .int 0]))]) Z hS hP hD [] [0, 1, 2, 3] rfl (by decide) rfl (by decide) (by decide) hku1 hP1 hD1
  have hS := hS1
  clear hS1
  generalize H1 = H at hP hS ⊢
  generalize locs1 = locs at hS ⊢
  have hP : va_P D vwCl ([(x, .inr (11, [.ref st, .ref dr, .ref nw, .ref kp, .ref rd, .ref tm, .ref co])), (nw, .inr (10, [.ref rO, .ref sT, .ref mA, .ref sB, .ref sA, .ref tH, .ref tF, .ref tS, .int 0, .int 0, .int (-1), .int 0, .int 0])), (mA, .inr (1, [.ref iA, .int 0, .int 0, .int 0, .int 0, .int 0, .int 13])), (sB, .inr (5, [.ref rG, .int 0, .int 0]))]) H := hP
  have hD : va_D A ([(x, .inr (11, [.ref st, .ref dr, .ref nw, .ref kp, .ref rd, .ref tm, .ref co])), (nw, .inr (10, [.ref rO, .ref sT, .ref mA, .ref sB, .ref sA, .ref tH, .ref tF, .ref tS, .int 0, .int 0, .int (-1), .int 0, .int 0])), (mA, .inr (1, [.ref iA, .int 0, .int 0, .int 0, .int 0, .int 0, .int 13])), (sB, .inr (5, [.ref rG, .int 0, .int 0]))]) := hD
  by_cases c4 : 0 ≤ p0 ∧ p0 < 300
  · obtain rfl : r2 = 1 := by rw [hrh3, if_pos c4]
    refine lv_if_ne (tgt := 9) hx hb dX11_start_4 (by decide) (fun c5 => ?_) (fun h => absurd h (by decide))
    refine lv_aload_n hx hb dX11_start_9 rfl (lv_at hl 0 rfl) ?_
    refine z_get Z i_X11 hP 0 rfl rfl 2 (by decide) bw_470 rfl dX11_start_10 ?_
    refine z_get Z i_X10 hP 1 rfl rfl 2 (by decide) bw_240 rfl dX11_start_13 ?_
    refine lv_iload_n hx hb dX11_start_16 rfl (lv_at hl 1 rfl) ?_
    refine z_put Z i_X1 tyX1 tyX1_ok nmX1 hP hD hS 2 rfl rfl 2 (by decide) bw_186 rfl rfl rfl (Nat.le_of_ble_eq_true rfl) dX11_start_17 (fun H locs hP hD hS => ?_)
    have hP : va_P D vwCl ([(x, .inr (11, [.ref st, .ref dr, .ref nw, .ref kp, .ref rd, .ref tm, .ref co])), (nw, .inr (10, [.ref rO, .ref sT, .ref mA, .ref sB, .ref sA, .ref tH, .ref tF, .ref tS, .int 0, .int 0, .int (-1), .int 0, .int 0])), (mA, .inr (1, [.ref iA, .int 0, .int p0, .int 0, .int 0, .int 0, .int 13])), (sB, .inr (5, [.ref rG, .int 0, .int 0]))]) H := hP
    have hD : va_D A ([(x, .inr (11, [.ref st, .ref dr, .ref nw, .ref kp, .ref rd, .ref tm, .ref co])), (nw, .inr (10, [.ref rO, .ref sT, .ref mA, .ref sB, .ref sA, .ref tH, .ref tF, .ref tS, .int 0, .int 0, .int (-1), .int 0, .int 0])), (mA, .inr (1, [.ref iA, .int 0, .int p0, .int 0, .int 0, .int 0, .int 13])), (sB, .inr (5, [.ref rG, .int 0, .int 0]))]) := hD
    refine lv_aload_n hx hb dX11_start_20 rfl (lv_at hl 0 rfl) ?_
    refine z_get Z i_X11 hP 0 rfl rfl 2 (by decide) bw_470 rfl dX11_start_21 ?_
    refine z_get Z i_X10 hP 1 rfl rfl 2 (by decide) bw_240 rfl dX11_start_24 ?_
    refine lv_iconst (v := 0) hx hb dX11_start_27 (by decide) ?_
    refine z_put Z i_X1 tyX1 tyX1_ok nmX1 hP hD hS 2 rfl rfl 3 (by decide) bw_188 rfl rfl rfl (Nat.le_of_ble_eq_true rfl) dX11_start_28 (fun H locs hP hD hS => ?_)
    have hP : va_P D vwCl ([(x, .inr (11, [.ref st, .ref dr, .ref nw, .ref kp, .ref rd, .ref tm, .ref co])), (nw, .inr (10, [.ref rO, .ref sT, .ref mA, .ref sB, .ref sA, .ref tH, .ref tF, .ref tS, .int 0, .int 0, .int (-1), .int 0, .int 0])), (mA, .inr (1, [.ref iA, .int 0, .int p0, .int 0, .int 0, .int 0, .int 13])), (sB, .inr (5, [.ref rG, .int 0, .int 0]))]) H := hP
    have hD : va_D A ([(x, .inr (11, [.ref st, .ref dr, .ref nw, .ref kp, .ref rd, .ref tm, .ref co])), (nw, .inr (10, [.ref rO, .ref sT, .ref mA, .ref sB, .ref sA, .ref tH, .ref tF, .ref tS, .int 0, .int 0, .int (-1), .int 0, .int 0])), (mA, .inr (1, [.ref iA, .int 0, .int p0, .int 0, .int 0, .int 0, .int 13])), (sB, .inr (5, [.ref rG, .int 0, .int 0]))]) := hD
    refine lv_aload_n hx hb dX11_start_31 rfl (lv_at hl 0 rfl) ?_
    refine z_get Z i_X11 hP 0 rfl rfl 2 (by decide) bw_470 rfl dX11_start_32 ?_
    refine z_get Z i_X10 hP 1 rfl rfl 2 (by decide) bw_240 rfl dX11_start_35 ?_
    refine lv_iconst (v := 0) hx hb dX11_start_38 (by decide) ?_
    refine z_put Z i_X1 tyX1 tyX1_ok nmX1 hP hD hS 2 rfl rfl 4 (by decide) bw_190 rfl rfl rfl (Nat.le_of_ble_eq_true rfl) dX11_start_39 (fun H locs hP hD hS => ?_)
    have hP : va_P D vwCl ([(x, .inr (11, [.ref st, .ref dr, .ref nw, .ref kp, .ref rd, .ref tm, .ref co])), (nw, .inr (10, [.ref rO, .ref sT, .ref mA, .ref sB, .ref sA, .ref tH, .ref tF, .ref tS, .int 0, .int 0, .int (-1), .int 0, .int 0])), (mA, .inr (1, [.ref iA, .int 0, .int p0, .int 0, .int 0, .int 0, .int 13])), (sB, .inr (5, [.ref rG, .int 0, .int 0]))]) H := hP
    have hD : va_D A ([(x, .inr (11, [.ref st, .ref dr, .ref nw, .ref kp, .ref rd, .ref tm, .ref co])), (nw, .inr (10, [.ref rO, .ref sT, .ref mA, .ref sB, .ref sA, .ref tH, .ref tF, .ref tS, .int 0, .int 0, .int (-1), .int 0, .int 0])), (mA, .inr (1, [.ref iA, .int 0, .int p0, .int 0, .int 0, .int 0, .int 13])), (sB, .inr (5, [.ref rG, .int 0, .int 0]))]) := hD
    refine lv_aload_n hx hb dX11_start_42 rfl (lv_at hl 0 rfl) ?_
    refine z_get Z i_X11 hP 0 rfl rfl 2 (by decide) bw_470 rfl dX11_start_43 ?_
    refine z_get Z i_X10 hP 1 rfl rfl 3 (by decide) bw_242 rfl dX11_start_46 ?_
    refine lv_iconst (v := 0) hx hb dX11_start_49 (by decide) ?_
    refine z_put Z i_X5 tyX5 tyX5_ok nmX5 hP hD hS 3 rfl rfl 2 (by decide) bw_223 rfl rfl rfl (Nat.le_of_ble_eq_true rfl) dX11_start_50 (fun H locs hP hD hS => ?_)
    have hP : va_P D vwCl ([(x, .inr (11, [.ref st, .ref dr, .ref nw, .ref kp, .ref rd, .ref tm, .ref co])), (nw, .inr (10, [.ref rO, .ref sT, .ref mA, .ref sB, .ref sA, .ref tH, .ref tF, .ref tS, .int 0, .int 0, .int (-1), .int 0, .int 0])), (mA, .inr (1, [.ref iA, .int 0, .int p0, .int 0, .int 0, .int 0, .int 13])), (sB, .inr (5, [.ref rG, .int 0, .int 0]))]) H := hP
    have hD : va_D A ([(x, .inr (11, [.ref st, .ref dr, .ref nw, .ref kp, .ref rd, .ref tm, .ref co])), (nw, .inr (10, [.ref rO, .ref sT, .ref mA, .ref sB, .ref sA, .ref tH, .ref tF, .ref tS, .int 0, .int 0, .int (-1), .int 0, .int 0])), (mA, .inr (1, [.ref iA, .int 0, .int p0, .int 0, .int 0, .int 0, .int 13])), (sB, .inr (5, [.ref rG, .int 0, .int 0]))]) := hD
    refine lv_iconst (v := 1) hx hb dX11_start_53 (by decide) ?_
    exact z_ret Z rfl hP hD hS ((by first | rfl | assumption | (rw [if_pos (by (try simp only [zlt, zle, zeq, zl_0, zl_1, zl_2, zl_3, zl_4, zl_5, zl_6, zl_7, zl_8, zl_9, zl_10, zl_11, zl_12, zl_13, zl_19, zl_20, zl_30, zl_64, zl_99, zl_100, zl_299, zl_300, zl_399, zl_999, zl_9999, zl_m1, zl_m2, zl_m3, zl_32, zl_280] at c4 c5 ⊢); omega)]; first | done | ((try simp only [zlt, zle, zeq, zl_0, zl_1, zl_2, zl_3, zl_4, zl_5, zl_6, zl_7, zl_8, zl_9, zl_10, zl_11, zl_12, zl_13, zl_19, zl_20, zl_30, zl_64, zl_99, zl_100, zl_299, zl_300, zl_399, zl_999, zl_9999, zl_m1, zl_m2, zl_m3, zl_32, zl_280] at c4 c5 ⊢); omega)) | (rw [if_neg (by (try simp only [zlt, zle, zeq, zl_0, zl_1, zl_2, zl_3, zl_4, zl_5, zl_6, zl_7, zl_8, zl_9, zl_10, zl_11, zl_12, zl_13, zl_19, zl_20, zl_30, zl_64, zl_99, zl_100, zl_299, zl_300, zl_399, zl_999, zl_9999, zl_m1, zl_m2, zl_m3, zl_32, zl_280] at c4 c5 ⊢); omega)]; first | done | ((try simp only [zlt, zle, zeq, zl_0, zl_1, zl_2, zl_3, zl_4, zl_5, zl_6, zl_7, zl_8, zl_9, zl_10, zl_11, zl_12, zl_13, zl_19, zl_20, zl_30, zl_64, zl_99, zl_100, zl_299, zl_300, zl_399, zl_999, zl_9999, zl_m1, zl_m2, zl_m3, zl_32, zl_280] at c4 c5 ⊢); omega)))) dX11_start_54 (Nat.le_of_ble_eq_true rfl) (Nat.le_of_ble_eq_true rfl)
  · obtain rfl : r2 = 0 := by rw [hrh3, if_neg c4]
    refine lv_if_ne (tgt := 9) hx hb dX11_start_4 (by decide) (fun h => absurd (by decide) h) (fun c6 => ?_)
    refine lv_iconst (v := 0) hx hb dX11_start_7 (by decide) ?_
    exact z_ret Z rfl hP hD hS ((by first | rfl | assumption | (rw [if_pos (by (try simp only [zlt, zle, zeq, zl_0, zl_1, zl_2, zl_3, zl_4, zl_5, zl_6, zl_7, zl_8, zl_9, zl_10, zl_11, zl_12, zl_13, zl_19, zl_20, zl_30, zl_64, zl_99, zl_100, zl_299, zl_300, zl_399, zl_999, zl_9999, zl_m1, zl_m2, zl_m3, zl_32, zl_280] at c4 c6 ⊢); omega)]; first | done | ((try simp only [zlt, zle, zeq, zl_0, zl_1, zl_2, zl_3, zl_4, zl_5, zl_6, zl_7, zl_8, zl_9, zl_10, zl_11, zl_12, zl_13, zl_19, zl_20, zl_30, zl_64, zl_99, zl_100, zl_299, zl_300, zl_399, zl_999, zl_9999, zl_m1, zl_m2, zl_m3, zl_32, zl_280] at c4 c6 ⊢); omega)) | (rw [if_neg (by (try simp only [zlt, zle, zeq, zl_0, zl_1, zl_2, zl_3, zl_4, zl_5, zl_6, zl_7, zl_8, zl_9, zl_10, zl_11, zl_12, zl_13, zl_19, zl_20, zl_30, zl_64, zl_99, zl_100, zl_299, zl_300, zl_399, zl_999, zl_9999, zl_m1, zl_m2, zl_m3, zl_32, zl_280] at c4 c6 ⊢); omega)]; first | done | ((try simp only [zlt, zle, zeq, zl_0, zl_1, zl_2, zl_3, zl_4, zl_5, zl_6, zl_7, zl_8, zl_9, zl_10, zl_11, zl_12, zl_13, zl_19, zl_20, zl_30, zl_64, zl_99, zl_100, zl_299, zl_300, zl_399, zl_999, zl_9999, zl_m1, zl_m2, zl_m3, zl_32, zl_280] at c4 c6 ⊢); omega)))) dX11_start_8 (Nat.le_of_ble_eq_true rfl) (Nat.le_of_ble_eq_true rfl)
set_option maxHeartbeats 4000000 in
set_option maxRecDepth 100000 in
theorem c_X11_would (l : Launch) (D : va_G) (cI cM cT : ClassId) (x : Nat) (st : Nat) (dr : Nat) (nw : Nat) (kp : Nat) (rd : Nat) (tm : Nat) (co : Nat) (rO : Nat) (sT : Nat) (mA : Nat) (sB : Nat) (sA : Nat) (tH : Nat) (tF : Nat) (tS : Nat) (cO : Nat) (sH : Nat) (p0 : Int32) (p1 : Int32) (p2 : Int32) : Ci l D (ty3 cI cM cT) yX11_would cX11_would 5 (some .int) 3 0 0 [.ref x, .int p0, .int p1, .int p2] ([(x, .inr (11, [.ref st, .ref dr, .ref nw, .ref kp, .ref rd, .ref tm, .ref co])), (nw, .inr (10, [.ref rO, .ref sT, .ref mA, .ref sB, .ref sA, .ref tH, .ref tF, .ref tS, .int 0, .int 0, .int (-1), .int 0, .int 0])), (sT, .inr (4, [.ref cO, .ref sH, .int 0]))]) (fun r u => r = (-1)) := by
  refine Ci.of (by decide +kernel) (Nat.le_of_ble_eq_true rfl) ?_
  intro p e s m below meth c A ls Z hin hP hD hl
  have hx := Z.1
  have hb := Z.2.1
  have hS : va_S A s.heap s.heap [] := va_S.rf
  have hl : lv_has ls 5 [(0, .ref x), (1, .int p0), (2, .int p1), (3, .int p2)] := hl
  skip
  refine lv_aload_n hx hb dX11_would_0 rfl (lv_at hl 0 rfl) ?_
  refine lv_iload_n hx hb dX11_would_1 rfl (lv_at hl 1 rfl) ?_
  have hPc := hP.sub2 (wc := [(x, .inr (11, [.ref st, .ref dr, .ref nw, .ref kp, .ref rd, .ref tm, .ref co])), (nw, .inr (10, [.ref rO, .ref sT, .ref mA, .ref sB, .ref sA, .ref tH, .ref tF, .ref tS, .int 0, .int 0, .int (-1), .int 0, .int 0])), (sT, .inr (4, [.ref cO, .ref sH, .int 0]))]) [0, 1, 2] rfl
  have hDc := hD.sub (ws' := [(x, .inr (11, [.ref st, .ref dr, .ref nw, .ref kp, .ref rd, .ref tm, .ref co])), (nw, .inr (10, [.ref rO, .ref sT, .ref mA, .ref sB, .ref sA, .ref tH, .ref tF, .ref tS, .int 0, .int 0, .int (-1), .int 0, .int 0])), (sT, .inr (4, [.ref cO, .ref sH, .int 0]))]) [0, 1, 2] (by decide) rfl
  refine raw_Vi (ci := 11) (q0 := 0) (nA := 1) (As := [.int p0]) (rest := []) Z hl.1 (c_X11_isHorse l D cI cM cT x st dr nw kp rd tm co rO sT mA sB sA tH tF tS cO sH p0) (bw_V bw_803 bw_805 bw_21 bw_80 bw_806) ⟨by decide +kernel, by decide +kernel, by decide +kernel⟩ rfl ⟨Nat.le_of_ble_eq_true rfl, Nat.le_of_ble_eq_true rfl⟩ rfl rfl rfl hPc hDc hS rfl (Nat.le_of_ble_eq_true rfl) dX11_would_2 ⟨Nat.le_of_ble_eq_true rfl, Nat.le_of_ble_eq_true rfl⟩ (fun r2 u1 H1 locs1 h3 hku1 hP1 hD1 hS1 => ?_)
  obtain ⟨rfl, rfl⟩ := h3
  obtain ⟨hP, hD⟩ := z_join (wr := []) Z hS hP hD [0, 1, 2] [] rfl (by decide) rfl (by decide) (by decide) hku1 hP1 hD1
  have hS := hS1
  clear hS1
  generalize H1 = H at hP hS ⊢
  generalize locs1 = locs at hS ⊢
  have hP : va_P D vwCl ([(x, .inr (11, [.ref st, .ref dr, .ref nw, .ref kp, .ref rd, .ref tm, .ref co])), (nw, .inr (10, [.ref rO, .ref sT, .ref mA, .ref sB, .ref sA, .ref tH, .ref tF, .ref tS, .int 0, .int 0, .int (-1), .int 0, .int 0])), (sT, .inr (4, [.ref cO, .ref sH, .int 0]))]) H := hP
  have hD : va_D A ([(x, .inr (11, [.ref st, .ref dr, .ref nw, .ref kp, .ref rd, .ref tm, .ref co])), (nw, .inr (10, [.ref rO, .ref sT, .ref mA, .ref sB, .ref sA, .ref tH, .ref tF, .ref tS, .int 0, .int 0, .int (-1), .int 0, .int 0])), (sT, .inr (4, [.ref cO, .ref sH, .int 0]))]) := hD
  refine lv_if_eq (tgt := 15) hx hb dX11_would_5 (by decide) (fun c4 => ?_) (fun h => absurd (by decide) h)
  refine lv_iconst (v := (-1)) hx hb dX11_would_15 (by decide) ?_
  exact z_ret Z rfl hP hD hS ((by first | rfl | assumption)) dX11_would_16 (Nat.le_of_ble_eq_true rfl) (Nat.le_of_ble_eq_true rfl)
set_option maxHeartbeats 4000000 in
set_option maxRecDepth 100000 in
theorem c_X11_driveByHand (l : Launch) (D : va_G) (cI cM cT : ClassId) (x : Nat) (st : Nat) (dr : Nat) (nw : Nat) (kp : Nat) (rd : Nat) (tm : Nat) (co : Nat) (rO : Nat) (sT : Nat) (mA : Nat) (sB : Nat) (sA : Nat) (tH : Nat) (tF : Nat) (tS : Nat) (cO : Nat) (sH : Nat) (iA : Nat) (p0 : Int32) : Ci l D (ty3 cI cM cT) yX11_driveByHand cX11_driveByHand 3 (some .boolean) 2 0 0 [.ref x, .int p0] ([(x, .inr (11, [.ref st, .ref dr, .ref nw, .ref kp, .ref rd, .ref tm, .ref co])), (nw, .inr (10, [.ref rO, .ref sT, .ref mA, .ref sB, .ref sA, .ref tH, .ref tF, .ref tS, .int 0, .int 0, .int (-1), .int 0, .int 0])), (sT, .inr (4, [.ref cO, .ref sH, .int 0])), (mA, .inr (1, [.ref iA, .int 0, .int 0, .int 0, .int 0, .int 0, .int 13]))]) (fun r u => r = 0 ∧ u = [(x, .inr (11, [.ref st, .ref dr, .ref nw, .ref kp, .ref rd, .ref tm, .ref co])), (nw, .inr (10, [.ref rO, .ref sT, .ref mA, .ref sB, .ref sA, .ref tH, .ref tF, .ref tS, .int 0, .int 0, .int (-1), .int 0, .int 0])), (sT, .inr (4, [.ref cO, .ref sH, .int 0])), (mA, .inr (1, [.ref iA, .int 0, .int 0, .int 0, .int 0, .int 0, .int 13]))]) := by
  refine Ci.of (by decide +kernel) (Nat.le_of_ble_eq_true rfl) ?_
  intro p e s m below meth c A ls Z hin hP hD hl
  have hx := Z.1
  have hb := Z.2.1
  have hS : va_S A s.heap s.heap [] := va_S.rf
  have hl : lv_has ls 3 [(0, .ref x), (1, .int p0)] := hl
  skip
  refine lv_aload_n hx hb dX11_driveByHand_0 rfl (lv_at hl 0 rfl) ?_
  refine z_get Z i_X11 hP 0 rfl rfl 2 (by decide) bw_470 rfl dX11_driveByHand_1 ?_
  refine z_get Z i_X10 hP 1 rfl rfl 2 (by decide) bw_240 rfl dX11_driveByHand_4 ?_
  refine lv_astore_n (lv' := [(2, .ref mA), (0, .ref x), (1, .int p0)]) hx hb dX11_driveByHand_7 rfl hl (by decide) rfl (fun ls hl => ?_)
  refine lv_aload_n hx hb dX11_driveByHand_8 rfl (lv_at hl 1 rfl) ?_
  refine lv_iload_n hx hb dX11_driveByHand_9 rfl (lv_at hl 2 rfl) ?_
  have hPc := hP.sub2 (wc := [(x, .inr (11, [.ref st, .ref dr, .ref nw, .ref kp, .ref rd, .ref tm, .ref co])), (nw, .inr (10, [.ref rO, .ref sT, .ref mA, .ref sB, .ref sA, .ref tH, .ref tF, .ref tS, .int 0, .int 0, .int (-1), .int 0, .int 0])), (sT, .inr (4, [.ref cO, .ref sH, .int 0]))]) [0, 1, 2] rfl
  have hDc := hD.sub (ws' := [(x, .inr (11, [.ref st, .ref dr, .ref nw, .ref kp, .ref rd, .ref tm, .ref co])), (nw, .inr (10, [.ref rO, .ref sT, .ref mA, .ref sB, .ref sA, .ref tH, .ref tF, .ref tS, .int 0, .int 0, .int (-1), .int 0, .int 0])), (sT, .inr (4, [.ref cO, .ref sH, .int 0]))]) [0, 1, 2] (by decide) rfl
  refine raw_Vi (ci := 11) (q0 := 0) (nA := 1) (As := [.int p0]) (rest := []) Z hl.1 (c_X11_isHorse l D cI cM cT x st dr nw kp rd tm co rO sT mA sB sA tH tF tS cO sH p0) (bw_V bw_803 bw_805 bw_21 bw_80 bw_806) ⟨by decide +kernel, by decide +kernel, by decide +kernel⟩ rfl ⟨Nat.le_of_ble_eq_true rfl, Nat.le_of_ble_eq_true rfl⟩ rfl rfl rfl hPc hDc hS rfl (Nat.le_of_ble_eq_true rfl) dX11_driveByHand_10 ⟨Nat.le_of_ble_eq_true rfl, Nat.le_of_ble_eq_true rfl⟩ (fun r2 u1 H1 locs1 h3 hku1 hP1 hD1 hS1 => ?_)
  obtain ⟨rfl, rfl⟩ := h3
  obtain ⟨hP, hD⟩ := z_join (wr := [(mA, .inr (1, [.ref iA, .int 0, .int 0, .int 0, .int 0, .int 0, .int 13]))]) Z hS hP hD [0, 1, 2] [3] rfl (by decide) rfl (by decide) (by decide) hku1 hP1 hD1
  have hS := hS1
  clear hS1
  generalize H1 = H at hP hS ⊢
  generalize locs1 = locs at hS ⊢
  have hP : va_P D vwCl ([(mA, .inr (1, [.ref iA, .int 0, .int 0, .int 0, .int 0, .int 0, .int 13])), (x, .inr (11, [.ref st, .ref dr, .ref nw, .ref kp, .ref rd, .ref tm, .ref co])), (nw, .inr (10, [.ref rO, .ref sT, .ref mA, .ref sB, .ref sA, .ref tH, .ref tF, .ref tS, .int 0, .int 0, .int (-1), .int 0, .int 0])), (sT, .inr (4, [.ref cO, .ref sH, .int 0]))]) H := hP
  have hD : va_D A ([(mA, .inr (1, [.ref iA, .int 0, .int 0, .int 0, .int 0, .int 0, .int 13])), (x, .inr (11, [.ref st, .ref dr, .ref nw, .ref kp, .ref rd, .ref tm, .ref co])), (nw, .inr (10, [.ref rO, .ref sT, .ref mA, .ref sB, .ref sA, .ref tH, .ref tF, .ref tS, .int 0, .int 0, .int (-1), .int 0, .int 0])), (sT, .inr (4, [.ref cO, .ref sH, .int 0]))]) := hD
  refine lv_if_eq (tgt := 26) hx hb dX11_driveByHand_13 (by decide) (fun c4 => ?_) (fun h => absurd (by decide) h)
  refine lv_iconst (v := 0) hx hb dX11_driveByHand_26 (by decide) ?_
  have hP := hP.sub2 (wc := [(x, .inr (11, [.ref st, .ref dr, .ref nw, .ref kp, .ref rd, .ref tm, .ref co])), (nw, .inr (10, [.ref rO, .ref sT, .ref mA, .ref sB, .ref sA, .ref tH, .ref tF, .ref tS, .int 0, .int 0, .int (-1), .int 0, .int 0])), (sT, .inr (4, [.ref cO, .ref sH, .int 0])), (mA, .inr (1, [.ref iA, .int 0, .int 0, .int 0, .int 0, .int 0, .int 13]))]) [1, 2, 3, 0] rfl
  have hD := hD.sub (ws' := [(x, .inr (11, [.ref st, .ref dr, .ref nw, .ref kp, .ref rd, .ref tm, .ref co])), (nw, .inr (10, [.ref rO, .ref sT, .ref mA, .ref sB, .ref sA, .ref tH, .ref tF, .ref tS, .int 0, .int 0, .int (-1), .int 0, .int 0])), (sT, .inr (4, [.ref cO, .ref sH, .int 0])), (mA, .inr (1, [.ref iA, .int 0, .int 0, .int 0, .int 0, .int 0, .int 13]))]) [1, 2, 3, 0] (by decide) rfl
  exact z_ret Z rfl hP hD hS (⟨rfl, rfl⟩) dX11_driveByHand_27 (Nat.le_of_ble_eq_true rfl) (Nat.le_of_ble_eq_true rfl)
set_option maxHeartbeats 4000000 in
set_option maxRecDepth 100000 in
theorem c_X11_drive (l : Launch) (D : va_G) (cI cM cT : ClassId) (x : Nat) (st : Nat) (dr : Nat) (nw : Nat) (kp : Nat) (rd : Nat) (tm : Nat) (co : Nat) (rO : Nat) (sT : Nat) (mA : Nat) (sB : Nat) (sA : Nat) (tH : Nat) (tF : Nat) (tS : Nat) (cO : Nat) (sH : Nat) (iA : Nat) (p0 : Int32) : Ci l D (ty3 cI cM cT) yX11_drive cX11_drive 2 (some .int) 4 0 0 [.ref x, .int p0] ([(x, .inr (11, [.ref st, .ref dr, .ref nw, .ref kp, .ref rd, .ref tm, .ref co])), (nw, .inr (10, [.ref rO, .ref sT, .ref mA, .ref sB, .ref sA, .ref tH, .ref tF, .ref tS, .int 0, .int 0, .int (-1), .int 0, .int 0])), (sT, .inr (4, [.ref cO, .ref sH, .int 0])), (mA, .inr (1, [.ref iA, .int 0, .int 0, .int 0, .int 0, .int 0, .int 13]))]) (fun r u => r = (-1)) := by
  refine Ci.of (by decide +kernel) (Nat.le_of_ble_eq_true rfl) ?_
  intro p e s m below meth c A ls Z hin hP hD hl
  have hx := Z.1
  have hb := Z.2.1
  have hS : va_S A s.heap s.heap [] := va_S.rf
  have hl : lv_has ls 2 [(0, .ref x), (1, .int p0)] := hl
  skip
  refine lv_aload_n hx hb dX11_drive_0 rfl (lv_at hl 0 rfl) ?_
  refine lv_iload_n hx hb dX11_drive_1 rfl (lv_at hl 1 rfl) ?_
  have hPc := hP.sub2 (wc := [(x, .inr (11, [.ref st, .ref dr, .ref nw, .ref kp, .ref rd, .ref tm, .ref co])), (nw, .inr (10, [.ref rO, .ref sT, .ref mA, .ref sB, .ref sA, .ref tH, .ref tF, .ref tS, .int 0, .int 0, .int (-1), .int 0, .int 0])), (sT, .inr (4, [.ref cO, .ref sH, .int 0])), (mA, .inr (1, [.ref iA, .int 0, .int 0, .int 0, .int 0, .int 0, .int 13]))]) [0, 1, 2, 3] rfl
  have hDc := hD.sub (ws' := [(x, .inr (11, [.ref st, .ref dr, .ref nw, .ref kp, .ref rd, .ref tm, .ref co])), (nw, .inr (10, [.ref rO, .ref sT, .ref mA, .ref sB, .ref sA, .ref tH, .ref tF, .ref tS, .int 0, .int 0, .int (-1), .int 0, .int 0])), (sT, .inr (4, [.ref cO, .ref sH, .int 0])), (mA, .inr (1, [.ref iA, .int 0, .int 0, .int 0, .int 0, .int 0, .int 13]))]) [0, 1, 2, 3] (by decide) rfl
  refine raw_Vi (ci := 11) (q0 := 0) (nA := 1) (As := [.int p0]) (rest := []) Z hl.1 (c_X11_driveByHand l D cI cM cT x st dr nw kp rd tm co rO sT mA sB sA tH tF tS cO sH iA p0) (bw_V bw_871 bw_873 bw_27 bw_80 bw_874) ⟨by decide +kernel, by decide +kernel, by decide +kernel⟩ rfl ⟨Nat.le_of_ble_eq_true rfl, Nat.le_of_ble_eq_true rfl⟩ rfl rfl rfl hPc hDc hS rfl (Nat.le_of_ble_eq_true rfl) dX11_drive_2 ⟨Nat.le_of_ble_eq_true rfl, Nat.le_of_ble_eq_true rfl⟩ (fun r2 u1 H1 locs1 h3 hku1 hP1 hD1 hS1 => ?_)
  obtain ⟨rfl, rfl⟩ := h3
  obtain ⟨hP, hD⟩ := z_join (wr := []) Z hS hP hD [0, 1, 2, 3] [] rfl (by decide) rfl (by decide) (by decide) hku1 hP1 hD1
  have hS := hS1
  clear hS1
  generalize H1 = H at hP hS ⊢
  generalize locs1 = locs at hS ⊢
  have hP : va_P D vwCl ([(x, .inr (11, [.ref st, .ref dr, .ref nw, .ref kp, .ref rd, .ref tm, .ref co])), (nw, .inr (10, [.ref rO, .ref sT, .ref mA, .ref sB, .ref sA, .ref tH, .ref tF, .ref tS, .int 0, .int 0, .int (-1), .int 0, .int 0])), (sT, .inr (4, [.ref cO, .ref sH, .int 0])), (mA, .inr (1, [.ref iA, .int 0, .int 0, .int 0, .int 0, .int 0, .int 13]))]) H := hP
  have hD : va_D A ([(x, .inr (11, [.ref st, .ref dr, .ref nw, .ref kp, .ref rd, .ref tm, .ref co])), (nw, .inr (10, [.ref rO, .ref sT, .ref mA, .ref sB, .ref sA, .ref tH, .ref tF, .ref tS, .int 0, .int 0, .int (-1), .int 0, .int 0])), (sT, .inr (4, [.ref cO, .ref sH, .int 0])), (mA, .inr (1, [.ref iA, .int 0, .int 0, .int 0, .int 0, .int 0, .int 13]))]) := hD
  refine lv_if_eq (tgt := 21) hx hb dX11_drive_5 (by decide) (fun c4 => ?_) (fun h => absurd (by decide) h)
  refine lv_iconst (v := (-1)) hx hb dX11_drive_21 (by decide) ?_
  exact z_ret Z rfl hP hD hS ((by first | rfl | assumption)) dX11_drive_22 (Nat.le_of_ble_eq_true rfl) (Nat.le_of_ble_eq_true rfl)
set_option maxHeartbeats 4000000 in
set_option maxRecDepth 100000 in
theorem c_X11_played (l : Launch) (D : va_G) (cI cM cT : ClassId) (x : Nat) (st : Nat) (dr : Nat) (nw : Nat) (kp : Nat) (rd : Nat) (tm : Nat) (co : Nat) (rO : Nat) (sT : Nat) (mA : Nat) (sB : Nat) (sA : Nat) (tH : Nat) (tF : Nat) (tS : Nat) (p0 : Int32) : Ci l D (ty3 cI cM cT) yX11_played cX11_played 6 (some .int) 3 0 0 [.ref x, .int p0] ([(x, .inr (11, [.ref st, .ref dr, .ref nw, .ref kp, .ref rd, .ref tm, .ref co])), (nw, .inr (10, [.ref rO, .ref sT, .ref mA, .ref sB, .ref sA, .ref tH, .ref tF, .ref tS, .int 0, .int 0, .int (-1), .int 0, .int 0]))]) (fun r u => r = (-2)) := by
  refine Ci.of (by decide +kernel) (Nat.le_of_ble_eq_true rfl) ?_
  intro p e s m below meth c A ls Z hin hP hD hl
  have hx := Z.1
  have hb := Z.2.1
  have hS : va_S A s.heap s.heap [] := va_S.rf
  have hl : lv_has ls 6 [(0, .ref x), (1, .int p0)] := hl
  skip
  refine lv_iload_n hx hb dX11_played_0 rfl (lv_at hl 1 rfl) ?_
  refine lv_iconst (v := 0) hx hb dX11_played_1 (by decide) ?_
  refine lv_aload_n hx hb dX11_played_2 rfl (lv_at hl 0 rfl) ?_
  refine z_get Z i_X11 hP 0 rfl rfl 2 (by decide) bw_470 rfl dX11_played_3 ?_
  refine z_get Z i_X10 hP 1 rfl rfl 9 (by decide) bw_255 rfl dX11_played_6 ?_
  refine lv_iconst (v := 1) hx hb dX11_played_9 (by decide) ?_
  refine lv_isub hx hb dX11_played_10 ?_
  refine z_topi (y := (-1)) (by decide) ?_
  have hPc := hP.sub2 (wc := []) [] rfl
  have hDc := hD.sub (ws' := []) [] (by decide) rfl
  refine raw_Si (nA := 3) (As := [.int p0, .int 0, .int (-1)]) (rest := []) Z hl.1 (c_X11_isWithin l D cI cM cT p0 0 (-1)) (bw_S bw_497 bw_498 bw_80 bw_499) ⟨by decide +kernel, by decide +kernel, by decide +kernel⟩ rfl ⟨Nat.le_of_ble_eq_true rfl, Nat.le_of_ble_eq_true rfl⟩ hPc hDc hS rfl (Nat.le_of_ble_eq_true rfl) dX11_played_11 ⟨Nat.le_of_ble_eq_true rfl, Nat.le_of_ble_eq_true rfl⟩ (fun r2 u1 H1 locs1 h3 hku1 hP1 hD1 hS1 => ?_)
  obtain ⟨hrh3, rfl⟩ := h3
  obtain ⟨hP, hD⟩ := z_join (wr := [(x, .inr (11, [.ref st, .ref dr, .ref nw, .ref kp, .ref rd, .ref tm, .ref co])), (nw, .inr (10, [.ref rO, .ref sT, .ref mA, .ref sB, .ref sA, .ref tH, .ref tF, .ref tS, .int 0, .int 0, .int (-1), .int 0, .int 0]))]) Z hS hP hD [] [0, 1] rfl (by decide) rfl (by decide) (by decide) hku1 hP1 hD1
  have hS := hS1
  clear hS1
  generalize H1 = H at hP hS ⊢
  generalize locs1 = locs at hS ⊢
  have hP : va_P D vwCl ([(x, .inr (11, [.ref st, .ref dr, .ref nw, .ref kp, .ref rd, .ref tm, .ref co])), (nw, .inr (10, [.ref rO, .ref sT, .ref mA, .ref sB, .ref sA, .ref tH, .ref tF, .ref tS, .int 0, .int 0, .int (-1), .int 0, .int 0]))]) H := hP
  have hD : va_D A ([(x, .inr (11, [.ref st, .ref dr, .ref nw, .ref kp, .ref rd, .ref tm, .ref co])), (nw, .inr (10, [.ref rO, .ref sT, .ref mA, .ref sB, .ref sA, .ref tH, .ref tF, .ref tS, .int 0, .int 0, .int (-1), .int 0, .int 0]))]) := hD
  obtain rfl : r2 = 0 := by rw [hrh3, if_neg (by simp only [zlt, zle, zeq, zl_0, zl_1, zl_2, zl_3, zl_4, zl_5, zl_6, zl_7, zl_8, zl_9, zl_10, zl_11, zl_12, zl_13, zl_19, zl_20, zl_30, zl_64, zl_99, zl_100, zl_299, zl_300, zl_399, zl_999, zl_9999, zl_m1, zl_m2, zl_m3, zl_32, zl_280]; omega)]
  refine lv_if_ne (tgt := 20) hx hb dX11_played_14 (by decide) (fun h => absurd (by decide) h) (fun c5 => ?_)
  refine lv_bipush (v := (-2)) hx hb dX11_played_17 (by decide) ?_
  exact z_ret Z rfl hP hD hS ((by first | rfl | assumption)) dX11_played_19 (Nat.le_of_ble_eq_true rfl) (Nat.le_of_ble_eq_true rfl)
set_option maxHeartbeats 4000000 in
set_option maxRecDepth 100000 in
theorem c_X11_coach (l : Launch) (D : va_G) (cI cM cT : ClassId) (x : Nat) (st : Nat) (dr : Nat) (nw : Nat) (kp : Nat) (rd : Nat) (tm : Nat) (co : Nat) (rO : Nat) (sT : Nat) (mA : Nat) (sB : Nat) (sA : Nat) (tH : Nat) (tF : Nat) (tS : Nat) (iA : Nat) (p0 : Int32) : Ci l D (ty3 cI cM cT) yX11_coach cX11_coach 2 (some .int) 3 0 0 [.ref x, .int p0] ([(x, .inr (11, [.ref st, .ref dr, .ref nw, .ref kp, .ref rd, .ref tm, .ref co])), (nw, .inr (10, [.ref rO, .ref sT, .ref mA, .ref sB, .ref sA, .ref tH, .ref tF, .ref tS, .int 0, .int 0, .int (-1), .int 0, .int 0])), (mA, .inr (1, [.ref iA, .int 0, .int 0, .int 0, .int 0, .int 0, .int 13]))]) (fun r u => r = (if p0 = 0 ∨ p0 = 1 ∨ p0 = 2 then 0 else (-1))) := by
  refine Ci.of (by decide +kernel) (Nat.le_of_ble_eq_true rfl) ?_
  intro p e s m below meth c A ls Z hin hP hD hl
  have hx := Z.1
  have hb := Z.2.1
  have hS : va_S A s.heap s.heap [] := va_S.rf
  have hl : lv_has ls 2 [(0, .ref x), (1, .int p0)] := hl
  skip
  refine lv_iload_n hx hb dX11_coach_0 rfl (lv_at hl 1 rfl) ?_
  by_cases c1 : p0.toInt < 0 ∨ 3 < p0.toInt
  · refine lv_tableOut (tgt := 76) hx hb dX11_coach_1 c1 (by decide) ?_
    refine lv_iconst (v := (-1)) hx hb dX11_coach_76 (by decide) ?_
    exact z_ret Z rfl hP hD hS ((by first | rfl | assumption | (rw [if_pos (by (try simp only [zlt, zle, zeq, zl_0, zl_1, zl_2, zl_3, zl_4, zl_5, zl_6, zl_7, zl_8, zl_9, zl_10, zl_11, zl_12, zl_13, zl_19, zl_20, zl_30, zl_64, zl_99, zl_100, zl_299, zl_300, zl_399, zl_999, zl_9999, zl_m1, zl_m2, zl_m3, zl_32, zl_280] at c1 ⊢); omega)]; first | done | ((try simp only [zlt, zle, zeq, zl_0, zl_1, zl_2, zl_3, zl_4, zl_5, zl_6, zl_7, zl_8, zl_9, zl_10, zl_11, zl_12, zl_13, zl_19, zl_20, zl_30, zl_64, zl_99, zl_100, zl_299, zl_300, zl_399, zl_999, zl_9999, zl_m1, zl_m2, zl_m3, zl_32, zl_280] at c1 ⊢); omega)) | (rw [if_neg (by (try simp only [zlt, zle, zeq, zl_0, zl_1, zl_2, zl_3, zl_4, zl_5, zl_6, zl_7, zl_8, zl_9, zl_10, zl_11, zl_12, zl_13, zl_19, zl_20, zl_30, zl_64, zl_99, zl_100, zl_299, zl_300, zl_399, zl_999, zl_9999, zl_m1, zl_m2, zl_m3, zl_32, zl_280] at c1 ⊢); omega)]; first | done | ((try simp only [zlt, zle, zeq, zl_0, zl_1, zl_2, zl_3, zl_4, zl_5, zl_6, zl_7, zl_8, zl_9, zl_10, zl_11, zl_12, zl_13, zl_19, zl_20, zl_30, zl_64, zl_99, zl_100, zl_299, zl_300, zl_399, zl_999, zl_9999, zl_m1, zl_m2, zl_m3, zl_32, zl_280] at c1 ⊢); omega)))) dX11_coach_77 (Nat.le_of_ble_eq_true rfl) (Nat.le_of_ble_eq_true rfl)
  · have hsw : p0 = 0 ∨ p0 = 1 ∨ p0 = 2 ∨ p0 = 3 := by simp only [zeq, zl_0, zl_1, zl_2, zl_3, zl_4, zl_5, zl_6, zl_7, zl_8, zl_9, zl_10, zl_11, zl_12, zl_13, zl_19, zl_20, zl_30, zl_64, zl_99, zl_100, zl_299, zl_300, zl_399, zl_999, zl_9999, zl_m1, zl_m2, zl_m3, zl_32, zl_280]; omega
    clear c1
    rcases hsw with rfl | rfl | rfl | rfl
    · refine lv_tableIn (off := 31) (tgt := 32) hx hb dX11_coach_1 (by decide) (by decide) rfl (by decide) ?_
      refine lv_aload_n hx hb dX11_coach_32 rfl (lv_at hl 0 rfl) ?_
      refine z_get Z i_X11 hP 0 rfl rfl 2 (by decide) bw_470 rfl dX11_coach_33 ?_
      refine z_get Z i_X10 hP 1 rfl rfl 2 (by decide) bw_240 rfl dX11_coach_36 ?_
      refine z_get Z i_X1 hP 2 rfl rfl 2 (by decide) bw_186 rfl dX11_coach_39 ?_
      exact z_ret Z rfl hP hD hS ((by first | rfl | assumption | (rw [if_pos (by (try simp only [zlt, zle, zeq, zl_0, zl_1, zl_2, zl_3, zl_4, zl_5, zl_6, zl_7, zl_8, zl_9, zl_10, zl_11, zl_12, zl_13, zl_19, zl_20, zl_30, zl_64, zl_99, zl_100, zl_299, zl_300, zl_399, zl_999, zl_9999, zl_m1, zl_m2, zl_m3, zl_32, zl_280]); omega)]; first | done | ((try simp only [zlt, zle, zeq, zl_0, zl_1, zl_2, zl_3, zl_4, zl_5, zl_6, zl_7, zl_8, zl_9, zl_10, zl_11, zl_12, zl_13, zl_19, zl_20, zl_30, zl_64, zl_99, zl_100, zl_299, zl_300, zl_399, zl_999, zl_9999, zl_m1, zl_m2, zl_m3, zl_32, zl_280]); omega)) | (rw [if_neg (by (try simp only [zlt, zle, zeq, zl_0, zl_1, zl_2, zl_3, zl_4, zl_5, zl_6, zl_7, zl_8, zl_9, zl_10, zl_11, zl_12, zl_13, zl_19, zl_20, zl_30, zl_64, zl_99, zl_100, zl_299, zl_300, zl_399, zl_999, zl_9999, zl_m1, zl_m2, zl_m3, zl_32, zl_280]); omega)]; first | done | ((try simp only [zlt, zle, zeq, zl_0, zl_1, zl_2, zl_3, zl_4, zl_5, zl_6, zl_7, zl_8, zl_9, zl_10, zl_11, zl_12, zl_13, zl_19, zl_20, zl_30, zl_64, zl_99, zl_100, zl_299, zl_300, zl_399, zl_999, zl_9999, zl_m1, zl_m2, zl_m3, zl_32, zl_280]); omega)))) dX11_coach_42 (Nat.le_of_ble_eq_true rfl) (Nat.le_of_ble_eq_true rfl)
    · refine lv_tableIn (off := 42) (tgt := 43) hx hb dX11_coach_1 (by decide) (by decide) rfl (by decide) ?_
      refine lv_aload_n hx hb dX11_coach_43 rfl (lv_at hl 0 rfl) ?_
      refine z_get Z i_X11 hP 0 rfl rfl 2 (by decide) bw_470 rfl dX11_coach_44 ?_
      refine z_get Z i_X10 hP 1 rfl rfl 2 (by decide) bw_240 rfl dX11_coach_47 ?_
      refine z_get Z i_X1 hP 2 rfl rfl 3 (by decide) bw_188 rfl dX11_coach_50 ?_
      exact z_ret Z rfl hP hD hS ((by first | rfl | assumption | (rw [if_pos (by (try simp only [zlt, zle, zeq, zl_0, zl_1, zl_2, zl_3, zl_4, zl_5, zl_6, zl_7, zl_8, zl_9, zl_10, zl_11, zl_12, zl_13, zl_19, zl_20, zl_30, zl_64, zl_99, zl_100, zl_299, zl_300, zl_399, zl_999, zl_9999, zl_m1, zl_m2, zl_m3, zl_32, zl_280]); omega)]; first | done | ((try simp only [zlt, zle, zeq, zl_0, zl_1, zl_2, zl_3, zl_4, zl_5, zl_6, zl_7, zl_8, zl_9, zl_10, zl_11, zl_12, zl_13, zl_19, zl_20, zl_30, zl_64, zl_99, zl_100, zl_299, zl_300, zl_399, zl_999, zl_9999, zl_m1, zl_m2, zl_m3, zl_32, zl_280]); omega)) | (rw [if_neg (by (try simp only [zlt, zle, zeq, zl_0, zl_1, zl_2, zl_3, zl_4, zl_5, zl_6, zl_7, zl_8, zl_9, zl_10, zl_11, zl_12, zl_13, zl_19, zl_20, zl_30, zl_64, zl_99, zl_100, zl_299, zl_300, zl_399, zl_999, zl_9999, zl_m1, zl_m2, zl_m3, zl_32, zl_280]); omega)]; first | done | ((try simp only [zlt, zle, zeq, zl_0, zl_1, zl_2, zl_3, zl_4, zl_5, zl_6, zl_7, zl_8, zl_9, zl_10, zl_11, zl_12, zl_13, zl_19, zl_20, zl_30, zl_64, zl_99, zl_100, zl_299, zl_300, zl_399, zl_999, zl_9999, zl_m1, zl_m2, zl_m3, zl_32, zl_280]); omega)))) dX11_coach_53 (Nat.le_of_ble_eq_true rfl) (Nat.le_of_ble_eq_true rfl)
    · refine lv_tableIn (off := 53) (tgt := 54) hx hb dX11_coach_1 (by decide) (by decide) rfl (by decide) ?_
      refine lv_aload_n hx hb dX11_coach_54 rfl (lv_at hl 0 rfl) ?_
      refine z_get Z i_X11 hP 0 rfl rfl 2 (by decide) bw_470 rfl dX11_coach_55 ?_
      refine z_get Z i_X10 hP 1 rfl rfl 2 (by decide) bw_240 rfl dX11_coach_58 ?_
      refine z_get Z i_X1 hP 2 rfl rfl 4 (by decide) bw_190 rfl dX11_coach_61 ?_
      exact z_ret Z rfl hP hD hS ((by first | rfl | assumption | (rw [if_pos (by (try simp only [zlt, zle, zeq, zl_0, zl_1, zl_2, zl_3, zl_4, zl_5, zl_6, zl_7, zl_8, zl_9, zl_10, zl_11, zl_12, zl_13, zl_19, zl_20, zl_30, zl_64, zl_99, zl_100, zl_299, zl_300, zl_399, zl_999, zl_9999, zl_m1, zl_m2, zl_m3, zl_32, zl_280]); omega)]; first | done | ((try simp only [zlt, zle, zeq, zl_0, zl_1, zl_2, zl_3, zl_4, zl_5, zl_6, zl_7, zl_8, zl_9, zl_10, zl_11, zl_12, zl_13, zl_19, zl_20, zl_30, zl_64, zl_99, zl_100, zl_299, zl_300, zl_399, zl_999, zl_9999, zl_m1, zl_m2, zl_m3, zl_32, zl_280]); omega)) | (rw [if_neg (by (try simp only [zlt, zle, zeq, zl_0, zl_1, zl_2, zl_3, zl_4, zl_5, zl_6, zl_7, zl_8, zl_9, zl_10, zl_11, zl_12, zl_13, zl_19, zl_20, zl_30, zl_64, zl_99, zl_100, zl_299, zl_300, zl_399, zl_999, zl_9999, zl_m1, zl_m2, zl_m3, zl_32, zl_280]); omega)]; first | done | ((try simp only [zlt, zle, zeq, zl_0, zl_1, zl_2, zl_3, zl_4, zl_5, zl_6, zl_7, zl_8, zl_9, zl_10, zl_11, zl_12, zl_13, zl_19, zl_20, zl_30, zl_64, zl_99, zl_100, zl_299, zl_300, zl_399, zl_999, zl_9999, zl_m1, zl_m2, zl_m3, zl_32, zl_280]); omega)))) dX11_coach_64 (Nat.le_of_ble_eq_true rfl) (Nat.le_of_ble_eq_true rfl)
    · refine lv_tableIn (off := 64) (tgt := 65) hx hb dX11_coach_1 (by decide) (by decide) rfl (by decide) ?_
      refine lv_aload_n hx hb dX11_coach_65 rfl (lv_at hl 0 rfl) ?_
      refine z_get Z i_X11 hP 0 rfl rfl 2 (by decide) bw_470 rfl dX11_coach_66 ?_
      refine z_get Z i_X10 hP 1 rfl rfl 2 (by decide) bw_240 rfl dX11_coach_69 ?_
      have hPc := hP.sub2 (wc := [(mA, .inr (1, [.ref iA, .int 0, .int 0, .int 0, .int 0, .int 0, .int 13]))]) [2] rfl
      have hDc := hD.sub (ws' := [(mA, .inr (1, [.ref iA, .int 0, .int 0, .int 0, .int 0, .int 0, .int 13]))]) [2] (by decide) rfl
      refine raw_Vi (ci := 1) (q0 := 0) (nA := 0) (As := []) (rest := []) Z hl.1 (c_X1_lowestInnHere l D cI cM cT mA iA) (bw_V bw_900 bw_901 bw_902 bw_86 bw_903) ⟨by decide +kernel, by decide +kernel, by decide +kernel⟩ rfl ⟨Nat.le_of_ble_eq_true rfl, Nat.le_of_ble_eq_true rfl⟩ rfl rfl rfl hPc hDc hS rfl (Nat.le_of_ble_eq_true rfl) dX11_coach_72 ⟨Nat.le_of_ble_eq_true rfl, Nat.le_of_ble_eq_true rfl⟩ (fun r3 u2 H1 locs1 h4 hku2 hP1 hD1 hS1 => ?_)
      obtain ⟨rfl, rfl⟩ := h4
      obtain ⟨hP, hD⟩ := z_join (wr := [(x, .inr (11, [.ref st, .ref dr, .ref nw, .ref kp, .ref rd, .ref tm, .ref co])), (nw, .inr (10, [.ref rO, .ref sT, .ref mA, .ref sB, .ref sA, .ref tH, .ref tF, .ref tS, .int 0, .int 0, .int (-1), .int 0, .int 0]))]) Z hS hP hD [2] [0, 1] rfl (by decide) rfl (by decide) (by decide) hku2 hP1 hD1
      have hS := hS1
      clear hS1
      generalize H1 = H at hP hS ⊢
      generalize locs1 = locs at hS ⊢
      have hP : va_P D vwCl ([(x, .inr (11, [.ref st, .ref dr, .ref nw, .ref kp, .ref rd, .ref tm, .ref co])), (nw, .inr (10, [.ref rO, .ref sT, .ref mA, .ref sB, .ref sA, .ref tH, .ref tF, .ref tS, .int 0, .int 0, .int (-1), .int 0, .int 0])), (mA, .inr (1, [.ref iA, .int 0, .int 0, .int 0, .int 0, .int 0, .int 13]))]) H := hP
      have hD : va_D A ([(x, .inr (11, [.ref st, .ref dr, .ref nw, .ref kp, .ref rd, .ref tm, .ref co])), (nw, .inr (10, [.ref rO, .ref sT, .ref mA, .ref sB, .ref sA, .ref tH, .ref tF, .ref tS, .int 0, .int 0, .int (-1), .int 0, .int 0])), (mA, .inr (1, [.ref iA, .int 0, .int 0, .int 0, .int 0, .int 0, .int 13]))]) := hD
      exact z_ret Z rfl hP hD hS ((by first | rfl | assumption | (rw [if_pos (by (try simp only [zlt, zle, zeq, zl_0, zl_1, zl_2, zl_3, zl_4, zl_5, zl_6, zl_7, zl_8, zl_9, zl_10, zl_11, zl_12, zl_13, zl_19, zl_20, zl_30, zl_64, zl_99, zl_100, zl_299, zl_300, zl_399, zl_999, zl_9999, zl_m1, zl_m2, zl_m3, zl_32, zl_280]); omega)]; first | done | ((try simp only [zlt, zle, zeq, zl_0, zl_1, zl_2, zl_3, zl_4, zl_5, zl_6, zl_7, zl_8, zl_9, zl_10, zl_11, zl_12, zl_13, zl_19, zl_20, zl_30, zl_64, zl_99, zl_100, zl_299, zl_300, zl_399, zl_999, zl_9999, zl_m1, zl_m2, zl_m3, zl_32, zl_280]); omega)) | (rw [if_neg (by (try simp only [zlt, zle, zeq, zl_0, zl_1, zl_2, zl_3, zl_4, zl_5, zl_6, zl_7, zl_8, zl_9, zl_10, zl_11, zl_12, zl_13, zl_19, zl_20, zl_30, zl_64, zl_99, zl_100, zl_299, zl_300, zl_399, zl_999, zl_9999, zl_m1, zl_m2, zl_m3, zl_32, zl_280]); omega)]; first | done | ((try simp only [zlt, zle, zeq, zl_0, zl_1, zl_2, zl_3, zl_4, zl_5, zl_6, zl_7, zl_8, zl_9, zl_10, zl_11, zl_12, zl_13, zl_19, zl_20, zl_30, zl_64, zl_99, zl_100, zl_299, zl_300, zl_399, zl_999, zl_9999, zl_m1, zl_m2, zl_m3, zl_32, zl_280]); omega)))) dX11_coach_75 (Nat.le_of_ble_eq_true rfl) (Nat.le_of_ble_eq_true rfl)
set_option maxHeartbeats 4000000 in
set_option maxRecDepth 100000 in
theorem c_X11_seen (l : Launch) (D : va_G) (cI cM cT : ClassId) (x : Nat) (st : Nat) (dr : Nat) (nw : Nat) (kp : Nat) (rd : Nat) (tm : Nat) (co : Nat) (rO : Nat) (sT : Nat) (mA : Nat) (sB : Nat) (sA : Nat) (tH : Nat) (tF : Nat) (tS : Nat) (p0 : Int32) : Ci l D (ty3 cI cM cT) yX11_seen cX11_seen 2 (some .int) 3 0 0 [.ref x, .int p0] ([(x, .inr (11, [.ref st, .ref dr, .ref nw, .ref kp, .ref rd, .ref tm, .ref co])), (nw, .inr (10, [.ref rO, .ref sT, .ref mA, .ref sB, .ref sA, .ref tH, .ref tF, .ref tS, .int 0, .int 0, .int (-1), .int 0, .int 0])), (sA, .inl (cI, 6, .inl (fun _ => 0)))]) (fun r u => r = (if p0 = (-1) then 0 else if 0 ≤ p0 ∧ p0 < 300 then 1 else (-2))) := by
  refine Ci.of (by decide +kernel) (Nat.le_of_ble_eq_true rfl) ?_
  intro p e s m below meth c A ls Z hin hP hD hl
  have hx := Z.1
  have hb := Z.2.1
  have hS : va_S A s.heap s.heap [] := va_S.rf
  have hl : lv_has ls 2 [(0, .ref x), (1, .int p0)] := hl
  skip
  refine lv_iload_n hx hb dX11_seen_0 rfl (lv_at hl 1 rfl) ?_
  refine lv_iconst (v := (-1)) hx hb dX11_seen_1 (by decide) ?_
  refine lv_icmp_ne (tgt := 15) hx hb dX11_seen_2 (by decide) (fun c1 => ?_) (fun c1 => ?_)
  · refine lv_iload_n hx hb dX11_seen_15 rfl (lv_at hl 1 rfl) ?_
    have hPc := hP.sub2 (wc := []) [] rfl
    have hDc := hD.sub (ws' := []) [] (by decide) rfl
    refine raw_Si (nA := 1) (As := [.int p0]) (rest := []) Z hl.1 (c_X11_isPlace l D cI cM cT p0) (bw_S bw_494 bw_495 bw_80 bw_496) ⟨by decide +kernel, by decide +kernel, by decide +kernel⟩ rfl ⟨Nat.le_of_ble_eq_true rfl, Nat.le_of_ble_eq_true rfl⟩ hPc hDc hS rfl (Nat.le_of_ble_eq_true rfl) dX11_seen_16 ⟨Nat.le_of_ble_eq_true rfl, Nat.le_of_ble_eq_true rfl⟩ (fun r3 u2 H1 locs1 h4 hku2 hP1 hD1 hS1 => ?_)
    obtain ⟨hrh4, rfl⟩ := h4
    obtain ⟨hP, hD⟩ := z_join (wr := [(x, .inr (11, [.ref st, .ref dr, .ref nw, .ref kp, .ref rd, .ref tm, .ref co])), (nw, .inr (10, [.ref rO, .ref sT, .ref mA, .ref sB, .ref sA, .ref tH, .ref tF, .ref tS, .int 0, .int 0, .int (-1), .int 0, .int 0])), (sA, .inl (cI, 6, .inl (fun _ => 0)))]) Z hS hP hD [] [0, 1, 2] rfl (by decide) rfl (by decide) (by decide) hku2 hP1 hD1
    have hS := hS1
    clear hS1
    generalize H1 = H at hP hS ⊢
    generalize locs1 = locs at hS ⊢
    have hP : va_P D vwCl ([(x, .inr (11, [.ref st, .ref dr, .ref nw, .ref kp, .ref rd, .ref tm, .ref co])), (nw, .inr (10, [.ref rO, .ref sT, .ref mA, .ref sB, .ref sA, .ref tH, .ref tF, .ref tS, .int 0, .int 0, .int (-1), .int 0, .int 0])), (sA, .inl (cI, 6, .inl (fun _ => 0)))]) H := hP
    have hD : va_D A ([(x, .inr (11, [.ref st, .ref dr, .ref nw, .ref kp, .ref rd, .ref tm, .ref co])), (nw, .inr (10, [.ref rO, .ref sT, .ref mA, .ref sB, .ref sA, .ref tH, .ref tF, .ref tS, .int 0, .int 0, .int (-1), .int 0, .int 0])), (sA, .inl (cI, 6, .inl (fun _ => 0)))]) := hD
    by_cases c5 : 0 ≤ p0 ∧ p0 < 300
    · obtain rfl : r3 = 1 := by rw [hrh4, if_pos c5]
      refine lv_if_eq (tgt := 34) hx hb dX11_seen_19 (by decide) (fun h => absurd h (by decide)) (fun c6 => ?_)
      refine lv_aload_n hx hb dX11_seen_22 rfl (lv_at hl 0 rfl) ?_
      refine z_get Z i_X11 hP 0 rfl rfl 2 (by decide) bw_470 rfl dX11_seen_23 ?_
      refine z_get Z i_X10 hP 1 rfl rfl 11 (by decide) bw_260 rfl dX11_seen_26 ?_
      refine lv_bipush (v := 6) hx hb dX11_seen_29 (by decide) ?_
      refine lv_icmp_lt (tgt := 37) hx hb dX11_seen_31 (by decide) (fun c7 => ?_) (fun h => absurd (by decide) h)
      refine lv_aload_n hx hb dX11_seen_37 rfl (lv_at hl 0 rfl) ?_
      refine z_get Z i_X11 hP 0 rfl rfl 2 (by decide) bw_470 rfl dX11_seen_38 ?_
      refine z_get Z i_X10 hP 1 rfl rfl 4 (by decide) bw_244 rfl dX11_seen_41 ?_
      refine lv_aload_n hx hb dX11_seen_44 rfl (lv_at hl 0 rfl) ?_
      refine z_get Z i_X11 hP 0 rfl rfl 2 (by decide) bw_470 rfl dX11_seen_45 ?_
      refine z_get Z i_X10 hP 1 rfl rfl 11 (by decide) bw_260 rfl dX11_seen_48 ?_
      refine lv_iload_n hx hb dX11_seen_51 rfl (lv_at hl 1 rfl) ?_
      refine z_iast Z hP hD hS 2 0 rfl rfl (vin (by decide)) dX11_seen_52 (fun H locs hP hD hS => ?_)
      have hP : va_P D vwCl ([(x, .inr (11, [.ref st, .ref dr, .ref nw, .ref kp, .ref rd, .ref tm, .ref co])), (nw, .inr (10, [.ref rO, .ref sT, .ref mA, .ref sB, .ref sA, .ref tH, .ref tF, .ref tS, .int 0, .int 0, .int (-1), .int 0, .int 0])), (sA, .inl (cI, 6, .inl (upd (fun _ => 0) (0 : Int32).toNatClampNeg p0)))]) H := hP
      have hD : va_D A ([(x, .inr (11, [.ref st, .ref dr, .ref nw, .ref kp, .ref rd, .ref tm, .ref co])), (nw, .inr (10, [.ref rO, .ref sT, .ref mA, .ref sB, .ref sA, .ref tH, .ref tF, .ref tS, .int 0, .int 0, .int (-1), .int 0, .int 0])), (sA, .inl (cI, 6, .inl (upd (fun _ => 0) (0 : Int32).toNatClampNeg p0)))]) := hD
      refine lv_aload_n hx hb dX11_seen_53 rfl (lv_at hl 0 rfl) ?_
      refine z_get Z i_X11 hP 0 rfl rfl 2 (by decide) bw_470 rfl dX11_seen_54 ?_
      refine lv_dup hx hb dX11_seen_57 rfl ?_
      refine z_get Z i_X10 hP 1 rfl rfl 11 (by decide) bw_260 rfl dX11_seen_58 ?_
      refine lv_iconst (v := 1) hx hb dX11_seen_61 (by decide) ?_
      refine lv_iadd hx hb dX11_seen_62 ?_
      refine z_topi (y := 1) (by decide) ?_
      refine z_put Z i_X10 tyX10 tyX10_ok nmX10 hP hD hS 1 rfl rfl 11 (by decide) bw_260 rfl rfl rfl (Nat.le_of_ble_eq_true rfl) dX11_seen_63 (fun H locs hP hD hS => ?_)
      have hP : va_P D vwCl ([(x, .inr (11, [.ref st, .ref dr, .ref nw, .ref kp, .ref rd, .ref tm, .ref co])), (nw, .inr (10, [.ref rO, .ref sT, .ref mA, .ref sB, .ref sA, .ref tH, .ref tF, .ref tS, .int 0, .int 0, .int (-1), .int 1, .int 0])), (sA, .inl (cI, 6, .inl (upd (fun _ => 0) (0 : Int32).toNatClampNeg p0)))]) H := hP
      have hD : va_D A ([(x, .inr (11, [.ref st, .ref dr, .ref nw, .ref kp, .ref rd, .ref tm, .ref co])), (nw, .inr (10, [.ref rO, .ref sT, .ref mA, .ref sB, .ref sA, .ref tH, .ref tF, .ref tS, .int 0, .int 0, .int (-1), .int 1, .int 0])), (sA, .inl (cI, 6, .inl (upd (fun _ => 0) (0 : Int32).toNatClampNeg p0)))]) := hD
      refine lv_aload_n hx hb dX11_seen_66 rfl (lv_at hl 0 rfl) ?_
      refine z_get Z i_X11 hP 0 rfl rfl 2 (by decide) bw_470 rfl dX11_seen_67 ?_
      refine z_get Z i_X10 hP 1 rfl rfl 11 (by decide) bw_260 rfl dX11_seen_70 ?_
      exact z_ret Z rfl hP hD hS ((by first | rfl | assumption | (rw [if_pos (by (try simp only [zlt, zle, zeq, zl_0, zl_1, zl_2, zl_3, zl_4, zl_5, zl_6, zl_7, zl_8, zl_9, zl_10, zl_11, zl_12, zl_13, zl_19, zl_20, zl_30, zl_64, zl_99, zl_100, zl_299, zl_300, zl_399, zl_999, zl_9999, zl_m1, zl_m2, zl_m3, zl_32, zl_280] at c1 c5 c6 c7 ⊢); omega)]; first | done | ((try simp only [zlt, zle, zeq, zl_0, zl_1, zl_2, zl_3, zl_4, zl_5, zl_6, zl_7, zl_8, zl_9, zl_10, zl_11, zl_12, zl_13, zl_19, zl_20, zl_30, zl_64, zl_99, zl_100, zl_299, zl_300, zl_399, zl_999, zl_9999, zl_m1, zl_m2, zl_m3, zl_32, zl_280] at c1 c5 c6 c7 ⊢); omega)) | (rw [if_neg (by (try simp only [zlt, zle, zeq, zl_0, zl_1, zl_2, zl_3, zl_4, zl_5, zl_6, zl_7, zl_8, zl_9, zl_10, zl_11, zl_12, zl_13, zl_19, zl_20, zl_30, zl_64, zl_99, zl_100, zl_299, zl_300, zl_399, zl_999, zl_9999, zl_m1, zl_m2, zl_m3, zl_32, zl_280] at c1 c5 c6 c7 ⊢); omega), if_pos (by (try simp only [zlt, zle, zeq, zl_0, zl_1, zl_2, zl_3, zl_4, zl_5, zl_6, zl_7, zl_8, zl_9, zl_10, zl_11, zl_12, zl_13, zl_19, zl_20, zl_30, zl_64, zl_99, zl_100, zl_299, zl_300, zl_399, zl_999, zl_9999, zl_m1, zl_m2, zl_m3, zl_32, zl_280] at c1 c5 c6 c7 ⊢); omega)]; first | done | ((try simp only [zlt, zle, zeq, zl_0, zl_1, zl_2, zl_3, zl_4, zl_5, zl_6, zl_7, zl_8, zl_9, zl_10, zl_11, zl_12, zl_13, zl_19, zl_20, zl_30, zl_64, zl_99, zl_100, zl_299, zl_300, zl_399, zl_999, zl_9999, zl_m1, zl_m2, zl_m3, zl_32, zl_280] at c1 c5 c6 c7 ⊢); omega)) | (rw [if_neg (by (try simp only [zlt, zle, zeq, zl_0, zl_1, zl_2, zl_3, zl_4, zl_5, zl_6, zl_7, zl_8, zl_9, zl_10, zl_11, zl_12, zl_13, zl_19, zl_20, zl_30, zl_64, zl_99, zl_100, zl_299, zl_300, zl_399, zl_999, zl_9999, zl_m1, zl_m2, zl_m3, zl_32, zl_280] at c1 c5 c6 c7 ⊢); omega), if_neg (by (try simp only [zlt, zle, zeq, zl_0, zl_1, zl_2, zl_3, zl_4, zl_5, zl_6, zl_7, zl_8, zl_9, zl_10, zl_11, zl_12, zl_13, zl_19, zl_20, zl_30, zl_64, zl_99, zl_100, zl_299, zl_300, zl_399, zl_999, zl_9999, zl_m1, zl_m2, zl_m3, zl_32, zl_280] at c1 c5 c6 c7 ⊢); omega)]; first | done | ((try simp only [zlt, zle, zeq, zl_0, zl_1, zl_2, zl_3, zl_4, zl_5, zl_6, zl_7, zl_8, zl_9, zl_10, zl_11, zl_12, zl_13, zl_19, zl_20, zl_30, zl_64, zl_99, zl_100, zl_299, zl_300, zl_399, zl_999, zl_9999, zl_m1, zl_m2, zl_m3, zl_32, zl_280] at c1 c5 c6 c7 ⊢); omega)))) dX11_seen_73 (Nat.le_of_ble_eq_true rfl) (Nat.le_of_ble_eq_true rfl)
    · obtain rfl : r3 = 0 := by rw [hrh4, if_neg c5]
      refine lv_if_eq (tgt := 34) hx hb dX11_seen_19 (by decide) (fun c8 => ?_) (fun h => absurd (by decide) h)
      refine lv_bipush (v := (-2)) hx hb dX11_seen_34 (by decide) ?_
      exact z_ret Z rfl hP hD hS ((by first | rfl | assumption | (rw [if_pos (by (try simp only [zlt, zle, zeq, zl_0, zl_1, zl_2, zl_3, zl_4, zl_5, zl_6, zl_7, zl_8, zl_9, zl_10, zl_11, zl_12, zl_13, zl_19, zl_20, zl_30, zl_64, zl_99, zl_100, zl_299, zl_300, zl_399, zl_999, zl_9999, zl_m1, zl_m2, zl_m3, zl_32, zl_280] at c1 c5 c8 ⊢); omega)]; first | done | ((try simp only [zlt, zle, zeq, zl_0, zl_1, zl_2, zl_3, zl_4, zl_5, zl_6, zl_7, zl_8, zl_9, zl_10, zl_11, zl_12, zl_13, zl_19, zl_20, zl_30, zl_64, zl_99, zl_100, zl_299, zl_300, zl_399, zl_999, zl_9999, zl_m1, zl_m2, zl_m3, zl_32, zl_280] at c1 c5 c8 ⊢); omega)) | (rw [if_neg (by (try simp only [zlt, zle, zeq, zl_0, zl_1, zl_2, zl_3, zl_4, zl_5, zl_6, zl_7, zl_8, zl_9, zl_10, zl_11, zl_12, zl_13, zl_19, zl_20, zl_30, zl_64, zl_99, zl_100, zl_299, zl_300, zl_399, zl_999, zl_9999, zl_m1, zl_m2, zl_m3, zl_32, zl_280] at c1 c5 c8 ⊢); omega), if_pos (by (try simp only [zlt, zle, zeq, zl_0, zl_1, zl_2, zl_3, zl_4, zl_5, zl_6, zl_7, zl_8, zl_9, zl_10, zl_11, zl_12, zl_13, zl_19, zl_20, zl_30, zl_64, zl_99, zl_100, zl_299, zl_300, zl_399, zl_999, zl_9999, zl_m1, zl_m2, zl_m3, zl_32, zl_280] at c1 c5 c8 ⊢); omega)]; first | done | ((try simp only [zlt, zle, zeq, zl_0, zl_1, zl_2, zl_3, zl_4, zl_5, zl_6, zl_7, zl_8, zl_9, zl_10, zl_11, zl_12, zl_13, zl_19, zl_20, zl_30, zl_64, zl_99, zl_100, zl_299, zl_300, zl_399, zl_999, zl_9999, zl_m1, zl_m2, zl_m3, zl_32, zl_280] at c1 c5 c8 ⊢); omega)) | (rw [if_neg (by (try simp only [zlt, zle, zeq, zl_0, zl_1, zl_2, zl_3, zl_4, zl_5, zl_6, zl_7, zl_8, zl_9, zl_10, zl_11, zl_12, zl_13, zl_19, zl_20, zl_30, zl_64, zl_99, zl_100, zl_299, zl_300, zl_399, zl_999, zl_9999, zl_m1, zl_m2, zl_m3, zl_32, zl_280] at c1 c5 c8 ⊢); omega), if_neg (by (try simp only [zlt, zle, zeq, zl_0, zl_1, zl_2, zl_3, zl_4, zl_5, zl_6, zl_7, zl_8, zl_9, zl_10, zl_11, zl_12, zl_13, zl_19, zl_20, zl_30, zl_64, zl_99, zl_100, zl_299, zl_300, zl_399, zl_999, zl_9999, zl_m1, zl_m2, zl_m3, zl_32, zl_280] at c1 c5 c8 ⊢); omega)]; first | done | ((try simp only [zlt, zle, zeq, zl_0, zl_1, zl_2, zl_3, zl_4, zl_5, zl_6, zl_7, zl_8, zl_9, zl_10, zl_11, zl_12, zl_13, zl_19, zl_20, zl_30, zl_64, zl_99, zl_100, zl_299, zl_300, zl_399, zl_999, zl_9999, zl_m1, zl_m2, zl_m3, zl_32, zl_280] at c1 c5 c8 ⊢); omega)))) dX11_seen_36 (Nat.le_of_ble_eq_true rfl) (Nat.le_of_ble_eq_true rfl)
  · refine lv_aload_n hx hb dX11_seen_5 rfl (lv_at hl 0 rfl) ?_
    refine z_get Z i_X11 hP 0 rfl rfl 2 (by decide) bw_470 rfl dX11_seen_6 ?_
    refine lv_iconst (v := 0) hx hb dX11_seen_9 (by decide) ?_
    refine z_put Z i_X10 tyX10 tyX10_ok nmX10 hP hD hS 1 rfl rfl 11 (by decide) bw_260 rfl rfl rfl (Nat.le_of_ble_eq_true rfl) dX11_seen_10 (fun H locs hP hD hS => ?_)
    have hP : va_P D vwCl ([(x, .inr (11, [.ref st, .ref dr, .ref nw, .ref kp, .ref rd, .ref tm, .ref co])), (nw, .inr (10, [.ref rO, .ref sT, .ref mA, .ref sB, .ref sA, .ref tH, .ref tF, .ref tS, .int 0, .int 0, .int (-1), .int 0, .int 0])), (sA, .inl (cI, 6, .inl (fun _ => 0)))]) H := hP
    have hD : va_D A ([(x, .inr (11, [.ref st, .ref dr, .ref nw, .ref kp, .ref rd, .ref tm, .ref co])), (nw, .inr (10, [.ref rO, .ref sT, .ref mA, .ref sB, .ref sA, .ref tH, .ref tF, .ref tS, .int 0, .int 0, .int (-1), .int 0, .int 0])), (sA, .inl (cI, 6, .inl (fun _ => 0)))]) := hD
    refine lv_iconst (v := 0) hx hb dX11_seen_13 (by decide) ?_
    exact z_ret Z rfl hP hD hS ((by first | rfl | assumption | (rw [if_pos (by (try simp only [zlt, zle, zeq, zl_0, zl_1, zl_2, zl_3, zl_4, zl_5, zl_6, zl_7, zl_8, zl_9, zl_10, zl_11, zl_12, zl_13, zl_19, zl_20, zl_30, zl_64, zl_99, zl_100, zl_299, zl_300, zl_399, zl_999, zl_9999, zl_m1, zl_m2, zl_m3, zl_32, zl_280] at c1 ⊢); omega)]; first | done | ((try simp only [zlt, zle, zeq, zl_0, zl_1, zl_2, zl_3, zl_4, zl_5, zl_6, zl_7, zl_8, zl_9, zl_10, zl_11, zl_12, zl_13, zl_19, zl_20, zl_30, zl_64, zl_99, zl_100, zl_299, zl_300, zl_399, zl_999, zl_9999, zl_m1, zl_m2, zl_m3, zl_32, zl_280] at c1 ⊢); omega)) | (rw [if_neg (by (try simp only [zlt, zle, zeq, zl_0, zl_1, zl_2, zl_3, zl_4, zl_5, zl_6, zl_7, zl_8, zl_9, zl_10, zl_11, zl_12, zl_13, zl_19, zl_20, zl_30, zl_64, zl_99, zl_100, zl_299, zl_300, zl_399, zl_999, zl_9999, zl_m1, zl_m2, zl_m3, zl_32, zl_280] at c1 ⊢); omega), if_pos (by (try simp only [zlt, zle, zeq, zl_0, zl_1, zl_2, zl_3, zl_4, zl_5, zl_6, zl_7, zl_8, zl_9, zl_10, zl_11, zl_12, zl_13, zl_19, zl_20, zl_30, zl_64, zl_99, zl_100, zl_299, zl_300, zl_399, zl_999, zl_9999, zl_m1, zl_m2, zl_m3, zl_32, zl_280] at c1 ⊢); omega)]; first | done | ((try simp only [zlt, zle, zeq, zl_0, zl_1, zl_2, zl_3, zl_4, zl_5, zl_6, zl_7, zl_8, zl_9, zl_10, zl_11, zl_12, zl_13, zl_19, zl_20, zl_30, zl_64, zl_99, zl_100, zl_299, zl_300, zl_399, zl_999, zl_9999, zl_m1, zl_m2, zl_m3, zl_32, zl_280] at c1 ⊢); omega)) | (rw [if_neg (by (try simp only [zlt, zle, zeq, zl_0, zl_1, zl_2, zl_3, zl_4, zl_5, zl_6, zl_7, zl_8, zl_9, zl_10, zl_11, zl_12, zl_13, zl_19, zl_20, zl_30, zl_64, zl_99, zl_100, zl_299, zl_300, zl_399, zl_999, zl_9999, zl_m1, zl_m2, zl_m3, zl_32, zl_280] at c1 ⊢); omega), if_neg (by (try simp only [zlt, zle, zeq, zl_0, zl_1, zl_2, zl_3, zl_4, zl_5, zl_6, zl_7, zl_8, zl_9, zl_10, zl_11, zl_12, zl_13, zl_19, zl_20, zl_30, zl_64, zl_99, zl_100, zl_299, zl_300, zl_399, zl_999, zl_9999, zl_m1, zl_m2, zl_m3, zl_32, zl_280] at c1 ⊢); omega)]; first | done | ((try simp only [zlt, zle, zeq, zl_0, zl_1, zl_2, zl_3, zl_4, zl_5, zl_6, zl_7, zl_8, zl_9, zl_10, zl_11, zl_12, zl_13, zl_19, zl_20, zl_30, zl_64, zl_99, zl_100, zl_299, zl_300, zl_399, zl_999, zl_9999, zl_m1, zl_m2, zl_m3, zl_32, zl_280] at c1 ⊢); omega)))) dX11_seen_14 (Nat.le_of_ble_eq_true rfl) (Nat.le_of_ble_eq_true rfl)
set_option maxHeartbeats 4000000 in
set_option maxRecDepth 100000 in
theorem c_X11_tried (l : Launch) (D : va_G) (cI cM cT : ClassId) (x : Nat) (st : Nat) (dr : Nat) (nw : Nat) (kp : Nat) (rd : Nat) (tm : Nat) (co : Nat) (rO : Nat) (sT : Nat) (mA : Nat) (sB : Nat) (sA : Nat) (tH : Nat) (tF : Nat) (tS : Nat) (cO : Nat) (sH : Nat) (p0 : Int32) (p1 : Int32) (p2 : Int32) : Ci l D (ty3 cI cM cT) yX11_tried cX11_tried 4 (some .int) 3 0 0 [.ref x, .int p0, .int p1, .int p2] ([(x, .inr (11, [.ref st, .ref dr, .ref nw, .ref kp, .ref rd, .ref tm, .ref co])), (nw, .inr (10, [.ref rO, .ref sT, .ref mA, .ref sB, .ref sA, .ref tH, .ref tF, .ref tS, .int 0, .int 0, .int (-1), .int 0, .int 0])), (sT, .inr (4, [.ref cO, .ref sH, .int 0]))]) (fun r u => r = (if p0 = (-1) then 0 else (-2))) := by
  refine Ci.of (by decide +kernel) (Nat.le_of_ble_eq_true rfl) ?_
  intro p e s m below meth c A ls Z hin hP hD hl
  have hx := Z.1
  have hb := Z.2.1
  have hS : va_S A s.heap s.heap [] := va_S.rf
  have hl : lv_has ls 4 [(0, .ref x), (1, .int p0), (2, .int p1), (3, .int p2)] := hl
  skip
  refine lv_iload_n hx hb dX11_tried_0 rfl (lv_at hl 1 rfl) ?_
  refine lv_iconst (v := (-1)) hx hb dX11_tried_1 (by decide) ?_
  refine lv_icmp_ne (tgt := 15) hx hb dX11_tried_2 (by decide) (fun c1 => ?_) (fun c1 => ?_)
  · refine lv_aload_n hx hb dX11_tried_15 rfl (lv_at hl 0 rfl) ?_
    refine lv_iload_n hx hb dX11_tried_16 rfl (lv_at hl 1 rfl) ?_
    have hPc := hP.sub2 (wc := [(x, .inr (11, [.ref st, .ref dr, .ref nw, .ref kp, .ref rd, .ref tm, .ref co])), (nw, .inr (10, [.ref rO, .ref sT, .ref mA, .ref sB, .ref sA, .ref tH, .ref tF, .ref tS, .int 0, .int 0, .int (-1), .int 0, .int 0])), (sT, .inr (4, [.ref cO, .ref sH, .int 0]))]) [0, 1, 2] rfl
    have hDc := hD.sub (ws' := [(x, .inr (11, [.ref st, .ref dr, .ref nw, .ref kp, .ref rd, .ref tm, .ref co])), (nw, .inr (10, [.ref rO, .ref sT, .ref mA, .ref sB, .ref sA, .ref tH, .ref tF, .ref tS, .int 0, .int 0, .int (-1), .int 0, .int 0])), (sT, .inr (4, [.ref cO, .ref sH, .int 0]))]) [0, 1, 2] (by decide) rfl
    refine raw_Vi (ci := 11) (q0 := 0) (nA := 1) (As := [.int p0]) (rest := []) Z hl.1 (c_X11_isHorse l D cI cM cT x st dr nw kp rd tm co rO sT mA sB sA tH tF tS cO sH p0) (bw_V bw_803 bw_805 bw_21 bw_80 bw_806) ⟨by decide +kernel, by decide +kernel, by decide +kernel⟩ rfl ⟨Nat.le_of_ble_eq_true rfl, Nat.le_of_ble_eq_true rfl⟩ rfl rfl rfl hPc hDc hS rfl (Nat.le_of_ble_eq_true rfl) dX11_tried_17 ⟨Nat.le_of_ble_eq_true rfl, Nat.le_of_ble_eq_true rfl⟩ (fun r3 u2 H1 locs1 h4 hku2 hP1 hD1 hS1 => ?_)
    obtain ⟨rfl, rfl⟩ := h4
    obtain ⟨hP, hD⟩ := z_join (wr := []) Z hS hP hD [0, 1, 2] [] rfl (by decide) rfl (by decide) (by decide) hku2 hP1 hD1
    have hS := hS1
    clear hS1
    generalize H1 = H at hP hS ⊢
    generalize locs1 = locs at hS ⊢
    have hP : va_P D vwCl ([(x, .inr (11, [.ref st, .ref dr, .ref nw, .ref kp, .ref rd, .ref tm, .ref co])), (nw, .inr (10, [.ref rO, .ref sT, .ref mA, .ref sB, .ref sA, .ref tH, .ref tF, .ref tS, .int 0, .int 0, .int (-1), .int 0, .int 0])), (sT, .inr (4, [.ref cO, .ref sH, .int 0]))]) H := hP
    have hD : va_D A ([(x, .inr (11, [.ref st, .ref dr, .ref nw, .ref kp, .ref rd, .ref tm, .ref co])), (nw, .inr (10, [.ref rO, .ref sT, .ref mA, .ref sB, .ref sA, .ref tH, .ref tF, .ref tS, .int 0, .int 0, .int (-1), .int 0, .int 0])), (sT, .inr (4, [.ref cO, .ref sH, .int 0]))]) := hD
    refine lv_if_eq (tgt := 49) hx hb dX11_tried_20 (by decide) (fun c5 => ?_) (fun h => absurd (by decide) h)
    refine lv_bipush (v := (-2)) hx hb dX11_tried_49 (by decide) ?_
    exact z_ret Z rfl hP hD hS ((by first | rfl | assumption | (rw [if_pos (by (try simp only [zlt, zle, zeq, zl_0, zl_1, zl_2, zl_3, zl_4, zl_5, zl_6, zl_7, zl_8, zl_9, zl_10, zl_11, zl_12, zl_13, zl_19, zl_20, zl_30, zl_64, zl_99, zl_100, zl_299, zl_300, zl_399, zl_999, zl_9999, zl_m1, zl_m2, zl_m3, zl_32, zl_280] at c1 c5 ⊢); omega)]; first | done | ((try simp only [zlt, zle, zeq, zl_0, zl_1, zl_2, zl_3, zl_4, zl_5, zl_6, zl_7, zl_8, zl_9, zl_10, zl_11, zl_12, zl_13, zl_19, zl_20, zl_30, zl_64, zl_99, zl_100, zl_299, zl_300, zl_399, zl_999, zl_9999, zl_m1, zl_m2, zl_m3, zl_32, zl_280] at c1 c5 ⊢); omega)) | (rw [if_neg (by (try simp only [zlt, zle, zeq, zl_0, zl_1, zl_2, zl_3, zl_4, zl_5, zl_6, zl_7, zl_8, zl_9, zl_10, zl_11, zl_12, zl_13, zl_19, zl_20, zl_30, zl_64, zl_99, zl_100, zl_299, zl_300, zl_399, zl_999, zl_9999, zl_m1, zl_m2, zl_m3, zl_32, zl_280] at c1 c5 ⊢); omega)]; first | done | ((try simp only [zlt, zle, zeq, zl_0, zl_1, zl_2, zl_3, zl_4, zl_5, zl_6, zl_7, zl_8, zl_9, zl_10, zl_11, zl_12, zl_13, zl_19, zl_20, zl_30, zl_64, zl_99, zl_100, zl_299, zl_300, zl_399, zl_999, zl_9999, zl_m1, zl_m2, zl_m3, zl_32, zl_280] at c1 c5 ⊢); omega)))) dX11_tried_51 (Nat.le_of_ble_eq_true rfl) (Nat.le_of_ble_eq_true rfl)
  · refine lv_aload_n hx hb dX11_tried_5 rfl (lv_at hl 0 rfl) ?_
    refine z_get Z i_X11 hP 0 rfl rfl 2 (by decide) bw_470 rfl dX11_tried_6 ?_
    refine lv_iconst (v := 0) hx hb dX11_tried_9 (by decide) ?_
    refine z_put Z i_X10 tyX10 tyX10_ok nmX10 hP hD hS 1 rfl rfl 12 (by decide) bw_262 rfl rfl rfl (Nat.le_of_ble_eq_true rfl) dX11_tried_10 (fun H locs hP hD hS => ?_)
    have hP : va_P D vwCl ([(x, .inr (11, [.ref st, .ref dr, .ref nw, .ref kp, .ref rd, .ref tm, .ref co])), (nw, .inr (10, [.ref rO, .ref sT, .ref mA, .ref sB, .ref sA, .ref tH, .ref tF, .ref tS, .int 0, .int 0, .int (-1), .int 0, .int 0])), (sT, .inr (4, [.ref cO, .ref sH, .int 0]))]) H := hP
    have hD : va_D A ([(x, .inr (11, [.ref st, .ref dr, .ref nw, .ref kp, .ref rd, .ref tm, .ref co])), (nw, .inr (10, [.ref rO, .ref sT, .ref mA, .ref sB, .ref sA, .ref tH, .ref tF, .ref tS, .int 0, .int 0, .int (-1), .int 0, .int 0])), (sT, .inr (4, [.ref cO, .ref sH, .int 0]))]) := hD
    refine lv_iconst (v := 0) hx hb dX11_tried_13 (by decide) ?_
    exact z_ret Z rfl hP hD hS ((by first | rfl | assumption | (rw [if_pos (by (try simp only [zlt, zle, zeq, zl_0, zl_1, zl_2, zl_3, zl_4, zl_5, zl_6, zl_7, zl_8, zl_9, zl_10, zl_11, zl_12, zl_13, zl_19, zl_20, zl_30, zl_64, zl_99, zl_100, zl_299, zl_300, zl_399, zl_999, zl_9999, zl_m1, zl_m2, zl_m3, zl_32, zl_280] at c1 ⊢); omega)]; first | done | ((try simp only [zlt, zle, zeq, zl_0, zl_1, zl_2, zl_3, zl_4, zl_5, zl_6, zl_7, zl_8, zl_9, zl_10, zl_11, zl_12, zl_13, zl_19, zl_20, zl_30, zl_64, zl_99, zl_100, zl_299, zl_300, zl_399, zl_999, zl_9999, zl_m1, zl_m2, zl_m3, zl_32, zl_280] at c1 ⊢); omega)) | (rw [if_neg (by (try simp only [zlt, zle, zeq, zl_0, zl_1, zl_2, zl_3, zl_4, zl_5, zl_6, zl_7, zl_8, zl_9, zl_10, zl_11, zl_12, zl_13, zl_19, zl_20, zl_30, zl_64, zl_99, zl_100, zl_299, zl_300, zl_399, zl_999, zl_9999, zl_m1, zl_m2, zl_m3, zl_32, zl_280] at c1 ⊢); omega)]; first | done | ((try simp only [zlt, zle, zeq, zl_0, zl_1, zl_2, zl_3, zl_4, zl_5, zl_6, zl_7, zl_8, zl_9, zl_10, zl_11, zl_12, zl_13, zl_19, zl_20, zl_30, zl_64, zl_99, zl_100, zl_299, zl_300, zl_399, zl_999, zl_9999, zl_m1, zl_m2, zl_m3, zl_32, zl_280] at c1 ⊢); omega)))) dX11_tried_14 (Nat.le_of_ble_eq_true rfl) (Nat.le_of_ble_eq_true rfl)
set_option maxHeartbeats 4000000 in
set_option maxRecDepth 100000 in
theorem c_X11_taught (l : Launch) (D : va_G) (cI cM cT : ClassId) (x : Nat) (st : Nat) (dr : Nat) (nw : Nat) (kp : Nat) (rd : Nat) (tm : Nat) (co : Nat) (rO : Nat) (sT : Nat) (mA : Nat) (sB : Nat) (sA : Nat) (tH : Nat) (tF : Nat) (tS : Nat) : Ci l D (ty3 cI cM cT) yX11_taught cX11_taught 3 (some .int) 3 0 0 [.ref x] ([(x, .inr (11, [.ref st, .ref dr, .ref nw, .ref kp, .ref rd, .ref tm, .ref co])), (nw, .inr (10, [.ref rO, .ref sT, .ref mA, .ref sB, .ref sA, .ref tH, .ref tF, .ref tS, .int 0, .int 0, .int (-1), .int 0, .int 0]))]) (fun r u => r = 0) := by
  refine Ci.of (by decide +kernel) (Nat.le_of_ble_eq_true rfl) ?_
  intro p e s m below meth c A ls Z hin hP hD hl
  have hx := Z.1
  have hb := Z.2.1
  have hS : va_S A s.heap s.heap [] := va_S.rf
  have hl : lv_has ls 3 [(0, .ref x)] := hl
  skip
  refine lv_iconst (v := 0) hx hb dX11_taught_0 (by decide) ?_
  refine lv_istore_n (lv' := [(1, .int 0), (0, .ref x)]) hx hb dX11_taught_1 rfl hl (by decide) rfl (fun ls hl => ?_)
  refine lv_iconst (v := 0) hx hb dX11_taught_2 (by decide) ?_
  refine lv_istore_n (lv' := [(2, .int 0), (1, .int 0), (0, .ref x)]) hx hb dX11_taught_3 rfl hl (by decide) rfl (fun ls hl => ?_)
  refine lv_iload_n hx hb dX11_taught_4 rfl (lv_at hl 0 rfl) ?_
  refine lv_aload_n hx hb dX11_taught_5 rfl (lv_at hl 2 rfl) ?_
  refine z_get Z i_X11 hP 0 rfl rfl 2 (by decide) bw_470 rfl dX11_taught_6 ?_
  refine z_get Z i_X10 hP 1 rfl rfl 9 (by decide) bw_255 rfl dX11_taught_9 ?_
  refine lv_icmp_ge (tgt := 43) hx hb dX11_taught_12 (by decide) (fun c1 => ?_) (fun h => absurd (by decide) h)
  refine lv_iload_n hx hb dX11_taught_43 rfl (lv_at hl 1 rfl) ?_
  exact z_ret Z rfl hP hD hS ((by first | rfl | assumption)) dX11_taught_44 (Nat.le_of_ble_eq_true rfl) (Nat.le_of_ble_eq_true rfl)
set_option maxHeartbeats 4000000 in
set_option maxRecDepth 100000 in
theorem c_X11_never (l : Launch) (D : va_G) (cI cM cT : ClassId) (x : Nat) (st : Nat) (dr : Nat) (nw : Nat) (kp : Nat) (rd : Nat) (tm : Nat) (co : Nat) (rO : Nat) (sT : Nat) (mA : Nat) (sB : Nat) (sA : Nat) (tH : Nat) (tF : Nat) (tS : Nat) (iA : Nat) : Ci l D (ty3 cI cM cT) yX11_never cX11_never 3 (some .int) 3 0 0 [.ref x] ([(x, .inr (11, [.ref st, .ref dr, .ref nw, .ref kp, .ref rd, .ref tm, .ref co])), (nw, .inr (10, [.ref rO, .ref sT, .ref mA, .ref sB, .ref sA, .ref tH, .ref tF, .ref tS, .int 0, .int 0, .int (-1), .int 0, .int 0])), (mA, .inr (1, [.ref iA, .int 0, .int 0, .int 0, .int 0, .int 0, .int 13]))]) (fun r u => r = 0) := by
  refine Ci.of (by decide +kernel) (Nat.le_of_ble_eq_true rfl) ?_
  intro p e s m below meth c A ls Z hin hP hD hl
  have hx := Z.1
  have hb := Z.2.1
  have hS : va_S A s.heap s.heap [] := va_S.rf
  have hl : lv_has ls 3 [(0, .ref x)] := hl
  skip
  refine lv_iconst (v := 0) hx hb dX11_never_0 (by decide) ?_
  refine lv_istore_n (lv' := [(1, .int 0), (0, .ref x)]) hx hb dX11_never_1 rfl hl (by decide) rfl (fun ls hl => ?_)
  refine lv_iconst (v := 0) hx hb dX11_never_2 (by decide) ?_
  refine lv_istore_n (lv' := [(2, .int 0), (1, .int 0), (0, .ref x)]) hx hb dX11_never_3 rfl hl (by decide) rfl (fun ls hl => ?_)
  refine lv_iload_n hx hb dX11_never_4 rfl (lv_at hl 0 rfl) ?_
  refine lv_aload_n hx hb dX11_never_5 rfl (lv_at hl 2 rfl) ?_
  refine z_get Z i_X11 hP 0 rfl rfl 2 (by decide) bw_470 rfl dX11_never_6 ?_
  refine z_get Z i_X10 hP 1 rfl rfl 2 (by decide) bw_240 rfl dX11_never_9 ?_
  refine z_get Z i_X1 hP 2 rfl rfl 1 (by decide) bw_184 rfl dX11_never_12 ?_
  refine lv_icmp_ge (tgt := 49) hx hb dX11_never_15 (by decide) (fun c1 => ?_) (fun h => absurd (by decide) h)
  refine lv_iload_n hx hb dX11_never_49 rfl (lv_at hl 1 rfl) ?_
  exact z_ret Z rfl hP hD hS ((by first | rfl | assumption)) dX11_never_50 (Nat.le_of_ble_eq_true rfl) (Nat.le_of_ble_eq_true rfl)
set_option maxHeartbeats 4000000 in
set_option maxRecDepth 100000 in
theorem c_X5_takeBack (l : Launch) (D : va_G) (cI cM cT : ClassId) (sB : Nat) (rG : Nat) (mA : Nat) (iA : Nat) : Ci l D (ty3 cI cM cT) yX5_takeBack cX5_takeBack 2 (some .boolean) 1 0 0 [.ref sB, .ref mA] ([(sB, .inr (5, [.ref rG, .int 0, .int 0])), (mA, .inr (1, [.ref iA, .int 0, .int 0, .int 0, .int 0, .int 0, .int 13]))]) (fun r u => r = 0 ∧ u = [(sB, .inr (5, [.ref rG, .int 0, .int 0])), (mA, .inr (1, [.ref iA, .int 0, .int 0, .int 0, .int 0, .int 0, .int 13]))]) := by
  refine Ci.of (by decide +kernel) (Nat.le_of_ble_eq_true rfl) ?_
  intro p e s m below meth c A ls Z hin hP hD hl
  have hx := Z.1
  have hb := Z.2.1
  have hS : va_S A s.heap s.heap [] := va_S.rf
  have hl : lv_has ls 2 [(0, .ref sB), (1, .ref mA)] := hl
  skip
  refine lv_aload_n hx hb dX5_takeBack_0 rfl (lv_at hl 0 rfl) ?_
  refine z_get Z i_X5 hP 0 rfl rfl 2 (by decide) bw_222 rfl dX5_takeBack_1 ?_
  refine lv_if_ne (tgt := 9) hx hb dX5_takeBack_4 (by decide) (fun h => absurd (by decide) h) (fun c1 => ?_)
  refine lv_iconst (v := 0) hx hb dX5_takeBack_7 (by decide) ?_
  exact z_ret Z rfl hP hD hS (⟨rfl, rfl⟩) dX5_takeBack_8 (Nat.le_of_ble_eq_true rfl) (Nat.le_of_ble_eq_true rfl)
set_option maxHeartbeats 4000000 in
set_option maxRecDepth 100000 in
theorem c_X11_undo (l : Launch) (D : va_G) (cI cM cT : ClassId) (x : Nat) (st : Nat) (dr : Nat) (nw : Nat) (kp : Nat) (rd : Nat) (tm : Nat) (co : Nat) (rO : Nat) (sT : Nat) (mA : Nat) (sB : Nat) (sA : Nat) (tH : Nat) (tF : Nat) (tS : Nat) (rG : Nat) (iA : Nat) : Ci l D (ty3 cI cM cT) yX11_undo cX11_undo 1 (some .int) 3 0 0 [.ref x] ([(x, .inr (11, [.ref st, .ref dr, .ref nw, .ref kp, .ref rd, .ref tm, .ref co])), (nw, .inr (10, [.ref rO, .ref sT, .ref mA, .ref sB, .ref sA, .ref tH, .ref tF, .ref tS, .int 0, .int 0, .int (-1), .int 0, .int 0])), (sB, .inr (5, [.ref rG, .int 0, .int 0])), (mA, .inr (1, [.ref iA, .int 0, .int 0, .int 0, .int 0, .int 0, .int 13]))]) (fun r u => r = (-1)) := by
  refine Ci.of (by decide +kernel) (Nat.le_of_ble_eq_true rfl) ?_
  intro p e s m below meth c A ls Z hin hP hD hl
  have hx := Z.1
  have hb := Z.2.1
  have hS : va_S A s.heap s.heap [] := va_S.rf
  have hl : lv_has ls 1 [(0, .ref x)] := hl
  skip
  refine lv_aload_n hx hb dX11_undo_0 rfl (lv_at hl 0 rfl) ?_
  refine z_get Z i_X11 hP 0 rfl rfl 2 (by decide) bw_470 rfl dX11_undo_1 ?_
  refine z_get Z i_X10 hP 1 rfl rfl 3 (by decide) bw_242 rfl dX11_undo_4 ?_
  refine lv_aload_n hx hb dX11_undo_7 rfl (lv_at hl 0 rfl) ?_
  refine z_get Z i_X11 hP 0 rfl rfl 2 (by decide) bw_470 rfl dX11_undo_8 ?_
  refine z_get Z i_X10 hP 1 rfl rfl 2 (by decide) bw_240 rfl dX11_undo_11 ?_
  have hPc := hP.sub2 (wc := [(sB, .inr (5, [.ref rG, .int 0, .int 0])), (mA, .inr (1, [.ref iA, .int 0, .int 0, .int 0, .int 0, .int 0, .int 13]))]) [2, 3] rfl
  have hDc := hD.sub (ws' := [(sB, .inr (5, [.ref rG, .int 0, .int 0])), (mA, .inr (1, [.ref iA, .int 0, .int 0, .int 0, .int 0, .int 0, .int 13]))]) [2, 3] (by decide) rfl
  refine raw_Vi (ci := 5) (q0 := 0) (nA := 1) (As := [.ref mA]) (rest := []) Z hl.1 (c_X5_takeBack l D cI cM cT sB rG mA iA) (bw_V bw_892 bw_893 bw_894 bw_87 bw_895) ⟨by decide +kernel, by decide +kernel, by decide +kernel⟩ rfl ⟨Nat.le_of_ble_eq_true rfl, Nat.le_of_ble_eq_true rfl⟩ rfl rfl rfl hPc hDc hS rfl (Nat.le_of_ble_eq_true rfl) dX11_undo_14 ⟨Nat.le_of_ble_eq_true rfl, Nat.le_of_ble_eq_true rfl⟩ (fun r2 u1 H1 locs1 h3 hku1 hP1 hD1 hS1 => ?_)
  obtain ⟨rfl, rfl⟩ := h3
  obtain ⟨hP, hD⟩ := z_join (wr := [(x, .inr (11, [.ref st, .ref dr, .ref nw, .ref kp, .ref rd, .ref tm, .ref co])), (nw, .inr (10, [.ref rO, .ref sT, .ref mA, .ref sB, .ref sA, .ref tH, .ref tF, .ref tS, .int 0, .int 0, .int (-1), .int 0, .int 0]))]) Z hS hP hD [2, 3] [0, 1] rfl (by decide) rfl (by decide) (by decide) hku1 hP1 hD1
  have hS := hS1
  clear hS1
  generalize H1 = H at hP hS ⊢
  generalize locs1 = locs at hS ⊢
  have hP : va_P D vwCl ([(x, .inr (11, [.ref st, .ref dr, .ref nw, .ref kp, .ref rd, .ref tm, .ref co])), (nw, .inr (10, [.ref rO, .ref sT, .ref mA, .ref sB, .ref sA, .ref tH, .ref tF, .ref tS, .int 0, .int 0, .int (-1), .int 0, .int 0])), (sB, .inr (5, [.ref rG, .int 0, .int 0])), (mA, .inr (1, [.ref iA, .int 0, .int 0, .int 0, .int 0, .int 0, .int 13]))]) H := hP
  have hD : va_D A ([(x, .inr (11, [.ref st, .ref dr, .ref nw, .ref kp, .ref rd, .ref tm, .ref co])), (nw, .inr (10, [.ref rO, .ref sT, .ref mA, .ref sB, .ref sA, .ref tH, .ref tF, .ref tS, .int 0, .int 0, .int (-1), .int 0, .int 0])), (sB, .inr (5, [.ref rG, .int 0, .int 0])), (mA, .inr (1, [.ref iA, .int 0, .int 0, .int 0, .int 0, .int 0, .int 13]))]) := hD
  refine lv_if_ne (tgt := 22) hx hb dX11_undo_17 (by decide) (fun h => absurd (by decide) h) (fun c4 => ?_)
  refine lv_iconst (v := (-1)) hx hb dX11_undo_20 (by decide) ?_
  exact z_ret Z rfl hP hD hS ((by first | rfl | assumption)) dX11_undo_21 (Nat.le_of_ble_eq_true rfl) (Nat.le_of_ble_eq_true rfl)
set_option maxHeartbeats 4000000 in
set_option maxRecDepth 100000 in
theorem c_X11_ordersFrom (l : Launch) (D : va_G) (cI cM cT : ClassId) (x : Nat) (st : Nat) (dr : Nat) (nw : Nat) (kp : Nat) (rd : Nat) (tm : Nat) (co : Nat) (rO : Nat) (sT : Nat) (mA : Nat) (sB : Nat) (sA : Nat) (tH : Nat) (tF : Nat) (tS : Nat) (p0 : Int32) : Ci l D (ty3 cI cM cT) yX11_ordersFrom cX11_ordersFrom 7 (some .int) 1 0 0 [.ref x, .int p0, .int 0, .int 0] ([(x, .inr (11, [.ref st, .ref dr, .ref nw, .ref kp, .ref rd, .ref tm, .ref co])), (nw, .inr (10, [.ref rO, .ref sT, .ref mA, .ref sB, .ref sA, .ref tH, .ref tF, .ref tS, .int 0, .int 0, .int (-1), .int 0, .int 0]))]) (fun r u => r = 1 ∧ u = [(x, .inr (11, [.ref st, .ref dr, .ref nw, .ref kp, .ref rd, .ref tm, .ref co])), (nw, .inr (10, [.ref rO, .ref sT, .ref mA, .ref sB, .ref sA, .ref tH, .ref tF, .ref tS, .int 0, .int 0, .int (-1), .int 0, .int 0]))]) := by
  refine Ci.of (by decide +kernel) (Nat.le_of_ble_eq_true rfl) ?_
  intro p e s m below meth c A ls Z hin hP hD hl
  have hx := Z.1
  have hb := Z.2.1
  have hS : va_S A s.heap s.heap [] := va_S.rf
  have hl : lv_has ls 7 [(0, .ref x), (1, .int p0), (2, .int 0), (3, .int 0)] := hl
  skip
  refine lv_iload_n hx hb dX11_ordersFrom_0 rfl (lv_at hl 2 rfl) ?_
  refine lv_aload_n hx hb dX11_ordersFrom_1 rfl (lv_at hl 0 rfl) ?_
  refine z_get Z i_X11 hP 0 rfl rfl 2 (by decide) bw_470 rfl dX11_ordersFrom_2 ?_
  refine z_get Z i_X10 hP 1 rfl rfl 11 (by decide) bw_260 rfl dX11_ordersFrom_5 ?_
  refine lv_icmp_lt (tgt := 13) hx hb dX11_ordersFrom_8 (by decide) (fun h => absurd h (by decide)) (fun c1 => ?_)
  refine lv_iconst (v := 1) hx hb dX11_ordersFrom_11 (by decide) ?_
  exact z_ret Z rfl hP hD hS (⟨rfl, rfl⟩) dX11_ordersFrom_12 (Nat.le_of_ble_eq_true rfl) (Nat.le_of_ble_eq_true rfl)
set_option maxHeartbeats 4000000 in
set_option maxRecDepth 100000 in
theorem c_X11_who (l : Launch) (D : va_G) (cI cM cT : ClassId) (x : Nat) (st : Nat) (dr : Nat) (nw : Nat) (kp : Nat) (rd : Nat) (tm : Nat) (co : Nat) (rO : Nat) (sT : Nat) (mA : Nat) (sB : Nat) (sA : Nat) (tH : Nat) (tF : Nat) (tS : Nat) (p0 : Int32) (p1 : Int32) : Ci l D (ty3 cI cM cT) yX11_who cX11_who 6 (some .int) 3 0 0 [.ref x, .int p0, .int p1] ([(x, .inr (11, [.ref st, .ref dr, .ref nw, .ref kp, .ref rd, .ref tm, .ref co])), (nw, .inr (10, [.ref rO, .ref sT, .ref mA, .ref sB, .ref sA, .ref tH, .ref tF, .ref tS, .int 0, .int 0, .int (-1), .int 0, .int 0]))]) (fun r u => r = (if (0 ≤ p0 ∧ p0 < 300) ∧ p1 = (-1) then 1 else (-2))) := by
  refine Ci.of (by decide +kernel) (Nat.le_of_ble_eq_true rfl) ?_
  intro p e s m below meth c A ls Z hin hP hD hl
  have hx := Z.1
  have hb := Z.2.1
  have hS : va_S A s.heap s.heap [] := va_S.rf
  have hl : lv_has ls 6 [(0, .ref x), (1, .int p0), (2, .int p1)] := hl
  skip
  refine lv_iload_n hx hb dX11_who_0 rfl (lv_at hl 1 rfl) ?_
  have hPc := hP.sub2 (wc := []) [] rfl
  have hDc := hD.sub (ws' := []) [] (by decide) rfl
  refine raw_Si (nA := 1) (As := [.int p0]) (rest := []) Z hl.1 (c_X11_isPlace l D cI cM cT p0) (bw_S bw_494 bw_495 bw_80 bw_496) ⟨by decide +kernel, by decide +kernel, by decide +kernel⟩ rfl ⟨Nat.le_of_ble_eq_true rfl, Nat.le_of_ble_eq_true rfl⟩ hPc hDc hS rfl (Nat.le_of_ble_eq_true rfl) dX11_who_1 ⟨Nat.le_of_ble_eq_true rfl, Nat.le_of_ble_eq_true rfl⟩ (fun r2 u1 H1 locs1 h3 hku1 hP1 hD1 hS1 => ?_)
  obtain ⟨hrh3, rfl⟩ := h3
  obtain ⟨hP, hD⟩ := z_join (wr := [(x, .inr (11, [.ref st, .ref dr, .ref nw, .ref kp, .ref rd, .ref tm, .ref co])), (nw, .inr (10, [.ref rO, .ref sT, .ref mA, .ref sB, .ref sA, .ref tH, .ref tF, .ref tS, .int 0, .int 0, .int (-1), .int 0, .int 0]))]) Z hS hP hD [] [0, 1] rfl (by decide) rfl (by decide) (by decide) hku1 hP1 hD1
  have hS := hS1
  clear hS1
  generalize H1 = H at hP hS ⊢
  generalize locs1 = locs at hS ⊢
  have hP : va_P D vwCl ([(x, .inr (11, [.ref st, .ref dr, .ref nw, .ref kp, .ref rd, .ref tm, .ref co])), (nw, .inr (10, [.ref rO, .ref sT, .ref mA, .ref sB, .ref sA, .ref tH, .ref tF, .ref tS, .int 0, .int 0, .int (-1), .int 0, .int 0]))]) H := hP
  have hD : va_D A ([(x, .inr (11, [.ref st, .ref dr, .ref nw, .ref kp, .ref rd, .ref tm, .ref co])), (nw, .inr (10, [.ref rO, .ref sT, .ref mA, .ref sB, .ref sA, .ref tH, .ref tF, .ref tS, .int 0, .int 0, .int (-1), .int 0, .int 0]))]) := hD
  by_cases c4 : 0 ≤ p0 ∧ p0 < 300
  · obtain rfl : r2 = 1 := by rw [hrh3, if_pos c4]
    refine lv_if_eq (tgt := 24) hx hb dX11_who_4 (by decide) (fun h => absurd h (by decide)) (fun c5 => ?_)
    refine lv_iload_n hx hb dX11_who_7 rfl (lv_at hl 2 rfl) ?_
    refine lv_iconst (v := (-1)) hx hb dX11_who_8 (by decide) ?_
    refine lv_aload_n hx hb dX11_who_9 rfl (lv_at hl 0 rfl) ?_
    refine z_get Z i_X11 hP 0 rfl rfl 2 (by decide) bw_470 rfl dX11_who_10 ?_
    refine z_get Z i_X10 hP 1 rfl rfl 11 (by decide) bw_260 rfl dX11_who_13 ?_
    refine lv_iconst (v := 1) hx hb dX11_who_16 (by decide) ?_
    refine lv_isub hx hb dX11_who_17 ?_
    refine z_topi (y := (-1)) (by decide) ?_
    have hPc := hP.sub2 (wc := []) [] rfl
    have hDc := hD.sub (ws' := []) [] (by decide) rfl
    refine raw_Si (nA := 3) (As := [.int p1, .int (-1), .int (-1)]) (rest := []) Z hl.1 (c_X11_isWithin l D cI cM cT p1 (-1) (-1)) (bw_S bw_497 bw_498 bw_80 bw_499) ⟨by decide +kernel, by decide +kernel, by decide +kernel⟩ rfl ⟨Nat.le_of_ble_eq_true rfl, Nat.le_of_ble_eq_true rfl⟩ hPc hDc hS rfl (Nat.le_of_ble_eq_true rfl) dX11_who_18 ⟨Nat.le_of_ble_eq_true rfl, Nat.le_of_ble_eq_true rfl⟩ (fun r7 u6 H1 locs1 h8 hku6 hP1 hD1 hS1 => ?_)
    obtain ⟨hrh8, rfl⟩ := h8
    obtain ⟨hP, hD⟩ := z_join (wr := [(x, .inr (11, [.ref st, .ref dr, .ref nw, .ref kp, .ref rd, .ref tm, .ref co])), (nw, .inr (10, [.ref rO, .ref sT, .ref mA, .ref sB, .ref sA, .ref tH, .ref tF, .ref tS, .int 0, .int 0, .int (-1), .int 0, .int 0]))]) Z hS hP hD [] [0, 1] rfl (by decide) rfl (by decide) (by decide) hku6 hP1 hD1
    have hS := hS1
    clear hS1
    generalize H1 = H at hP hS ⊢
    generalize locs1 = locs at hS ⊢
    have hP : va_P D vwCl ([(x, .inr (11, [.ref st, .ref dr, .ref nw, .ref kp, .ref rd, .ref tm, .ref co])), (nw, .inr (10, [.ref rO, .ref sT, .ref mA, .ref sB, .ref sA, .ref tH, .ref tF, .ref tS, .int 0, .int 0, .int (-1), .int 0, .int 0]))]) H := hP
    have hD : va_D A ([(x, .inr (11, [.ref st, .ref dr, .ref nw, .ref kp, .ref rd, .ref tm, .ref co])), (nw, .inr (10, [.ref rO, .ref sT, .ref mA, .ref sB, .ref sA, .ref tH, .ref tF, .ref tS, .int 0, .int 0, .int (-1), .int 0, .int 0]))]) := hD
    by_cases c9 : (-1) ≤ p1 ∧ p1 ≤ (-1)
    · obtain rfl : r7 = 1 := by rw [hrh8, if_pos c9]
      refine lv_if_ne (tgt := 27) hx hb dX11_who_21 (by decide) (fun c10 => ?_) (fun h => absurd h (by decide))
      refine lv_iload_n hx hb dX11_who_27 rfl (lv_at hl 2 rfl) ?_
      refine lv_iconst (v := (-1)) hx hb dX11_who_28 (by decide) ?_
      refine lv_icmp_ne (tgt := 40) hx hb dX11_who_29 (by decide) (fun h => absurd (show p1 = (-1) by (try simp only [zlt, zle, zeq, zl_0, zl_1, zl_2, zl_3, zl_4, zl_5, zl_6, zl_7, zl_8, zl_9, zl_10, zl_11, zl_12, zl_13, zl_19, zl_20, zl_30, zl_64, zl_99, zl_100, zl_299, zl_300, zl_399, zl_999, zl_9999, zl_m1, zl_m2, zl_m3, zl_32, zl_280] at c4 c5 c9 c10 ⊢); omega) h) (fun c11 => ?_)
      refine lv_aload_n hx hb dX11_who_32 rfl (lv_at hl 0 rfl) ?_
      refine lv_iload_n hx hb dX11_who_33 rfl (lv_at hl 1 rfl) ?_
      refine lv_iconst (v := 0) hx hb dX11_who_34 (by decide) ?_
      refine lv_iconst (v := 0) hx hb dX11_who_35 (by decide) ?_
      have hPc := hP.sub2 (wc := [(x, .inr (11, [.ref st, .ref dr, .ref nw, .ref kp, .ref rd, .ref tm, .ref co])), (nw, .inr (10, [.ref rO, .ref sT, .ref mA, .ref sB, .ref sA, .ref tH, .ref tF, .ref tS, .int 0, .int 0, .int (-1), .int 0, .int 0]))]) [0, 1] rfl
      have hDc := hD.sub (ws' := [(x, .inr (11, [.ref st, .ref dr, .ref nw, .ref kp, .ref rd, .ref tm, .ref co])), (nw, .inr (10, [.ref rO, .ref sT, .ref mA, .ref sB, .ref sA, .ref tH, .ref tF, .ref tS, .int 0, .int 0, .int (-1), .int 0, .int 0]))]) [0, 1] (by decide) rfl
      refine raw_Vi (ci := 11) (q0 := 0) (nA := 3) (As := [.int p0, .int 0, .int 0]) (rest := []) Z hl.1 (c_X11_ordersFrom l D cI cM cT x st dr nw kp rd tm co rO sT mA sB sA tH tF tS p0) (bw_V bw_954 bw_956 bw_33 bw_80 bw_957) ⟨by decide +kernel, by decide +kernel, by decide +kernel⟩ rfl ⟨Nat.le_of_ble_eq_true rfl, Nat.le_of_ble_eq_true rfl⟩ rfl rfl rfl hPc hDc hS rfl (Nat.le_of_ble_eq_true rfl) dX11_who_36 ⟨Nat.le_of_ble_eq_true rfl, Nat.le_of_ble_eq_true rfl⟩ (fun r13 u12 H1 locs1 h14 hku12 hP1 hD1 hS1 => ?_)
      obtain ⟨rfl, rfl⟩ := h14
      obtain ⟨hP, hD⟩ := z_join (wr := []) Z hS hP hD [0, 1] [] rfl (by decide) rfl (by decide) (by decide) hku12 hP1 hD1
      have hS := hS1
      clear hS1
      generalize H1 = H at hP hS ⊢
      generalize locs1 = locs at hS ⊢
      have hP : va_P D vwCl ([(x, .inr (11, [.ref st, .ref dr, .ref nw, .ref kp, .ref rd, .ref tm, .ref co])), (nw, .inr (10, [.ref rO, .ref sT, .ref mA, .ref sB, .ref sA, .ref tH, .ref tF, .ref tS, .int 0, .int 0, .int (-1), .int 0, .int 0]))]) H := hP
      have hD : va_D A ([(x, .inr (11, [.ref st, .ref dr, .ref nw, .ref kp, .ref rd, .ref tm, .ref co])), (nw, .inr (10, [.ref rO, .ref sT, .ref mA, .ref sB, .ref sA, .ref tH, .ref tF, .ref tS, .int 0, .int 0, .int (-1), .int 0, .int 0]))]) := hD
      exact z_ret Z rfl hP hD hS ((by first | rfl | assumption | (rw [if_pos (by (try simp only [zlt, zle, zeq, zl_0, zl_1, zl_2, zl_3, zl_4, zl_5, zl_6, zl_7, zl_8, zl_9, zl_10, zl_11, zl_12, zl_13, zl_19, zl_20, zl_30, zl_64, zl_99, zl_100, zl_299, zl_300, zl_399, zl_999, zl_9999, zl_m1, zl_m2, zl_m3, zl_32, zl_280] at c4 c5 c9 c10 c11 ⊢); omega)]; first | done | ((try simp only [zlt, zle, zeq, zl_0, zl_1, zl_2, zl_3, zl_4, zl_5, zl_6, zl_7, zl_8, zl_9, zl_10, zl_11, zl_12, zl_13, zl_19, zl_20, zl_30, zl_64, zl_99, zl_100, zl_299, zl_300, zl_399, zl_999, zl_9999, zl_m1, zl_m2, zl_m3, zl_32, zl_280] at c4 c5 c9 c10 c11 ⊢); omega)) | (rw [if_neg (by (try simp only [zlt, zle, zeq, zl_0, zl_1, zl_2, zl_3, zl_4, zl_5, zl_6, zl_7, zl_8, zl_9, zl_10, zl_11, zl_12, zl_13, zl_19, zl_20, zl_30, zl_64, zl_99, zl_100, zl_299, zl_300, zl_399, zl_999, zl_9999, zl_m1, zl_m2, zl_m3, zl_32, zl_280] at c4 c5 c9 c10 c11 ⊢); omega)]; first | done | ((try simp only [zlt, zle, zeq, zl_0, zl_1, zl_2, zl_3, zl_4, zl_5, zl_6, zl_7, zl_8, zl_9, zl_10, zl_11, zl_12, zl_13, zl_19, zl_20, zl_30, zl_64, zl_99, zl_100, zl_299, zl_300, zl_399, zl_999, zl_9999, zl_m1, zl_m2, zl_m3, zl_32, zl_280] at c4 c5 c9 c10 c11 ⊢); omega)))) dX11_who_39 (Nat.le_of_ble_eq_true rfl) (Nat.le_of_ble_eq_true rfl)
    · obtain rfl : r7 = 0 := by rw [hrh8, if_neg c9]
      refine lv_if_ne (tgt := 27) hx hb dX11_who_21 (by decide) (fun h => absurd (by decide) h) (fun c15 => ?_)
      refine lv_bipush (v := (-2)) hx hb dX11_who_24 (by decide) ?_
      exact z_ret Z rfl hP hD hS ((by first | rfl | assumption | (rw [if_pos (by (try simp only [zlt, zle, zeq, zl_0, zl_1, zl_2, zl_3, zl_4, zl_5, zl_6, zl_7, zl_8, zl_9, zl_10, zl_11, zl_12, zl_13, zl_19, zl_20, zl_30, zl_64, zl_99, zl_100, zl_299, zl_300, zl_399, zl_999, zl_9999, zl_m1, zl_m2, zl_m3, zl_32, zl_280] at c4 c5 c9 c15 ⊢); omega)]; first | done | ((try simp only [zlt, zle, zeq, zl_0, zl_1, zl_2, zl_3, zl_4, zl_5, zl_6, zl_7, zl_8, zl_9, zl_10, zl_11, zl_12, zl_13, zl_19, zl_20, zl_30, zl_64, zl_99, zl_100, zl_299, zl_300, zl_399, zl_999, zl_9999, zl_m1, zl_m2, zl_m3, zl_32, zl_280] at c4 c5 c9 c15 ⊢); omega)) | (rw [if_neg (by (try simp only [zlt, zle, zeq, zl_0, zl_1, zl_2, zl_3, zl_4, zl_5, zl_6, zl_7, zl_8, zl_9, zl_10, zl_11, zl_12, zl_13, zl_19, zl_20, zl_30, zl_64, zl_99, zl_100, zl_299, zl_300, zl_399, zl_999, zl_9999, zl_m1, zl_m2, zl_m3, zl_32, zl_280] at c4 c5 c9 c15 ⊢); omega)]; first | done | ((try simp only [zlt, zle, zeq, zl_0, zl_1, zl_2, zl_3, zl_4, zl_5, zl_6, zl_7, zl_8, zl_9, zl_10, zl_11, zl_12, zl_13, zl_19, zl_20, zl_30, zl_64, zl_99, zl_100, zl_299, zl_300, zl_399, zl_999, zl_9999, zl_m1, zl_m2, zl_m3, zl_32, zl_280] at c4 c5 c9 c15 ⊢); omega)))) dX11_who_26 (Nat.le_of_ble_eq_true rfl) (Nat.le_of_ble_eq_true rfl)
  · obtain rfl : r2 = 0 := by rw [hrh3, if_neg c4]
    refine lv_if_eq (tgt := 24) hx hb dX11_who_4 (by decide) (fun c16 => ?_) (fun h => absurd (by decide) h)
    refine lv_bipush (v := (-2)) hx hb dX11_who_24 (by decide) ?_
    exact z_ret Z rfl hP hD hS ((by first | rfl | assumption | (rw [if_pos (by (try simp only [zlt, zle, zeq, zl_0, zl_1, zl_2, zl_3, zl_4, zl_5, zl_6, zl_7, zl_8, zl_9, zl_10, zl_11, zl_12, zl_13, zl_19, zl_20, zl_30, zl_64, zl_99, zl_100, zl_299, zl_300, zl_399, zl_999, zl_9999, zl_m1, zl_m2, zl_m3, zl_32, zl_280] at c4 c16 ⊢); omega)]; first | done | ((try simp only [zlt, zle, zeq, zl_0, zl_1, zl_2, zl_3, zl_4, zl_5, zl_6, zl_7, zl_8, zl_9, zl_10, zl_11, zl_12, zl_13, zl_19, zl_20, zl_30, zl_64, zl_99, zl_100, zl_299, zl_300, zl_399, zl_999, zl_9999, zl_m1, zl_m2, zl_m3, zl_32, zl_280] at c4 c16 ⊢); omega)) | (rw [if_neg (by (try simp only [zlt, zle, zeq, zl_0, zl_1, zl_2, zl_3, zl_4, zl_5, zl_6, zl_7, zl_8, zl_9, zl_10, zl_11, zl_12, zl_13, zl_19, zl_20, zl_30, zl_64, zl_99, zl_100, zl_299, zl_300, zl_399, zl_999, zl_9999, zl_m1, zl_m2, zl_m3, zl_32, zl_280] at c4 c16 ⊢); omega)]; first | done | ((try simp only [zlt, zle, zeq, zl_0, zl_1, zl_2, zl_3, zl_4, zl_5, zl_6, zl_7, zl_8, zl_9, zl_10, zl_11, zl_12, zl_13, zl_19, zl_20, zl_30, zl_64, zl_99, zl_100, zl_299, zl_300, zl_399, zl_999, zl_9999, zl_m1, zl_m2, zl_m3, zl_32, zl_280] at c4 c16 ⊢); omega)))) dX11_who_26 (Nat.le_of_ble_eq_true rfl) (Nat.le_of_ble_eq_true rfl)
end
section
theorem dX11_mud_0 : decode cX11_mud 0 = .ok (.iload_n 1, 1) := by decide +kernel
theorem dX11_mud_1 : decode cX11_mud 1 = .ok (.invokestatic 54, 3) := by decide +kernel
theorem dX11_mud_4 : decode cX11_mud 4 = .ok (.ifCond .eq 25, 3) := by decide +kernel
theorem dX11_mud_7 : decode cX11_mud 7 = .ok (.iload_n 2, 1) := by decide +kernel
theorem dX11_mud_8 : decode cX11_mud 8 = .ok (.invokestatic 54, 3) := by decide +kernel
theorem dX11_mud_11 : decode cX11_mud 11 = .ok (.ifCond .eq 18, 3) := by decide +kernel
theorem dX11_mud_14 : decode cX11_mud 14 = .ok (.iload_n 1, 1) := by decide +kernel
theorem dX11_mud_15 : decode cX11_mud 15 = .ok (.iload_n 2, 1) := by decide +kernel
theorem dX11_mud_16 : decode cX11_mud 16 = .ok (.if_icmp .gt 13, 3) := by decide +kernel
theorem dX11_mud_19 : decode cX11_mud 19 = .ok (.iload_n 3, 1) := by decide +kernel
theorem dX11_mud_20 : decode cX11_mud 20 = .ok (.iconst 0, 1) := by decide +kernel
theorem dX11_mud_21 : decode cX11_mud 21 = .ok (.bipush 9, 2) := by decide +kernel
theorem dX11_mud_23 : decode cX11_mud 23 = .ok (.invokestatic 58, 3) := by decide +kernel
theorem dX11_mud_26 : decode cX11_mud 26 = .ok (.ifCond .ne 5, 3) := by decide +kernel
theorem dX11_mud_29 : decode cX11_mud 29 = .ok (.iconst 0, 1) := by decide +kernel
theorem dX11_mud_30 : decode cX11_mud 30 = .ok (.ireturn, 1) := by decide +kernel
theorem dX11_mud_31 : decode cX11_mud 31 = .ok (.iload_n 1, 1) := by decide +kernel
theorem dX11_mud_32 : decode cX11_mud 32 = .ok (.istore 4, 2) := by decide +kernel
theorem dX11_mud_34 : decode cX11_mud 34 = .ok (.iload 4, 2) := by decide +kernel
theorem dX11_mud_36 : decode cX11_mud 36 = .ok (.iload_n 2, 1) := by decide +kernel
theorem dX11_mud_37 : decode cX11_mud 37 = .ok (.if_icmp .gt 23, 3) := by decide +kernel
theorem dX11_mud_40 : decode cX11_mud 40 = .ok (.aload_n 0, 1) := by decide +kernel
theorem dX11_mud_41 : decode cX11_mud 41 = .ok (.getfield 27, 3) := by decide +kernel
theorem dX11_mud_44 : decode cX11_mud 44 = .ok (.getfield 62, 3) := by decide +kernel
theorem dX11_mud_47 : decode cX11_mud 47 = .ok (.getfield 66, 3) := by decide +kernel
theorem dX11_mud_50 : decode cX11_mud 50 = .ok (.iload 4, 2) := by decide +kernel
theorem dX11_mud_52 : decode cX11_mud 52 = .ok (.iload_n 3, 1) := by decide +kernel
theorem dX11_mud_53 : decode cX11_mud 53 = .ok (.iastore, 1) := by decide +kernel
theorem dX11_mud_54 : decode cX11_mud 54 = .ok (.iinc 4 1, 3) := by decide +kernel
theorem dX11_mud_57 : decode cX11_mud 57 = .ok (.goto (-23), 3) := by decide +kernel
theorem dX11_mud_60 : decode cX11_mud 60 = .ok (.aload_n 0, 1) := by decide +kernel
theorem dX11_mud_61 : decode cX11_mud 61 = .ok (.getfield 10, 3) := by decide +kernel
theorem dX11_mud_64 : decode cX11_mud 64 = .ok (.invokevirtual 71, 3) := by decide +kernel
theorem dX11_mud_67 : decode cX11_mud 67 = .ok (.iconst 1, 1) := by decide +kernel
theorem dX11_mud_68 : decode cX11_mud 68 = .ok (.ireturn, 1) := by decide +kernel
theorem dJ7_fill_53178_0 : decode cJ7_fill_53178 0 = .ok (.iconst 0, 1) := by decide +kernel
theorem dJ7_fill_53178_1 : decode cJ7_fill_53178 1 = .ok (.istore_n 2, 1) := by decide +kernel
theorem dJ7_fill_53178_2 : decode cJ7_fill_53178 2 = .ok (.aload_n 0, 1) := by decide +kernel
theorem dJ7_fill_53178_3 : decode cJ7_fill_53178 3 = .ok (.arraylength, 1) := by decide +kernel
theorem dJ7_fill_53178_4 : decode cJ7_fill_53178 4 = .ok (.istore_n 3, 1) := by decide +kernel
theorem dJ7_fill_53178_5 : decode cJ7_fill_53178 5 = .ok (.iload_n 2, 1) := by decide +kernel
theorem dJ7_fill_53178_6 : decode cJ7_fill_53178 6 = .ok (.iload_n 3, 1) := by decide +kernel
theorem dJ7_fill_53178_7 : decode cJ7_fill_53178 7 = .ok (.if_icmp .ge 13, 3) := by decide +kernel
theorem dJ7_fill_53178_10 : decode cJ7_fill_53178 10 = .ok (.aload_n 0, 1) := by decide +kernel
theorem dJ7_fill_53178_11 : decode cJ7_fill_53178 11 = .ok (.iload_n 2, 1) := by decide +kernel
theorem dJ7_fill_53178_12 : decode cJ7_fill_53178 12 = .ok (.iload_n 1, 1) := by decide +kernel
theorem dJ7_fill_53178_13 : decode cJ7_fill_53178 13 = .ok (.iastore, 1) := by decide +kernel
theorem dJ7_fill_53178_14 : decode cJ7_fill_53178 14 = .ok (.iinc 2 1, 3) := by decide +kernel
theorem dJ7_fill_53178_17 : decode cJ7_fill_53178 17 = .ok (.goto (-12), 3) := by decide +kernel
theorem dJ7_fill_53178_20 : decode cJ7_fill_53178 20 = .ok (.return_, 1) := by decide +kernel
theorem bw_135 : Cond.fieldLink "CountingHorses" 66 "CountingHorses$Road" "mud" "[I" ∈ BW := bw_at 135 (by decide +kernel) (by decide +kernel)
set_option maxHeartbeats 4000000 in
set_option maxRecDepth 100000 in
theorem lp_X11_mud {p : Program} (l : Launch) {e : Env} {s : State} {m : MethodId} {below : List Frame} {meth : Method} {c : Code} {A : Nat → Prop} (D : va_G) (cI cM cT : ClassId) (x : Nat) (st : Nat) (dr : Nat) (nw : Nat) (kp : Nat) (rd : Nat) (tm : Nat) (co : Nat) (rO : Nat) (sT : Nat) (mA : Nat) (sB : Nat) (sA : Nat) (tH : Nat) (tF : Nat) (tS : Nat) (mU : Nat) (bF : Nat) (bT : Nat) (s1 : Nat) (s2 : Nat) (s3 : Nat) (p0 : Int32) (p1 : Int32) (p2 : Int32) (Z : Zx p s m ([.ref x, .int p0, .int p1, .int p2] : List Value).toArray meth c cX11_mud 5 (some .boolean) yX11_mud.cls A (ty3 cI cM cT) D) (hc : (0 ≤ p0 ∧ p0 < 300) ∧ (0 ≤ p1 ∧ p1 < 300) ∧ p0 ≤ p1 ∧ (0 ≤ p2 ∧ p2 ≤ 9)) : ∀ (n0 : Nat) (i : Int32) (f : Nat → Int32) (h0 : 0 ≤ i.toInt) (h1 : i.toInt ≤ 300), (300 - i.toInt).toNat < n0 → ∀ (H : Heap) (locs : List Loc) (ls : Array Slot), va_P D vwCl ([(x, .inr (11, [.ref st, .ref dr, .ref nw, .ref kp, .ref rd, .ref tm, .ref co])), (nw, .inr (10, [.ref rO, .ref sT, .ref mA, .ref sB, .ref sA, .ref tH, .ref tF, .ref tS, .int 0, .int 0, .int (-1), .int 0, .int 0])), (rO, .inr (3, [.ref mU, .ref bF, .ref bT, .int 0])), (mU, .inl (cI, 300, .inl f)), (st, .inr (6, [.ref dr, .ref s1, .ref s2, .ref s3, .int 1]))]) H → va_D A ([(x, .inr (11, [.ref st, .ref dr, .ref nw, .ref kp, .ref rd, .ref tm, .ref co])), (nw, .inr (10, [.ref rO, .ref sT, .ref mA, .ref sB, .ref sA, .ref tH, .ref tF, .ref tS, .int 0, .int 0, .int (-1), .int 0, .int 0])), (rO, .inr (3, [.ref mU, .ref bF, .ref bT, .int 0])), (mU, .inl (cI, 300, .inl f)), (st, .inr (6, [.ref dr, .ref s1, .ref s2, .ref s3, .int 1]))]) → va_S A s.heap H locs → lv_has ls 5 [(0, .ref x), (1, .int p0), (2, .int p1), (3, .int p2), (4, .int i)] → W p l e (rmv 3 0 0) s m ([.ref x, .int p0, .int p1, .int p2] : List Value).toArray below meth c H locs 0 0 (MQ below (va_Qi (fun r u => r = (if (0 ≤ p0 ∧ p0 < 300) ∧ (0 ≤ p1 ∧ p1 < 300) ∧ p0 ≤ p1 ∧ (0 ≤ p2 ∧ p2 ≤ 9) then 1 else 0)) (cB D (ty3 cI cM cT) A) A) ([.ref x, .int p0, .int p1, .int p2] : List Value).toArray s 0 0 A) (F0 m 34 ls []) := by
  have hx := Z.1
  have hb := Z.2.1
  intro n0
  induction n0 with
  | zero => intro i f h0 h1 hm; exact absurd hm (Nat.not_lt_zero _)
  | succ n0 ih =>
    intro i f h0 h1 hm H locs ls hP hD hS hl
    refine lv_iload hx hb dX11_mud_34 (lv_at hl 4 rfl) ?_
    refine lv_iload_n hx hb dX11_mud_36 rfl (lv_at hl 2 rfl) ?_
    refine lv_icmp_gt (tgt := 60) hx hb dX11_mud_37 (by decide) (fun c1 => ?_) (fun c1 => ?_)
    · refine lv_aload_n hx hb dX11_mud_60 rfl (lv_at hl 0 rfl) ?_
      refine z_get Z i_X11 hP 0 rfl rfl 0 (by decide) bw_468 rfl dX11_mud_61 ?_
      have hPc := hP.sub2 (wc := [(st, .inr (6, [.ref dr, .ref s1, .ref s2, .ref s3, .int 1]))]) [4] rfl
      have hDc := hD.sub (ws' := [(st, .inr (6, [.ref dr, .ref s1, .ref s2, .ref s3, .int 1]))]) [4] (by decide) rfl
      refine raw_Vv (ci := 6) (q0 := 0) (nA := 0) (As := []) (rest := []) Z hl.1 (c_X6_forget l D cI cM cT st dr s1 s2 s3 1) (bw_V bw_500 bw_501 bw_502 bw_81 bw_503) ⟨by decide +kernel, by decide +kernel, by decide +kernel⟩ rfl ⟨Nat.le_of_ble_eq_true rfl, Nat.le_of_ble_eq_true rfl⟩ rfl rfl rfl hPc hDc hS rfl (Nat.le_of_ble_eq_true rfl) dX11_mud_64 ⟨Nat.le_of_ble_eq_true rfl, Nat.le_of_ble_eq_true rfl⟩ (fun u2 H1 locs1 h4 hku2 hP1 hD1 hS1 => ?_)
      obtain rfl := h4
      obtain ⟨hP, hD⟩ := z_join (wr := [(x, .inr (11, [.ref st, .ref dr, .ref nw, .ref kp, .ref rd, .ref tm, .ref co])), (nw, .inr (10, [.ref rO, .ref sT, .ref mA, .ref sB, .ref sA, .ref tH, .ref tF, .ref tS, .int 0, .int 0, .int (-1), .int 0, .int 0])), (rO, .inr (3, [.ref mU, .ref bF, .ref bT, .int 0])), (mU, .inl (cI, 300, .inl f))]) Z hS hP hD [4] [0, 1, 2, 3] rfl (by decide) rfl (by decide) (by decide) hku2 hP1 hD1
      have hS := hS1
      clear hS1
      generalize H1 = H at hP hS ⊢
      generalize locs1 = locs at hS ⊢
      have hP : va_P D vwCl ([(x, .inr (11, [.ref st, .ref dr, .ref nw, .ref kp, .ref rd, .ref tm, .ref co])), (nw, .inr (10, [.ref rO, .ref sT, .ref mA, .ref sB, .ref sA, .ref tH, .ref tF, .ref tS, .int 0, .int 0, .int (-1), .int 0, .int 0])), (rO, .inr (3, [.ref mU, .ref bF, .ref bT, .int 0])), (mU, .inl (cI, 300, .inl f)), (st, .inr (6, [.ref dr, .ref s1, .ref s2, .ref s3, .int (1 + 1)]))]) H := hP
      have hD : va_D A ([(x, .inr (11, [.ref st, .ref dr, .ref nw, .ref kp, .ref rd, .ref tm, .ref co])), (nw, .inr (10, [.ref rO, .ref sT, .ref mA, .ref sB, .ref sA, .ref tH, .ref tF, .ref tS, .int 0, .int 0, .int (-1), .int 0, .int 0])), (rO, .inr (3, [.ref mU, .ref bF, .ref bT, .int 0])), (mU, .inl (cI, 300, .inl f)), (st, .inr (6, [.ref dr, .ref s1, .ref s2, .ref s3, .int (1 + 1)]))]) := hD
      refine lv_iconst (v := 1) hx hb dX11_mud_67 (by decide) ?_
      exact z_ret Z rfl hP hD hS ((by first | rfl | assumption | (rw [if_pos (by (try simp only [zlt, zle, zeq, zl_0, zl_1, zl_2, zl_3, zl_4, zl_5, zl_6, zl_7, zl_8, zl_9, zl_10, zl_11, zl_12, zl_13, zl_19, zl_20, zl_30, zl_64, zl_99, zl_100, zl_299, zl_300, zl_399, zl_999, zl_9999, zl_m1, zl_m2, zl_m3, zl_32, zl_280] at hc h0 h1 hm c1 ⊢); omega)]; first | done | ((try simp only [zlt, zle, zeq, zl_0, zl_1, zl_2, zl_3, zl_4, zl_5, zl_6, zl_7, zl_8, zl_9, zl_10, zl_11, zl_12, zl_13, zl_19, zl_20, zl_30, zl_64, zl_99, zl_100, zl_299, zl_300, zl_399, zl_999, zl_9999, zl_m1, zl_m2, zl_m3, zl_32, zl_280] at hc h0 h1 hm c1 ⊢); omega)) | (rw [if_neg (by (try simp only [zlt, zle, zeq, zl_0, zl_1, zl_2, zl_3, zl_4, zl_5, zl_6, zl_7, zl_8, zl_9, zl_10, zl_11, zl_12, zl_13, zl_19, zl_20, zl_30, zl_64, zl_99, zl_100, zl_299, zl_300, zl_399, zl_999, zl_9999, zl_m1, zl_m2, zl_m3, zl_32, zl_280] at hc h0 h1 hm c1 ⊢); omega)]; first | done | ((try simp only [zlt, zle, zeq, zl_0, zl_1, zl_2, zl_3, zl_4, zl_5, zl_6, zl_7, zl_8, zl_9, zl_10, zl_11, zl_12, zl_13, zl_19, zl_20, zl_30, zl_64, zl_99, zl_100, zl_299, zl_300, zl_399, zl_999, zl_9999, zl_m1, zl_m2, zl_m3, zl_32, zl_280] at hc h0 h1 hm c1 ⊢); omega)))) dX11_mud_68 (Nat.le_of_ble_eq_true rfl) (Nat.le_of_ble_eq_true rfl)
    · refine lv_aload_n hx hb dX11_mud_40 rfl (lv_at hl 0 rfl) ?_
      refine z_get Z i_X11 hP 0 rfl rfl 2 (by decide) bw_470 rfl dX11_mud_41 ?_
      refine z_get Z i_X10 hP 1 rfl rfl 0 (by decide) bw_232 rfl dX11_mud_44 ?_
      refine z_get Z i_X3 hP 2 rfl rfl 0 (by decide) bw_135 rfl dX11_mud_47 ?_
      refine lv_iload hx hb dX11_mud_50 (lv_at hl 4 rfl) ?_
      refine lv_iload_n hx hb dX11_mud_52 rfl (lv_at hl 3 rfl) ?_
      refine z_iast Z hP hD hS 3 0 rfl rfl (vp_in_iff.mpr (by (try simp only [zlt, zle, zeq, zl_0, zl_1, zl_2, zl_3, zl_4, zl_5, zl_6, zl_7, zl_8, zl_9, zl_10, zl_11, zl_12, zl_13, zl_19, zl_20, zl_30, zl_64, zl_99, zl_100, zl_299, zl_300, zl_399, zl_999, zl_9999, zl_m1, zl_m2, zl_m3, zl_32, zl_280] at hc h0 h1 hm c1 ⊢); omega)) dX11_mud_53 (fun H locs hP hD hS => ?_)
      have hP : va_P D vwCl ([(x, .inr (11, [.ref st, .ref dr, .ref nw, .ref kp, .ref rd, .ref tm, .ref co])), (nw, .inr (10, [.ref rO, .ref sT, .ref mA, .ref sB, .ref sA, .ref tH, .ref tF, .ref tS, .int 0, .int 0, .int (-1), .int 0, .int 0])), (rO, .inr (3, [.ref mU, .ref bF, .ref bT, .int 0])), (mU, .inl (cI, 300, .inl (upd f (i : Int32).toNatClampNeg p2))), (st, .inr (6, [.ref dr, .ref s1, .ref s2, .ref s3, .int 1]))]) H := hP
      have hD : va_D A ([(x, .inr (11, [.ref st, .ref dr, .ref nw, .ref kp, .ref rd, .ref tm, .ref co])), (nw, .inr (10, [.ref rO, .ref sT, .ref mA, .ref sB, .ref sA, .ref tH, .ref tF, .ref tS, .int 0, .int 0, .int (-1), .int 0, .int 0])), (rO, .inr (3, [.ref mU, .ref bF, .ref bT, .int 0])), (mU, .inl (cI, 300, .inl (upd f (i : Int32).toNatClampNeg p2))), (st, .inr (6, [.ref dr, .ref s1, .ref s2, .ref s3, .int 1]))]) := hD
      refine lv_iinc (v := (i + 1)) (lv' := [(4, .int (i + 1)), (0, .ref x), (1, .int p0), (2, .int p1), (3, .int p2)]) hx hb dX11_mud_54 hl (k := 4) rfl (by rfl) (by decide) rfl (fun ls hl => ?_)
      refine lv_goto (tgt := 34) hx hb dX11_mud_57 (by decide) ?_
      have e9 : (i + 1).toInt = i.toInt + 1 := zinc (by (try simp only [zlt, zle, zeq, zl_0, zl_1, zl_2, zl_3, zl_4, zl_5, zl_6, zl_7, zl_8, zl_9, zl_10, zl_11, zl_12, zl_13, zl_19, zl_20, zl_30, zl_64, zl_99, zl_100, zl_299, zl_300, zl_399, zl_999, zl_9999, zl_m1, zl_m2, zl_m3, zl_32, zl_280] at hc h0 h1 hm c1 ⊢); omega)
      exact ih (i + 1) (upd f (i : Int32).toNatClampNeg p2) (by (try simp only [zlt, zle, zeq, zl_0, zl_1, zl_2, zl_3, zl_4, zl_5, zl_6, zl_7, zl_8, zl_9, zl_10, zl_11, zl_12, zl_13, zl_19, zl_20, zl_30, zl_64, zl_99, zl_100, zl_299, zl_300, zl_399, zl_999, zl_9999, zl_m1, zl_m2, zl_m3, zl_32, zl_280] at hc h0 h1 hm c1 e9 ⊢); omega) (by (try simp only [zlt, zle, zeq, zl_0, zl_1, zl_2, zl_3, zl_4, zl_5, zl_6, zl_7, zl_8, zl_9, zl_10, zl_11, zl_12, zl_13, zl_19, zl_20, zl_30, zl_64, zl_99, zl_100, zl_299, zl_300, zl_399, zl_999, zl_9999, zl_m1, zl_m2, zl_m3, zl_32, zl_280] at hc h0 h1 hm c1 e9 ⊢); omega) (by (try simp only [zlt, zle, zeq, zl_0, zl_1, zl_2, zl_3, zl_4, zl_5, zl_6, zl_7, zl_8, zl_9, zl_10, zl_11, zl_12, zl_13, zl_19, zl_20, zl_30, zl_64, zl_99, zl_100, zl_299, zl_300, zl_399, zl_999, zl_9999, zl_m1, zl_m2, zl_m3, zl_32, zl_280] at hc h0 h1 hm c1 e9 ⊢); omega) _ _ _ hP hD hS (lv_sub hl [1, 2, 3, 4, 0] rfl)
set_option maxHeartbeats 4000000 in
set_option maxRecDepth 100000 in
theorem c_X11_mud (l : Launch) (D : va_G) (cI cM cT : ClassId) (x : Nat) (st : Nat) (dr : Nat) (nw : Nat) (kp : Nat) (rd : Nat) (tm : Nat) (co : Nat) (rO : Nat) (sT : Nat) (mA : Nat) (sB : Nat) (sA : Nat) (tH : Nat) (tF : Nat) (tS : Nat) (mU : Nat) (bF : Nat) (bT : Nat) (s1 : Nat) (s2 : Nat) (s3 : Nat) (p0 : Int32) (p1 : Int32) (p2 : Int32) : Ci l D (ty3 cI cM cT) yX11_mud cX11_mud 5 (some .boolean) 3 0 0 [.ref x, .int p0, .int p1, .int p2] ([(x, .inr (11, [.ref st, .ref dr, .ref nw, .ref kp, .ref rd, .ref tm, .ref co])), (nw, .inr (10, [.ref rO, .ref sT, .ref mA, .ref sB, .ref sA, .ref tH, .ref tF, .ref tS, .int 0, .int 0, .int (-1), .int 0, .int 0])), (rO, .inr (3, [.ref mU, .ref bF, .ref bT, .int 0])), (mU, .inl (cI, 300, .inl (fun _ => 0))), (st, .inr (6, [.ref dr, .ref s1, .ref s2, .ref s3, .int 1]))]) (fun r u => r = (if (0 ≤ p0 ∧ p0 < 300) ∧ (0 ≤ p1 ∧ p1 < 300) ∧ p0 ≤ p1 ∧ (0 ≤ p2 ∧ p2 ≤ 9) then 1 else 0)) := by
  refine Ci.of (by decide +kernel) (Nat.le_of_ble_eq_true rfl) ?_
  intro p e s m below meth c A ls Z hin hP hD hl
  have hx := Z.1
  have hb := Z.2.1
  have hS : va_S A s.heap s.heap [] := va_S.rf
  have hl : lv_has ls 5 [(0, .ref x), (1, .int p0), (2, .int p1), (3, .int p2)] := hl
  skip
  refine lv_iload_n hx hb dX11_mud_0 rfl (lv_at hl 1 rfl) ?_
  have hPc := hP.sub2 (wc := []) [] rfl
  have hDc := hD.sub (ws' := []) [] (by decide) rfl
  refine raw_Si (nA := 1) (As := [.int p0]) (rest := []) Z hl.1 (c_X11_isPlace l D cI cM cT p0) (bw_S bw_494 bw_495 bw_80 bw_496) ⟨by decide +kernel, by decide +kernel, by decide +kernel⟩ rfl ⟨Nat.le_of_ble_eq_true rfl, Nat.le_of_ble_eq_true rfl⟩ hPc hDc hS rfl (Nat.le_of_ble_eq_true rfl) dX11_mud_1 ⟨Nat.le_of_ble_eq_true rfl, Nat.le_of_ble_eq_true rfl⟩ (fun r2 u1 H1 locs1 h3 hku1 hP1 hD1 hS1 => ?_)
  obtain ⟨hrh3, rfl⟩ := h3
  obtain ⟨hP, hD⟩ := z_join (wr := [(x, .inr (11, [.ref st, .ref dr, .ref nw, .ref kp, .ref rd, .ref tm, .ref co])), (nw, .inr (10, [.ref rO, .ref sT, .ref mA, .ref sB, .ref sA, .ref tH, .ref tF, .ref tS, .int 0, .int 0, .int (-1), .int 0, .int 0])), (rO, .inr (3, [.ref mU, .ref bF, .ref bT, .int 0])), (mU, .inl (cI, 300, .inl (fun _ => 0))), (st, .inr (6, [.ref dr, .ref s1, .ref s2, .ref s3, .int 1]))]) Z hS hP hD [] [0, 1, 2, 3, 4] rfl (by decide) rfl (by decide) (by decide) hku1 hP1 hD1
  have hS := hS1
  clear hS1
  generalize H1 = H at hP hS ⊢
  generalize locs1 = locs at hS ⊢
  have hP : va_P D vwCl ([(x, .inr (11, [.ref st, .ref dr, .ref nw, .ref kp, .ref rd, .ref tm, .ref co])), (nw, .inr (10, [.ref rO, .ref sT, .ref mA, .ref sB, .ref sA, .ref tH, .ref tF, .ref tS, .int 0, .int 0, .int (-1), .int 0, .int 0])), (rO, .inr (3, [.ref mU, .ref bF, .ref bT, .int 0])), (mU, .inl (cI, 300, .inl (fun _ => 0))), (st, .inr (6, [.ref dr, .ref s1, .ref s2, .ref s3, .int 1]))]) H := hP
  have hD : va_D A ([(x, .inr (11, [.ref st, .ref dr, .ref nw, .ref kp, .ref rd, .ref tm, .ref co])), (nw, .inr (10, [.ref rO, .ref sT, .ref mA, .ref sB, .ref sA, .ref tH, .ref tF, .ref tS, .int 0, .int 0, .int (-1), .int 0, .int 0])), (rO, .inr (3, [.ref mU, .ref bF, .ref bT, .int 0])), (mU, .inl (cI, 300, .inl (fun _ => 0))), (st, .inr (6, [.ref dr, .ref s1, .ref s2, .ref s3, .int 1]))]) := hD
  by_cases c4 : 0 ≤ p0 ∧ p0 < 300
  · obtain rfl : r2 = 1 := by rw [hrh3, if_pos c4]
    refine lv_if_eq (tgt := 29) hx hb dX11_mud_4 (by decide) (fun h => absurd h (by decide)) (fun c5 => ?_)
    refine lv_iload_n hx hb dX11_mud_7 rfl (lv_at hl 2 rfl) ?_
    have hPc := hP.sub2 (wc := []) [] rfl
    have hDc := hD.sub (ws' := []) [] (by decide) rfl
    refine raw_Si (nA := 1) (As := [.int p1]) (rest := []) Z hl.1 (c_X11_isPlace l D cI cM cT p1) (bw_S bw_494 bw_495 bw_80 bw_496) ⟨by decide +kernel, by decide +kernel, by decide +kernel⟩ rfl ⟨Nat.le_of_ble_eq_true rfl, Nat.le_of_ble_eq_true rfl⟩ hPc hDc hS rfl (Nat.le_of_ble_eq_true rfl) dX11_mud_8 ⟨Nat.le_of_ble_eq_true rfl, Nat.le_of_ble_eq_true rfl⟩ (fun r7 u6 H1 locs1 h8 hku6 hP1 hD1 hS1 => ?_)
    obtain ⟨hrh8, rfl⟩ := h8
    obtain ⟨hP, hD⟩ := z_join (wr := [(x, .inr (11, [.ref st, .ref dr, .ref nw, .ref kp, .ref rd, .ref tm, .ref co])), (nw, .inr (10, [.ref rO, .ref sT, .ref mA, .ref sB, .ref sA, .ref tH, .ref tF, .ref tS, .int 0, .int 0, .int (-1), .int 0, .int 0])), (rO, .inr (3, [.ref mU, .ref bF, .ref bT, .int 0])), (mU, .inl (cI, 300, .inl (fun _ => 0))), (st, .inr (6, [.ref dr, .ref s1, .ref s2, .ref s3, .int 1]))]) Z hS hP hD [] [0, 1, 2, 3, 4] rfl (by decide) rfl (by decide) (by decide) hku6 hP1 hD1
    have hS := hS1
    clear hS1
    generalize H1 = H at hP hS ⊢
    generalize locs1 = locs at hS ⊢
    have hP : va_P D vwCl ([(x, .inr (11, [.ref st, .ref dr, .ref nw, .ref kp, .ref rd, .ref tm, .ref co])), (nw, .inr (10, [.ref rO, .ref sT, .ref mA, .ref sB, .ref sA, .ref tH, .ref tF, .ref tS, .int 0, .int 0, .int (-1), .int 0, .int 0])), (rO, .inr (3, [.ref mU, .ref bF, .ref bT, .int 0])), (mU, .inl (cI, 300, .inl (fun _ => 0))), (st, .inr (6, [.ref dr, .ref s1, .ref s2, .ref s3, .int 1]))]) H := hP
    have hD : va_D A ([(x, .inr (11, [.ref st, .ref dr, .ref nw, .ref kp, .ref rd, .ref tm, .ref co])), (nw, .inr (10, [.ref rO, .ref sT, .ref mA, .ref sB, .ref sA, .ref tH, .ref tF, .ref tS, .int 0, .int 0, .int (-1), .int 0, .int 0])), (rO, .inr (3, [.ref mU, .ref bF, .ref bT, .int 0])), (mU, .inl (cI, 300, .inl (fun _ => 0))), (st, .inr (6, [.ref dr, .ref s1, .ref s2, .ref s3, .int 1]))]) := hD
    by_cases c9 : 0 ≤ p1 ∧ p1 < 300
    · obtain rfl : r7 = 1 := by rw [hrh8, if_pos c9]
      refine lv_if_eq (tgt := 29) hx hb dX11_mud_11 (by decide) (fun h => absurd h (by decide)) (fun c10 => ?_)
      refine lv_iload_n hx hb dX11_mud_14 rfl (lv_at hl 1 rfl) ?_
      refine lv_iload_n hx hb dX11_mud_15 rfl (lv_at hl 2 rfl) ?_
      refine lv_icmp_gt (tgt := 29) hx hb dX11_mud_16 (by decide) (fun c11 => ?_) (fun c11 => ?_)
      · refine lv_iconst (v := 0) hx hb dX11_mud_29 (by decide) ?_
        exact z_ret Z rfl hP hD hS ((by first | rfl | assumption | (rw [if_pos (by (try simp only [zlt, zle, zeq, zl_0, zl_1, zl_2, zl_3, zl_4, zl_5, zl_6, zl_7, zl_8, zl_9, zl_10, zl_11, zl_12, zl_13, zl_19, zl_20, zl_30, zl_64, zl_99, zl_100, zl_299, zl_300, zl_399, zl_999, zl_9999, zl_m1, zl_m2, zl_m3, zl_32, zl_280] at c4 c5 c9 c10 c11 ⊢); omega)]; first | done | ((try simp only [zlt, zle, zeq, zl_0, zl_1, zl_2, zl_3, zl_4, zl_5, zl_6, zl_7, zl_8, zl_9, zl_10, zl_11, zl_12, zl_13, zl_19, zl_20, zl_30, zl_64, zl_99, zl_100, zl_299, zl_300, zl_399, zl_999, zl_9999, zl_m1, zl_m2, zl_m3, zl_32, zl_280] at c4 c5 c9 c10 c11 ⊢); omega)) | (rw [if_neg (by (try simp only [zlt, zle, zeq, zl_0, zl_1, zl_2, zl_3, zl_4, zl_5, zl_6, zl_7, zl_8, zl_9, zl_10, zl_11, zl_12, zl_13, zl_19, zl_20, zl_30, zl_64, zl_99, zl_100, zl_299, zl_300, zl_399, zl_999, zl_9999, zl_m1, zl_m2, zl_m3, zl_32, zl_280] at c4 c5 c9 c10 c11 ⊢); omega)]; first | done | ((try simp only [zlt, zle, zeq, zl_0, zl_1, zl_2, zl_3, zl_4, zl_5, zl_6, zl_7, zl_8, zl_9, zl_10, zl_11, zl_12, zl_13, zl_19, zl_20, zl_30, zl_64, zl_99, zl_100, zl_299, zl_300, zl_399, zl_999, zl_9999, zl_m1, zl_m2, zl_m3, zl_32, zl_280] at c4 c5 c9 c10 c11 ⊢); omega)))) dX11_mud_30 (Nat.le_of_ble_eq_true rfl) (Nat.le_of_ble_eq_true rfl)
      · refine lv_iload_n hx hb dX11_mud_19 rfl (lv_at hl 3 rfl) ?_
        refine lv_iconst (v := 0) hx hb dX11_mud_20 (by decide) ?_
        refine lv_bipush (v := 9) hx hb dX11_mud_21 (by decide) ?_
        have hPc := hP.sub2 (wc := []) [] rfl
        have hDc := hD.sub (ws' := []) [] (by decide) rfl
        refine raw_Si (nA := 3) (As := [.int p2, .int 0, .int 9]) (rest := []) Z hl.1 (c_X11_isWithin l D cI cM cT p2 0 9) (bw_S bw_497 bw_498 bw_80 bw_499) ⟨by decide +kernel, by decide +kernel, by decide +kernel⟩ rfl ⟨Nat.le_of_ble_eq_true rfl, Nat.le_of_ble_eq_true rfl⟩ hPc hDc hS rfl (Nat.le_of_ble_eq_true rfl) dX11_mud_23 ⟨Nat.le_of_ble_eq_true rfl, Nat.le_of_ble_eq_true rfl⟩ (fun r13 u12 H1 locs1 h14 hku12 hP1 hD1 hS1 => ?_)
        obtain ⟨hrh14, rfl⟩ := h14
        obtain ⟨hP, hD⟩ := z_join (wr := [(x, .inr (11, [.ref st, .ref dr, .ref nw, .ref kp, .ref rd, .ref tm, .ref co])), (nw, .inr (10, [.ref rO, .ref sT, .ref mA, .ref sB, .ref sA, .ref tH, .ref tF, .ref tS, .int 0, .int 0, .int (-1), .int 0, .int 0])), (rO, .inr (3, [.ref mU, .ref bF, .ref bT, .int 0])), (mU, .inl (cI, 300, .inl (fun _ => 0))), (st, .inr (6, [.ref dr, .ref s1, .ref s2, .ref s3, .int 1]))]) Z hS hP hD [] [0, 1, 2, 3, 4] rfl (by decide) rfl (by decide) (by decide) hku12 hP1 hD1
        have hS := hS1
        clear hS1
        generalize H1 = H at hP hS ⊢
        generalize locs1 = locs at hS ⊢
        have hP : va_P D vwCl ([(x, .inr (11, [.ref st, .ref dr, .ref nw, .ref kp, .ref rd, .ref tm, .ref co])), (nw, .inr (10, [.ref rO, .ref sT, .ref mA, .ref sB, .ref sA, .ref tH, .ref tF, .ref tS, .int 0, .int 0, .int (-1), .int 0, .int 0])), (rO, .inr (3, [.ref mU, .ref bF, .ref bT, .int 0])), (mU, .inl (cI, 300, .inl (fun _ => 0))), (st, .inr (6, [.ref dr, .ref s1, .ref s2, .ref s3, .int 1]))]) H := hP
        have hD : va_D A ([(x, .inr (11, [.ref st, .ref dr, .ref nw, .ref kp, .ref rd, .ref tm, .ref co])), (nw, .inr (10, [.ref rO, .ref sT, .ref mA, .ref sB, .ref sA, .ref tH, .ref tF, .ref tS, .int 0, .int 0, .int (-1), .int 0, .int 0])), (rO, .inr (3, [.ref mU, .ref bF, .ref bT, .int 0])), (mU, .inl (cI, 300, .inl (fun _ => 0))), (st, .inr (6, [.ref dr, .ref s1, .ref s2, .ref s3, .int 1]))]) := hD
        by_cases c15 : 0 ≤ p2 ∧ p2 ≤ 9
        · obtain rfl : r13 = 1 := by rw [hrh14, if_pos c15]
          refine lv_if_ne (tgt := 31) hx hb dX11_mud_26 (by decide) (fun c16 => ?_) (fun h => absurd h (by decide))
          refine lv_iload_n hx hb dX11_mud_31 rfl (lv_at hl 1 rfl) ?_
          refine lv_istore (lv' := [(4, .int p0), (0, .ref x), (1, .int p0), (2, .int p1), (3, .int p2)]) hx hb dX11_mud_32 hl (by decide) rfl (fun ls hl => ?_)
          refine W.widen (k := 0) (n := 0) (Nat.le_of_ble_eq_true rfl) (Nat.le_of_ble_eq_true rfl) ?_
          exact lp_X11_mud l D cI cM cT x st dr nw kp rd tm co rO sT mA sB sA tH tF tS mU bF bT s1 s2 s3 p0 p1 p2 Z  (by (try simp only [zlt, zle, zeq, zl_0, zl_1, zl_2, zl_3, zl_4, zl_5, zl_6, zl_7, zl_8, zl_9, zl_10, zl_11, zl_12, zl_13, zl_19, zl_20, zl_30, zl_64, zl_99, zl_100, zl_299, zl_300, zl_399, zl_999, zl_9999, zl_m1, zl_m2, zl_m3, zl_32, zl_280] at c4 c5 c9 c10 c11 c15 c16 ⊢); omega) _ p0 (fun _ => 0) (by (try simp only [zlt, zle, zeq, zl_0, zl_1, zl_2, zl_3, zl_4, zl_5, zl_6, zl_7, zl_8, zl_9, zl_10, zl_11, zl_12, zl_13, zl_19, zl_20, zl_30, zl_64, zl_99, zl_100, zl_299, zl_300, zl_399, zl_999, zl_9999, zl_m1, zl_m2, zl_m3, zl_32, zl_280] at c4 c5 c9 c10 c11 c15 c16 ⊢); omega) (by (try simp only [zlt, zle, zeq, zl_0, zl_1, zl_2, zl_3, zl_4, zl_5, zl_6, zl_7, zl_8, zl_9, zl_10, zl_11, zl_12, zl_13, zl_19, zl_20, zl_30, zl_64, zl_99, zl_100, zl_299, zl_300, zl_399, zl_999, zl_9999, zl_m1, zl_m2, zl_m3, zl_32, zl_280] at c4 c5 c9 c10 c11 c15 c16 ⊢); omega) (Nat.lt_succ_self _) _ _ _ hP hD hS (lv_sub hl [1, 2, 3, 4, 0] rfl)
        · obtain rfl : r13 = 0 := by rw [hrh14, if_neg c15]
          refine lv_if_ne (tgt := 31) hx hb dX11_mud_26 (by decide) (fun h => absurd (by decide) h) (fun c17 => ?_)
          refine lv_iconst (v := 0) hx hb dX11_mud_29 (by decide) ?_
          exact z_ret Z rfl hP hD hS ((by first | rfl | assumption | (rw [if_pos (by (try simp only [zlt, zle, zeq, zl_0, zl_1, zl_2, zl_3, zl_4, zl_5, zl_6, zl_7, zl_8, zl_9, zl_10, zl_11, zl_12, zl_13, zl_19, zl_20, zl_30, zl_64, zl_99, zl_100, zl_299, zl_300, zl_399, zl_999, zl_9999, zl_m1, zl_m2, zl_m3, zl_32, zl_280] at c4 c5 c9 c10 c11 c15 c17 ⊢); omega)]; first | done | ((try simp only [zlt, zle, zeq, zl_0, zl_1, zl_2, zl_3, zl_4, zl_5, zl_6, zl_7, zl_8, zl_9, zl_10, zl_11, zl_12, zl_13, zl_19, zl_20, zl_30, zl_64, zl_99, zl_100, zl_299, zl_300, zl_399, zl_999, zl_9999, zl_m1, zl_m2, zl_m3, zl_32, zl_280] at c4 c5 c9 c10 c11 c15 c17 ⊢); omega)) | (rw [if_neg (by (try simp only [zlt, zle, zeq, zl_0, zl_1, zl_2, zl_3, zl_4, zl_5, zl_6, zl_7, zl_8, zl_9, zl_10, zl_11, zl_12, zl_13, zl_19, zl_20, zl_30, zl_64, zl_99, zl_100, zl_299, zl_300, zl_399, zl_999, zl_9999, zl_m1, zl_m2, zl_m3, zl_32, zl_280] at c4 c5 c9 c10 c11 c15 c17 ⊢); omega)]; first | done | ((try simp only [zlt, zle, zeq, zl_0, zl_1, zl_2, zl_3, zl_4, zl_5, zl_6, zl_7, zl_8, zl_9, zl_10, zl_11, zl_12, zl_13, zl_19, zl_20, zl_30, zl_64, zl_99, zl_100, zl_299, zl_300, zl_399, zl_999, zl_9999, zl_m1, zl_m2, zl_m3, zl_32, zl_280] at c4 c5 c9 c10 c11 c15 c17 ⊢); omega)))) dX11_mud_30 (Nat.le_of_ble_eq_true rfl) (Nat.le_of_ble_eq_true rfl)
    · obtain rfl : r7 = 0 := by rw [hrh8, if_neg c9]
      refine lv_if_eq (tgt := 29) hx hb dX11_mud_11 (by decide) (fun c18 => ?_) (fun h => absurd (by decide) h)
      refine lv_iconst (v := 0) hx hb dX11_mud_29 (by decide) ?_
      exact z_ret Z rfl hP hD hS ((by first | rfl | assumption | (rw [if_pos (by (try simp only [zlt, zle, zeq, zl_0, zl_1, zl_2, zl_3, zl_4, zl_5, zl_6, zl_7, zl_8, zl_9, zl_10, zl_11, zl_12, zl_13, zl_19, zl_20, zl_30, zl_64, zl_99, zl_100, zl_299, zl_300, zl_399, zl_999, zl_9999, zl_m1, zl_m2, zl_m3, zl_32, zl_280] at c4 c5 c9 c18 ⊢); omega)]; first | done | ((try simp only [zlt, zle, zeq, zl_0, zl_1, zl_2, zl_3, zl_4, zl_5, zl_6, zl_7, zl_8, zl_9, zl_10, zl_11, zl_12, zl_13, zl_19, zl_20, zl_30, zl_64, zl_99, zl_100, zl_299, zl_300, zl_399, zl_999, zl_9999, zl_m1, zl_m2, zl_m3, zl_32, zl_280] at c4 c5 c9 c18 ⊢); omega)) | (rw [if_neg (by (try simp only [zlt, zle, zeq, zl_0, zl_1, zl_2, zl_3, zl_4, zl_5, zl_6, zl_7, zl_8, zl_9, zl_10, zl_11, zl_12, zl_13, zl_19, zl_20, zl_30, zl_64, zl_99, zl_100, zl_299, zl_300, zl_399, zl_999, zl_9999, zl_m1, zl_m2, zl_m3, zl_32, zl_280] at c4 c5 c9 c18 ⊢); omega)]; first | done | ((try simp only [zlt, zle, zeq, zl_0, zl_1, zl_2, zl_3, zl_4, zl_5, zl_6, zl_7, zl_8, zl_9, zl_10, zl_11, zl_12, zl_13, zl_19, zl_20, zl_30, zl_64, zl_99, zl_100, zl_299, zl_300, zl_399, zl_999, zl_9999, zl_m1, zl_m2, zl_m3, zl_32, zl_280] at c4 c5 c9 c18 ⊢); omega)))) dX11_mud_30 (Nat.le_of_ble_eq_true rfl) (Nat.le_of_ble_eq_true rfl)
  · obtain rfl : r2 = 0 := by rw [hrh3, if_neg c4]
    refine lv_if_eq (tgt := 29) hx hb dX11_mud_4 (by decide) (fun c19 => ?_) (fun h => absurd (by decide) h)
    refine lv_iconst (v := 0) hx hb dX11_mud_29 (by decide) ?_
    exact z_ret Z rfl hP hD hS ((by first | rfl | assumption | (rw [if_pos (by (try simp only [zlt, zle, zeq, zl_0, zl_1, zl_2, zl_3, zl_4, zl_5, zl_6, zl_7, zl_8, zl_9, zl_10, zl_11, zl_12, zl_13, zl_19, zl_20, zl_30, zl_64, zl_99, zl_100, zl_299, zl_300, zl_399, zl_999, zl_9999, zl_m1, zl_m2, zl_m3, zl_32, zl_280] at c4 c19 ⊢); omega)]; first | done | ((try simp only [zlt, zle, zeq, zl_0, zl_1, zl_2, zl_3, zl_4, zl_5, zl_6, zl_7, zl_8, zl_9, zl_10, zl_11, zl_12, zl_13, zl_19, zl_20, zl_30, zl_64, zl_99, zl_100, zl_299, zl_300, zl_399, zl_999, zl_9999, zl_m1, zl_m2, zl_m3, zl_32, zl_280] at c4 c19 ⊢); omega)) | (rw [if_neg (by (try simp only [zlt, zle, zeq, zl_0, zl_1, zl_2, zl_3, zl_4, zl_5, zl_6, zl_7, zl_8, zl_9, zl_10, zl_11, zl_12, zl_13, zl_19, zl_20, zl_30, zl_64, zl_99, zl_100, zl_299, zl_300, zl_399, zl_999, zl_9999, zl_m1, zl_m2, zl_m3, zl_32, zl_280] at c4 c19 ⊢); omega)]; first | done | ((try simp only [zlt, zle, zeq, zl_0, zl_1, zl_2, zl_3, zl_4, zl_5, zl_6, zl_7, zl_8, zl_9, zl_10, zl_11, zl_12, zl_13, zl_19, zl_20, zl_30, zl_64, zl_99, zl_100, zl_299, zl_300, zl_399, zl_999, zl_9999, zl_m1, zl_m2, zl_m3, zl_32, zl_280] at c4 c19 ⊢); omega)))) dX11_mud_30 (Nat.le_of_ble_eq_true rfl) (Nat.le_of_ble_eq_true rfl)
set_option maxHeartbeats 4000000 in
set_option maxRecDepth 100000 in
theorem lp_J7_fill {p : Program} (l : Launch) {e : Env} {s : State} {m : MethodId} {below : List Frame} {meth : Method} {c : Code} {A : Nat → Prop} (D : va_G) (cI cM cT : ClassId) (a : Nat) (N : Nat) (f : Nat → Int32) (v : Int32) (Z : Zx p s m ([.ref a, .int v] : List Value).toArray meth c cJ7_fill_53178 4 none yJ7_fill_53178.cls A (ty3 cI cM cT) D) (hN : N < 100000) : ∀ (n0 : Nat) (i : Nat) (g : Nat → Int32) (h0 : i ≤ N) (hg : ∀ j, j < i → g j = v), N - i < n0 → ∀ (H : Heap) (locs : List Loc) (ls : Array Slot), va_P D vwCl ([(a, .inl (cI, N, .inl g))]) H → va_D A ([(a, .inl (cI, N, .inl g))]) → va_S A s.heap H locs → lv_has ls 4 [(0, .ref a), (1, .int v), (2, .int (nI i)), (3, .int (nI N))] → W p l e (rmv 0 0 0) s m ([.ref a, .int v] : List Value).toArray below meth c H locs 0 0 (MQ below (va_Qv (fun u => ∃ (g : Nat → Int32), u = [(a, .inl (cI, N, .inl g))] ∧ ∀ j, j < N → g j = v) (cB D (ty3 cI cM cT) A) A) ([.ref a, .int v] : List Value).toArray s 0 0 A) (F0 m 5 ls []) := by
  have hx := Z.1
  have hb := Z.2.1
  intro n0
  induction n0 with
  | zero => intro i g h0 hg hm; exact absurd hm (Nat.not_lt_zero _)
  | succ n0 ih =>
    intro i g h0 hg hm H locs ls hP hD hS hl
    have ei : (nI i).toInt = (i : Int) := nI_toInt (by omega)
    have eN : (nI N).toInt = (N : Int) := nI_toInt (by omega)
    refine lv_iload_n hx hb dJ7_fill_53178_5 rfl (lv_at hl 2 rfl) ?_
    refine lv_iload_n hx hb dJ7_fill_53178_6 rfl (lv_at hl 3 rfl) ?_
    refine lv_icmp_ge (tgt := 20) hx hb dJ7_fill_53178_7 (by decide) (fun c1 => ?_) (fun c1 => ?_)
    · exact z_vret Z hP hD hS (⟨g, rfl, fun j hj => hg j (by (try simp only [zlt, zle, zeq, zl_0, zl_1, zl_2, zl_3, zl_4, zl_5, zl_6, zl_7, zl_8, zl_9, zl_10, zl_11, zl_12, zl_13, zl_19, zl_20, zl_30, zl_64, zl_99, zl_100, zl_299, zl_300, zl_399, zl_999, zl_9999, zl_m1, zl_m2, zl_m3, zl_32, zl_280] at ei eN h0 hm c1 ⊢); omega)⟩) dJ7_fill_53178_20 (Nat.le_of_ble_eq_true rfl) (Nat.le_of_ble_eq_true rfl)
    · refine lv_aload_n hx hb dJ7_fill_53178_10 rfl (lv_at hl 0 rfl) ?_
      refine lv_iload_n hx hb dJ7_fill_53178_11 rfl (lv_at hl 2 rfl) ?_
      refine lv_iload_n hx hb dJ7_fill_53178_12 rfl (lv_at hl 1 rfl) ?_
      refine z_iast Z hP hD hS 0 0 rfl rfl (vp_in_nI (by (try simp only [zlt, zle, zeq, zl_0, zl_1, zl_2, zl_3, zl_4, zl_5, zl_6, zl_7, zl_8, zl_9, zl_10, zl_11, zl_12, zl_13, zl_19, zl_20, zl_30, zl_64, zl_99, zl_100, zl_299, zl_300, zl_399, zl_999, zl_9999, zl_m1, zl_m2, zl_m3, zl_32, zl_280] at ei eN h0 hm c1 ⊢); omega) (by omega)) dJ7_fill_53178_13 (fun H locs hP hD hS => ?_)
      rw [nI_clamp (by omega)] at hP hD
      have hP : va_P D vwCl ([(a, .inl (cI, N, .inl (upd g i v)))]) H := hP
      have hD : va_D A ([(a, .inl (cI, N, .inl (upd g i v)))]) := hD
      refine lv_iinc (v := (nI (i + 1))) (lv' := [(2, .int (nI (i + 1))), (0, .ref a), (1, .int v), (3, .int (nI N))]) hx hb dJ7_fill_53178_14 hl (k := 2) rfl (nI_1 i) (by decide) rfl (fun ls hl => ?_)
      refine lv_goto (tgt := 5) hx hb dJ7_fill_53178_17 (by decide) ?_
      exact ih (i + 1) (upd g i v) (by (try simp only [zlt, zle, zeq, zl_0, zl_1, zl_2, zl_3, zl_4, zl_5, zl_6, zl_7, zl_8, zl_9, zl_10, zl_11, zl_12, zl_13, zl_19, zl_20, zl_30, zl_64, zl_99, zl_100, zl_299, zl_300, zl_399, zl_999, zl_9999, zl_m1, zl_m2, zl_m3, zl_32, zl_280] at ei eN h0 hm c1 ⊢); omega) (upd_all hg) (by (try simp only [zlt, zle, zeq, zl_0, zl_1, zl_2, zl_3, zl_4, zl_5, zl_6, zl_7, zl_8, zl_9, zl_10, zl_11, zl_12, zl_13, zl_19, zl_20, zl_30, zl_64, zl_99, zl_100, zl_299, zl_300, zl_399, zl_999, zl_9999, zl_m1, zl_m2, zl_m3, zl_32, zl_280] at ei eN h0 hm c1 ⊢); omega) _ _ _ hP hD hS (lv_sub hl [1, 2, 0, 3] rfl)
set_option maxHeartbeats 4000000 in
set_option maxRecDepth 100000 in
theorem c_J7_fill_53178 (l : Launch) (D : va_G) (cI cM cT : ClassId) (a : Nat) (N : Nat) (f : Nat → Int32) (v : Int32) (hN : N < 100000) : Cv l D (ty3 cI cM cT) yJ7_fill_53178 cJ7_fill_53178 4 0 0 0 [.ref a, .int v] ([(a, .inl (cI, N, .inl f))]) (fun u => ∃ (g : Nat → Int32), u = [(a, .inl (cI, N, .inl g))] ∧ ∀ j, j < N → g j = v) := by
  refine Cv.of (by decide +kernel) (Nat.le_of_ble_eq_true rfl) ?_
  intro p e s m below meth c A ls Z hin hP hD hl
  have hx := Z.1
  have hb := Z.2.1
  have hS : va_S A s.heap s.heap [] := va_S.rf
  have hl : lv_has ls 4 [(0, .ref a), (1, .int v)] := hl
  skip
  refine lv_iconst (v := 0) hx hb dJ7_fill_53178_0 (by decide) ?_
  refine lv_istore_n (lv' := [(2, .int 0), (0, .ref a), (1, .int v)]) hx hb dJ7_fill_53178_1 rfl hl (by decide) rfl (fun ls hl => ?_)
  refine lv_aload_n hx hb dJ7_fill_53178_2 rfl (lv_at hl 1 rfl) ?_
  refine va_alen (v := (nI N)) hx hb Z.2.2.2.2.2.2.1 hP 0 0 rfl rfl rfl dJ7_fill_53178_3 ?_
  refine lv_istore_n (lv' := [(3, .int (nI N)), (2, .int 0), (0, .ref a), (1, .int v)]) hx hb dJ7_fill_53178_4 rfl hl (by decide) rfl (fun ls hl => ?_)
  refine W.widen (k := 0) (n := 0) (Nat.le_of_ble_eq_true rfl) (Nat.le_of_ble_eq_true rfl) ?_
  exact lp_J7_fill l D cI cM cT a N f v Z hN  _ 0 f (Nat.zero_le _) (fun j hj => absurd hj (Nat.not_lt_zero j)) (Nat.lt_succ_self _) _ _ _ hP hD hS (lv_sub hl [2, 3, 1, 0] rfl)
end
section
theorem dX7_take_0 : decode cX7_take 0 = .ok (.bipush 24, 2) := by decide +kernel
theorem dX7_take_2 : decode cX7_take 2 = .ok (.istore_n 2, 1) := by decide +kernel
theorem dX7_take_3 : decode cX7_take 3 = .ok (.iload_n 2, 1) := by decide +kernel
theorem dX7_take_4 : decode cX7_take 4 = .ok (.ifCond .lt 45, 3) := by decide +kernel
theorem dX7_take_7 : decode cX7_take 7 = .ok (.aload_n 0, 1) := by decide +kernel
theorem dX7_take_8 : decode cX7_take 8 = .ok (.getfield 24, 3) := by decide +kernel
theorem dX7_take_11 : decode cX7_take 11 = .ok (.sipush 300, 3) := by decide +kernel
theorem dX7_take_14 : decode cX7_take 14 = .ok (.if_icmp .ge 35, 3) := by decide +kernel
theorem dX7_take_17 : decode cX7_take 17 = .ok (.aload_n 0, 1) := by decide +kernel
theorem dX7_take_18 : decode cX7_take 18 = .ok (.getfield 9, 3) := by decide +kernel
theorem dX7_take_21 : decode cX7_take 21 = .ok (.aload_n 0, 1) := by decide +kernel
theorem dX7_take_22 : decode cX7_take 22 = .ok (.getfield 24, 3) := by decide +kernel
theorem dX7_take_25 : decode cX7_take 25 = .ok (.iload_n 1, 1) := by decide +kernel
theorem dX7_take_26 : decode cX7_take 26 = .ok (.iload_n 2, 1) := by decide +kernel
theorem dX7_take_27 : decode cX7_take 27 = .ok (.iushr, 1) := by decide +kernel
theorem dX7_take_28 : decode cX7_take 28 = .ok (.sipush 255, 3) := by decide +kernel
theorem dX7_take_31 : decode cX7_take 31 = .ok (.iand, 1) := by decide +kernel
theorem dX7_take_32 : decode cX7_take 32 = .ok (.iastore, 1) := by decide +kernel
theorem dX7_take_33 : decode cX7_take 33 = .ok (.aload_n 0, 1) := by decide +kernel
theorem dX7_take_34 : decode cX7_take 34 = .ok (.dup, 1) := by decide +kernel
theorem dX7_take_35 : decode cX7_take 35 = .ok (.getfield 24, 3) := by decide +kernel
theorem dX7_take_38 : decode cX7_take 38 = .ok (.iconst 1, 1) := by decide +kernel
theorem dX7_take_39 : decode cX7_take 39 = .ok (.iadd, 1) := by decide +kernel
theorem dX7_take_40 : decode cX7_take 40 = .ok (.putfield 24, 3) := by decide +kernel
theorem dX7_take_43 : decode cX7_take 43 = .ok (.iinc 2 (-8), 3) := by decide +kernel
theorem dX7_take_46 : decode cX7_take 46 = .ok (.goto (-43), 3) := by decide +kernel
theorem dX7_take_49 : decode cX7_take 49 = .ok (.return_, 1) := by decide +kernel
theorem dX11_feed_0 : decode cX11_feed 0 = .ok (.aload_n 0, 1) := by decide +kernel
theorem dX11_feed_1 : decode cX11_feed 1 = .ok (.getfield 39, 3) := by decide +kernel
theorem dX11_feed_4 : decode cX11_feed 4 = .ok (.getfield 127, 3) := by decide +kernel
theorem dX11_feed_7 : decode cX11_feed 7 = .ok (.getfield 131, 3) := by decide +kernel
theorem dX11_feed_10 : decode cX11_feed 10 = .ok (.bipush 20, 2) := by decide +kernel
theorem dX11_feed_12 : decode cX11_feed 12 = .ok (.iadd, 1) := by decide +kernel
theorem dX11_feed_13 : decode cX11_feed 13 = .ok (.sipush 300, 3) := by decide +kernel
theorem dX11_feed_16 : decode cX11_feed 16 = .ok (.if_icmp .le 5, 3) := by decide +kernel
theorem dX11_feed_19 : decode cX11_feed 19 = .ok (.iconst (-1), 1) := by decide +kernel
theorem dX11_feed_20 : decode cX11_feed 20 = .ok (.ireturn, 1) := by decide +kernel
theorem dX11_feed_21 : decode cX11_feed 21 = .ok (.aload_n 0, 1) := by decide +kernel
theorem dX11_feed_22 : decode cX11_feed 22 = .ok (.getfield 39, 3) := by decide +kernel
theorem dX11_feed_25 : decode cX11_feed 25 = .ok (.getfield 127, 3) := by decide +kernel
theorem dX11_feed_28 : decode cX11_feed 28 = .ok (.iload_n 1, 1) := by decide +kernel
theorem dX11_feed_29 : decode cX11_feed 29 = .ok (.invokevirtual 136, 3) := by decide +kernel
theorem dX11_feed_32 : decode cX11_feed 32 = .ok (.aload_n 0, 1) := by decide +kernel
theorem dX11_feed_33 : decode cX11_feed 33 = .ok (.getfield 39, 3) := by decide +kernel
theorem dX11_feed_36 : decode cX11_feed 36 = .ok (.getfield 127, 3) := by decide +kernel
theorem dX11_feed_39 : decode cX11_feed 39 = .ok (.iload_n 2, 1) := by decide +kernel
theorem dX11_feed_40 : decode cX11_feed 40 = .ok (.invokevirtual 136, 3) := by decide +kernel
theorem dX11_feed_43 : decode cX11_feed 43 = .ok (.aload_n 0, 1) := by decide +kernel
theorem dX11_feed_44 : decode cX11_feed 44 = .ok (.getfield 39, 3) := by decide +kernel
theorem dX11_feed_47 : decode cX11_feed 47 = .ok (.getfield 127, 3) := by decide +kernel
theorem dX11_feed_50 : decode cX11_feed 50 = .ok (.iload_n 3, 1) := by decide +kernel
theorem dX11_feed_51 : decode cX11_feed 51 = .ok (.invokevirtual 136, 3) := by decide +kernel
theorem dX11_feed_54 : decode cX11_feed 54 = .ok (.aload_n 0, 1) := by decide +kernel
theorem dX11_feed_55 : decode cX11_feed 55 = .ok (.getfield 39, 3) := by decide +kernel
theorem dX11_feed_58 : decode cX11_feed 58 = .ok (.getfield 127, 3) := by decide +kernel
theorem dX11_feed_61 : decode cX11_feed 61 = .ok (.iload 4, 2) := by decide +kernel
theorem dX11_feed_63 : decode cX11_feed 63 = .ok (.invokevirtual 136, 3) := by decide +kernel
theorem dX11_feed_66 : decode cX11_feed 66 = .ok (.aload_n 0, 1) := by decide +kernel
theorem dX11_feed_67 : decode cX11_feed 67 = .ok (.getfield 39, 3) := by decide +kernel
theorem dX11_feed_70 : decode cX11_feed 70 = .ok (.getfield 127, 3) := by decide +kernel
theorem dX11_feed_73 : decode cX11_feed 73 = .ok (.iload 5, 2) := by decide +kernel
theorem dX11_feed_75 : decode cX11_feed 75 = .ok (.invokevirtual 136, 3) := by decide +kernel
theorem dX11_feed_78 : decode cX11_feed 78 = .ok (.aload_n 0, 1) := by decide +kernel
theorem dX11_feed_79 : decode cX11_feed 79 = .ok (.getfield 39, 3) := by decide +kernel
theorem dX11_feed_82 : decode cX11_feed 82 = .ok (.getfield 127, 3) := by decide +kernel
theorem dX11_feed_85 : decode cX11_feed 85 = .ok (.getfield 131, 3) := by decide +kernel
theorem dX11_feed_88 : decode cX11_feed 88 = .ok (.ireturn, 1) := by decide +kernel
theorem dX9_clear_0 : decode cX9_clear 0 = .ok (.aload_n 0, 1) := by decide +kernel
theorem dX9_clear_1 : decode cX9_clear 1 = .ok (.iconst 0, 1) := by decide +kernel
theorem dX9_clear_2 : decode cX9_clear 2 = .ok (.putfield 27, 3) := by decide +kernel
theorem dX9_clear_5 : decode cX9_clear 5 = .ok (.aload_n 0, 1) := by decide +kernel
theorem dX9_clear_6 : decode cX9_clear 6 = .ok (.iconst 0, 1) := by decide +kernel
theorem dX9_clear_7 : decode cX9_clear 7 = .ok (.putfield 31, 3) := by decide +kernel
theorem dX9_clear_10 : decode cX9_clear 10 = .ok (.aload_n 0, 1) := by decide +kernel
theorem dX9_clear_11 : decode cX9_clear 11 = .ok (.getfield 15, 3) := by decide +kernel
theorem dX9_clear_14 : decode cX9_clear 14 = .ok (.iconst 0, 1) := by decide +kernel
theorem dX9_clear_15 : decode cX9_clear 15 = .ok (.invokestatic 34, 3) := by decide +kernel
theorem dX9_clear_18 : decode cX9_clear 18 = .ok (.aload_n 0, 1) := by decide +kernel
theorem dX9_clear_19 : decode cX9_clear 19 = .ok (.getfield 18, 3) := by decide +kernel
theorem dX9_clear_22 : decode cX9_clear 22 = .ok (.iconst 0, 1) := by decide +kernel
theorem dX9_clear_23 : decode cX9_clear 23 = .ok (.invokestatic 34, 3) := by decide +kernel
theorem dX9_clear_26 : decode cX9_clear 26 = .ok (.return_, 1) := by decide +kernel
theorem dX7_put_0 : decode cX7_put 0 = .ok (.aload_n 0, 1) := by decide +kernel
theorem dX7_put_1 : decode cX7_put 1 = .ok (.getfield 28, 3) := by decide +kernel
theorem dX7_put_4 : decode cX7_put 4 = .ok (.sipush 300, 3) := by decide +kernel
theorem dX7_put_7 : decode cX7_put 7 = .ok (.if_icmp .gt 43, 3) := by decide +kernel
theorem dX7_put_10 : decode cX7_put 10 = .ok (.aload_n 0, 1) := by decide +kernel
theorem dX7_put_11 : decode cX7_put 11 = .ok (.getfield 15, 3) := by decide +kernel
theorem dX7_put_14 : decode cX7_put 14 = .ok (.aload_n 0, 1) := by decide +kernel
theorem dX7_put_15 : decode cX7_put 15 = .ok (.getfield 28, 3) := by decide +kernel
theorem dX7_put_18 : decode cX7_put 18 = .ok (.iload_n 1, 1) := by decide +kernel
theorem dX7_put_19 : decode cX7_put 19 = .ok (.iastore, 1) := by decide +kernel
theorem dX7_put_20 : decode cX7_put 20 = .ok (.aload_n 0, 1) := by decide +kernel
theorem dX7_put_21 : decode cX7_put 21 = .ok (.getfield 18, 3) := by decide +kernel
theorem dX7_put_24 : decode cX7_put 24 = .ok (.aload_n 0, 1) := by decide +kernel
theorem dX7_put_25 : decode cX7_put 25 = .ok (.getfield 28, 3) := by decide +kernel
theorem dX7_put_28 : decode cX7_put 28 = .ok (.iload_n 2, 1) := by decide +kernel
theorem dX7_put_29 : decode cX7_put 29 = .ok (.iastore, 1) := by decide +kernel
theorem dX7_put_30 : decode cX7_put 30 = .ok (.aload_n 0, 1) := by decide +kernel
theorem dX7_put_31 : decode cX7_put 31 = .ok (.getfield 21, 3) := by decide +kernel
theorem dX7_put_34 : decode cX7_put 34 = .ok (.aload_n 0, 1) := by decide +kernel
theorem dX7_put_35 : decode cX7_put 35 = .ok (.getfield 28, 3) := by decide +kernel
theorem dX7_put_38 : decode cX7_put 38 = .ok (.iload_n 3, 1) := by decide +kernel
theorem dX7_put_39 : decode cX7_put 39 = .ok (.iastore, 1) := by decide +kernel
theorem dX7_put_40 : decode cX7_put 40 = .ok (.aload_n 0, 1) := by decide +kernel
theorem dX7_put_41 : decode cX7_put 41 = .ok (.dup, 1) := by decide +kernel
theorem dX7_put_42 : decode cX7_put 42 = .ok (.getfield 28, 3) := by decide +kernel
theorem dX7_put_45 : decode cX7_put 45 = .ok (.iconst 1, 1) := by decide +kernel
theorem dX7_put_46 : decode cX7_put 46 = .ok (.iadd, 1) := by decide +kernel
theorem dX7_put_47 : decode cX7_put 47 = .ok (.putfield 28, 3) := by decide +kernel
theorem dX7_put_50 : decode cX7_put 50 = .ok (.return_, 1) := by decide +kernel
theorem dX7_split_0 : decode cX7_split 0 = .ok (.aload_n 0, 1) := by decide +kernel
theorem dX7_split_1 : decode cX7_split 1 = .ok (.iconst 0, 1) := by decide +kernel
theorem dX7_split_2 : decode cX7_split 2 = .ok (.putfield 28, 3) := by decide +kernel
theorem dX7_split_5 : decode cX7_split 5 = .ok (.iconst 0, 1) := by decide +kernel
theorem dX7_split_6 : decode cX7_split 6 = .ok (.istore_n 1, 1) := by decide +kernel
theorem dX7_split_7 : decode cX7_split 7 = .ok (.iconst 0, 1) := by decide +kernel
theorem dX7_split_8 : decode cX7_split 8 = .ok (.istore_n 2, 1) := by decide +kernel
theorem dX7_split_9 : decode cX7_split 9 = .ok (.iload_n 2, 1) := by decide +kernel
theorem dX7_split_10 : decode cX7_split 10 = .ok (.sipush 300, 3) := by decide +kernel
theorem dX7_split_13 : decode cX7_split 13 = .ok (.if_icmp .ge 51, 3) := by decide +kernel
theorem dX7_split_16 : decode cX7_split 16 = .ok (.iload_n 1, 1) := by decide +kernel
theorem dX7_split_17 : decode cX7_split 17 = .ok (.aload_n 0, 1) := by decide +kernel
theorem dX7_split_18 : decode cX7_split 18 = .ok (.getfield 24, 3) := by decide +kernel
theorem dX7_split_21 : decode cX7_split 21 = .ok (.if_icmp .ge 43, 3) := by decide +kernel
theorem dX7_split_24 : decode cX7_split 24 = .ok (.aload_n 0, 1) := by decide +kernel
theorem dX7_split_25 : decode cX7_split 25 = .ok (.getfield 9, 3) := by decide +kernel
theorem dX7_split_28 : decode cX7_split 28 = .ok (.iload_n 1, 1) := by decide +kernel
theorem dX7_split_29 : decode cX7_split 29 = .ok (.iaload, 1) := by decide +kernel
theorem dX7_split_30 : decode cX7_split 30 = .ok (.bipush 32, 2) := by decide +kernel
theorem dX7_split_32 : decode cX7_split 32 = .ok (.if_icmp .eq 14, 3) := by decide +kernel
theorem dX7_split_35 : decode cX7_split 35 = .ok (.aload_n 0, 1) := by decide +kernel
theorem dX7_split_36 : decode cX7_split 36 = .ok (.getfield 9, 3) := by decide +kernel
theorem dX7_split_39 : decode cX7_split 39 = .ok (.iload_n 1, 1) := by decide +kernel
theorem dX7_split_40 : decode cX7_split 40 = .ok (.iaload, 1) := by decide +kernel
theorem dX7_split_41 : decode cX7_split 41 = .ok (.bipush 10, 2) := by decide +kernel
theorem dX7_split_43 : decode cX7_split 43 = .ok (.if_icmp .ne 9, 3) := by decide +kernel
theorem dX7_split_46 : decode cX7_split 46 = .ok (.iinc 1 1, 3) := by decide +kernel
theorem dX7_split_49 : decode cX7_split 49 = .ok (.goto 9, 3) := by decide +kernel
theorem dX7_split_52 : decode cX7_split 52 = .ok (.aload_n 0, 1) := by decide +kernel
theorem dX7_split_53 : decode cX7_split 53 = .ok (.iload_n 1, 1) := by decide +kernel
theorem dX7_split_54 : decode cX7_split 54 = .ok (.invokevirtual 31, 3) := by decide +kernel
theorem dX7_split_57 : decode cX7_split 57 = .ok (.istore_n 1, 1) := by decide +kernel
theorem dX7_split_58 : decode cX7_split 58 = .ok (.iinc 2 1, 3) := by decide +kernel
theorem dX7_split_61 : decode cX7_split 61 = .ok (.goto (-52), 3) := by decide +kernel
theorem dX7_split_64 : decode cX7_split 64 = .ok (.aload_n 0, 1) := by decide +kernel
theorem dX7_split_65 : decode cX7_split 65 = .ok (.bipush 37, 2) := by decide +kernel
theorem dX7_split_67 : decode cX7_split 67 = .ok (.aload_n 0, 1) := by decide +kernel
theorem dX7_split_68 : decode cX7_split 68 = .ok (.getfield 24, 3) := by decide +kernel
theorem dX7_split_71 : decode cX7_split 71 = .ok (.iconst 0, 1) := by decide +kernel
theorem dX7_split_72 : decode cX7_split 72 = .ok (.invokevirtual 35, 3) := by decide +kernel
theorem dX7_split_75 : decode cX7_split 75 = .ok (.return_, 1) := by decide +kernel
theorem dX2_read_0 : decode cX2_read 0 = .ok (.aload_n 0, 1) := by decide +kernel
theorem dX2_read_1 : decode cX2_read 1 = .ok (.aload_n 1, 1) := by decide +kernel
theorem dX2_read_2 : decode cX2_read 2 = .ok (.putfield 37, 3) := by decide +kernel
theorem dX2_read_5 : decode cX2_read 5 = .ok (.aload_n 0, 1) := by decide +kernel
theorem dX2_read_6 : decode cX2_read 6 = .ok (.getfield 37, 3) := by decide +kernel
theorem dX2_read_9 : decode cX2_read 9 = .ok (.invokevirtual 41, 3) := by decide +kernel
theorem dX2_read_12 : decode cX2_read 12 = .ok (.aload_n 0, 1) := by decide +kernel
theorem dX2_read_13 : decode cX2_read 13 = .ok (.iconst 0, 1) := by decide +kernel
theorem dX2_read_14 : decode cX2_read 14 = .ok (.putfield 18, 3) := by decide +kernel
theorem dX2_read_17 : decode cX2_read 17 = .ok (.aload_n 0, 1) := by decide +kernel
theorem dX2_read_18 : decode cX2_read 18 = .ok (.iconst (-1), 1) := by decide +kernel
theorem dX2_read_19 : decode cX2_read 19 = .ok (.putfield 22, 3) := by decide +kernel
theorem dX2_read_22 : decode cX2_read 22 = .ok (.aload_n 0, 1) := by decide +kernel
theorem dX2_read_23 : decode cX2_read 23 = .ok (.getfield 12, 3) := by decide +kernel
theorem dX2_read_26 : decode cX2_read 26 = .ok (.invokevirtual 44, 3) := by decide +kernel
theorem dX2_read_29 : decode cX2_read 29 = .ok (.aload_n 0, 1) := by decide +kernel
theorem dX2_read_30 : decode cX2_read 30 = .ok (.iconst 0, 1) := by decide +kernel
theorem dX2_read_31 : decode cX2_read 31 = .ok (.putfield 25, 3) := by decide +kernel
theorem dX2_read_34 : decode cX2_read 34 = .ok (.aload_n 0, 1) := by decide +kernel
theorem dX2_read_35 : decode cX2_read 35 = .ok (.aload_n 0, 1) := by decide +kernel
theorem dX2_read_36 : decode cX2_read 36 = .ok (.getfield 12, 3) := by decide +kernel
theorem dX2_read_39 : decode cX2_read 39 = .ok (.getfield 47, 3) := by decide +kernel
theorem dX2_read_42 : decode cX2_read 42 = .ok (.iconst 0, 1) := by decide +kernel
theorem dX2_read_43 : decode cX2_read 43 = .ok (.iaload, 1) := by decide +kernel
theorem dX2_read_44 : decode cX2_read 44 = .ok (.putfield 28, 3) := by decide +kernel
theorem dX2_read_47 : decode cX2_read 47 = .ok (.aload_n 0, 1) := by decide +kernel
theorem dX2_read_48 : decode cX2_read 48 = .ok (.aload_n 0, 1) := by decide +kernel
theorem dX2_read_49 : decode cX2_read 49 = .ok (.getfield 12, 3) := by decide +kernel
theorem dX2_read_52 : decode cX2_read 52 = .ok (.getfield 50, 3) := by decide +kernel
theorem dX2_read_55 : decode cX2_read 55 = .ok (.iconst 0, 1) := by decide +kernel
theorem dX2_read_56 : decode cX2_read 56 = .ok (.iaload, 1) := by decide +kernel
theorem dX2_read_57 : decode cX2_read 57 = .ok (.putfield 31, 3) := by decide +kernel
theorem dX2_read_60 : decode cX2_read 60 = .ok (.iconst 1, 1) := by decide +kernel
theorem dX2_read_61 : decode cX2_read 61 = .ok (.istore_n 2, 1) := by decide +kernel
theorem dX2_read_62 : decode cX2_read 62 = .ok (.iconst 0, 1) := by decide +kernel
theorem dX2_read_63 : decode cX2_read 63 = .ok (.istore_n 3, 1) := by decide +kernel
theorem dX2_read_64 : decode cX2_read 64 = .ok (.iload_n 3, 1) := by decide +kernel
theorem dX2_read_65 : decode cX2_read 65 = .ok (.bipush 24, 2) := by decide +kernel
theorem dX2_read_67 : decode cX2_read 67 = .ok (.if_icmp .gt 27, 3) := by decide +kernel
theorem dX2_read_70 : decode cX2_read 70 = .ok (.iload_n 2, 1) := by decide +kernel
theorem dX2_read_71 : decode cX2_read 71 = .ok (.ifCond .eq 23, 3) := by decide +kernel
theorem dX2_read_74 : decode cX2_read 74 = .ok (.aload_n 0, 1) := by decide +kernel
theorem dX2_read_75 : decode cX2_read 75 = .ok (.getfield 28, 3) := by decide +kernel
theorem dX2_read_78 : decode cX2_read 78 = .ok (.bipush 37, 2) := by decide +kernel
theorem dX2_read_80 : decode cX2_read 80 = .ok (.if_icmp .eq 14, 3) := by decide +kernel
theorem dX2_read_83 : decode cX2_read 83 = .ok (.aload_n 0, 1) := by decide +kernel
theorem dX2_read_84 : decode cX2_read 84 = .ok (.invokevirtual 52, 3) := by decide +kernel
theorem dX2_read_87 : decode cX2_read 87 = .ok (.istore_n 2, 1) := by decide +kernel
theorem dX2_read_88 : decode cX2_read 88 = .ok (.iinc 3 1, 3) := by decide +kernel
theorem dX2_read_91 : decode cX2_read 91 = .ok (.goto (-27), 3) := by decide +kernel
theorem dX2_read_94 : decode cX2_read 94 = .ok (.return_, 1) := by decide +kernel
theorem dX11_text_0 : decode cX11_text 0 = .ok (.aload_n 0, 1) := by decide +kernel
theorem dX11_text_1 : decode cX11_text 1 = .ok (.getfield 27, 3) := by decide +kernel
theorem dX11_text_4 : decode cX11_text 4 = .ok (.getfield 140, 3) := by decide +kernel
theorem dX11_text_7 : decode cX11_text 7 = .ok (.iconst 4, 1) := by decide +kernel
theorem dX11_text_8 : decode cX11_text 8 = .ok (.if_icmp .lt 5, 3) := by decide +kernel
theorem dX11_text_11 : decode cX11_text 11 = .ok (.iconst (-1), 1) := by decide +kernel
theorem dX11_text_12 : decode cX11_text 12 = .ok (.ireturn, 1) := by decide +kernel
theorem dX11_text_13 : decode cX11_text 13 = .ok (.aload_n 0, 1) := by decide +kernel
theorem dX11_text_14 : decode cX11_text 14 = .ok (.getfield 39, 3) := by decide +kernel
theorem dX11_text_17 : decode cX11_text 17 = .ok (.aload_n 0, 1) := by decide +kernel
theorem dX11_text_18 : decode cX11_text 18 = .ok (.getfield 20, 3) := by decide +kernel
theorem dX11_text_21 : decode cX11_text 21 = .ok (.getfield 143, 3) := by decide +kernel
theorem dX11_text_24 : decode cX11_text 24 = .ok (.aload_n 0, 1) := by decide +kernel
theorem dX11_text_25 : decode cX11_text 25 = .ok (.getfield 27, 3) := by decide +kernel
theorem dX11_text_28 : decode cX11_text 28 = .ok (.getfield 140, 3) := by decide +kernel
theorem dX11_text_31 : decode cX11_text 31 = .ok (.aaload, 1) := by decide +kernel
theorem dX11_text_32 : decode cX11_text 32 = .ok (.invokevirtual 146, 3) := by decide +kernel
theorem dX11_text_35 : decode cX11_text 35 = .ok (.aload_n 0, 1) := by decide +kernel
theorem dX11_text_36 : decode cX11_text 36 = .ok (.getfield 39, 3) := by decide +kernel
theorem dX11_text_39 : decode cX11_text 39 = .ok (.getfield 127, 3) := by decide +kernel
theorem dX11_text_42 : decode cX11_text 42 = .ok (.iconst 0, 1) := by decide +kernel
theorem dX11_text_43 : decode cX11_text 43 = .ok (.putfield 131, 3) := by decide +kernel
theorem dX11_text_46 : decode cX11_text 46 = .ok (.aload_n 0, 1) := by decide +kernel
theorem dX11_text_47 : decode cX11_text 47 = .ok (.getfield 39, 3) := by decide +kernel
theorem dX11_text_50 : decode cX11_text 50 = .ok (.getfield 150, 3) := by decide +kernel
theorem dX11_text_53 : decode cX11_text 53 = .ok (.ifCond .eq 5, 3) := by decide +kernel
theorem dX11_text_56 : decode cX11_text 56 = .ok (.iconst (-1), 1) := by decide +kernel
theorem dX11_text_57 : decode cX11_text 57 = .ok (.ireturn, 1) := by decide +kernel
theorem dX11_text_58 : decode cX11_text 58 = .ok (.aload_n 0, 1) := by decide +kernel
theorem dX11_text_59 : decode cX11_text 59 = .ok (.getfield 27, 3) := by decide +kernel
theorem dX11_text_62 : decode cX11_text 62 = .ok (.dup, 1) := by decide +kernel
theorem dX11_text_63 : decode cX11_text 63 = .ok (.getfield 140, 3) := by decide +kernel
theorem dX11_text_66 : decode cX11_text 66 = .ok (.iconst 1, 1) := by decide +kernel
theorem dX11_text_67 : decode cX11_text 67 = .ok (.iadd, 1) := by decide +kernel
theorem dX11_text_68 : decode cX11_text 68 = .ok (.putfield 140, 3) := by decide +kernel
theorem dX11_text_71 : decode cX11_text 71 = .ok (.aload_n 0, 1) := by decide +kernel
theorem dX11_text_72 : decode cX11_text 72 = .ok (.getfield 27, 3) := by decide +kernel
theorem dX11_text_75 : decode cX11_text 75 = .ok (.getfield 140, 3) := by decide +kernel
theorem dX11_text_78 : decode cX11_text 78 = .ok (.iconst 1, 1) := by decide +kernel
theorem dX11_text_79 : decode cX11_text 79 = .ok (.isub, 1) := by decide +kernel
theorem dX11_text_80 : decode cX11_text 80 = .ok (.ireturn, 1) := by decide +kernel
theorem dX8_seek_0 : decode cX8_seek 0 = .ok (.iload 4, 2) := by decide +kernel
theorem dX8_seek_2 : decode cX8_seek 2 = .ok (.aload_n 0, 1) := by decide +kernel
theorem dX8_seek_3 : decode cX8_seek 3 = .ok (.getfield 18, 3) := by decide +kernel
theorem dX8_seek_6 : decode cX8_seek 6 = .ok (.if_icmp .lt 47, 3) := by decide +kernel
theorem dX8_seek_9 : decode cX8_seek 9 = .ok (.iload_n 2, 1) := by decide +kernel
theorem dX8_seek_10 : decode cX8_seek 10 = .ok (.iload_n 3, 1) := by decide +kernel
theorem dX8_seek_11 : decode cX8_seek 11 = .ok (.if_icmp .ne 41, 3) := by decide +kernel
theorem dX8_seek_14 : decode cX8_seek 14 = .ok (.aload_n 0, 1) := by decide +kernel
theorem dX8_seek_15 : decode cX8_seek 15 = .ok (.getfield 22, 3) := by decide +kernel
theorem dX8_seek_18 : decode cX8_seek 18 = .ok (.iconst (-1), 1) := by decide +kernel
theorem dX8_seek_19 : decode cX8_seek 19 = .ok (.if_icmp .eq 12, 3) := by decide +kernel
theorem dX8_seek_22 : decode cX8_seek 22 = .ok (.iload 5, 2) := by decide +kernel
theorem dX8_seek_24 : decode cX8_seek 24 = .ok (.aload_n 0, 1) := by decide +kernel
theorem dX8_seek_25 : decode cX8_seek 25 = .ok (.getfield 22, 3) := by decide +kernel
theorem dX8_seek_28 : decode cX8_seek 28 = .ok (.if_icmp .ge 24, 3) := by decide +kernel
theorem dX8_seek_31 : decode cX8_seek 31 = .ok (.aload_n 0, 1) := by decide +kernel
theorem dX8_seek_32 : decode cX8_seek 32 = .ok (.iload 5, 2) := by decide +kernel
theorem dX8_seek_34 : decode cX8_seek 34 = .ok (.putfield 22, 3) := by decide +kernel
theorem dX8_seek_37 : decode cX8_seek 37 = .ok (.aload_n 0, 1) := by decide +kernel
theorem dX8_seek_38 : decode cX8_seek 38 = .ok (.getfield 15, 3) := by decide +kernel
theorem dX8_seek_41 : decode cX8_seek 41 = .ok (.iconst 0, 1) := by decide +kernel
theorem dX8_seek_42 : decode cX8_seek 42 = .ok (.aload_n 0, 1) := by decide +kernel
theorem dX8_seek_43 : decode cX8_seek 43 = .ok (.getfield 9, 3) := by decide +kernel
theorem dX8_seek_46 : decode cX8_seek 46 = .ok (.iconst 0, 1) := by decide +kernel
theorem dX8_seek_47 : decode cX8_seek 47 = .ok (.bipush 6, 2) := by decide +kernel
theorem dX8_seek_49 : decode cX8_seek 49 = .ok (.invokestatic 52, 3) := by decide +kernel
theorem dX8_seek_52 : decode cX8_seek 52 = .ok (.return_, 1) := by decide +kernel
theorem dX8_seek_53 : decode cX8_seek 53 = .ok (.iconst 0, 1) := by decide +kernel
theorem dX8_seek_54 : decode cX8_seek 54 = .ok (.istore 6, 2) := by decide +kernel
theorem dX8_seek_56 : decode cX8_seek 56 = .ok (.iload 6, 2) := by decide +kernel
theorem dX8_seek_58 : decode cX8_seek 58 = .ok (.aload_n 1, 1) := by decide +kernel
theorem dX8_seek_59 : decode cX8_seek 59 = .ok (.getfield 25, 3) := by decide +kernel
theorem dX8_seek_62 : decode cX8_seek 62 = .ok (.getfield 31, 3) := by decide +kernel
theorem dX8_seek_65 : decode cX8_seek 65 = .ok (.getfield 37, 3) := by decide +kernel
theorem dX8_seek_68 : decode cX8_seek 68 = .ok (.getfield 43, 3) := by decide +kernel
theorem dX8_seek_71 : decode cX8_seek 71 = .ok (.if_icmp .ge 65, 3) := by decide +kernel
theorem dX8_seek_74 : decode cX8_seek 74 = .ok (.aload_n 0, 1) := by decide +kernel
theorem dX8_seek_75 : decode cX8_seek 75 = .ok (.iload 6, 2) := by decide +kernel
theorem dX8_seek_77 : decode cX8_seek 77 = .ok (.iload 4, 2) := by decide +kernel
theorem dX8_seek_79 : decode cX8_seek 79 = .ok (.invokevirtual 58, 3) := by decide +kernel
theorem dX8_seek_82 : decode cX8_seek 82 = .ok (.ifCond .ne 48, 3) := by decide +kernel
theorem dX8_seek_85 : decode cX8_seek 85 = .ok (.aload_n 0, 1) := by decide +kernel
theorem dX8_seek_86 : decode cX8_seek 86 = .ok (.getfield 15, 3) := by decide +kernel
theorem dX8_seek_89 : decode cX8_seek 89 = .ok (.iload 4, 2) := by decide +kernel
theorem dX8_seek_91 : decode cX8_seek 91 = .ok (.iload 6, 2) := by decide +kernel
theorem dX8_seek_93 : decode cX8_seek 93 = .ok (.iastore, 1) := by decide +kernel
theorem dX8_seek_94 : decode cX8_seek 94 = .ok (.aload_n 1, 1) := by decide +kernel
theorem dX8_seek_95 : decode cX8_seek 95 = .ok (.iload 6, 2) := by decide +kernel
theorem dX8_seek_97 : decode cX8_seek 97 = .ok (.iload_n 2, 1) := by decide +kernel
theorem dX8_seek_98 : decode cX8_seek 98 = .ok (.invokevirtual 62, 3) := by decide +kernel
theorem dX8_seek_101 : decode cX8_seek 101 = .ok (.istore 7, 2) := by decide +kernel
theorem dX8_seek_103 : decode cX8_seek 103 = .ok (.aload_n 0, 1) := by decide +kernel
theorem dX8_seek_104 : decode cX8_seek 104 = .ok (.aload_n 1, 1) := by decide +kernel
theorem dX8_seek_105 : decode cX8_seek 105 = .ok (.aload_n 1, 1) := by decide +kernel
theorem dX8_seek_106 : decode cX8_seek 106 = .ok (.getfield 66, 3) := by decide +kernel
theorem dX8_seek_109 : decode cX8_seek 109 = .ok (.iload 7, 2) := by decide +kernel
theorem dX8_seek_111 : decode cX8_seek 111 = .ok (.iaload, 1) := by decide +kernel
theorem dX8_seek_112 : decode cX8_seek 112 = .ok (.iload_n 3, 1) := by decide +kernel
theorem dX8_seek_113 : decode cX8_seek 113 = .ok (.iload 4, 2) := by decide +kernel
theorem dX8_seek_115 : decode cX8_seek 115 = .ok (.iconst 1, 1) := by decide +kernel
theorem dX8_seek_116 : decode cX8_seek 116 = .ok (.iadd, 1) := by decide +kernel
theorem dX8_seek_117 : decode cX8_seek 117 = .ok (.iload 5, 2) := by decide +kernel
theorem dX8_seek_119 : decode cX8_seek 119 = .ok (.aload_n 1, 1) := by decide +kernel
theorem dX8_seek_120 : decode cX8_seek 120 = .ok (.getfield 69, 3) := by decide +kernel
theorem dX8_seek_123 : decode cX8_seek 123 = .ok (.iload 7, 2) := by decide +kernel
theorem dX8_seek_125 : decode cX8_seek 125 = .ok (.iaload, 1) := by decide +kernel
theorem dX8_seek_126 : decode cX8_seek 126 = .ok (.iadd, 1) := by decide +kernel
theorem dX8_seek_127 : decode cX8_seek 127 = .ok (.invokevirtual 48, 3) := by decide +kernel
theorem dX8_seek_130 : decode cX8_seek 130 = .ok (.iinc 6 1, 3) := by decide +kernel
theorem dX8_seek_133 : decode cX8_seek 133 = .ok (.goto (-77), 3) := by decide +kernel
theorem dX8_seek_136 : decode cX8_seek 136 = .ok (.return_, 1) := by decide +kernel
theorem dX8_find_0 : decode cX8_find 0 = .ok (.aload_n 1, 1) := by decide +kernel
theorem dX8_find_1 : decode cX8_find 1 = .ok (.getfield 25, 3) := by decide +kernel
theorem dX8_find_4 : decode cX8_find 4 = .ok (.getfield 31, 3) := by decide +kernel
theorem dX8_find_7 : decode cX8_find 7 = .ok (.getfield 37, 3) := by decide +kernel
theorem dX8_find_10 : decode cX8_find 10 = .ok (.getfield 43, 3) := by decide +kernel
theorem dX8_find_13 : decode cX8_find 13 = .ok (.istore 4, 2) := by decide +kernel
theorem dX8_find_15 : decode cX8_find 15 = .ok (.aload_n 0, 1) := by decide +kernel
theorem dX8_find_16 : decode cX8_find 16 = .ok (.iconst (-1), 1) := by decide +kernel
theorem dX8_find_17 : decode cX8_find 17 = .ok (.putfield 22, 3) := by decide +kernel
theorem dX8_find_20 : decode cX8_find 20 = .ok (.aload_n 0, 1) := by decide +kernel
theorem dX8_find_21 : decode cX8_find 21 = .ok (.iconst 0, 1) := by decide +kernel
theorem dX8_find_22 : decode cX8_find 22 = .ok (.putfield 18, 3) := by decide +kernel
theorem dX8_find_25 : decode cX8_find 25 = .ok (.aload_n 0, 1) := by decide +kernel
theorem dX8_find_26 : decode cX8_find 26 = .ok (.aload_n 1, 1) := by decide +kernel
theorem dX8_find_27 : decode cX8_find 27 = .ok (.iload_n 2, 1) := by decide +kernel
theorem dX8_find_28 : decode cX8_find 28 = .ok (.iload_n 3, 1) := by decide +kernel
theorem dX8_find_29 : decode cX8_find 29 = .ok (.iconst 0, 1) := by decide +kernel
theorem dX8_find_30 : decode cX8_find 30 = .ok (.iconst 0, 1) := by decide +kernel
theorem dX8_find_31 : decode cX8_find 31 = .ok (.invokevirtual 48, 3) := by decide +kernel
theorem dX8_find_34 : decode cX8_find 34 = .ok (.iconst 1, 1) := by decide +kernel
theorem dX8_find_35 : decode cX8_find 35 = .ok (.istore 5, 2) := by decide +kernel
theorem dX8_find_37 : decode cX8_find 37 = .ok (.iload 5, 2) := by decide +kernel
theorem dX8_find_39 : decode cX8_find 39 = .ok (.iload 4, 2) := by decide +kernel
theorem dX8_find_41 : decode cX8_find 41 = .ok (.if_icmp .gt 32, 3) := by decide +kernel
theorem dX8_find_44 : decode cX8_find 44 = .ok (.aload_n 0, 1) := by decide +kernel
theorem dX8_find_45 : decode cX8_find 45 = .ok (.getfield 22, 3) := by decide +kernel
theorem dX8_find_48 : decode cX8_find 48 = .ok (.iconst (-1), 1) := by decide +kernel
theorem dX8_find_49 : decode cX8_find 49 = .ok (.if_icmp .ne 24, 3) := by decide +kernel
theorem dX8_find_52 : decode cX8_find 52 = .ok (.aload_n 0, 1) := by decide +kernel
theorem dX8_find_53 : decode cX8_find 53 = .ok (.iload 5, 2) := by decide +kernel
theorem dX8_find_55 : decode cX8_find 55 = .ok (.putfield 18, 3) := by decide +kernel
theorem dX8_find_58 : decode cX8_find 58 = .ok (.aload_n 0, 1) := by decide +kernel
theorem dX8_find_59 : decode cX8_find 59 = .ok (.aload_n 1, 1) := by decide +kernel
theorem dX8_find_60 : decode cX8_find 60 = .ok (.iload_n 2, 1) := by decide +kernel
theorem dX8_find_61 : decode cX8_find 61 = .ok (.iload_n 3, 1) := by decide +kernel
theorem dX8_find_62 : decode cX8_find 62 = .ok (.iconst 0, 1) := by decide +kernel
theorem dX8_find_63 : decode cX8_find 63 = .ok (.iconst 0, 1) := by decide +kernel
theorem dX8_find_64 : decode cX8_find 64 = .ok (.invokevirtual 48, 3) := by decide +kernel
theorem dX8_find_67 : decode cX8_find 67 = .ok (.iinc 5 1, 3) := by decide +kernel
theorem dX8_find_70 : decode cX8_find 70 = .ok (.goto (-33), 3) := by decide +kernel
theorem dX8_find_73 : decode cX8_find 73 = .ok (.return_, 1) := by decide +kernel
theorem dX11_harness_0 : decode cX11_harness 0 = .ok (.iload_n 1, 1) := by decide +kernel
theorem dX11_harness_1 : decode cX11_harness 1 = .ok (.invokestatic 54, 3) := by decide +kernel
theorem dX11_harness_4 : decode cX11_harness 4 = .ok (.ifCond .eq 10, 3) := by decide +kernel
theorem dX11_harness_7 : decode cX11_harness 7 = .ok (.iload_n 2, 1) := by decide +kernel
theorem dX11_harness_8 : decode cX11_harness 8 = .ok (.invokestatic 54, 3) := by decide +kernel
theorem dX11_harness_11 : decode cX11_harness 11 = .ok (.ifCond .ne 6, 3) := by decide +kernel
theorem dX11_harness_14 : decode cX11_harness 14 = .ok (.bipush (-3), 2) := by decide +kernel
theorem dX11_harness_16 : decode cX11_harness 16 = .ok (.ireturn, 1) := by decide +kernel
theorem dX11_harness_17 : decode cX11_harness 17 = .ok (.aload_n 0, 1) := by decide +kernel
theorem dX11_harness_18 : decode cX11_harness 18 = .ok (.getfield 46, 3) := by decide +kernel
theorem dX11_harness_21 : decode cX11_harness 21 = .ok (.aload_n 0, 1) := by decide +kernel
theorem dX11_harness_22 : decode cX11_harness 22 = .ok (.getfield 10, 3) := by decide +kernel
theorem dX11_harness_25 : decode cX11_harness 25 = .ok (.iload_n 1, 1) := by decide +kernel
theorem dX11_harness_26 : decode cX11_harness 26 = .ok (.iload_n 2, 1) := by decide +kernel
theorem dX11_harness_27 : decode cX11_harness 27 = .ok (.invokevirtual 219, 3) := by decide +kernel
theorem dX11_harness_30 : decode cX11_harness 30 = .ok (.aload_n 0, 1) := by decide +kernel
theorem dX11_harness_31 : decode cX11_harness 31 = .ok (.getfield 46, 3) := by decide +kernel
theorem dX11_harness_34 : decode cX11_harness 34 = .ok (.getfield 223, 3) := by decide +kernel
theorem dX11_harness_37 : decode cX11_harness 37 = .ok (.iconst (-1), 1) := by decide +kernel
theorem dX11_harness_38 : decode cX11_harness 38 = .ok (.if_icmp .ne 6, 3) := by decide +kernel
theorem dX11_harness_41 : decode cX11_harness 41 = .ok (.bipush (-3), 2) := by decide +kernel
theorem dX11_harness_43 : decode cX11_harness 43 = .ok (.ireturn, 1) := by decide +kernel
theorem dX11_harness_44 : decode cX11_harness 44 = .ok (.iload_n 3, 1) := by decide +kernel
theorem dX11_harness_45 : decode cX11_harness 45 = .ok (.iconst (-1), 1) := by decide +kernel
theorem dX11_harness_46 : decode cX11_harness 46 = .ok (.if_icmp .ne 11, 3) := by decide +kernel
theorem dX11_harness_49 : decode cX11_harness 49 = .ok (.aload_n 0, 1) := by decide +kernel
theorem dX11_harness_50 : decode cX11_harness 50 = .ok (.getfield 46, 3) := by decide +kernel
theorem dX11_harness_53 : decode cX11_harness 53 = .ok (.getfield 224, 3) := by decide +kernel
theorem dX11_harness_56 : decode cX11_harness 56 = .ok (.ireturn, 1) := by decide +kernel
theorem dX11_harness_57 : decode cX11_harness 57 = .ok (.iload_n 3, 1) := by decide +kernel
theorem dX11_harness_58 : decode cX11_harness 58 = .ok (.bipush (-2), 2) := by decide +kernel
theorem dX11_harness_60 : decode cX11_harness 60 = .ok (.if_icmp .ne 11, 3) := by decide +kernel
theorem dX11_harness_63 : decode cX11_harness 63 = .ok (.aload_n 0, 1) := by decide +kernel
theorem dX11_harness_64 : decode cX11_harness 64 = .ok (.getfield 46, 3) := by decide +kernel
theorem dX11_harness_67 : decode cX11_harness 67 = .ok (.getfield 223, 3) := by decide +kernel
theorem dX11_harness_70 : decode cX11_harness 70 = .ok (.ireturn, 1) := by decide +kernel
theorem dX11_harness_71 : decode cX11_harness 71 = .ok (.iload_n 3, 1) := by decide +kernel
theorem dX11_harness_72 : decode cX11_harness 72 = .ok (.iconst 0, 1) := by decide +kernel
theorem dX11_harness_73 : decode cX11_harness 73 = .ok (.aload_n 0, 1) := by decide +kernel
theorem dX11_harness_74 : decode cX11_harness 74 = .ok (.getfield 46, 3) := by decide +kernel
theorem dX11_harness_77 : decode cX11_harness 77 = .ok (.getfield 224, 3) := by decide +kernel
theorem dX11_harness_80 : decode cX11_harness 80 = .ok (.iconst 1, 1) := by decide +kernel
theorem dX11_harness_81 : decode cX11_harness 81 = .ok (.isub, 1) := by decide +kernel
theorem dX11_harness_82 : decode cX11_harness 82 = .ok (.invokestatic 58, 3) := by decide +kernel
theorem dX11_harness_85 : decode cX11_harness 85 = .ok (.ifCond .eq 15, 3) := by decide +kernel
theorem dX11_harness_88 : decode cX11_harness 88 = .ok (.aload_n 0, 1) := by decide +kernel
theorem dX11_harness_89 : decode cX11_harness 89 = .ok (.getfield 46, 3) := by decide +kernel
theorem dX11_harness_92 : decode cX11_harness 92 = .ok (.getfield 225, 3) := by decide +kernel
theorem dX11_harness_95 : decode cX11_harness 95 = .ok (.iload_n 3, 1) := by decide +kernel
theorem dX11_harness_96 : decode cX11_harness 96 = .ok (.iaload, 1) := by decide +kernel
theorem dX11_harness_97 : decode cX11_harness 97 = .ok (.goto 5, 3) := by decide +kernel
theorem dX11_harness_100 : decode cX11_harness 100 = .ok (.bipush (-3), 2) := by decide +kernel
theorem dX11_harness_102 : decode cX11_harness 102 = .ok (.ireturn, 1) := by decide +kernel
theorem dJ6_bitCount_0f7a4_0 : decode cJ6_bitCount_0f7a4 0 = .ok (.iload_n 0, 1) := by decide +kernel
theorem dJ6_bitCount_0f7a4_1 : decode cJ6_bitCount_0f7a4 1 = .ok (.iload_n 0, 1) := by decide +kernel
theorem dJ6_bitCount_0f7a4_2 : decode cJ6_bitCount_0f7a4 2 = .ok (.iconst 1, 1) := by decide +kernel
theorem dJ6_bitCount_0f7a4_3 : decode cJ6_bitCount_0f7a4 3 = .ok (.iushr, 1) := by decide +kernel
theorem dJ6_bitCount_0f7a4_4 : decode cJ6_bitCount_0f7a4 4 = .ok (.ldc_w 265, 3) := by decide +kernel
theorem dJ6_bitCount_0f7a4_7 : decode cJ6_bitCount_0f7a4 7 = .ok (.iand, 1) := by decide +kernel
theorem dJ6_bitCount_0f7a4_8 : decode cJ6_bitCount_0f7a4 8 = .ok (.isub, 1) := by decide +kernel
theorem dJ6_bitCount_0f7a4_9 : decode cJ6_bitCount_0f7a4 9 = .ok (.istore_n 0, 1) := by decide +kernel
theorem dJ6_bitCount_0f7a4_10 : decode cJ6_bitCount_0f7a4 10 = .ok (.iload_n 0, 1) := by decide +kernel
theorem dJ6_bitCount_0f7a4_11 : decode cJ6_bitCount_0f7a4 11 = .ok (.ldc_w 266, 3) := by decide +kernel
theorem dJ6_bitCount_0f7a4_14 : decode cJ6_bitCount_0f7a4 14 = .ok (.iand, 1) := by decide +kernel
theorem dJ6_bitCount_0f7a4_15 : decode cJ6_bitCount_0f7a4 15 = .ok (.iload_n 0, 1) := by decide +kernel
theorem dJ6_bitCount_0f7a4_16 : decode cJ6_bitCount_0f7a4 16 = .ok (.iconst 2, 1) := by decide +kernel
theorem dJ6_bitCount_0f7a4_17 : decode cJ6_bitCount_0f7a4 17 = .ok (.iushr, 1) := by decide +kernel
theorem dJ6_bitCount_0f7a4_18 : decode cJ6_bitCount_0f7a4 18 = .ok (.ldc_w 266, 3) := by decide +kernel
theorem dJ6_bitCount_0f7a4_21 : decode cJ6_bitCount_0f7a4 21 = .ok (.iand, 1) := by decide +kernel
theorem dJ6_bitCount_0f7a4_22 : decode cJ6_bitCount_0f7a4 22 = .ok (.iadd, 1) := by decide +kernel
theorem dJ6_bitCount_0f7a4_23 : decode cJ6_bitCount_0f7a4 23 = .ok (.istore_n 0, 1) := by decide +kernel
theorem dJ6_bitCount_0f7a4_24 : decode cJ6_bitCount_0f7a4 24 = .ok (.iload_n 0, 1) := by decide +kernel
theorem dJ6_bitCount_0f7a4_25 : decode cJ6_bitCount_0f7a4 25 = .ok (.iload_n 0, 1) := by decide +kernel
theorem dJ6_bitCount_0f7a4_26 : decode cJ6_bitCount_0f7a4 26 = .ok (.iconst 4, 1) := by decide +kernel
theorem dJ6_bitCount_0f7a4_27 : decode cJ6_bitCount_0f7a4 27 = .ok (.iushr, 1) := by decide +kernel
theorem dJ6_bitCount_0f7a4_28 : decode cJ6_bitCount_0f7a4 28 = .ok (.iadd, 1) := by decide +kernel
theorem dJ6_bitCount_0f7a4_29 : decode cJ6_bitCount_0f7a4 29 = .ok (.ldc_w 267, 3) := by decide +kernel
theorem dJ6_bitCount_0f7a4_32 : decode cJ6_bitCount_0f7a4 32 = .ok (.iand, 1) := by decide +kernel
theorem dJ6_bitCount_0f7a4_33 : decode cJ6_bitCount_0f7a4 33 = .ok (.istore_n 0, 1) := by decide +kernel
theorem dJ6_bitCount_0f7a4_34 : decode cJ6_bitCount_0f7a4 34 = .ok (.iload_n 0, 1) := by decide +kernel
theorem dJ6_bitCount_0f7a4_35 : decode cJ6_bitCount_0f7a4 35 = .ok (.iload_n 0, 1) := by decide +kernel
theorem dJ6_bitCount_0f7a4_36 : decode cJ6_bitCount_0f7a4 36 = .ok (.bipush 8, 2) := by decide +kernel
theorem dJ6_bitCount_0f7a4_38 : decode cJ6_bitCount_0f7a4 38 = .ok (.iushr, 1) := by decide +kernel
theorem dJ6_bitCount_0f7a4_39 : decode cJ6_bitCount_0f7a4 39 = .ok (.iadd, 1) := by decide +kernel
theorem dJ6_bitCount_0f7a4_40 : decode cJ6_bitCount_0f7a4 40 = .ok (.istore_n 0, 1) := by decide +kernel
theorem dJ6_bitCount_0f7a4_41 : decode cJ6_bitCount_0f7a4 41 = .ok (.iload_n 0, 1) := by decide +kernel
theorem dJ6_bitCount_0f7a4_42 : decode cJ6_bitCount_0f7a4 42 = .ok (.iload_n 0, 1) := by decide +kernel
theorem dJ6_bitCount_0f7a4_43 : decode cJ6_bitCount_0f7a4 43 = .ok (.bipush 16, 2) := by decide +kernel
theorem dJ6_bitCount_0f7a4_45 : decode cJ6_bitCount_0f7a4 45 = .ok (.iushr, 1) := by decide +kernel
theorem dJ6_bitCount_0f7a4_46 : decode cJ6_bitCount_0f7a4 46 = .ok (.iadd, 1) := by decide +kernel
theorem dJ6_bitCount_0f7a4_47 : decode cJ6_bitCount_0f7a4 47 = .ok (.istore_n 0, 1) := by decide +kernel
theorem dJ6_bitCount_0f7a4_48 : decode cJ6_bitCount_0f7a4 48 = .ok (.iload_n 0, 1) := by decide +kernel
theorem dJ6_bitCount_0f7a4_49 : decode cJ6_bitCount_0f7a4 49 = .ok (.bipush 63, 2) := by decide +kernel
theorem dJ6_bitCount_0f7a4_51 : decode cJ6_bitCount_0f7a4 51 = .ok (.iand, 1) := by decide +kernel
theorem dJ6_bitCount_0f7a4_52 : decode cJ6_bitCount_0f7a4 52 = .ok (.ireturn, 1) := by decide +kernel
theorem dX11_thief_0 : decode cX11_thief 0 = .ok (.iload_n 1, 1) := by decide +kernel
theorem dX11_thief_1 : decode cX11_thief 1 = .ok (.invokestatic 54, 3) := by decide +kernel
theorem dX11_thief_4 : decode cX11_thief 4 = .ok (.ifCond .eq 15, 3) := by decide +kernel
theorem dX11_thief_7 : decode cX11_thief 7 = .ok (.iload_n 2, 1) := by decide +kernel
theorem dX11_thief_8 : decode cX11_thief 8 = .ok (.invokestatic 54, 3) := by decide +kernel
theorem dX11_thief_11 : decode cX11_thief 11 = .ok (.ifCond .eq 8, 3) := by decide +kernel
theorem dX11_thief_14 : decode cX11_thief 14 = .ok (.iload_n 3, 1) := by decide +kernel
theorem dX11_thief_15 : decode cX11_thief 15 = .ok (.iconst (-1), 1) := by decide +kernel
theorem dX11_thief_16 : decode cX11_thief 16 = .ok (.if_icmp .ge 5, 3) := by decide +kernel
theorem dX11_thief_19 : decode cX11_thief 19 = .ok (.iconst (-1), 1) := by decide +kernel
theorem dX11_thief_20 : decode cX11_thief 20 = .ok (.ireturn, 1) := by decide +kernel
theorem dX11_thief_21 : decode cX11_thief 21 = .ok (.iconst 0, 1) := by decide +kernel
theorem dX11_thief_22 : decode cX11_thief 22 = .ok (.istore 4, 2) := by decide +kernel
theorem dX11_thief_24 : decode cX11_thief 24 = .ok (.iconst 0, 1) := by decide +kernel
theorem dX11_thief_25 : decode cX11_thief 25 = .ok (.istore 5, 2) := by decide +kernel
theorem dX11_thief_27 : decode cX11_thief 27 = .ok (.iload 5, 2) := by decide +kernel
theorem dX11_thief_29 : decode cX11_thief 29 = .ok (.iconst 1, 1) := by decide +kernel
theorem dX11_thief_30 : decode cX11_thief 30 = .ok (.aload_n 0, 1) := by decide +kernel
theorem dX11_thief_31 : decode cX11_thief 31 = .ok (.getfield 27, 3) := by decide +kernel
theorem dX11_thief_34 : decode cX11_thief 34 = .ok (.getfield 106, 3) := by decide +kernel
theorem dX11_thief_37 : decode cX11_thief 37 = .ok (.getfield 110, 3) := by decide +kernel
theorem dX11_thief_40 : decode cX11_thief 40 = .ok (.ishl, 1) := by decide +kernel
theorem dX11_thief_41 : decode cX11_thief 41 = .ok (.if_icmp .ge 41, 3) := by decide +kernel
theorem dX11_thief_44 : decode cX11_thief 44 = .ok (.iload 5, 2) := by decide +kernel
theorem dX11_thief_46 : decode cX11_thief 46 = .ok (.invokestatic 238, 3) := by decide +kernel
theorem dX11_thief_49 : decode cX11_thief 49 = .ok (.iconst 3, 1) := by decide +kernel
theorem dX11_thief_50 : decode cX11_thief 50 = .ok (.if_icmp .ne 26, 3) := by decide +kernel
theorem dX11_thief_53 : decode cX11_thief 53 = .ok (.aload_n 0, 1) := by decide +kernel
theorem dX11_thief_54 : decode cX11_thief 54 = .ok (.iload_n 1, 1) := by decide +kernel
theorem dX11_thief_55 : decode cX11_thief 55 = .ok (.iload_n 2, 1) := by decide +kernel
theorem dX11_thief_56 : decode cX11_thief 56 = .ok (.iload 5, 2) := by decide +kernel
theorem dX11_thief_58 : decode cX11_thief 58 = .ok (.invokevirtual 244, 3) := by decide +kernel
theorem dX11_thief_61 : decode cX11_thief 61 = .ok (.ifCond .eq 15, 3) := by decide +kernel
theorem dX11_thief_64 : decode cX11_thief 64 = .ok (.iload 4, 2) := by decide +kernel
theorem dX11_thief_66 : decode cX11_thief 66 = .ok (.iload_n 3, 1) := by decide +kernel
theorem dX11_thief_67 : decode cX11_thief 67 = .ok (.if_icmp .ne 6, 3) := by decide +kernel
theorem dX11_thief_70 : decode cX11_thief 70 = .ok (.iload 5, 2) := by decide +kernel
theorem dX11_thief_72 : decode cX11_thief 72 = .ok (.ireturn, 1) := by decide +kernel
theorem dX11_thief_73 : decode cX11_thief 73 = .ok (.iinc 4 1, 3) := by decide +kernel
theorem dX11_thief_76 : decode cX11_thief 76 = .ok (.iinc 5 1, 3) := by decide +kernel
theorem dX11_thief_79 : decode cX11_thief 79 = .ok (.goto (-52), 3) := by decide +kernel
theorem dX11_thief_82 : decode cX11_thief 82 = .ok (.iload_n 3, 1) := by decide +kernel
theorem dX11_thief_83 : decode cX11_thief 83 = .ok (.iconst (-1), 1) := by decide +kernel
theorem dX11_thief_84 : decode cX11_thief 84 = .ok (.if_icmp .ne 8, 3) := by decide +kernel
theorem dX11_thief_87 : decode cX11_thief 87 = .ok (.iload 4, 2) := by decide +kernel
theorem dX11_thief_89 : decode cX11_thief 89 = .ok (.goto 4, 3) := by decide +kernel
theorem dX11_thief_92 : decode cX11_thief 92 = .ok (.iconst (-1), 1) := by decide +kernel
theorem dX11_thief_93 : decode cX11_thief 93 = .ok (.ireturn, 1) := by decide +kernel
theorem dX11_about_0 : decode cX11_about 0 = .ok (.iload_n 1, 1) := by decide +kernel
theorem dX11_about_1 : decode cX11_about 1 = .ok (.bipush 20, 2) := by decide +kernel
theorem dX11_about_3 : decode cX11_about 3 = .ok (.bipush 20, 2) := by decide +kernel
theorem dX11_about_5 : decode cX11_about 5 = .ok (.aload_n 0, 1) := by decide +kernel
theorem dX11_about_6 : decode cX11_about 6 = .ok (.getfield 27, 3) := by decide +kernel
theorem dX11_about_9 : decode cX11_about 9 = .ok (.getfield 84, 3) := by decide +kernel
theorem dX11_about_12 : decode cX11_about 12 = .ok (.getfield 88, 3) := by decide +kernel
theorem dX11_about_15 : decode cX11_about 15 = .ok (.iadd, 1) := by decide +kernel
theorem dX11_about_16 : decode cX11_about 16 = .ok (.iconst 1, 1) := by decide +kernel
theorem dX11_about_17 : decode cX11_about 17 = .ok (.isub, 1) := by decide +kernel
theorem dX11_about_18 : decode cX11_about 18 = .ok (.invokestatic 58, 3) := by decide +kernel
theorem dX11_about_21 : decode cX11_about 21 = .ok (.ifCond .eq 19, 3) := by decide +kernel
theorem dX11_about_24 : decode cX11_about 24 = .ok (.aload_n 0, 1) := by decide +kernel
theorem dX11_about_25 : decode cX11_about 25 = .ok (.getfield 27, 3) := by decide +kernel
theorem dX11_about_28 : decode cX11_about 28 = .ok (.getfield 84, 3) := by decide +kernel
theorem dX11_about_31 : decode cX11_about 31 = .ok (.getfield 93, 3) := by decide +kernel
theorem dX11_about_34 : decode cX11_about 34 = .ok (.iload_n 1, 1) := by decide +kernel
theorem dX11_about_35 : decode cX11_about 35 = .ok (.bipush 20, 2) := by decide +kernel
theorem dX11_about_37 : decode cX11_about 37 = .ok (.isub, 1) := by decide +kernel
theorem dX11_about_38 : decode cX11_about 38 = .ok (.iaload, 1) := by decide +kernel
theorem dX11_about_39 : decode cX11_about 39 = .ok (.ireturn, 1) := by decide +kernel
theorem dX11_about_40 : decode cX11_about 40 = .ok (.iload_n 1, 1) := by decide +kernel
theorem dX11_about_41 : decode cX11_about 41 = .ok (.bipush 100, 2) := by decide +kernel
theorem dX11_about_43 : decode cX11_about 43 = .ok (.sipush 399, 3) := by decide +kernel
theorem dX11_about_46 : decode cX11_about 46 = .ok (.invokestatic 58, 3) := by decide +kernel
theorem dX11_about_49 : decode cX11_about 49 = .ok (.ifCond .eq 19, 3) := by decide +kernel
theorem dX11_about_52 : decode cX11_about 52 = .ok (.aload_n 0, 1) := by decide +kernel
theorem dX11_about_53 : decode cX11_about 53 = .ok (.getfield 27, 3) := by decide +kernel
theorem dX11_about_56 : decode cX11_about 56 = .ok (.getfield 62, 3) := by decide +kernel
theorem dX11_about_59 : decode cX11_about 59 = .ok (.getfield 66, 3) := by decide +kernel
theorem dX11_about_62 : decode cX11_about 62 = .ok (.iload_n 1, 1) := by decide +kernel
theorem dX11_about_63 : decode cX11_about 63 = .ok (.bipush 100, 2) := by decide +kernel
theorem dX11_about_65 : decode cX11_about 65 = .ok (.isub, 1) := by decide +kernel
theorem dX11_about_66 : decode cX11_about 66 = .ok (.iaload, 1) := by decide +kernel
theorem dX11_about_67 : decode cX11_about 67 = .ok (.ireturn, 1) := by decide +kernel
theorem dX11_about_68 : decode cX11_about 68 = .ok (.iload_n 1, 1) := by decide +kernel
theorem dX11_about_69 : decode cX11_about 69 = .ok (.tableswitch 180 0 11 #[63, 74, 85, 96, 107, 115, 126, 134, 142, 153, 161, 169], 63) := by decide +kernel
theorem dX11_about_132 : decode cX11_about 132 = .ok (.aload_n 0, 1) := by decide +kernel
theorem dX11_about_133 : decode cX11_about 133 = .ok (.getfield 27, 3) := by decide +kernel
theorem dX11_about_136 : decode cX11_about 136 = .ok (.getfield 106, 3) := by decide +kernel
theorem dX11_about_139 : decode cX11_about 139 = .ok (.getfield 110, 3) := by decide +kernel
theorem dX11_about_142 : decode cX11_about 142 = .ok (.ireturn, 1) := by decide +kernel
theorem dX11_about_143 : decode cX11_about 143 = .ok (.aload_n 0, 1) := by decide +kernel
theorem dX11_about_144 : decode cX11_about 144 = .ok (.getfield 27, 3) := by decide +kernel
theorem dX11_about_147 : decode cX11_about 147 = .ok (.getfield 62, 3) := by decide +kernel
theorem dX11_about_150 : decode cX11_about 150 = .ok (.getfield 74, 3) := by decide +kernel
theorem dX11_about_153 : decode cX11_about 153 = .ok (.ireturn, 1) := by decide +kernel
theorem dX11_about_154 : decode cX11_about 154 = .ok (.aload_n 0, 1) := by decide +kernel
theorem dX11_about_155 : decode cX11_about 155 = .ok (.getfield 27, 3) := by decide +kernel
theorem dX11_about_158 : decode cX11_about 158 = .ok (.getfield 84, 3) := by decide +kernel
theorem dX11_about_161 : decode cX11_about 161 = .ok (.getfield 88, 3) := by decide +kernel
theorem dX11_about_164 : decode cX11_about 164 = .ok (.ireturn, 1) := by decide +kernel
theorem dX11_about_165 : decode cX11_about 165 = .ok (.aload_n 0, 1) := by decide +kernel
theorem dX11_about_166 : decode cX11_about 166 = .ok (.getfield 27, 3) := by decide +kernel
theorem dX11_about_169 : decode cX11_about 169 = .ok (.getfield 84, 3) := by decide +kernel
theorem dX11_about_172 : decode cX11_about 172 = .ok (.getfield 197, 3) := by decide +kernel
theorem dX11_about_175 : decode cX11_about 175 = .ok (.ireturn, 1) := by decide +kernel
theorem dX11_about_176 : decode cX11_about 176 = .ok (.aload_n 0, 1) := by decide +kernel
theorem dX11_about_177 : decode cX11_about 177 = .ok (.getfield 27, 3) := by decide +kernel
theorem dX11_about_180 : decode cX11_about 180 = .ok (.getfield 121, 3) := by decide +kernel
theorem dX11_about_183 : decode cX11_about 183 = .ok (.ireturn, 1) := by decide +kernel
theorem dX11_about_184 : decode cX11_about 184 = .ok (.aload_n 0, 1) := by decide +kernel
theorem dX11_about_185 : decode cX11_about 185 = .ok (.getfield 27, 3) := by decide +kernel
theorem dX11_about_188 : decode cX11_about 188 = .ok (.getfield 84, 3) := by decide +kernel
theorem dX11_about_191 : decode cX11_about 191 = .ok (.getfield 124, 3) := by decide +kernel
theorem dX11_about_194 : decode cX11_about 194 = .ok (.ireturn, 1) := by decide +kernel
theorem dX11_about_195 : decode cX11_about 195 = .ok (.aload_n 0, 1) := by decide +kernel
theorem dX11_about_196 : decode cX11_about 196 = .ok (.getfield 27, 3) := by decide +kernel
theorem dX11_about_199 : decode cX11_about 199 = .ok (.getfield 140, 3) := by decide +kernel
theorem dX11_about_202 : decode cX11_about 202 = .ok (.ireturn, 1) := by decide +kernel
theorem dX11_about_203 : decode cX11_about 203 = .ok (.aload_n 0, 1) := by decide +kernel
theorem dX11_about_204 : decode cX11_about 204 = .ok (.getfield 27, 3) := by decide +kernel
theorem dX11_about_207 : decode cX11_about 207 = .ok (.getfield 156, 3) := by decide +kernel
theorem dX11_about_210 : decode cX11_about 210 = .ok (.ireturn, 1) := by decide +kernel
theorem dX11_about_211 : decode cX11_about 211 = .ok (.aload_n 0, 1) := by decide +kernel
theorem dX11_about_212 : decode cX11_about 212 = .ok (.getfield 27, 3) := by decide +kernel
theorem dX11_about_215 : decode cX11_about 215 = .ok (.getfield 96, 3) := by decide +kernel
theorem dX11_about_218 : decode cX11_about 218 = .ok (.getfield 168, 3) := by decide +kernel
theorem dX11_about_221 : decode cX11_about 221 = .ok (.ireturn, 1) := by decide +kernel
theorem dX11_about_222 : decode cX11_about 222 = .ok (.aload_n 0, 1) := by decide +kernel
theorem dX11_about_223 : decode cX11_about 223 = .ok (.getfield 27, 3) := by decide +kernel
theorem dX11_about_226 : decode cX11_about 226 = .ok (.getfield 247, 3) := by decide +kernel
theorem dX11_about_229 : decode cX11_about 229 = .ok (.ireturn, 1) := by decide +kernel
theorem dX11_about_230 : decode cX11_about 230 = .ok (.aload_n 0, 1) := by decide +kernel
theorem dX11_about_231 : decode cX11_about 231 = .ok (.getfield 27, 3) := by decide +kernel
theorem dX11_about_234 : decode cX11_about 234 = .ok (.getfield 257, 3) := by decide +kernel
theorem dX11_about_237 : decode cX11_about 237 = .ok (.ireturn, 1) := by decide +kernel
theorem dX11_about_238 : decode cX11_about 238 = .ok (.aload_n 0, 1) := by decide +kernel
theorem dX11_about_239 : decode cX11_about 239 = .ok (.getfield 39, 3) := by decide +kernel
theorem dX11_about_242 : decode cX11_about 242 = .ok (.getfield 127, 3) := by decide +kernel
theorem dX11_about_245 : decode cX11_about 245 = .ok (.getfield 131, 3) := by decide +kernel
theorem dX11_about_248 : decode cX11_about 248 = .ok (.ireturn, 1) := by decide +kernel
theorem dX11_about_249 : decode cX11_about 249 = .ok (.bipush (-2), 2) := by decide +kernel
theorem dX11_about_251 : decode cX11_about 251 = .ok (.ireturn, 1) := by decide +kernel
theorem bw_3 : Cond.selects "CountingHorses$Tape" ⟨"CountingHorses$Tape", "put", "(III)V"⟩ ⟨"CountingHorses$Tape", "put", "(III)V"⟩ ∈ BW := bw_at 3 (by decide +kernel) (by decide +kernel)
theorem bw_29 : Cond.selects "CountingHorses$Team" ⟨"CountingHorses$Team", "seek", "(LCountingHorses$Stops;IIII)V"⟩ ⟨"CountingHorses$Team", "seek", "(LCountingHorses$Stops;IIII)V"⟩ ∈ BW := bw_at 29 (by decide +kernel) (by decide +kernel)
theorem bw_88 : Cond.initialized "CountingHorses$Text" ∈ BW := bw_at 88 (by decide +kernel) (by decide +kernel)
theorem bw_89 : Cond.initialized "CountingHorses$Reader" ∈ BW := bw_at 89 (by decide +kernel) (by decide +kernel)
theorem bw_90 : Cond.initialized "CountingHorses$Tape" ∈ BW := bw_at 90 (by decide +kernel) (by decide +kernel)
theorem bw_91 : Cond.initialized "CountingHorses$Team" ∈ BW := bw_at 91 (by decide +kernel) (by decide +kernel)
theorem bw_93 : Cond.initialized "java/lang/System" ∈ BW := bw_at 93 (by decide +kernel) (by decide +kernel)
theorem bw_94 : Cond.initialized "java/util/Arrays" ∈ BW := bw_at 94 (by decide +kernel) (by decide +kernel)
theorem bw_101 : Cond.initialized "java/lang/Integer" ∈ BW := bw_at 101 (by decide +kernel) (by decide +kernel)
theorem bw_166 : Cond.fieldLink "CountingHorses$Team" 43 "CountingHorses$Stable" "horses" "I" ∈ BW := bw_at 166 (by decide +kernel) (by decide +kernel)
theorem bw_193 : Cond.fieldLink "CountingHorses" 197 "CountingHorses$Mail" "day" "I" ∈ BW := bw_at 193 (by decide +kernel) (by decide +kernel)
theorem bw_235 : Cond.fieldLink "CountingHorses$Team" 37 "CountingHorses$World" "stable" "LCountingHorses$Stable;" ∈ BW := bw_at 235 (by decide +kernel) (by decide +kernel)
theorem bw_300 : Cond.fieldLink "CountingHorses$Text" 15 "CountingHorses$Text" "lawFrom" "[I" ∈ BW := bw_at 300 (by decide +kernel) (by decide +kernel)
theorem bw_303 : Cond.fieldLink "CountingHorses$Text" 18 "CountingHorses$Text" "lawTo" "[I" ∈ BW := bw_at 303 (by decide +kernel) (by decide +kernel)
theorem bw_310 : Cond.fieldLink "CountingHorses$Text" 27 "CountingHorses$Text" "length" "I" ∈ BW := bw_at 310 (by decide +kernel) (by decide +kernel)
theorem bw_312 : Cond.fieldLink "CountingHorses$Text" 31 "CountingHorses$Text" "clauses" "I" ∈ BW := bw_at 312 (by decide +kernel) (by decide +kernel)
theorem bw_332 : Cond.fieldLink "CountingHorses$Team" 31 "CountingHorses$Driver" "world" "LCountingHorses$World;" ∈ BW := bw_at 332 (by decide +kernel) (by decide +kernel)
theorem bw_334 : Cond.fieldLink "CountingHorses" 143 "CountingHorses$Driver" "texts" "[LCountingHorses$Text;" ∈ BW := bw_at 334 (by decide +kernel) (by decide +kernel)
theorem bw_361 : Cond.fieldLink "CountingHorses$Team" 25 "CountingHorses$Stops" "driver" "LCountingHorses$Driver;" ∈ BW := bw_at 361 (by decide +kernel) (by decide +kernel)
theorem bw_395 : Cond.fieldLink "CountingHorses$Tape" 9 "CountingHorses$Tape" "bytes" "[I" ∈ BW := bw_at 395 (by decide +kernel) (by decide +kernel)
theorem bw_396 : Cond.fieldLink "CountingHorses$Tape" 15 "CountingHorses$Tape" "kind" "[I" ∈ BW := bw_at 396 (by decide +kernel) (by decide +kernel)
theorem bw_397 : Cond.fieldLink "CountingHorses$Reader" 47 "CountingHorses$Tape" "kind" "[I" ∈ BW := bw_at 397 (by decide +kernel) (by decide +kernel)
theorem bw_398 : Cond.fieldLink "CountingHorses$Tape" 18 "CountingHorses$Tape" "at" "[I" ∈ BW := bw_at 398 (by decide +kernel) (by decide +kernel)
theorem bw_400 : Cond.fieldLink "CountingHorses$Tape" 21 "CountingHorses$Tape" "number" "[I" ∈ BW := bw_at 400 (by decide +kernel) (by decide +kernel)
theorem bw_401 : Cond.fieldLink "CountingHorses$Reader" 50 "CountingHorses$Tape" "number" "[I" ∈ BW := bw_at 401 (by decide +kernel) (by decide +kernel)
theorem bw_402 : Cond.fieldLink "CountingHorses$Tape" 24 "CountingHorses$Tape" "length" "I" ∈ BW := bw_at 402 (by decide +kernel) (by decide +kernel)
theorem bw_404 : Cond.fieldLink "CountingHorses$Tape" 28 "CountingHorses$Tape" "tokens" "I" ∈ BW := bw_at 404 (by decide +kernel) (by decide +kernel)
theorem bw_421 : Cond.fieldLink "CountingHorses$Reader" 12 "CountingHorses$Reader" "tape" "LCountingHorses$Tape;" ∈ BW := bw_at 421 (by decide +kernel) (by decide +kernel)
theorem bw_423 : Cond.fieldLink "CountingHorses$Reader" 18 "CountingHorses$Reader" "fault" "I" ∈ BW := bw_at 423 (by decide +kernel) (by decide +kernel)
theorem bw_425 : Cond.fieldLink "CountingHorses$Reader" 22 "CountingHorses$Reader" "faultAt" "I" ∈ BW := bw_at 425 (by decide +kernel) (by decide +kernel)
theorem bw_427 : Cond.fieldLink "CountingHorses$Reader" 25 "CountingHorses$Reader" "token" "I" ∈ BW := bw_at 427 (by decide +kernel) (by decide +kernel)
theorem bw_428 : Cond.fieldLink "CountingHorses$Reader" 28 "CountingHorses$Reader" "kind" "I" ∈ BW := bw_at 428 (by decide +kernel) (by decide +kernel)
theorem bw_429 : Cond.fieldLink "CountingHorses$Reader" 31 "CountingHorses$Reader" "number" "I" ∈ BW := bw_at 429 (by decide +kernel) (by decide +kernel)
theorem bw_430 : Cond.fieldLink "CountingHorses$Reader" 37 "CountingHorses$Reader" "text" "LCountingHorses$Text;" ∈ BW := bw_at 430 (by decide +kernel) (by decide +kernel)
theorem bw_452 : Cond.fieldLink "CountingHorses$Team" 9 "CountingHorses$Team" "best" "[I" ∈ BW := bw_at 452 (by decide +kernel) (by decide +kernel)
theorem bw_454 : Cond.fieldLink "CountingHorses$Team" 15 "CountingHorses$Team" "order" "[I" ∈ BW := bw_at 454 (by decide +kernel) (by decide +kernel)
theorem bw_455 : Cond.fieldLink "CountingHorses$Team" 18 "CountingHorses$Team" "size" "I" ∈ BW := bw_at 455 (by decide +kernel) (by decide +kernel)
theorem bw_456 : Cond.fieldLink "CountingHorses" 224 "CountingHorses$Team" "size" "I" ∈ BW := bw_at 456 (by decide +kernel) (by decide +kernel)
theorem bw_457 : Cond.fieldLink "CountingHorses$Team" 22 "CountingHorses$Team" "oats" "I" ∈ BW := bw_at 457 (by decide +kernel) (by decide +kernel)
theorem bw_458 : Cond.fieldLink "CountingHorses" 223 "CountingHorses$Team" "oats" "I" ∈ BW := bw_at 458 (by decide +kernel) (by decide +kernel)
theorem bw_469 : Cond.fieldLink "CountingHorses" 20 "CountingHorses" "driver" "LCountingHorses$Driver;" ∈ BW := bw_at 469 (by decide +kernel) (by decide +kernel)
theorem bw_473 : Cond.fieldLink "CountingHorses" 46 "CountingHorses" "team" "LCountingHorses$Team;" ∈ BW := bw_at 473 (by decide +kernel) (by decide +kernel)
theorem bw_525 : Cond.static ⟨"java/lang/System", "arraycopy", "(Ljava/lang/Object;ILjava/lang/Object;II)V"⟩ ∈ BW := bw_at 525 (by decide +kernel) (by decide +kernel)
theorem bw_526 : Cond.native ⟨"java/lang/System", "arraycopy", "(Ljava/lang/Object;ILjava/lang/Object;II)V"⟩ ∈ BW := bw_at 526 (by decide +kernel) (by decide +kernel)
theorem bw_539 : Cond.methodLink "CountingHorses" 136 ⟨"CountingHorses$Tape", "take", "(I)V"⟩ ∈ BW := bw_at 539 (by decide +kernel) (by decide +kernel)
theorem bw_540 : Cond.instanceMethod ⟨"CountingHorses$Tape", "take", "(I)V"⟩ ∈ BW := bw_at 540 (by decide +kernel) (by decide +kernel)
theorem bw_541 : Cond.selects "CountingHorses$Tape" ⟨"CountingHorses$Tape", "take", "(I)V"⟩ ⟨"CountingHorses$Tape", "take", "(I)V"⟩ ∈ BW := bw_at 541 (by decide +kernel) (by decide +kernel)
theorem bw_542 : Cond.code ⟨"CountingHorses$Tape", "take", "(I)V"⟩ prog_9_method_2_code 3 none ∈ BW := bw_at 542 (by decide +kernel) (by decide +kernel)
theorem bw_551 : Cond.methodLink "CountingHorses" 146 ⟨"CountingHorses$Reader", "read", "(LCountingHorses$Text;)V"⟩ ∈ BW := bw_at 551 (by decide +kernel) (by decide +kernel)
theorem bw_552 : Cond.instanceMethod ⟨"CountingHorses$Reader", "read", "(LCountingHorses$Text;)V"⟩ ∈ BW := bw_at 552 (by decide +kernel) (by decide +kernel)
theorem bw_553 : Cond.selects "CountingHorses$Reader" ⟨"CountingHorses$Reader", "read", "(LCountingHorses$Text;)V"⟩ ⟨"CountingHorses$Reader", "read", "(LCountingHorses$Text;)V"⟩ ∈ BW := bw_at 553 (by decide +kernel) (by decide +kernel)
theorem bw_554 : Cond.code ⟨"CountingHorses$Reader", "read", "(LCountingHorses$Text;)V"⟩ prog_4_method_2_code 4 none ∈ BW := bw_at 554 (by decide +kernel) (by decide +kernel)
theorem bw_555 : Cond.methodLink "CountingHorses$Reader" 41 ⟨"CountingHorses$Text", "clear", "()V"⟩ ∈ BW := bw_at 555 (by decide +kernel) (by decide +kernel)
theorem bw_556 : Cond.instanceMethod ⟨"CountingHorses$Text", "clear", "()V"⟩ ∈ BW := bw_at 556 (by decide +kernel) (by decide +kernel)
theorem bw_557 : Cond.selects "CountingHorses$Text" ⟨"CountingHorses$Text", "clear", "()V"⟩ ⟨"CountingHorses$Text", "clear", "()V"⟩ ∈ BW := bw_at 557 (by decide +kernel) (by decide +kernel)
theorem bw_558 : Cond.code ⟨"CountingHorses$Text", "clear", "()V"⟩ prog_11_method_2_code 1 none ∈ BW := bw_at 558 (by decide +kernel) (by decide +kernel)
theorem bw_559 : Cond.methodLink "CountingHorses$Text" 34 ⟨"java/util/Arrays", "fill", "([II)V"⟩ ∈ BW := bw_at 559 (by decide +kernel) (by decide +kernel)
theorem bw_560 : Cond.static ⟨"java/util/Arrays", "fill", "([II)V"⟩ ∈ BW := bw_at 560 (by decide +kernel) (by decide +kernel)
theorem bw_561 : Cond.code ⟨"java/util/Arrays", "fill", "([II)V"⟩ prog_22_method_103_code 4 none ∈ BW := bw_at 561 (by decide +kernel) (by decide +kernel)
theorem bw_562 : Cond.methodLink "CountingHorses$Reader" 44 ⟨"CountingHorses$Tape", "split", "()V"⟩ ∈ BW := bw_at 562 (by decide +kernel) (by decide +kernel)
theorem bw_563 : Cond.instanceMethod ⟨"CountingHorses$Tape", "split", "()V"⟩ ∈ BW := bw_at 563 (by decide +kernel) (by decide +kernel)
theorem bw_564 : Cond.selects "CountingHorses$Tape" ⟨"CountingHorses$Tape", "split", "()V"⟩ ⟨"CountingHorses$Tape", "split", "()V"⟩ ∈ BW := bw_at 564 (by decide +kernel) (by decide +kernel)
theorem bw_565 : Cond.code ⟨"CountingHorses$Tape", "split", "()V"⟩ prog_9_method_3_code 3 none ∈ BW := bw_at 565 (by decide +kernel) (by decide +kernel)
theorem bw_631 : Cond.methodLink "CountingHorses$Tape" 35 ⟨"CountingHorses$Tape", "put", "(III)V"⟩ ∈ BW := bw_at 631 (by decide +kernel) (by decide +kernel)
theorem bw_633 : Cond.instanceMethod ⟨"CountingHorses$Tape", "put", "(III)V"⟩ ∈ BW := bw_at 633 (by decide +kernel) (by decide +kernel)
theorem bw_634 : Cond.code ⟨"CountingHorses$Tape", "put", "(III)V"⟩ prog_9_method_4_code 4 none ∈ BW := bw_at 634 (by decide +kernel) (by decide +kernel)
theorem bw_908 : Cond.methodLink "CountingHorses" 219 ⟨"CountingHorses$Team", "find", "(LCountingHorses$Stops;II)V"⟩ ∈ BW := bw_at 908 (by decide +kernel) (by decide +kernel)
theorem bw_909 : Cond.instanceMethod ⟨"CountingHorses$Team", "find", "(LCountingHorses$Stops;II)V"⟩ ∈ BW := bw_at 909 (by decide +kernel) (by decide +kernel)
theorem bw_910 : Cond.selects "CountingHorses$Team" ⟨"CountingHorses$Team", "find", "(LCountingHorses$Stops;II)V"⟩ ⟨"CountingHorses$Team", "find", "(LCountingHorses$Stops;II)V"⟩ ∈ BW := bw_at 910 (by decide +kernel) (by decide +kernel)
theorem bw_911 : Cond.code ⟨"CountingHorses$Team", "find", "(LCountingHorses$Stops;II)V"⟩ prog_10_method_2_code 6 none ∈ BW := bw_at 911 (by decide +kernel) (by decide +kernel)
theorem bw_912 : Cond.methodLink "CountingHorses$Team" 48 ⟨"CountingHorses$Team", "seek", "(LCountingHorses$Stops;IIII)V"⟩ ∈ BW := bw_at 912 (by decide +kernel) (by decide +kernel)
theorem bw_914 : Cond.instanceMethod ⟨"CountingHorses$Team", "seek", "(LCountingHorses$Stops;IIII)V"⟩ ∈ BW := bw_at 914 (by decide +kernel) (by decide +kernel)
theorem bw_915 : Cond.code ⟨"CountingHorses$Team", "seek", "(LCountingHorses$Stops;IIII)V"⟩ prog_10_method_3_code 8 none ∈ BW := bw_at 915 (by decide +kernel) (by decide +kernel)
theorem bw_916 : Cond.methodLink "CountingHorses$Team" 52 ⟨"java/lang/System", "arraycopy", "(Ljava/lang/Object;ILjava/lang/Object;II)V"⟩ ∈ BW := bw_at 916 (by decide +kernel) (by decide +kernel)
theorem bw_936 : Cond.methodLink "CountingHorses" 238 ⟨"java/lang/Integer", "bitCount", "(I)I"⟩ ∈ BW := bw_at 936 (by decide +kernel) (by decide +kernel)
theorem bw_937 : Cond.static ⟨"java/lang/Integer", "bitCount", "(I)I"⟩ ∈ BW := bw_at 937 (by decide +kernel) (by decide +kernel)
theorem bw_938 : Cond.code ⟨"java/lang/Integer", "bitCount", "(I)I"⟩ prog_16_method_49_code 1 (some .int) ∈ BW := bw_at 938 (by decide +kernel) (by decide +kernel)
theorem bw_939 : Cond.constant "java/lang/Integer" 265 1431655765 ∈ BW := bw_at 939 (by decide +kernel) (by decide +kernel)
theorem bw_940 : Cond.constant "java/lang/Integer" 266 858993459 ∈ BW := bw_at 940 (by decide +kernel) (by decide +kernel)
theorem bw_941 : Cond.constant "java/lang/Integer" 267 252645135 ∈ BW := bw_at 941 (by decide +kernel) (by decide +kernel)
set_option maxHeartbeats 4000000 in
set_option maxRecDepth 100000 in
theorem c_X7_take_0 (l : Launch) (D : va_G) (cI cM cT : ClassId) (tP : Nat) (bY : Nat) (ki : Nat) (at_ : Nat) (nu : Nat) (f : Nat → Int32) (w : Int32) : Cv l D (ty3 cI cM cT) yX7_take cX7_take 3 0 0 0 [.ref tP, .int w] ([(tP, .inr (7, [.ref bY, .ref ki, .ref at_, .ref nu, .int 0, .int 0])), (bY, .inl (cI, 300, .inl f))]) (fun u => ∃ (g : Nat → Int32), u = [(tP, .inr (7, [.ref bY, .ref ki, .ref at_, .ref nu, .int 4, .int 0])), (bY, .inl (cI, 300, .inl g))]) := by
  refine Cv.of (by decide +kernel) (Nat.le_of_ble_eq_true rfl) ?_
  intro p e s m below meth c A ls Z hin hP hD hl
  have hx := Z.1
  have hb := Z.2.1
  have hS : va_S A s.heap s.heap [] := va_S.rf
  have hl : lv_has ls 3 [(0, .ref tP), (1, .int w)] := hl
  skip
  refine lv_bipush (v := 24) hx hb dX7_take_0 (by decide) ?_
  refine lv_istore_n (lv' := [(2, .int 24), (0, .ref tP), (1, .int w)]) hx hb dX7_take_2 rfl hl (by decide) rfl (fun ls hl => ?_)
  refine lv_iload_n hx hb dX7_take_3 rfl (lv_at hl 0 rfl) ?_
  refine lv_if_lt (tgt := 49) hx hb dX7_take_4 (by decide) (fun h => absurd h (by decide)) (fun c1 => ?_)
  refine lv_aload_n hx hb dX7_take_7 rfl (lv_at hl 1 rfl) ?_
  refine z_get Z i_X7 hP 0 rfl rfl 4 (by decide) bw_402 rfl dX7_take_8 ?_
  refine lv_sipush (v := 300) hx hb dX7_take_11 (by decide) ?_
  refine lv_icmp_ge (tgt := 49) hx hb dX7_take_14 (by decide) (fun h => absurd h (by decide)) (fun c2 => ?_)
  refine lv_aload_n hx hb dX7_take_17 rfl (lv_at hl 1 rfl) ?_
  refine z_get Z i_X7 hP 0 rfl rfl 0 (by decide) bw_395 rfl dX7_take_18 ?_
  refine lv_aload_n hx hb dX7_take_21 rfl (lv_at hl 1 rfl) ?_
  refine z_get Z i_X7 hP 0 rfl rfl 4 (by decide) bw_402 rfl dX7_take_22 ?_
  refine lv_iload_n hx hb dX7_take_25 rfl (lv_at hl 2 rfl) ?_
  refine lv_iload_n hx hb dX7_take_26 rfl (lv_at hl 0 rfl) ?_
  refine lv_iushr hx hb dX7_take_27 rfl ?_
  refine lv_topi (fun z3 ez3 => ?_)
  refine lv_sipush (v := 255) hx hb dX7_take_28 (by decide) ?_
  refine lv_iand hx hb dX7_take_31 ?_
  refine z_iast Z hP hD hS 1 0 rfl rfl (vin (by decide)) dX7_take_32 (fun H locs hP hD hS => ?_)
  have hP : va_P D vwCl ([(tP, .inr (7, [.ref bY, .ref ki, .ref at_, .ref nu, .int 0, .int 0])), (bY, .inl (cI, 300, .inl (upd f (0 : Int32).toNatClampNeg (z3 &&& 255))))]) H := hP
  have hD : va_D A ([(tP, .inr (7, [.ref bY, .ref ki, .ref at_, .ref nu, .int 0, .int 0])), (bY, .inl (cI, 300, .inl (upd f (0 : Int32).toNatClampNeg (z3 &&& 255))))]) := hD
  refine lv_aload_n hx hb dX7_take_33 rfl (lv_at hl 1 rfl) ?_
  refine lv_dup hx hb dX7_take_34 rfl ?_
  refine z_get Z i_X7 hP 0 rfl rfl 4 (by decide) bw_402 rfl dX7_take_35 ?_
  refine lv_iconst (v := 1) hx hb dX7_take_38 (by decide) ?_
  refine lv_iadd hx hb dX7_take_39 ?_
  refine z_topi (y := 1) (by decide) ?_
  refine z_put Z i_X7 tyX7 tyX7_ok nmX7 hP hD hS 0 rfl rfl 4 (by decide) bw_402 rfl rfl rfl (Nat.le_of_ble_eq_true rfl) dX7_take_40 (fun H locs hP hD hS => ?_)
  have hP : va_P D vwCl ([(tP, .inr (7, [.ref bY, .ref ki, .ref at_, .ref nu, .int 1, .int 0])), (bY, .inl (cI, 300, .inl (upd f (0 : Int32).toNatClampNeg (z3 &&& 255))))]) H := hP
  have hD : va_D A ([(tP, .inr (7, [.ref bY, .ref ki, .ref at_, .ref nu, .int 1, .int 0])), (bY, .inl (cI, 300, .inl (upd f (0 : Int32).toNatClampNeg (z3 &&& 255))))]) := hD
  refine lv_iinc (v := 16) (lv' := [(2, .int 16), (0, .ref tP), (1, .int w)]) hx hb dX7_take_43 hl (k := 0) rfl (by decide) (by decide) rfl (fun ls hl => ?_)
  refine lv_goto (tgt := 3) hx hb dX7_take_46 (by decide) ?_
  refine lv_iload_n hx hb dX7_take_3 rfl (lv_at hl 0 rfl) ?_
  refine lv_if_lt (tgt := 49) hx hb dX7_take_4 (by decide) (fun h => absurd h (by decide)) (fun c4 => ?_)
  refine lv_aload_n hx hb dX7_take_7 rfl (lv_at hl 1 rfl) ?_
  refine z_get Z i_X7 hP 0 rfl rfl 4 (by decide) bw_402 rfl dX7_take_8 ?_
  refine lv_sipush (v := 300) hx hb dX7_take_11 (by decide) ?_
  refine lv_icmp_ge (tgt := 49) hx hb dX7_take_14 (by decide) (fun h => absurd h (by decide)) (fun c5 => ?_)
  refine lv_aload_n hx hb dX7_take_17 rfl (lv_at hl 1 rfl) ?_
  refine z_get Z i_X7 hP 0 rfl rfl 0 (by decide) bw_395 rfl dX7_take_18 ?_
  refine lv_aload_n hx hb dX7_take_21 rfl (lv_at hl 1 rfl) ?_
  refine z_get Z i_X7 hP 0 rfl rfl 4 (by decide) bw_402 rfl dX7_take_22 ?_
  refine lv_iload_n hx hb dX7_take_25 rfl (lv_at hl 2 rfl) ?_
  refine lv_iload_n hx hb dX7_take_26 rfl (lv_at hl 0 rfl) ?_
  refine lv_iushr hx hb dX7_take_27 rfl ?_
  refine lv_topi (fun z6 ez6 => ?_)
  refine lv_sipush (v := 255) hx hb dX7_take_28 (by decide) ?_
  refine lv_iand hx hb dX7_take_31 ?_
  refine z_iast Z hP hD hS 1 0 rfl rfl (vin (by decide)) dX7_take_32 (fun H locs hP hD hS => ?_)
  have hP : va_P D vwCl ([(tP, .inr (7, [.ref bY, .ref ki, .ref at_, .ref nu, .int 1, .int 0])), (bY, .inl (cI, 300, .inl (upd (upd f (0 : Int32).toNatClampNeg (z3 &&& 255)) (1 : Int32).toNatClampNeg (z6 &&& 255))))]) H := hP
  have hD : va_D A ([(tP, .inr (7, [.ref bY, .ref ki, .ref at_, .ref nu, .int 1, .int 0])), (bY, .inl (cI, 300, .inl (upd (upd f (0 : Int32).toNatClampNeg (z3 &&& 255)) (1 : Int32).toNatClampNeg (z6 &&& 255))))]) := hD
  refine lv_aload_n hx hb dX7_take_33 rfl (lv_at hl 1 rfl) ?_
  refine lv_dup hx hb dX7_take_34 rfl ?_
  refine z_get Z i_X7 hP 0 rfl rfl 4 (by decide) bw_402 rfl dX7_take_35 ?_
  refine lv_iconst (v := 1) hx hb dX7_take_38 (by decide) ?_
  refine lv_iadd hx hb dX7_take_39 ?_
  refine z_topi (y := 2) (by decide) ?_
  refine z_put Z i_X7 tyX7 tyX7_ok nmX7 hP hD hS 0 rfl rfl 4 (by decide) bw_402 rfl rfl rfl (Nat.le_of_ble_eq_true rfl) dX7_take_40 (fun H locs hP hD hS => ?_)
  have hP : va_P D vwCl ([(tP, .inr (7, [.ref bY, .ref ki, .ref at_, .ref nu, .int 2, .int 0])), (bY, .inl (cI, 300, .inl (upd (upd f (0 : Int32).toNatClampNeg (z3 &&& 255)) (1 : Int32).toNatClampNeg (z6 &&& 255))))]) H := hP
  have hD : va_D A ([(tP, .inr (7, [.ref bY, .ref ki, .ref at_, .ref nu, .int 2, .int 0])), (bY, .inl (cI, 300, .inl (upd (upd f (0 : Int32).toNatClampNeg (z3 &&& 255)) (1 : Int32).toNatClampNeg (z6 &&& 255))))]) := hD
  refine lv_iinc (v := 8) (lv' := [(2, .int 8), (0, .ref tP), (1, .int w)]) hx hb dX7_take_43 hl (k := 0) rfl (by decide) (by decide) rfl (fun ls hl => ?_)
  refine lv_goto (tgt := 3) hx hb dX7_take_46 (by decide) ?_
  refine lv_iload_n hx hb dX7_take_3 rfl (lv_at hl 0 rfl) ?_
  refine lv_if_lt (tgt := 49) hx hb dX7_take_4 (by decide) (fun h => absurd h (by decide)) (fun c7 => ?_)
  refine lv_aload_n hx hb dX7_take_7 rfl (lv_at hl 1 rfl) ?_
  refine z_get Z i_X7 hP 0 rfl rfl 4 (by decide) bw_402 rfl dX7_take_8 ?_
  refine lv_sipush (v := 300) hx hb dX7_take_11 (by decide) ?_
  refine lv_icmp_ge (tgt := 49) hx hb dX7_take_14 (by decide) (fun h => absurd h (by decide)) (fun c8 => ?_)
  refine lv_aload_n hx hb dX7_take_17 rfl (lv_at hl 1 rfl) ?_
  refine z_get Z i_X7 hP 0 rfl rfl 0 (by decide) bw_395 rfl dX7_take_18 ?_
  refine lv_aload_n hx hb dX7_take_21 rfl (lv_at hl 1 rfl) ?_
  refine z_get Z i_X7 hP 0 rfl rfl 4 (by decide) bw_402 rfl dX7_take_22 ?_
  refine lv_iload_n hx hb dX7_take_25 rfl (lv_at hl 2 rfl) ?_
  refine lv_iload_n hx hb dX7_take_26 rfl (lv_at hl 0 rfl) ?_
  refine lv_iushr hx hb dX7_take_27 rfl ?_
  refine lv_topi (fun z9 ez9 => ?_)
  refine lv_sipush (v := 255) hx hb dX7_take_28 (by decide) ?_
  refine lv_iand hx hb dX7_take_31 ?_
  refine z_iast Z hP hD hS 1 0 rfl rfl (vin (by decide)) dX7_take_32 (fun H locs hP hD hS => ?_)
  have hP : va_P D vwCl ([(tP, .inr (7, [.ref bY, .ref ki, .ref at_, .ref nu, .int 2, .int 0])), (bY, .inl (cI, 300, .inl (upd (upd (upd f (0 : Int32).toNatClampNeg (z3 &&& 255)) (1 : Int32).toNatClampNeg (z6 &&& 255)) (2 : Int32).toNatClampNeg (z9 &&& 255))))]) H := hP
  have hD : va_D A ([(tP, .inr (7, [.ref bY, .ref ki, .ref at_, .ref nu, .int 2, .int 0])), (bY, .inl (cI, 300, .inl (upd (upd (upd f (0 : Int32).toNatClampNeg (z3 &&& 255)) (1 : Int32).toNatClampNeg (z6 &&& 255)) (2 : Int32).toNatClampNeg (z9 &&& 255))))]) := hD
  refine lv_aload_n hx hb dX7_take_33 rfl (lv_at hl 1 rfl) ?_
  refine lv_dup hx hb dX7_take_34 rfl ?_
  refine z_get Z i_X7 hP 0 rfl rfl 4 (by decide) bw_402 rfl dX7_take_35 ?_
  refine lv_iconst (v := 1) hx hb dX7_take_38 (by decide) ?_
  refine lv_iadd hx hb dX7_take_39 ?_
  refine z_topi (y := 3) (by decide) ?_
  refine z_put Z i_X7 tyX7 tyX7_ok nmX7 hP hD hS 0 rfl rfl 4 (by decide) bw_402 rfl rfl rfl (Nat.le_of_ble_eq_true rfl) dX7_take_40 (fun H locs hP hD hS => ?_)
  have hP : va_P D vwCl ([(tP, .inr (7, [.ref bY, .ref ki, .ref at_, .ref nu, .int 3, .int 0])), (bY, .inl (cI, 300, .inl (upd (upd (upd f (0 : Int32).toNatClampNeg (z3 &&& 255)) (1 : Int32).toNatClampNeg (z6 &&& 255)) (2 : Int32).toNatClampNeg (z9 &&& 255))))]) H := hP
  have hD : va_D A ([(tP, .inr (7, [.ref bY, .ref ki, .ref at_, .ref nu, .int 3, .int 0])), (bY, .inl (cI, 300, .inl (upd (upd (upd f (0 : Int32).toNatClampNeg (z3 &&& 255)) (1 : Int32).toNatClampNeg (z6 &&& 255)) (2 : Int32).toNatClampNeg (z9 &&& 255))))]) := hD
  refine lv_iinc (v := 0) (lv' := [(2, .int 0), (0, .ref tP), (1, .int w)]) hx hb dX7_take_43 hl (k := 0) rfl (by decide) (by decide) rfl (fun ls hl => ?_)
  refine lv_goto (tgt := 3) hx hb dX7_take_46 (by decide) ?_
  refine lv_iload_n hx hb dX7_take_3 rfl (lv_at hl 0 rfl) ?_
  refine lv_if_lt (tgt := 49) hx hb dX7_take_4 (by decide) (fun h => absurd h (by decide)) (fun c10 => ?_)
  refine lv_aload_n hx hb dX7_take_7 rfl (lv_at hl 1 rfl) ?_
  refine z_get Z i_X7 hP 0 rfl rfl 4 (by decide) bw_402 rfl dX7_take_8 ?_
  refine lv_sipush (v := 300) hx hb dX7_take_11 (by decide) ?_
  refine lv_icmp_ge (tgt := 49) hx hb dX7_take_14 (by decide) (fun h => absurd h (by decide)) (fun c11 => ?_)
  refine lv_aload_n hx hb dX7_take_17 rfl (lv_at hl 1 rfl) ?_
  refine z_get Z i_X7 hP 0 rfl rfl 0 (by decide) bw_395 rfl dX7_take_18 ?_
  refine lv_aload_n hx hb dX7_take_21 rfl (lv_at hl 1 rfl) ?_
  refine z_get Z i_X7 hP 0 rfl rfl 4 (by decide) bw_402 rfl dX7_take_22 ?_
  refine lv_iload_n hx hb dX7_take_25 rfl (lv_at hl 2 rfl) ?_
  refine lv_iload_n hx hb dX7_take_26 rfl (lv_at hl 0 rfl) ?_
  refine lv_iushr hx hb dX7_take_27 rfl ?_
  refine lv_topi (fun z12 ez12 => ?_)
  refine lv_sipush (v := 255) hx hb dX7_take_28 (by decide) ?_
  refine lv_iand hx hb dX7_take_31 ?_
  refine z_iast Z hP hD hS 1 0 rfl rfl (vin (by decide)) dX7_take_32 (fun H locs hP hD hS => ?_)
  have hP : va_P D vwCl ([(tP, .inr (7, [.ref bY, .ref ki, .ref at_, .ref nu, .int 3, .int 0])), (bY, .inl (cI, 300, .inl (upd (upd (upd (upd f (0 : Int32).toNatClampNeg (z3 &&& 255)) (1 : Int32).toNatClampNeg (z6 &&& 255)) (2 : Int32).toNatClampNeg (z9 &&& 255)) (3 : Int32).toNatClampNeg (z12 &&& 255))))]) H := hP
  have hD : va_D A ([(tP, .inr (7, [.ref bY, .ref ki, .ref at_, .ref nu, .int 3, .int 0])), (bY, .inl (cI, 300, .inl (upd (upd (upd (upd f (0 : Int32).toNatClampNeg (z3 &&& 255)) (1 : Int32).toNatClampNeg (z6 &&& 255)) (2 : Int32).toNatClampNeg (z9 &&& 255)) (3 : Int32).toNatClampNeg (z12 &&& 255))))]) := hD
  refine lv_aload_n hx hb dX7_take_33 rfl (lv_at hl 1 rfl) ?_
  refine lv_dup hx hb dX7_take_34 rfl ?_
  refine z_get Z i_X7 hP 0 rfl rfl 4 (by decide) bw_402 rfl dX7_take_35 ?_
  refine lv_iconst (v := 1) hx hb dX7_take_38 (by decide) ?_
  refine lv_iadd hx hb dX7_take_39 ?_
  refine z_topi (y := 4) (by decide) ?_
  refine z_put Z i_X7 tyX7 tyX7_ok nmX7 hP hD hS 0 rfl rfl 4 (by decide) bw_402 rfl rfl rfl (Nat.le_of_ble_eq_true rfl) dX7_take_40 (fun H locs hP hD hS => ?_)
  have hP : va_P D vwCl ([(tP, .inr (7, [.ref bY, .ref ki, .ref at_, .ref nu, .int 4, .int 0])), (bY, .inl (cI, 300, .inl (upd (upd (upd (upd f (0 : Int32).toNatClampNeg (z3 &&& 255)) (1 : Int32).toNatClampNeg (z6 &&& 255)) (2 : Int32).toNatClampNeg (z9 &&& 255)) (3 : Int32).toNatClampNeg (z12 &&& 255))))]) H := hP
  have hD : va_D A ([(tP, .inr (7, [.ref bY, .ref ki, .ref at_, .ref nu, .int 4, .int 0])), (bY, .inl (cI, 300, .inl (upd (upd (upd (upd f (0 : Int32).toNatClampNeg (z3 &&& 255)) (1 : Int32).toNatClampNeg (z6 &&& 255)) (2 : Int32).toNatClampNeg (z9 &&& 255)) (3 : Int32).toNatClampNeg (z12 &&& 255))))]) := hD
  refine lv_iinc (v := (-8)) (lv' := [(2, .int (-8)), (0, .ref tP), (1, .int w)]) hx hb dX7_take_43 hl (k := 0) rfl (by decide) (by decide) rfl (fun ls hl => ?_)
  refine lv_goto (tgt := 3) hx hb dX7_take_46 (by decide) ?_
  refine lv_iload_n hx hb dX7_take_3 rfl (lv_at hl 0 rfl) ?_
  refine lv_if_lt (tgt := 49) hx hb dX7_take_4 (by decide) (fun c13 => ?_) (fun h => absurd (by decide) h)
  exact z_vret Z hP hD hS (⟨(upd (upd (upd (upd f (0 : Int32).toNatClampNeg (z3 &&& 255)) (1 : Int32).toNatClampNeg (z6 &&& 255)) (2 : Int32).toNatClampNeg (z9 &&& 255)) (3 : Int32).toNatClampNeg (z12 &&& 255)), rfl⟩) dX7_take_49 (Nat.le_of_ble_eq_true rfl) (Nat.le_of_ble_eq_true rfl)
set_option maxHeartbeats 4000000 in
set_option maxRecDepth 100000 in
theorem c_X7_take_4 (l : Launch) (D : va_G) (cI cM cT : ClassId) (tP : Nat) (bY : Nat) (ki : Nat) (at_ : Nat) (nu : Nat) (f : Nat → Int32) (w : Int32) : Cv l D (ty3 cI cM cT) yX7_take cX7_take 3 0 0 0 [.ref tP, .int w] ([(tP, .inr (7, [.ref bY, .ref ki, .ref at_, .ref nu, .int 4, .int 0])), (bY, .inl (cI, 300, .inl f))]) (fun u => ∃ (g : Nat → Int32), u = [(tP, .inr (7, [.ref bY, .ref ki, .ref at_, .ref nu, .int 8, .int 0])), (bY, .inl (cI, 300, .inl g))]) := by
  refine Cv.of (by decide +kernel) (Nat.le_of_ble_eq_true rfl) ?_
  intro p e s m below meth c A ls Z hin hP hD hl
  have hx := Z.1
  have hb := Z.2.1
  have hS : va_S A s.heap s.heap [] := va_S.rf
  have hl : lv_has ls 3 [(0, .ref tP), (1, .int w)] := hl
  skip
  refine lv_bipush (v := 24) hx hb dX7_take_0 (by decide) ?_
  refine lv_istore_n (lv' := [(2, .int 24), (0, .ref tP), (1, .int w)]) hx hb dX7_take_2 rfl hl (by decide) rfl (fun ls hl => ?_)
  refine lv_iload_n hx hb dX7_take_3 rfl (lv_at hl 0 rfl) ?_
  refine lv_if_lt (tgt := 49) hx hb dX7_take_4 (by decide) (fun h => absurd h (by decide)) (fun c1 => ?_)
  refine lv_aload_n hx hb dX7_take_7 rfl (lv_at hl 1 rfl) ?_
  refine z_get Z i_X7 hP 0 rfl rfl 4 (by decide) bw_402 rfl dX7_take_8 ?_
  refine lv_sipush (v := 300) hx hb dX7_take_11 (by decide) ?_
  refine lv_icmp_ge (tgt := 49) hx hb dX7_take_14 (by decide) (fun h => absurd h (by decide)) (fun c2 => ?_)
  refine lv_aload_n hx hb dX7_take_17 rfl (lv_at hl 1 rfl) ?_
  refine z_get Z i_X7 hP 0 rfl rfl 0 (by decide) bw_395 rfl dX7_take_18 ?_
  refine lv_aload_n hx hb dX7_take_21 rfl (lv_at hl 1 rfl) ?_
  refine z_get Z i_X7 hP 0 rfl rfl 4 (by decide) bw_402 rfl dX7_take_22 ?_
  refine lv_iload_n hx hb dX7_take_25 rfl (lv_at hl 2 rfl) ?_
  refine lv_iload_n hx hb dX7_take_26 rfl (lv_at hl 0 rfl) ?_
  refine lv_iushr hx hb dX7_take_27 rfl ?_
  refine lv_topi (fun z3 ez3 => ?_)
  refine lv_sipush (v := 255) hx hb dX7_take_28 (by decide) ?_
  refine lv_iand hx hb dX7_take_31 ?_
  refine z_iast Z hP hD hS 1 0 rfl rfl (vin (by decide)) dX7_take_32 (fun H locs hP hD hS => ?_)
  have hP : va_P D vwCl ([(tP, .inr (7, [.ref bY, .ref ki, .ref at_, .ref nu, .int 4, .int 0])), (bY, .inl (cI, 300, .inl (upd f (4 : Int32).toNatClampNeg (z3 &&& 255))))]) H := hP
  have hD : va_D A ([(tP, .inr (7, [.ref bY, .ref ki, .ref at_, .ref nu, .int 4, .int 0])), (bY, .inl (cI, 300, .inl (upd f (4 : Int32).toNatClampNeg (z3 &&& 255))))]) := hD
  refine lv_aload_n hx hb dX7_take_33 rfl (lv_at hl 1 rfl) ?_
  refine lv_dup hx hb dX7_take_34 rfl ?_
  refine z_get Z i_X7 hP 0 rfl rfl 4 (by decide) bw_402 rfl dX7_take_35 ?_
  refine lv_iconst (v := 1) hx hb dX7_take_38 (by decide) ?_
  refine lv_iadd hx hb dX7_take_39 ?_
  refine z_topi (y := 5) (by decide) ?_
  refine z_put Z i_X7 tyX7 tyX7_ok nmX7 hP hD hS 0 rfl rfl 4 (by decide) bw_402 rfl rfl rfl (Nat.le_of_ble_eq_true rfl) dX7_take_40 (fun H locs hP hD hS => ?_)
  have hP : va_P D vwCl ([(tP, .inr (7, [.ref bY, .ref ki, .ref at_, .ref nu, .int 5, .int 0])), (bY, .inl (cI, 300, .inl (upd f (4 : Int32).toNatClampNeg (z3 &&& 255))))]) H := hP
  have hD : va_D A ([(tP, .inr (7, [.ref bY, .ref ki, .ref at_, .ref nu, .int 5, .int 0])), (bY, .inl (cI, 300, .inl (upd f (4 : Int32).toNatClampNeg (z3 &&& 255))))]) := hD
  refine lv_iinc (v := 16) (lv' := [(2, .int 16), (0, .ref tP), (1, .int w)]) hx hb dX7_take_43 hl (k := 0) rfl (by decide) (by decide) rfl (fun ls hl => ?_)
  refine lv_goto (tgt := 3) hx hb dX7_take_46 (by decide) ?_
  refine lv_iload_n hx hb dX7_take_3 rfl (lv_at hl 0 rfl) ?_
  refine lv_if_lt (tgt := 49) hx hb dX7_take_4 (by decide) (fun h => absurd h (by decide)) (fun c4 => ?_)
  refine lv_aload_n hx hb dX7_take_7 rfl (lv_at hl 1 rfl) ?_
  refine z_get Z i_X7 hP 0 rfl rfl 4 (by decide) bw_402 rfl dX7_take_8 ?_
  refine lv_sipush (v := 300) hx hb dX7_take_11 (by decide) ?_
  refine lv_icmp_ge (tgt := 49) hx hb dX7_take_14 (by decide) (fun h => absurd h (by decide)) (fun c5 => ?_)
  refine lv_aload_n hx hb dX7_take_17 rfl (lv_at hl 1 rfl) ?_
  refine z_get Z i_X7 hP 0 rfl rfl 0 (by decide) bw_395 rfl dX7_take_18 ?_
  refine lv_aload_n hx hb dX7_take_21 rfl (lv_at hl 1 rfl) ?_
  refine z_get Z i_X7 hP 0 rfl rfl 4 (by decide) bw_402 rfl dX7_take_22 ?_
  refine lv_iload_n hx hb dX7_take_25 rfl (lv_at hl 2 rfl) ?_
  refine lv_iload_n hx hb dX7_take_26 rfl (lv_at hl 0 rfl) ?_
  refine lv_iushr hx hb dX7_take_27 rfl ?_
  refine lv_topi (fun z6 ez6 => ?_)
  refine lv_sipush (v := 255) hx hb dX7_take_28 (by decide) ?_
  refine lv_iand hx hb dX7_take_31 ?_
  refine z_iast Z hP hD hS 1 0 rfl rfl (vin (by decide)) dX7_take_32 (fun H locs hP hD hS => ?_)
  have hP : va_P D vwCl ([(tP, .inr (7, [.ref bY, .ref ki, .ref at_, .ref nu, .int 5, .int 0])), (bY, .inl (cI, 300, .inl (upd (upd f (4 : Int32).toNatClampNeg (z3 &&& 255)) (5 : Int32).toNatClampNeg (z6 &&& 255))))]) H := hP
  have hD : va_D A ([(tP, .inr (7, [.ref bY, .ref ki, .ref at_, .ref nu, .int 5, .int 0])), (bY, .inl (cI, 300, .inl (upd (upd f (4 : Int32).toNatClampNeg (z3 &&& 255)) (5 : Int32).toNatClampNeg (z6 &&& 255))))]) := hD
  refine lv_aload_n hx hb dX7_take_33 rfl (lv_at hl 1 rfl) ?_
  refine lv_dup hx hb dX7_take_34 rfl ?_
  refine z_get Z i_X7 hP 0 rfl rfl 4 (by decide) bw_402 rfl dX7_take_35 ?_
  refine lv_iconst (v := 1) hx hb dX7_take_38 (by decide) ?_
  refine lv_iadd hx hb dX7_take_39 ?_
  refine z_topi (y := 6) (by decide) ?_
  refine z_put Z i_X7 tyX7 tyX7_ok nmX7 hP hD hS 0 rfl rfl 4 (by decide) bw_402 rfl rfl rfl (Nat.le_of_ble_eq_true rfl) dX7_take_40 (fun H locs hP hD hS => ?_)
  have hP : va_P D vwCl ([(tP, .inr (7, [.ref bY, .ref ki, .ref at_, .ref nu, .int 6, .int 0])), (bY, .inl (cI, 300, .inl (upd (upd f (4 : Int32).toNatClampNeg (z3 &&& 255)) (5 : Int32).toNatClampNeg (z6 &&& 255))))]) H := hP
  have hD : va_D A ([(tP, .inr (7, [.ref bY, .ref ki, .ref at_, .ref nu, .int 6, .int 0])), (bY, .inl (cI, 300, .inl (upd (upd f (4 : Int32).toNatClampNeg (z3 &&& 255)) (5 : Int32).toNatClampNeg (z6 &&& 255))))]) := hD
  refine lv_iinc (v := 8) (lv' := [(2, .int 8), (0, .ref tP), (1, .int w)]) hx hb dX7_take_43 hl (k := 0) rfl (by decide) (by decide) rfl (fun ls hl => ?_)
  refine lv_goto (tgt := 3) hx hb dX7_take_46 (by decide) ?_
  refine lv_iload_n hx hb dX7_take_3 rfl (lv_at hl 0 rfl) ?_
  refine lv_if_lt (tgt := 49) hx hb dX7_take_4 (by decide) (fun h => absurd h (by decide)) (fun c7 => ?_)
  refine lv_aload_n hx hb dX7_take_7 rfl (lv_at hl 1 rfl) ?_
  refine z_get Z i_X7 hP 0 rfl rfl 4 (by decide) bw_402 rfl dX7_take_8 ?_
  refine lv_sipush (v := 300) hx hb dX7_take_11 (by decide) ?_
  refine lv_icmp_ge (tgt := 49) hx hb dX7_take_14 (by decide) (fun h => absurd h (by decide)) (fun c8 => ?_)
  refine lv_aload_n hx hb dX7_take_17 rfl (lv_at hl 1 rfl) ?_
  refine z_get Z i_X7 hP 0 rfl rfl 0 (by decide) bw_395 rfl dX7_take_18 ?_
  refine lv_aload_n hx hb dX7_take_21 rfl (lv_at hl 1 rfl) ?_
  refine z_get Z i_X7 hP 0 rfl rfl 4 (by decide) bw_402 rfl dX7_take_22 ?_
  refine lv_iload_n hx hb dX7_take_25 rfl (lv_at hl 2 rfl) ?_
  refine lv_iload_n hx hb dX7_take_26 rfl (lv_at hl 0 rfl) ?_
  refine lv_iushr hx hb dX7_take_27 rfl ?_
  refine lv_topi (fun z9 ez9 => ?_)
  refine lv_sipush (v := 255) hx hb dX7_take_28 (by decide) ?_
  refine lv_iand hx hb dX7_take_31 ?_
  refine z_iast Z hP hD hS 1 0 rfl rfl (vin (by decide)) dX7_take_32 (fun H locs hP hD hS => ?_)
  have hP : va_P D vwCl ([(tP, .inr (7, [.ref bY, .ref ki, .ref at_, .ref nu, .int 6, .int 0])), (bY, .inl (cI, 300, .inl (upd (upd (upd f (4 : Int32).toNatClampNeg (z3 &&& 255)) (5 : Int32).toNatClampNeg (z6 &&& 255)) (6 : Int32).toNatClampNeg (z9 &&& 255))))]) H := hP
  have hD : va_D A ([(tP, .inr (7, [.ref bY, .ref ki, .ref at_, .ref nu, .int 6, .int 0])), (bY, .inl (cI, 300, .inl (upd (upd (upd f (4 : Int32).toNatClampNeg (z3 &&& 255)) (5 : Int32).toNatClampNeg (z6 &&& 255)) (6 : Int32).toNatClampNeg (z9 &&& 255))))]) := hD
  refine lv_aload_n hx hb dX7_take_33 rfl (lv_at hl 1 rfl) ?_
  refine lv_dup hx hb dX7_take_34 rfl ?_
  refine z_get Z i_X7 hP 0 rfl rfl 4 (by decide) bw_402 rfl dX7_take_35 ?_
  refine lv_iconst (v := 1) hx hb dX7_take_38 (by decide) ?_
  refine lv_iadd hx hb dX7_take_39 ?_
  refine z_topi (y := 7) (by decide) ?_
  refine z_put Z i_X7 tyX7 tyX7_ok nmX7 hP hD hS 0 rfl rfl 4 (by decide) bw_402 rfl rfl rfl (Nat.le_of_ble_eq_true rfl) dX7_take_40 (fun H locs hP hD hS => ?_)
  have hP : va_P D vwCl ([(tP, .inr (7, [.ref bY, .ref ki, .ref at_, .ref nu, .int 7, .int 0])), (bY, .inl (cI, 300, .inl (upd (upd (upd f (4 : Int32).toNatClampNeg (z3 &&& 255)) (5 : Int32).toNatClampNeg (z6 &&& 255)) (6 : Int32).toNatClampNeg (z9 &&& 255))))]) H := hP
  have hD : va_D A ([(tP, .inr (7, [.ref bY, .ref ki, .ref at_, .ref nu, .int 7, .int 0])), (bY, .inl (cI, 300, .inl (upd (upd (upd f (4 : Int32).toNatClampNeg (z3 &&& 255)) (5 : Int32).toNatClampNeg (z6 &&& 255)) (6 : Int32).toNatClampNeg (z9 &&& 255))))]) := hD
  refine lv_iinc (v := 0) (lv' := [(2, .int 0), (0, .ref tP), (1, .int w)]) hx hb dX7_take_43 hl (k := 0) rfl (by decide) (by decide) rfl (fun ls hl => ?_)
  refine lv_goto (tgt := 3) hx hb dX7_take_46 (by decide) ?_
  refine lv_iload_n hx hb dX7_take_3 rfl (lv_at hl 0 rfl) ?_
  refine lv_if_lt (tgt := 49) hx hb dX7_take_4 (by decide) (fun h => absurd h (by decide)) (fun c10 => ?_)
  refine lv_aload_n hx hb dX7_take_7 rfl (lv_at hl 1 rfl) ?_
  refine z_get Z i_X7 hP 0 rfl rfl 4 (by decide) bw_402 rfl dX7_take_8 ?_
  refine lv_sipush (v := 300) hx hb dX7_take_11 (by decide) ?_
  refine lv_icmp_ge (tgt := 49) hx hb dX7_take_14 (by decide) (fun h => absurd h (by decide)) (fun c11 => ?_)
  refine lv_aload_n hx hb dX7_take_17 rfl (lv_at hl 1 rfl) ?_
  refine z_get Z i_X7 hP 0 rfl rfl 0 (by decide) bw_395 rfl dX7_take_18 ?_
  refine lv_aload_n hx hb dX7_take_21 rfl (lv_at hl 1 rfl) ?_
  refine z_get Z i_X7 hP 0 rfl rfl 4 (by decide) bw_402 rfl dX7_take_22 ?_
  refine lv_iload_n hx hb dX7_take_25 rfl (lv_at hl 2 rfl) ?_
  refine lv_iload_n hx hb dX7_take_26 rfl (lv_at hl 0 rfl) ?_
  refine lv_iushr hx hb dX7_take_27 rfl ?_
  refine lv_topi (fun z12 ez12 => ?_)
  refine lv_sipush (v := 255) hx hb dX7_take_28 (by decide) ?_
  refine lv_iand hx hb dX7_take_31 ?_
  refine z_iast Z hP hD hS 1 0 rfl rfl (vin (by decide)) dX7_take_32 (fun H locs hP hD hS => ?_)
  have hP : va_P D vwCl ([(tP, .inr (7, [.ref bY, .ref ki, .ref at_, .ref nu, .int 7, .int 0])), (bY, .inl (cI, 300, .inl (upd (upd (upd (upd f (4 : Int32).toNatClampNeg (z3 &&& 255)) (5 : Int32).toNatClampNeg (z6 &&& 255)) (6 : Int32).toNatClampNeg (z9 &&& 255)) (7 : Int32).toNatClampNeg (z12 &&& 255))))]) H := hP
  have hD : va_D A ([(tP, .inr (7, [.ref bY, .ref ki, .ref at_, .ref nu, .int 7, .int 0])), (bY, .inl (cI, 300, .inl (upd (upd (upd (upd f (4 : Int32).toNatClampNeg (z3 &&& 255)) (5 : Int32).toNatClampNeg (z6 &&& 255)) (6 : Int32).toNatClampNeg (z9 &&& 255)) (7 : Int32).toNatClampNeg (z12 &&& 255))))]) := hD
  refine lv_aload_n hx hb dX7_take_33 rfl (lv_at hl 1 rfl) ?_
  refine lv_dup hx hb dX7_take_34 rfl ?_
  refine z_get Z i_X7 hP 0 rfl rfl 4 (by decide) bw_402 rfl dX7_take_35 ?_
  refine lv_iconst (v := 1) hx hb dX7_take_38 (by decide) ?_
  refine lv_iadd hx hb dX7_take_39 ?_
  refine z_topi (y := 8) (by decide) ?_
  refine z_put Z i_X7 tyX7 tyX7_ok nmX7 hP hD hS 0 rfl rfl 4 (by decide) bw_402 rfl rfl rfl (Nat.le_of_ble_eq_true rfl) dX7_take_40 (fun H locs hP hD hS => ?_)
  have hP : va_P D vwCl ([(tP, .inr (7, [.ref bY, .ref ki, .ref at_, .ref nu, .int 8, .int 0])), (bY, .inl (cI, 300, .inl (upd (upd (upd (upd f (4 : Int32).toNatClampNeg (z3 &&& 255)) (5 : Int32).toNatClampNeg (z6 &&& 255)) (6 : Int32).toNatClampNeg (z9 &&& 255)) (7 : Int32).toNatClampNeg (z12 &&& 255))))]) H := hP
  have hD : va_D A ([(tP, .inr (7, [.ref bY, .ref ki, .ref at_, .ref nu, .int 8, .int 0])), (bY, .inl (cI, 300, .inl (upd (upd (upd (upd f (4 : Int32).toNatClampNeg (z3 &&& 255)) (5 : Int32).toNatClampNeg (z6 &&& 255)) (6 : Int32).toNatClampNeg (z9 &&& 255)) (7 : Int32).toNatClampNeg (z12 &&& 255))))]) := hD
  refine lv_iinc (v := (-8)) (lv' := [(2, .int (-8)), (0, .ref tP), (1, .int w)]) hx hb dX7_take_43 hl (k := 0) rfl (by decide) (by decide) rfl (fun ls hl => ?_)
  refine lv_goto (tgt := 3) hx hb dX7_take_46 (by decide) ?_
  refine lv_iload_n hx hb dX7_take_3 rfl (lv_at hl 0 rfl) ?_
  refine lv_if_lt (tgt := 49) hx hb dX7_take_4 (by decide) (fun c13 => ?_) (fun h => absurd (by decide) h)
  exact z_vret Z hP hD hS (⟨(upd (upd (upd (upd f (4 : Int32).toNatClampNeg (z3 &&& 255)) (5 : Int32).toNatClampNeg (z6 &&& 255)) (6 : Int32).toNatClampNeg (z9 &&& 255)) (7 : Int32).toNatClampNeg (z12 &&& 255)), rfl⟩) dX7_take_49 (Nat.le_of_ble_eq_true rfl) (Nat.le_of_ble_eq_true rfl)
set_option maxHeartbeats 4000000 in
set_option maxRecDepth 100000 in
theorem c_X7_take_8 (l : Launch) (D : va_G) (cI cM cT : ClassId) (tP : Nat) (bY : Nat) (ki : Nat) (at_ : Nat) (nu : Nat) (f : Nat → Int32) (w : Int32) : Cv l D (ty3 cI cM cT) yX7_take cX7_take 3 0 0 0 [.ref tP, .int w] ([(tP, .inr (7, [.ref bY, .ref ki, .ref at_, .ref nu, .int 8, .int 0])), (bY, .inl (cI, 300, .inl f))]) (fun u => ∃ (g : Nat → Int32), u = [(tP, .inr (7, [.ref bY, .ref ki, .ref at_, .ref nu, .int 12, .int 0])), (bY, .inl (cI, 300, .inl g))]) := by
  refine Cv.of (by decide +kernel) (Nat.le_of_ble_eq_true rfl) ?_
  intro p e s m below meth c A ls Z hin hP hD hl
  have hx := Z.1
  have hb := Z.2.1
  have hS : va_S A s.heap s.heap [] := va_S.rf
  have hl : lv_has ls 3 [(0, .ref tP), (1, .int w)] := hl
  skip
  refine lv_bipush (v := 24) hx hb dX7_take_0 (by decide) ?_
  refine lv_istore_n (lv' := [(2, .int 24), (0, .ref tP), (1, .int w)]) hx hb dX7_take_2 rfl hl (by decide) rfl (fun ls hl => ?_)
  refine lv_iload_n hx hb dX7_take_3 rfl (lv_at hl 0 rfl) ?_
  refine lv_if_lt (tgt := 49) hx hb dX7_take_4 (by decide) (fun h => absurd h (by decide)) (fun c1 => ?_)
  refine lv_aload_n hx hb dX7_take_7 rfl (lv_at hl 1 rfl) ?_
  refine z_get Z i_X7 hP 0 rfl rfl 4 (by decide) bw_402 rfl dX7_take_8 ?_
  refine lv_sipush (v := 300) hx hb dX7_take_11 (by decide) ?_
  refine lv_icmp_ge (tgt := 49) hx hb dX7_take_14 (by decide) (fun h => absurd h (by decide)) (fun c2 => ?_)
  refine lv_aload_n hx hb dX7_take_17 rfl (lv_at hl 1 rfl) ?_
  refine z_get Z i_X7 hP 0 rfl rfl 0 (by decide) bw_395 rfl dX7_take_18 ?_
  refine lv_aload_n hx hb dX7_take_21 rfl (lv_at hl 1 rfl) ?_
  refine z_get Z i_X7 hP 0 rfl rfl 4 (by decide) bw_402 rfl dX7_take_22 ?_
  refine lv_iload_n hx hb dX7_take_25 rfl (lv_at hl 2 rfl) ?_
  refine lv_iload_n hx hb dX7_take_26 rfl (lv_at hl 0 rfl) ?_
  refine lv_iushr hx hb dX7_take_27 rfl ?_
  refine lv_topi (fun z3 ez3 => ?_)
  refine lv_sipush (v := 255) hx hb dX7_take_28 (by decide) ?_
  refine lv_iand hx hb dX7_take_31 ?_
  refine z_iast Z hP hD hS 1 0 rfl rfl (vin (by decide)) dX7_take_32 (fun H locs hP hD hS => ?_)
  have hP : va_P D vwCl ([(tP, .inr (7, [.ref bY, .ref ki, .ref at_, .ref nu, .int 8, .int 0])), (bY, .inl (cI, 300, .inl (upd f (8 : Int32).toNatClampNeg (z3 &&& 255))))]) H := hP
  have hD : va_D A ([(tP, .inr (7, [.ref bY, .ref ki, .ref at_, .ref nu, .int 8, .int 0])), (bY, .inl (cI, 300, .inl (upd f (8 : Int32).toNatClampNeg (z3 &&& 255))))]) := hD
  refine lv_aload_n hx hb dX7_take_33 rfl (lv_at hl 1 rfl) ?_
  refine lv_dup hx hb dX7_take_34 rfl ?_
  refine z_get Z i_X7 hP 0 rfl rfl 4 (by decide) bw_402 rfl dX7_take_35 ?_
  refine lv_iconst (v := 1) hx hb dX7_take_38 (by decide) ?_
  refine lv_iadd hx hb dX7_take_39 ?_
  refine z_topi (y := 9) (by decide) ?_
  refine z_put Z i_X7 tyX7 tyX7_ok nmX7 hP hD hS 0 rfl rfl 4 (by decide) bw_402 rfl rfl rfl (Nat.le_of_ble_eq_true rfl) dX7_take_40 (fun H locs hP hD hS => ?_)
  have hP : va_P D vwCl ([(tP, .inr (7, [.ref bY, .ref ki, .ref at_, .ref nu, .int 9, .int 0])), (bY, .inl (cI, 300, .inl (upd f (8 : Int32).toNatClampNeg (z3 &&& 255))))]) H := hP
  have hD : va_D A ([(tP, .inr (7, [.ref bY, .ref ki, .ref at_, .ref nu, .int 9, .int 0])), (bY, .inl (cI, 300, .inl (upd f (8 : Int32).toNatClampNeg (z3 &&& 255))))]) := hD
  refine lv_iinc (v := 16) (lv' := [(2, .int 16), (0, .ref tP), (1, .int w)]) hx hb dX7_take_43 hl (k := 0) rfl (by decide) (by decide) rfl (fun ls hl => ?_)
  refine lv_goto (tgt := 3) hx hb dX7_take_46 (by decide) ?_
  refine lv_iload_n hx hb dX7_take_3 rfl (lv_at hl 0 rfl) ?_
  refine lv_if_lt (tgt := 49) hx hb dX7_take_4 (by decide) (fun h => absurd h (by decide)) (fun c4 => ?_)
  refine lv_aload_n hx hb dX7_take_7 rfl (lv_at hl 1 rfl) ?_
  refine z_get Z i_X7 hP 0 rfl rfl 4 (by decide) bw_402 rfl dX7_take_8 ?_
  refine lv_sipush (v := 300) hx hb dX7_take_11 (by decide) ?_
  refine lv_icmp_ge (tgt := 49) hx hb dX7_take_14 (by decide) (fun h => absurd h (by decide)) (fun c5 => ?_)
  refine lv_aload_n hx hb dX7_take_17 rfl (lv_at hl 1 rfl) ?_
  refine z_get Z i_X7 hP 0 rfl rfl 0 (by decide) bw_395 rfl dX7_take_18 ?_
  refine lv_aload_n hx hb dX7_take_21 rfl (lv_at hl 1 rfl) ?_
  refine z_get Z i_X7 hP 0 rfl rfl 4 (by decide) bw_402 rfl dX7_take_22 ?_
  refine lv_iload_n hx hb dX7_take_25 rfl (lv_at hl 2 rfl) ?_
  refine lv_iload_n hx hb dX7_take_26 rfl (lv_at hl 0 rfl) ?_
  refine lv_iushr hx hb dX7_take_27 rfl ?_
  refine lv_topi (fun z6 ez6 => ?_)
  refine lv_sipush (v := 255) hx hb dX7_take_28 (by decide) ?_
  refine lv_iand hx hb dX7_take_31 ?_
  refine z_iast Z hP hD hS 1 0 rfl rfl (vin (by decide)) dX7_take_32 (fun H locs hP hD hS => ?_)
  have hP : va_P D vwCl ([(tP, .inr (7, [.ref bY, .ref ki, .ref at_, .ref nu, .int 9, .int 0])), (bY, .inl (cI, 300, .inl (upd (upd f (8 : Int32).toNatClampNeg (z3 &&& 255)) (9 : Int32).toNatClampNeg (z6 &&& 255))))]) H := hP
  have hD : va_D A ([(tP, .inr (7, [.ref bY, .ref ki, .ref at_, .ref nu, .int 9, .int 0])), (bY, .inl (cI, 300, .inl (upd (upd f (8 : Int32).toNatClampNeg (z3 &&& 255)) (9 : Int32).toNatClampNeg (z6 &&& 255))))]) := hD
  refine lv_aload_n hx hb dX7_take_33 rfl (lv_at hl 1 rfl) ?_
  refine lv_dup hx hb dX7_take_34 rfl ?_
  refine z_get Z i_X7 hP 0 rfl rfl 4 (by decide) bw_402 rfl dX7_take_35 ?_
  refine lv_iconst (v := 1) hx hb dX7_take_38 (by decide) ?_
  refine lv_iadd hx hb dX7_take_39 ?_
  refine z_topi (y := 10) (by decide) ?_
  refine z_put Z i_X7 tyX7 tyX7_ok nmX7 hP hD hS 0 rfl rfl 4 (by decide) bw_402 rfl rfl rfl (Nat.le_of_ble_eq_true rfl) dX7_take_40 (fun H locs hP hD hS => ?_)
  have hP : va_P D vwCl ([(tP, .inr (7, [.ref bY, .ref ki, .ref at_, .ref nu, .int 10, .int 0])), (bY, .inl (cI, 300, .inl (upd (upd f (8 : Int32).toNatClampNeg (z3 &&& 255)) (9 : Int32).toNatClampNeg (z6 &&& 255))))]) H := hP
  have hD : va_D A ([(tP, .inr (7, [.ref bY, .ref ki, .ref at_, .ref nu, .int 10, .int 0])), (bY, .inl (cI, 300, .inl (upd (upd f (8 : Int32).toNatClampNeg (z3 &&& 255)) (9 : Int32).toNatClampNeg (z6 &&& 255))))]) := hD
  refine lv_iinc (v := 8) (lv' := [(2, .int 8), (0, .ref tP), (1, .int w)]) hx hb dX7_take_43 hl (k := 0) rfl (by decide) (by decide) rfl (fun ls hl => ?_)
  refine lv_goto (tgt := 3) hx hb dX7_take_46 (by decide) ?_
  refine lv_iload_n hx hb dX7_take_3 rfl (lv_at hl 0 rfl) ?_
  refine lv_if_lt (tgt := 49) hx hb dX7_take_4 (by decide) (fun h => absurd h (by decide)) (fun c7 => ?_)
  refine lv_aload_n hx hb dX7_take_7 rfl (lv_at hl 1 rfl) ?_
  refine z_get Z i_X7 hP 0 rfl rfl 4 (by decide) bw_402 rfl dX7_take_8 ?_
  refine lv_sipush (v := 300) hx hb dX7_take_11 (by decide) ?_
  refine lv_icmp_ge (tgt := 49) hx hb dX7_take_14 (by decide) (fun h => absurd h (by decide)) (fun c8 => ?_)
  refine lv_aload_n hx hb dX7_take_17 rfl (lv_at hl 1 rfl) ?_
  refine z_get Z i_X7 hP 0 rfl rfl 0 (by decide) bw_395 rfl dX7_take_18 ?_
  refine lv_aload_n hx hb dX7_take_21 rfl (lv_at hl 1 rfl) ?_
  refine z_get Z i_X7 hP 0 rfl rfl 4 (by decide) bw_402 rfl dX7_take_22 ?_
  refine lv_iload_n hx hb dX7_take_25 rfl (lv_at hl 2 rfl) ?_
  refine lv_iload_n hx hb dX7_take_26 rfl (lv_at hl 0 rfl) ?_
  refine lv_iushr hx hb dX7_take_27 rfl ?_
  refine lv_topi (fun z9 ez9 => ?_)
  refine lv_sipush (v := 255) hx hb dX7_take_28 (by decide) ?_
  refine lv_iand hx hb dX7_take_31 ?_
  refine z_iast Z hP hD hS 1 0 rfl rfl (vin (by decide)) dX7_take_32 (fun H locs hP hD hS => ?_)
  have hP : va_P D vwCl ([(tP, .inr (7, [.ref bY, .ref ki, .ref at_, .ref nu, .int 10, .int 0])), (bY, .inl (cI, 300, .inl (upd (upd (upd f (8 : Int32).toNatClampNeg (z3 &&& 255)) (9 : Int32).toNatClampNeg (z6 &&& 255)) (10 : Int32).toNatClampNeg (z9 &&& 255))))]) H := hP
  have hD : va_D A ([(tP, .inr (7, [.ref bY, .ref ki, .ref at_, .ref nu, .int 10, .int 0])), (bY, .inl (cI, 300, .inl (upd (upd (upd f (8 : Int32).toNatClampNeg (z3 &&& 255)) (9 : Int32).toNatClampNeg (z6 &&& 255)) (10 : Int32).toNatClampNeg (z9 &&& 255))))]) := hD
  refine lv_aload_n hx hb dX7_take_33 rfl (lv_at hl 1 rfl) ?_
  refine lv_dup hx hb dX7_take_34 rfl ?_
  refine z_get Z i_X7 hP 0 rfl rfl 4 (by decide) bw_402 rfl dX7_take_35 ?_
  refine lv_iconst (v := 1) hx hb dX7_take_38 (by decide) ?_
  refine lv_iadd hx hb dX7_take_39 ?_
  refine z_topi (y := 11) (by decide) ?_
  refine z_put Z i_X7 tyX7 tyX7_ok nmX7 hP hD hS 0 rfl rfl 4 (by decide) bw_402 rfl rfl rfl (Nat.le_of_ble_eq_true rfl) dX7_take_40 (fun H locs hP hD hS => ?_)
  have hP : va_P D vwCl ([(tP, .inr (7, [.ref bY, .ref ki, .ref at_, .ref nu, .int 11, .int 0])), (bY, .inl (cI, 300, .inl (upd (upd (upd f (8 : Int32).toNatClampNeg (z3 &&& 255)) (9 : Int32).toNatClampNeg (z6 &&& 255)) (10 : Int32).toNatClampNeg (z9 &&& 255))))]) H := hP
  have hD : va_D A ([(tP, .inr (7, [.ref bY, .ref ki, .ref at_, .ref nu, .int 11, .int 0])), (bY, .inl (cI, 300, .inl (upd (upd (upd f (8 : Int32).toNatClampNeg (z3 &&& 255)) (9 : Int32).toNatClampNeg (z6 &&& 255)) (10 : Int32).toNatClampNeg (z9 &&& 255))))]) := hD
  refine lv_iinc (v := 0) (lv' := [(2, .int 0), (0, .ref tP), (1, .int w)]) hx hb dX7_take_43 hl (k := 0) rfl (by decide) (by decide) rfl (fun ls hl => ?_)
  refine lv_goto (tgt := 3) hx hb dX7_take_46 (by decide) ?_
  refine lv_iload_n hx hb dX7_take_3 rfl (lv_at hl 0 rfl) ?_
  refine lv_if_lt (tgt := 49) hx hb dX7_take_4 (by decide) (fun h => absurd h (by decide)) (fun c10 => ?_)
  refine lv_aload_n hx hb dX7_take_7 rfl (lv_at hl 1 rfl) ?_
  refine z_get Z i_X7 hP 0 rfl rfl 4 (by decide) bw_402 rfl dX7_take_8 ?_
  refine lv_sipush (v := 300) hx hb dX7_take_11 (by decide) ?_
  refine lv_icmp_ge (tgt := 49) hx hb dX7_take_14 (by decide) (fun h => absurd h (by decide)) (fun c11 => ?_)
  refine lv_aload_n hx hb dX7_take_17 rfl (lv_at hl 1 rfl) ?_
  refine z_get Z i_X7 hP 0 rfl rfl 0 (by decide) bw_395 rfl dX7_take_18 ?_
  refine lv_aload_n hx hb dX7_take_21 rfl (lv_at hl 1 rfl) ?_
  refine z_get Z i_X7 hP 0 rfl rfl 4 (by decide) bw_402 rfl dX7_take_22 ?_
  refine lv_iload_n hx hb dX7_take_25 rfl (lv_at hl 2 rfl) ?_
  refine lv_iload_n hx hb dX7_take_26 rfl (lv_at hl 0 rfl) ?_
  refine lv_iushr hx hb dX7_take_27 rfl ?_
  refine lv_topi (fun z12 ez12 => ?_)
  refine lv_sipush (v := 255) hx hb dX7_take_28 (by decide) ?_
  refine lv_iand hx hb dX7_take_31 ?_
  refine z_iast Z hP hD hS 1 0 rfl rfl (vin (by decide)) dX7_take_32 (fun H locs hP hD hS => ?_)
  have hP : va_P D vwCl ([(tP, .inr (7, [.ref bY, .ref ki, .ref at_, .ref nu, .int 11, .int 0])), (bY, .inl (cI, 300, .inl (upd (upd (upd (upd f (8 : Int32).toNatClampNeg (z3 &&& 255)) (9 : Int32).toNatClampNeg (z6 &&& 255)) (10 : Int32).toNatClampNeg (z9 &&& 255)) (11 : Int32).toNatClampNeg (z12 &&& 255))))]) H := hP
  have hD : va_D A ([(tP, .inr (7, [.ref bY, .ref ki, .ref at_, .ref nu, .int 11, .int 0])), (bY, .inl (cI, 300, .inl (upd (upd (upd (upd f (8 : Int32).toNatClampNeg (z3 &&& 255)) (9 : Int32).toNatClampNeg (z6 &&& 255)) (10 : Int32).toNatClampNeg (z9 &&& 255)) (11 : Int32).toNatClampNeg (z12 &&& 255))))]) := hD
  refine lv_aload_n hx hb dX7_take_33 rfl (lv_at hl 1 rfl) ?_
  refine lv_dup hx hb dX7_take_34 rfl ?_
  refine z_get Z i_X7 hP 0 rfl rfl 4 (by decide) bw_402 rfl dX7_take_35 ?_
  refine lv_iconst (v := 1) hx hb dX7_take_38 (by decide) ?_
  refine lv_iadd hx hb dX7_take_39 ?_
  refine z_topi (y := 12) (by decide) ?_
  refine z_put Z i_X7 tyX7 tyX7_ok nmX7 hP hD hS 0 rfl rfl 4 (by decide) bw_402 rfl rfl rfl (Nat.le_of_ble_eq_true rfl) dX7_take_40 (fun H locs hP hD hS => ?_)
  have hP : va_P D vwCl ([(tP, .inr (7, [.ref bY, .ref ki, .ref at_, .ref nu, .int 12, .int 0])), (bY, .inl (cI, 300, .inl (upd (upd (upd (upd f (8 : Int32).toNatClampNeg (z3 &&& 255)) (9 : Int32).toNatClampNeg (z6 &&& 255)) (10 : Int32).toNatClampNeg (z9 &&& 255)) (11 : Int32).toNatClampNeg (z12 &&& 255))))]) H := hP
  have hD : va_D A ([(tP, .inr (7, [.ref bY, .ref ki, .ref at_, .ref nu, .int 12, .int 0])), (bY, .inl (cI, 300, .inl (upd (upd (upd (upd f (8 : Int32).toNatClampNeg (z3 &&& 255)) (9 : Int32).toNatClampNeg (z6 &&& 255)) (10 : Int32).toNatClampNeg (z9 &&& 255)) (11 : Int32).toNatClampNeg (z12 &&& 255))))]) := hD
  refine lv_iinc (v := (-8)) (lv' := [(2, .int (-8)), (0, .ref tP), (1, .int w)]) hx hb dX7_take_43 hl (k := 0) rfl (by decide) (by decide) rfl (fun ls hl => ?_)
  refine lv_goto (tgt := 3) hx hb dX7_take_46 (by decide) ?_
  refine lv_iload_n hx hb dX7_take_3 rfl (lv_at hl 0 rfl) ?_
  refine lv_if_lt (tgt := 49) hx hb dX7_take_4 (by decide) (fun c13 => ?_) (fun h => absurd (by decide) h)
  exact z_vret Z hP hD hS (⟨(upd (upd (upd (upd f (8 : Int32).toNatClampNeg (z3 &&& 255)) (9 : Int32).toNatClampNeg (z6 &&& 255)) (10 : Int32).toNatClampNeg (z9 &&& 255)) (11 : Int32).toNatClampNeg (z12 &&& 255)), rfl⟩) dX7_take_49 (Nat.le_of_ble_eq_true rfl) (Nat.le_of_ble_eq_true rfl)
set_option maxHeartbeats 4000000 in
set_option maxRecDepth 100000 in
theorem c_X7_take_12 (l : Launch) (D : va_G) (cI cM cT : ClassId) (tP : Nat) (bY : Nat) (ki : Nat) (at_ : Nat) (nu : Nat) (f : Nat → Int32) (w : Int32) : Cv l D (ty3 cI cM cT) yX7_take cX7_take 3 0 0 0 [.ref tP, .int w] ([(tP, .inr (7, [.ref bY, .ref ki, .ref at_, .ref nu, .int 12, .int 0])), (bY, .inl (cI, 300, .inl f))]) (fun u => ∃ (g : Nat → Int32), u = [(tP, .inr (7, [.ref bY, .ref ki, .ref at_, .ref nu, .int 16, .int 0])), (bY, .inl (cI, 300, .inl g))]) := by
  refine Cv.of (by decide +kernel) (Nat.le_of_ble_eq_true rfl) ?_
  intro p e s m below meth c A ls Z hin hP hD hl
  have hx := Z.1
  have hb := Z.2.1
  have hS : va_S A s.heap s.heap [] := va_S.rf
  have hl : lv_has ls 3 [(0, .ref tP), (1, .int w)] := hl
  skip
  refine lv_bipush (v := 24) hx hb dX7_take_0 (by decide) ?_
  refine lv_istore_n (lv' := [(2, .int 24), (0, .ref tP), (1, .int w)]) hx hb dX7_take_2 rfl hl (by decide) rfl (fun ls hl => ?_)
  refine lv_iload_n hx hb dX7_take_3 rfl (lv_at hl 0 rfl) ?_
  refine lv_if_lt (tgt := 49) hx hb dX7_take_4 (by decide) (fun h => absurd h (by decide)) (fun c1 => ?_)
  refine lv_aload_n hx hb dX7_take_7 rfl (lv_at hl 1 rfl) ?_
  refine z_get Z i_X7 hP 0 rfl rfl 4 (by decide) bw_402 rfl dX7_take_8 ?_
  refine lv_sipush (v := 300) hx hb dX7_take_11 (by decide) ?_
  refine lv_icmp_ge (tgt := 49) hx hb dX7_take_14 (by decide) (fun h => absurd h (by decide)) (fun c2 => ?_)
  refine lv_aload_n hx hb dX7_take_17 rfl (lv_at hl 1 rfl) ?_
  refine z_get Z i_X7 hP 0 rfl rfl 0 (by decide) bw_395 rfl dX7_take_18 ?_
  refine lv_aload_n hx hb dX7_take_21 rfl (lv_at hl 1 rfl) ?_
  refine z_get Z i_X7 hP 0 rfl rfl 4 (by decide) bw_402 rfl dX7_take_22 ?_
  refine lv_iload_n hx hb dX7_take_25 rfl (lv_at hl 2 rfl) ?_
  refine lv_iload_n hx hb dX7_take_26 rfl (lv_at hl 0 rfl) ?_
  refine lv_iushr hx hb dX7_take_27 rfl ?_
  refine lv_topi (fun z3 ez3 => ?_)
  refine lv_sipush (v := 255) hx hb dX7_take_28 (by decide) ?_
  refine lv_iand hx hb dX7_take_31 ?_
  refine z_iast Z hP hD hS 1 0 rfl rfl (vin (by decide)) dX7_take_32 (fun H locs hP hD hS => ?_)
  have hP : va_P D vwCl ([(tP, .inr (7, [.ref bY, .ref ki, .ref at_, .ref nu, .int 12, .int 0])), (bY, .inl (cI, 300, .inl (upd f (12 : Int32).toNatClampNeg (z3 &&& 255))))]) H := hP
  have hD : va_D A ([(tP, .inr (7, [.ref bY, .ref ki, .ref at_, .ref nu, .int 12, .int 0])), (bY, .inl (cI, 300, .inl (upd f (12 : Int32).toNatClampNeg (z3 &&& 255))))]) := hD
  refine lv_aload_n hx hb dX7_take_33 rfl (lv_at hl 1 rfl) ?_
  refine lv_dup hx hb dX7_take_34 rfl ?_
  refine z_get Z i_X7 hP 0 rfl rfl 4 (by decide) bw_402 rfl dX7_take_35 ?_
  refine lv_iconst (v := 1) hx hb dX7_take_38 (by decide) ?_
  refine lv_iadd hx hb dX7_take_39 ?_
  refine z_topi (y := 13) (by decide) ?_
  refine z_put Z i_X7 tyX7 tyX7_ok nmX7 hP hD hS 0 rfl rfl 4 (by decide) bw_402 rfl rfl rfl (Nat.le_of_ble_eq_true rfl) dX7_take_40 (fun H locs hP hD hS => ?_)
  have hP : va_P D vwCl ([(tP, .inr (7, [.ref bY, .ref ki, .ref at_, .ref nu, .int 13, .int 0])), (bY, .inl (cI, 300, .inl (upd f (12 : Int32).toNatClampNeg (z3 &&& 255))))]) H := hP
  have hD : va_D A ([(tP, .inr (7, [.ref bY, .ref ki, .ref at_, .ref nu, .int 13, .int 0])), (bY, .inl (cI, 300, .inl (upd f (12 : Int32).toNatClampNeg (z3 &&& 255))))]) := hD
  refine lv_iinc (v := 16) (lv' := [(2, .int 16), (0, .ref tP), (1, .int w)]) hx hb dX7_take_43 hl (k := 0) rfl (by decide) (by decide) rfl (fun ls hl => ?_)
  refine lv_goto (tgt := 3) hx hb dX7_take_46 (by decide) ?_
  refine lv_iload_n hx hb dX7_take_3 rfl (lv_at hl 0 rfl) ?_
  refine lv_if_lt (tgt := 49) hx hb dX7_take_4 (by decide) (fun h => absurd h (by decide)) (fun c4 => ?_)
  refine lv_aload_n hx hb dX7_take_7 rfl (lv_at hl 1 rfl) ?_
  refine z_get Z i_X7 hP 0 rfl rfl 4 (by decide) bw_402 rfl dX7_take_8 ?_
  refine lv_sipush (v := 300) hx hb dX7_take_11 (by decide) ?_
  refine lv_icmp_ge (tgt := 49) hx hb dX7_take_14 (by decide) (fun h => absurd h (by decide)) (fun c5 => ?_)
  refine lv_aload_n hx hb dX7_take_17 rfl (lv_at hl 1 rfl) ?_
  refine z_get Z i_X7 hP 0 rfl rfl 0 (by decide) bw_395 rfl dX7_take_18 ?_
  refine lv_aload_n hx hb dX7_take_21 rfl (lv_at hl 1 rfl) ?_
  refine z_get Z i_X7 hP 0 rfl rfl 4 (by decide) bw_402 rfl dX7_take_22 ?_
  refine lv_iload_n hx hb dX7_take_25 rfl (lv_at hl 2 rfl) ?_
  refine lv_iload_n hx hb dX7_take_26 rfl (lv_at hl 0 rfl) ?_
  refine lv_iushr hx hb dX7_take_27 rfl ?_
  refine lv_topi (fun z6 ez6 => ?_)
  refine lv_sipush (v := 255) hx hb dX7_take_28 (by decide) ?_
  refine lv_iand hx hb dX7_take_31 ?_
  refine z_iast Z hP hD hS 1 0 rfl rfl (vin (by decide)) dX7_take_32 (fun H locs hP hD hS => ?_)
  have hP : va_P D vwCl ([(tP, .inr (7, [.ref bY, .ref ki, .ref at_, .ref nu, .int 13, .int 0])), (bY, .inl (cI, 300, .inl (upd (upd f (12 : Int32).toNatClampNeg (z3 &&& 255)) (13 : Int32).toNatClampNeg (z6 &&& 255))))]) H := hP
  have hD : va_D A ([(tP, .inr (7, [.ref bY, .ref ki, .ref at_, .ref nu, .int 13, .int 0])), (bY, .inl (cI, 300, .inl (upd (upd f (12 : Int32).toNatClampNeg (z3 &&& 255)) (13 : Int32).toNatClampNeg (z6 &&& 255))))]) := hD
  refine lv_aload_n hx hb dX7_take_33 rfl (lv_at hl 1 rfl) ?_
  refine lv_dup hx hb dX7_take_34 rfl ?_
  refine z_get Z i_X7 hP 0 rfl rfl 4 (by decide) bw_402 rfl dX7_take_35 ?_
  refine lv_iconst (v := 1) hx hb dX7_take_38 (by decide) ?_
  refine lv_iadd hx hb dX7_take_39 ?_
  refine z_topi (y := 14) (by decide) ?_
  refine z_put Z i_X7 tyX7 tyX7_ok nmX7 hP hD hS 0 rfl rfl 4 (by decide) bw_402 rfl rfl rfl (Nat.le_of_ble_eq_true rfl) dX7_take_40 (fun H locs hP hD hS => ?_)
  have hP : va_P D vwCl ([(tP, .inr (7, [.ref bY, .ref ki, .ref at_, .ref nu, .int 14, .int 0])), (bY, .inl (cI, 300, .inl (upd (upd f (12 : Int32).toNatClampNeg (z3 &&& 255)) (13 : Int32).toNatClampNeg (z6 &&& 255))))]) H := hP
  have hD : va_D A ([(tP, .inr (7, [.ref bY, .ref ki, .ref at_, .ref nu, .int 14, .int 0])), (bY, .inl (cI, 300, .inl (upd (upd f (12 : Int32).toNatClampNeg (z3 &&& 255)) (13 : Int32).toNatClampNeg (z6 &&& 255))))]) := hD
  refine lv_iinc (v := 8) (lv' := [(2, .int 8), (0, .ref tP), (1, .int w)]) hx hb dX7_take_43 hl (k := 0) rfl (by decide) (by decide) rfl (fun ls hl => ?_)
  refine lv_goto (tgt := 3) hx hb dX7_take_46 (by decide) ?_
  refine lv_iload_n hx hb dX7_take_3 rfl (lv_at hl 0 rfl) ?_
  refine lv_if_lt (tgt := 49) hx hb dX7_take_4 (by decide) (fun h => absurd h (by decide)) (fun c7 => ?_)
  refine lv_aload_n hx hb dX7_take_7 rfl (lv_at hl 1 rfl) ?_
  refine z_get Z i_X7 hP 0 rfl rfl 4 (by decide) bw_402 rfl dX7_take_8 ?_
  refine lv_sipush (v := 300) hx hb dX7_take_11 (by decide) ?_
  refine lv_icmp_ge (tgt := 49) hx hb dX7_take_14 (by decide) (fun h => absurd h (by decide)) (fun c8 => ?_)
  refine lv_aload_n hx hb dX7_take_17 rfl (lv_at hl 1 rfl) ?_
  refine z_get Z i_X7 hP 0 rfl rfl 0 (by decide) bw_395 rfl dX7_take_18 ?_
  refine lv_aload_n hx hb dX7_take_21 rfl (lv_at hl 1 rfl) ?_
  refine z_get Z i_X7 hP 0 rfl rfl 4 (by decide) bw_402 rfl dX7_take_22 ?_
  refine lv_iload_n hx hb dX7_take_25 rfl (lv_at hl 2 rfl) ?_
  refine lv_iload_n hx hb dX7_take_26 rfl (lv_at hl 0 rfl) ?_
  refine lv_iushr hx hb dX7_take_27 rfl ?_
  refine lv_topi (fun z9 ez9 => ?_)
  refine lv_sipush (v := 255) hx hb dX7_take_28 (by decide) ?_
  refine lv_iand hx hb dX7_take_31 ?_
  refine z_iast Z hP hD hS 1 0 rfl rfl (vin (by decide)) dX7_take_32 (fun H locs hP hD hS => ?_)
  have hP : va_P D vwCl ([(tP, .inr (7, [.ref bY, .ref ki, .ref at_, .ref nu, .int 14, .int 0])), (bY, .inl (cI, 300, .inl (upd (upd (upd f (12 : Int32).toNatClampNeg (z3 &&& 255)) (13 : Int32).toNatClampNeg (z6 &&& 255)) (14 : Int32).toNatClampNeg (z9 &&& 255))))]) H := hP
  have hD : va_D A ([(tP, .inr (7, [.ref bY, .ref ki, .ref at_, .ref nu, .int 14, .int 0])), (bY, .inl (cI, 300, .inl (upd (upd (upd f (12 : Int32).toNatClampNeg (z3 &&& 255)) (13 : Int32).toNatClampNeg (z6 &&& 255)) (14 : Int32).toNatClampNeg (z9 &&& 255))))]) := hD
  refine lv_aload_n hx hb dX7_take_33 rfl (lv_at hl 1 rfl) ?_
  refine lv_dup hx hb dX7_take_34 rfl ?_
  refine z_get Z i_X7 hP 0 rfl rfl 4 (by decide) bw_402 rfl dX7_take_35 ?_
  refine lv_iconst (v := 1) hx hb dX7_take_38 (by decide) ?_
  refine lv_iadd hx hb dX7_take_39 ?_
  refine z_topi (y := 15) (by decide) ?_
  refine z_put Z i_X7 tyX7 tyX7_ok nmX7 hP hD hS 0 rfl rfl 4 (by decide) bw_402 rfl rfl rfl (Nat.le_of_ble_eq_true rfl) dX7_take_40 (fun H locs hP hD hS => ?_)
  have hP : va_P D vwCl ([(tP, .inr (7, [.ref bY, .ref ki, .ref at_, .ref nu, .int 15, .int 0])), (bY, .inl (cI, 300, .inl (upd (upd (upd f (12 : Int32).toNatClampNeg (z3 &&& 255)) (13 : Int32).toNatClampNeg (z6 &&& 255)) (14 : Int32).toNatClampNeg (z9 &&& 255))))]) H := hP
  have hD : va_D A ([(tP, .inr (7, [.ref bY, .ref ki, .ref at_, .ref nu, .int 15, .int 0])), (bY, .inl (cI, 300, .inl (upd (upd (upd f (12 : Int32).toNatClampNeg (z3 &&& 255)) (13 : Int32).toNatClampNeg (z6 &&& 255)) (14 : Int32).toNatClampNeg (z9 &&& 255))))]) := hD
  refine lv_iinc (v := 0) (lv' := [(2, .int 0), (0, .ref tP), (1, .int w)]) hx hb dX7_take_43 hl (k := 0) rfl (by decide) (by decide) rfl (fun ls hl => ?_)
  refine lv_goto (tgt := 3) hx hb dX7_take_46 (by decide) ?_
  refine lv_iload_n hx hb dX7_take_3 rfl (lv_at hl 0 rfl) ?_
  refine lv_if_lt (tgt := 49) hx hb dX7_take_4 (by decide) (fun h => absurd h (by decide)) (fun c10 => ?_)
  refine lv_aload_n hx hb dX7_take_7 rfl (lv_at hl 1 rfl) ?_
  refine z_get Z i_X7 hP 0 rfl rfl 4 (by decide) bw_402 rfl dX7_take_8 ?_
  refine lv_sipush (v := 300) hx hb dX7_take_11 (by decide) ?_
  refine lv_icmp_ge (tgt := 49) hx hb dX7_take_14 (by decide) (fun h => absurd h (by decide)) (fun c11 => ?_)
  refine lv_aload_n hx hb dX7_take_17 rfl (lv_at hl 1 rfl) ?_
  refine z_get Z i_X7 hP 0 rfl rfl 0 (by decide) bw_395 rfl dX7_take_18 ?_
  refine lv_aload_n hx hb dX7_take_21 rfl (lv_at hl 1 rfl) ?_
  refine z_get Z i_X7 hP 0 rfl rfl 4 (by decide) bw_402 rfl dX7_take_22 ?_
  refine lv_iload_n hx hb dX7_take_25 rfl (lv_at hl 2 rfl) ?_
  refine lv_iload_n hx hb dX7_take_26 rfl (lv_at hl 0 rfl) ?_
  refine lv_iushr hx hb dX7_take_27 rfl ?_
  refine lv_topi (fun z12 ez12 => ?_)
  refine lv_sipush (v := 255) hx hb dX7_take_28 (by decide) ?_
  refine lv_iand hx hb dX7_take_31 ?_
  refine z_iast Z hP hD hS 1 0 rfl rfl (vin (by decide)) dX7_take_32 (fun H locs hP hD hS => ?_)
  have hP : va_P D vwCl ([(tP, .inr (7, [.ref bY, .ref ki, .ref at_, .ref nu, .int 15, .int 0])), (bY, .inl (cI, 300, .inl (upd (upd (upd (upd f (12 : Int32).toNatClampNeg (z3 &&& 255)) (13 : Int32).toNatClampNeg (z6 &&& 255)) (14 : Int32).toNatClampNeg (z9 &&& 255)) (15 : Int32).toNatClampNeg (z12 &&& 255))))]) H := hP
  have hD : va_D A ([(tP, .inr (7, [.ref bY, .ref ki, .ref at_, .ref nu, .int 15, .int 0])), (bY, .inl (cI, 300, .inl (upd (upd (upd (upd f (12 : Int32).toNatClampNeg (z3 &&& 255)) (13 : Int32).toNatClampNeg (z6 &&& 255)) (14 : Int32).toNatClampNeg (z9 &&& 255)) (15 : Int32).toNatClampNeg (z12 &&& 255))))]) := hD
  refine lv_aload_n hx hb dX7_take_33 rfl (lv_at hl 1 rfl) ?_
  refine lv_dup hx hb dX7_take_34 rfl ?_
  refine z_get Z i_X7 hP 0 rfl rfl 4 (by decide) bw_402 rfl dX7_take_35 ?_
  refine lv_iconst (v := 1) hx hb dX7_take_38 (by decide) ?_
  refine lv_iadd hx hb dX7_take_39 ?_
  refine z_topi (y := 16) (by decide) ?_
  refine z_put Z i_X7 tyX7 tyX7_ok nmX7 hP hD hS 0 rfl rfl 4 (by decide) bw_402 rfl rfl rfl (Nat.le_of_ble_eq_true rfl) dX7_take_40 (fun H locs hP hD hS => ?_)
  have hP : va_P D vwCl ([(tP, .inr (7, [.ref bY, .ref ki, .ref at_, .ref nu, .int 16, .int 0])), (bY, .inl (cI, 300, .inl (upd (upd (upd (upd f (12 : Int32).toNatClampNeg (z3 &&& 255)) (13 : Int32).toNatClampNeg (z6 &&& 255)) (14 : Int32).toNatClampNeg (z9 &&& 255)) (15 : Int32).toNatClampNeg (z12 &&& 255))))]) H := hP
  have hD : va_D A ([(tP, .inr (7, [.ref bY, .ref ki, .ref at_, .ref nu, .int 16, .int 0])), (bY, .inl (cI, 300, .inl (upd (upd (upd (upd f (12 : Int32).toNatClampNeg (z3 &&& 255)) (13 : Int32).toNatClampNeg (z6 &&& 255)) (14 : Int32).toNatClampNeg (z9 &&& 255)) (15 : Int32).toNatClampNeg (z12 &&& 255))))]) := hD
  refine lv_iinc (v := (-8)) (lv' := [(2, .int (-8)), (0, .ref tP), (1, .int w)]) hx hb dX7_take_43 hl (k := 0) rfl (by decide) (by decide) rfl (fun ls hl => ?_)
  refine lv_goto (tgt := 3) hx hb dX7_take_46 (by decide) ?_
  refine lv_iload_n hx hb dX7_take_3 rfl (lv_at hl 0 rfl) ?_
  refine lv_if_lt (tgt := 49) hx hb dX7_take_4 (by decide) (fun c13 => ?_) (fun h => absurd (by decide) h)
  exact z_vret Z hP hD hS (⟨(upd (upd (upd (upd f (12 : Int32).toNatClampNeg (z3 &&& 255)) (13 : Int32).toNatClampNeg (z6 &&& 255)) (14 : Int32).toNatClampNeg (z9 &&& 255)) (15 : Int32).toNatClampNeg (z12 &&& 255)), rfl⟩) dX7_take_49 (Nat.le_of_ble_eq_true rfl) (Nat.le_of_ble_eq_true rfl)
set_option maxHeartbeats 4000000 in
set_option maxRecDepth 100000 in
theorem c_X7_take_16 (l : Launch) (D : va_G) (cI cM cT : ClassId) (tP : Nat) (bY : Nat) (ki : Nat) (at_ : Nat) (nu : Nat) (f : Nat → Int32) (w : Int32) : Cv l D (ty3 cI cM cT) yX7_take cX7_take 3 0 0 0 [.ref tP, .int w] ([(tP, .inr (7, [.ref bY, .ref ki, .ref at_, .ref nu, .int 16, .int 0])), (bY, .inl (cI, 300, .inl f))]) (fun u => ∃ (g : Nat → Int32), u = [(tP, .inr (7, [.ref bY, .ref ki, .ref at_, .ref nu, .int 20, .int 0])), (bY, .inl (cI, 300, .inl g))]) := by
  refine Cv.of (by decide +kernel) (Nat.le_of_ble_eq_true rfl) ?_
  intro p e s m below meth c A ls Z hin hP hD hl
  have hx := Z.1
  have hb := Z.2.1
  have hS : va_S A s.heap s.heap [] := va_S.rf
  have hl : lv_has ls 3 [(0, .ref tP), (1, .int w)] := hl
  skip
  refine lv_bipush (v := 24) hx hb dX7_take_0 (by decide) ?_
  refine lv_istore_n (lv' := [(2, .int 24), (0, .ref tP), (1, .int w)]) hx hb dX7_take_2 rfl hl (by decide) rfl (fun ls hl => ?_)
  refine lv_iload_n hx hb dX7_take_3 rfl (lv_at hl 0 rfl) ?_
  refine lv_if_lt (tgt := 49) hx hb dX7_take_4 (by decide) (fun h => absurd h (by decide)) (fun c1 => ?_)
  refine lv_aload_n hx hb dX7_take_7 rfl (lv_at hl 1 rfl) ?_
  refine z_get Z i_X7 hP 0 rfl rfl 4 (by decide) bw_402 rfl dX7_take_8 ?_
  refine lv_sipush (v := 300) hx hb dX7_take_11 (by decide) ?_
  refine lv_icmp_ge (tgt := 49) hx hb dX7_take_14 (by decide) (fun h => absurd h (by decide)) (fun c2 => ?_)
  refine lv_aload_n hx hb dX7_take_17 rfl (lv_at hl 1 rfl) ?_
  refine z_get Z i_X7 hP 0 rfl rfl 0 (by decide) bw_395 rfl dX7_take_18 ?_
  refine lv_aload_n hx hb dX7_take_21 rfl (lv_at hl 1 rfl) ?_
  refine z_get Z i_X7 hP 0 rfl rfl 4 (by decide) bw_402 rfl dX7_take_22 ?_
  refine lv_iload_n hx hb dX7_take_25 rfl (lv_at hl 2 rfl) ?_
  refine lv_iload_n hx hb dX7_take_26 rfl (lv_at hl 0 rfl) ?_
  refine lv_iushr hx hb dX7_take_27 rfl ?_
  refine lv_topi (fun z3 ez3 => ?_)
  refine lv_sipush (v := 255) hx hb dX7_take_28 (by decide) ?_
  refine lv_iand hx hb dX7_take_31 ?_
  refine z_iast Z hP hD hS 1 0 rfl rfl (vin (by decide)) dX7_take_32 (fun H locs hP hD hS => ?_)
  have hP : va_P D vwCl ([(tP, .inr (7, [.ref bY, .ref ki, .ref at_, .ref nu, .int 16, .int 0])), (bY, .inl (cI, 300, .inl (upd f (16 : Int32).toNatClampNeg (z3 &&& 255))))]) H := hP
  have hD : va_D A ([(tP, .inr (7, [.ref bY, .ref ki, .ref at_, .ref nu, .int 16, .int 0])), (bY, .inl (cI, 300, .inl (upd f (16 : Int32).toNatClampNeg (z3 &&& 255))))]) := hD
  refine lv_aload_n hx hb dX7_take_33 rfl (lv_at hl 1 rfl) ?_
  refine lv_dup hx hb dX7_take_34 rfl ?_
  refine z_get Z i_X7 hP 0 rfl rfl 4 (by decide) bw_402 rfl dX7_take_35 ?_
  refine lv_iconst (v := 1) hx hb dX7_take_38 (by decide) ?_
  refine lv_iadd hx hb dX7_take_39 ?_
  refine z_topi (y := 17) (by decide) ?_
  refine z_put Z i_X7 tyX7 tyX7_ok nmX7 hP hD hS 0 rfl rfl 4 (by decide) bw_402 rfl rfl rfl (Nat.le_of_ble_eq_true rfl) dX7_take_40 (fun H locs hP hD hS => ?_)
  have hP : va_P D vwCl ([(tP, .inr (7, [.ref bY, .ref ki, .ref at_, .ref nu, .int 17, .int 0])), (bY, .inl (cI, 300, .inl (upd f (16 : Int32).toNatClampNeg (z3 &&& 255))))]) H := hP
  have hD : va_D A ([(tP, .inr (7, [.ref bY, .ref ki, .ref at_, .ref nu, .int 17, .int 0])), (bY, .inl (cI, 300, .inl (upd f (16 : Int32).toNatClampNeg (z3 &&& 255))))]) := hD
  refine lv_iinc (v := 16) (lv' := [(2, .int 16), (0, .ref tP), (1, .int w)]) hx hb dX7_take_43 hl (k := 0) rfl (by decide) (by decide) rfl (fun ls hl => ?_)
  refine lv_goto (tgt := 3) hx hb dX7_take_46 (by decide) ?_
  refine lv_iload_n hx hb dX7_take_3 rfl (lv_at hl 0 rfl) ?_
  refine lv_if_lt (tgt := 49) hx hb dX7_take_4 (by decide) (fun h => absurd h (by decide)) (fun c4 => ?_)
  refine lv_aload_n hx hb dX7_take_7 rfl (lv_at hl 1 rfl) ?_
  refine z_get Z i_X7 hP 0 rfl rfl 4 (by decide) bw_402 rfl dX7_take_8 ?_
  refine lv_sipush (v := 300) hx hb dX7_take_11 (by decide) ?_
  refine lv_icmp_ge (tgt := 49) hx hb dX7_take_14 (by decide) (fun h => absurd h (by decide)) (fun c5 => ?_)
  refine lv_aload_n hx hb dX7_take_17 rfl (lv_at hl 1 rfl) ?_
  refine z_get Z i_X7 hP 0 rfl rfl 0 (by decide) bw_395 rfl dX7_take_18 ?_
  refine lv_aload_n hx hb dX7_take_21 rfl (lv_at hl 1 rfl) ?_
  refine z_get Z i_X7 hP 0 rfl rfl 4 (by decide) bw_402 rfl dX7_take_22 ?_
  refine lv_iload_n hx hb dX7_take_25 rfl (lv_at hl 2 rfl) ?_
  refine lv_iload_n hx hb dX7_take_26 rfl (lv_at hl 0 rfl) ?_
  refine lv_iushr hx hb dX7_take_27 rfl ?_
  refine lv_topi (fun z6 ez6 => ?_)
  refine lv_sipush (v := 255) hx hb dX7_take_28 (by decide) ?_
  refine lv_iand hx hb dX7_take_31 ?_
  refine z_iast Z hP hD hS 1 0 rfl rfl (vin (by decide)) dX7_take_32 (fun H locs hP hD hS => ?_)
  have hP : va_P D vwCl ([(tP, .inr (7, [.ref bY, .ref ki, .ref at_, .ref nu, .int 17, .int 0])), (bY, .inl (cI, 300, .inl (upd (upd f (16 : Int32).toNatClampNeg (z3 &&& 255)) (17 : Int32).toNatClampNeg (z6 &&& 255))))]) H := hP
  have hD : va_D A ([(tP, .inr (7, [.ref bY, .ref ki, .ref at_, .ref nu, .int 17, .int 0])), (bY, .inl (cI, 300, .inl (upd (upd f (16 : Int32).toNatClampNeg (z3 &&& 255)) (17 : Int32).toNatClampNeg (z6 &&& 255))))]) := hD
  refine lv_aload_n hx hb dX7_take_33 rfl (lv_at hl 1 rfl) ?_
  refine lv_dup hx hb dX7_take_34 rfl ?_
  refine z_get Z i_X7 hP 0 rfl rfl 4 (by decide) bw_402 rfl dX7_take_35 ?_
  refine lv_iconst (v := 1) hx hb dX7_take_38 (by decide) ?_
  refine lv_iadd hx hb dX7_take_39 ?_
  refine z_topi (y := 18) (by decide) ?_
  refine z_put Z i_X7 tyX7 tyX7_ok nmX7 hP hD hS 0 rfl rfl 4 (by decide) bw_402 rfl rfl rfl (Nat.le_of_ble_eq_true rfl) dX7_take_40 (fun H locs hP hD hS => ?_)
  have hP : va_P D vwCl ([(tP, .inr (7, [.ref bY, .ref ki, .ref at_, .ref nu, .int 18, .int 0])), (bY, .inl (cI, 300, .inl (upd (upd f (16 : Int32).toNatClampNeg (z3 &&& 255)) (17 : Int32).toNatClampNeg (z6 &&& 255))))]) H := hP
  have hD : va_D A ([(tP, .inr (7, [.ref bY, .ref ki, .ref at_, .ref nu, .int 18, .int 0])), (bY, .inl (cI, 300, .inl (upd (upd f (16 : Int32).toNatClampNeg (z3 &&& 255)) (17 : Int32).toNatClampNeg (z6 &&& 255))))]) := hD
  refine lv_iinc (v := 8) (lv' := [(2, .int 8), (0, .ref tP), (1, .int w)]) hx hb dX7_take_43 hl (k := 0) rfl (by decide) (by decide) rfl (fun ls hl => ?_)
  refine lv_goto (tgt := 3) hx hb dX7_take_46 (by decide) ?_
  refine lv_iload_n hx hb dX7_take_3 rfl (lv_at hl 0 rfl) ?_
  refine lv_if_lt (tgt := 49) hx hb dX7_take_4 (by decide) (fun h => absurd h (by decide)) (fun c7 => ?_)
  refine lv_aload_n hx hb dX7_take_7 rfl (lv_at hl 1 rfl) ?_
  refine z_get Z i_X7 hP 0 rfl rfl 4 (by decide) bw_402 rfl dX7_take_8 ?_
  refine lv_sipush (v := 300) hx hb dX7_take_11 (by decide) ?_
  refine lv_icmp_ge (tgt := 49) hx hb dX7_take_14 (by decide) (fun h => absurd h (by decide)) (fun c8 => ?_)
  refine lv_aload_n hx hb dX7_take_17 rfl (lv_at hl 1 rfl) ?_
  refine z_get Z i_X7 hP 0 rfl rfl 0 (by decide) bw_395 rfl dX7_take_18 ?_
  refine lv_aload_n hx hb dX7_take_21 rfl (lv_at hl 1 rfl) ?_
  refine z_get Z i_X7 hP 0 rfl rfl 4 (by decide) bw_402 rfl dX7_take_22 ?_
  refine lv_iload_n hx hb dX7_take_25 rfl (lv_at hl 2 rfl) ?_
  refine lv_iload_n hx hb dX7_take_26 rfl (lv_at hl 0 rfl) ?_
  refine lv_iushr hx hb dX7_take_27 rfl ?_
  refine lv_topi (fun z9 ez9 => ?_)
  refine lv_sipush (v := 255) hx hb dX7_take_28 (by decide) ?_
  refine lv_iand hx hb dX7_take_31 ?_
  refine z_iast Z hP hD hS 1 0 rfl rfl (vin (by decide)) dX7_take_32 (fun H locs hP hD hS => ?_)
  have hP : va_P D vwCl ([(tP, .inr (7, [.ref bY, .ref ki, .ref at_, .ref nu, .int 18, .int 0])), (bY, .inl (cI, 300, .inl (upd (upd (upd f (16 : Int32).toNatClampNeg (z3 &&& 255)) (17 : Int32).toNatClampNeg (z6 &&& 255)) (18 : Int32).toNatClampNeg (z9 &&& 255))))]) H := hP
  have hD : va_D A ([(tP, .inr (7, [.ref bY, .ref ki, .ref at_, .ref nu, .int 18, .int 0])), (bY, .inl (cI, 300, .inl (upd (upd (upd f (16 : Int32).toNatClampNeg (z3 &&& 255)) (17 : Int32).toNatClampNeg (z6 &&& 255)) (18 : Int32).toNatClampNeg (z9 &&& 255))))]) := hD
  refine lv_aload_n hx hb dX7_take_33 rfl (lv_at hl 1 rfl) ?_
  refine lv_dup hx hb dX7_take_34 rfl ?_
  refine z_get Z i_X7 hP 0 rfl rfl 4 (by decide) bw_402 rfl dX7_take_35 ?_
  refine lv_iconst (v := 1) hx hb dX7_take_38 (by decide) ?_
  refine lv_iadd hx hb dX7_take_39 ?_
  refine z_topi (y := 19) (by decide) ?_
  refine z_put Z i_X7 tyX7 tyX7_ok nmX7 hP hD hS 0 rfl rfl 4 (by decide) bw_402 rfl rfl rfl (Nat.le_of_ble_eq_true rfl) dX7_take_40 (fun H locs hP hD hS => ?_)
  have hP : va_P D vwCl ([(tP, .inr (7, [.ref bY, .ref ki, .ref at_, .ref nu, .int 19, .int 0])), (bY, .inl (cI, 300, .inl (upd (upd (upd f (16 : Int32).toNatClampNeg (z3 &&& 255)) (17 : Int32).toNatClampNeg (z6 &&& 255)) (18 : Int32).toNatClampNeg (z9 &&& 255))))]) H := hP
  have hD : va_D A ([(tP, .inr (7, [.ref bY, .ref ki, .ref at_, .ref nu, .int 19, .int 0])), (bY, .inl (cI, 300, .inl (upd (upd (upd f (16 : Int32).toNatClampNeg (z3 &&& 255)) (17 : Int32).toNatClampNeg (z6 &&& 255)) (18 : Int32).toNatClampNeg (z9 &&& 255))))]) := hD
  refine lv_iinc (v := 0) (lv' := [(2, .int 0), (0, .ref tP), (1, .int w)]) hx hb dX7_take_43 hl (k := 0) rfl (by decide) (by decide) rfl (fun ls hl => ?_)
  refine lv_goto (tgt := 3) hx hb dX7_take_46 (by decide) ?_
  refine lv_iload_n hx hb dX7_take_3 rfl (lv_at hl 0 rfl) ?_
  refine lv_if_lt (tgt := 49) hx hb dX7_take_4 (by decide) (fun h => absurd h (by decide)) (fun c10 => ?_)
  refine lv_aload_n hx hb dX7_take_7 rfl (lv_at hl 1 rfl) ?_
  refine z_get Z i_X7 hP 0 rfl rfl 4 (by decide) bw_402 rfl dX7_take_8 ?_
  refine lv_sipush (v := 300) hx hb dX7_take_11 (by decide) ?_
  refine lv_icmp_ge (tgt := 49) hx hb dX7_take_14 (by decide) (fun h => absurd h (by decide)) (fun c11 => ?_)
  refine lv_aload_n hx hb dX7_take_17 rfl (lv_at hl 1 rfl) ?_
  refine z_get Z i_X7 hP 0 rfl rfl 0 (by decide) bw_395 rfl dX7_take_18 ?_
  refine lv_aload_n hx hb dX7_take_21 rfl (lv_at hl 1 rfl) ?_
  refine z_get Z i_X7 hP 0 rfl rfl 4 (by decide) bw_402 rfl dX7_take_22 ?_
  refine lv_iload_n hx hb dX7_take_25 rfl (lv_at hl 2 rfl) ?_
  refine lv_iload_n hx hb dX7_take_26 rfl (lv_at hl 0 rfl) ?_
  refine lv_iushr hx hb dX7_take_27 rfl ?_
  refine lv_topi (fun z12 ez12 => ?_)
  refine lv_sipush (v := 255) hx hb dX7_take_28 (by decide) ?_
  refine lv_iand hx hb dX7_take_31 ?_
  refine z_iast Z hP hD hS 1 0 rfl rfl (vin (by decide)) dX7_take_32 (fun H locs hP hD hS => ?_)
  have hP : va_P D vwCl ([(tP, .inr (7, [.ref bY, .ref ki, .ref at_, .ref nu, .int 19, .int 0])), (bY, .inl (cI, 300, .inl (upd (upd (upd (upd f (16 : Int32).toNatClampNeg (z3 &&& 255)) (17 : Int32).toNatClampNeg (z6 &&& 255)) (18 : Int32).toNatClampNeg (z9 &&& 255)) (19 : Int32).toNatClampNeg (z12 &&& 255))))]) H := hP
  have hD : va_D A ([(tP, .inr (7, [.ref bY, .ref ki, .ref at_, .ref nu, .int 19, .int 0])), (bY, .inl (cI, 300, .inl (upd (upd (upd (upd f (16 : Int32).toNatClampNeg (z3 &&& 255)) (17 : Int32).toNatClampNeg (z6 &&& 255)) (18 : Int32).toNatClampNeg (z9 &&& 255)) (19 : Int32).toNatClampNeg (z12 &&& 255))))]) := hD
  refine lv_aload_n hx hb dX7_take_33 rfl (lv_at hl 1 rfl) ?_
  refine lv_dup hx hb dX7_take_34 rfl ?_
  refine z_get Z i_X7 hP 0 rfl rfl 4 (by decide) bw_402 rfl dX7_take_35 ?_
  refine lv_iconst (v := 1) hx hb dX7_take_38 (by decide) ?_
  refine lv_iadd hx hb dX7_take_39 ?_
  refine z_topi (y := 20) (by decide) ?_
  refine z_put Z i_X7 tyX7 tyX7_ok nmX7 hP hD hS 0 rfl rfl 4 (by decide) bw_402 rfl rfl rfl (Nat.le_of_ble_eq_true rfl) dX7_take_40 (fun H locs hP hD hS => ?_)
  have hP : va_P D vwCl ([(tP, .inr (7, [.ref bY, .ref ki, .ref at_, .ref nu, .int 20, .int 0])), (bY, .inl (cI, 300, .inl (upd (upd (upd (upd f (16 : Int32).toNatClampNeg (z3 &&& 255)) (17 : Int32).toNatClampNeg (z6 &&& 255)) (18 : Int32).toNatClampNeg (z9 &&& 255)) (19 : Int32).toNatClampNeg (z12 &&& 255))))]) H := hP
  have hD : va_D A ([(tP, .inr (7, [.ref bY, .ref ki, .ref at_, .ref nu, .int 20, .int 0])), (bY, .inl (cI, 300, .inl (upd (upd (upd (upd f (16 : Int32).toNatClampNeg (z3 &&& 255)) (17 : Int32).toNatClampNeg (z6 &&& 255)) (18 : Int32).toNatClampNeg (z9 &&& 255)) (19 : Int32).toNatClampNeg (z12 &&& 255))))]) := hD
  refine lv_iinc (v := (-8)) (lv' := [(2, .int (-8)), (0, .ref tP), (1, .int w)]) hx hb dX7_take_43 hl (k := 0) rfl (by decide) (by decide) rfl (fun ls hl => ?_)
  refine lv_goto (tgt := 3) hx hb dX7_take_46 (by decide) ?_
  refine lv_iload_n hx hb dX7_take_3 rfl (lv_at hl 0 rfl) ?_
  refine lv_if_lt (tgt := 49) hx hb dX7_take_4 (by decide) (fun c13 => ?_) (fun h => absurd (by decide) h)
  exact z_vret Z hP hD hS (⟨(upd (upd (upd (upd f (16 : Int32).toNatClampNeg (z3 &&& 255)) (17 : Int32).toNatClampNeg (z6 &&& 255)) (18 : Int32).toNatClampNeg (z9 &&& 255)) (19 : Int32).toNatClampNeg (z12 &&& 255)), rfl⟩) dX7_take_49 (Nat.le_of_ble_eq_true rfl) (Nat.le_of_ble_eq_true rfl)
set_option maxHeartbeats 4000000 in
set_option maxRecDepth 100000 in
theorem c_X11_feed (l : Launch) (D : va_G) (cI cM cT : ClassId) (x : Nat) (st : Nat) (dr : Nat) (nw : Nat) (kp : Nat) (rd : Nat) (tm : Nat) (co : Nat) (tP : Nat) (tX : Nat) (bY : Nat) (ki : Nat) (at_ : Nat) (nu : Nat) (p0 : Int32) (p1 : Int32) (p2 : Int32) (p3 : Int32) (p4 : Int32) : Ci l D (ty3 cI cM cT) yX11_feed cX11_feed 6 (some .int) 3 0 0 [.ref x, .int p0, .int p1, .int p2, .int p3, .int p4] ([(x, .inr (11, [.ref st, .ref dr, .ref nw, .ref kp, .ref rd, .ref tm, .ref co])), (rd, .inr (2, [.ref tP, .int (-1), .int (-1), .int 0, .int 37, .int 0, .ref tX])), (tP, .inr (7, [.ref bY, .ref ki, .ref at_, .ref nu, .int 0, .int 0])), (bY, .inl (cI, 300, .inl (fun _ => 0)))]) (fun r u => r = 20) := by
  refine Ci.of (by decide +kernel) (Nat.le_of_ble_eq_true rfl) ?_
  intro p e s m below meth c A ls Z hin hP hD hl
  have hx := Z.1
  have hb := Z.2.1
  have hS : va_S A s.heap s.heap [] := va_S.rf
  have hl : lv_has ls 6 [(0, .ref x), (1, .int p0), (2, .int p1), (3, .int p2), (4, .int p3), (5, .int p4)] := hl
  skip
  refine lv_aload_n hx hb dX11_feed_0 rfl (lv_at hl 0 rfl) ?_
  refine z_get Z i_X11 hP 0 rfl rfl 4 (by decide) bw_472 rfl dX11_feed_1 ?_
  refine z_get Z i_X2 hP 1 rfl rfl 0 (by decide) bw_422 rfl dX11_feed_4 ?_
  refine z_get Z i_X7 hP 2 rfl rfl 4 (by decide) bw_403 rfl dX11_feed_7 ?_
  refine lv_bipush (v := 20) hx hb dX11_feed_10 (by decide) ?_
  refine lv_iadd hx hb dX11_feed_12 ?_
  refine z_topi (y := 20) (by decide) ?_
  refine lv_sipush (v := 300) hx hb dX11_feed_13 (by decide) ?_
  refine lv_icmp_le (tgt := 21) hx hb dX11_feed_16 (by decide) (fun c1 => ?_) (fun h => absurd (by decide) h)
  refine lv_aload_n hx hb dX11_feed_21 rfl (lv_at hl 0 rfl) ?_
  refine z_get Z i_X11 hP 0 rfl rfl 4 (by decide) bw_472 rfl dX11_feed_22 ?_
  refine z_get Z i_X2 hP 1 rfl rfl 0 (by decide) bw_422 rfl dX11_feed_25 ?_
  refine lv_iload_n hx hb dX11_feed_28 rfl (lv_at hl 1 rfl) ?_
  have hPc := hP.sub2 (wc := [(tP, .inr (7, [.ref bY, .ref ki, .ref at_, .ref nu, .int 0, .int 0])), (bY, .inl (cI, 300, .inl (fun _ => 0)))]) [2, 3] rfl
  have hDc := hD.sub (ws' := [(tP, .inr (7, [.ref bY, .ref ki, .ref at_, .ref nu, .int 0, .int 0])), (bY, .inl (cI, 300, .inl (fun _ => 0)))]) [2, 3] (by decide) rfl
  refine raw_Vv (ci := 7) (q0 := 0) (nA := 1) (As := [.int p0]) (rest := []) Z hl.1 (c_X7_take_0 l D cI cM cT tP bY ki at_ nu (fun _ => 0) p0) (bw_V bw_539 bw_540 bw_541 bw_90 bw_542) ⟨by decide +kernel, by decide +kernel, by decide +kernel⟩ rfl ⟨Nat.le_of_ble_eq_true rfl, Nat.le_of_ble_eq_true rfl⟩ rfl rfl rfl hPc hDc hS rfl (Nat.le_of_ble_eq_true rfl) dX11_feed_29 ⟨Nat.le_of_ble_eq_true rfl, Nat.le_of_ble_eq_true rfl⟩ (fun u2 H1 locs1 h4 hku2 hP1 hD1 hS1 => ?_)
  obtain ⟨g_5, rfl⟩ := h4
  obtain ⟨hP, hD⟩ := z_join (wr := [(x, .inr (11, [.ref st, .ref dr, .ref nw, .ref kp, .ref rd, .ref tm, .ref co])), (rd, .inr (2, [.ref tP, .int (-1), .int (-1), .int 0, .int 37, .int 0, .ref tX]))]) Z hS hP hD [2, 3] [0, 1] rfl (by decide) rfl (by decide) (by decide) hku2 hP1 hD1
  have hS := hS1
  clear hS1
  generalize H1 = H at hP hS ⊢
  generalize locs1 = locs at hS ⊢
  have hP : va_P D vwCl ([(x, .inr (11, [.ref st, .ref dr, .ref nw, .ref kp, .ref rd, .ref tm, .ref co])), (rd, .inr (2, [.ref tP, .int (-1), .int (-1), .int 0, .int 37, .int 0, .ref tX])), (tP, .inr (7, [.ref bY, .ref ki, .ref at_, .ref nu, .int 4, .int 0])), (bY, .inl (cI, 300, .inl g_5))]) H := hP
  have hD : va_D A ([(x, .inr (11, [.ref st, .ref dr, .ref nw, .ref kp, .ref rd, .ref tm, .ref co])), (rd, .inr (2, [.ref tP, .int (-1), .int (-1), .int 0, .int 37, .int 0, .ref tX])), (tP, .inr (7, [.ref bY, .ref ki, .ref at_, .ref nu, .int 4, .int 0])), (bY, .inl (cI, 300, .inl g_5))]) := hD
  refine lv_aload_n hx hb dX11_feed_32 rfl (lv_at hl 0 rfl) ?_
  refine z_get Z i_X11 hP 0 rfl rfl 4 (by decide) bw_472 rfl dX11_feed_33 ?_
  refine z_get Z i_X2 hP 1 rfl rfl 0 (by decide) bw_422 rfl dX11_feed_36 ?_
  refine lv_iload_n hx hb dX11_feed_39 rfl (lv_at hl 2 rfl) ?_
  have hPc := hP.sub2 (wc := [(tP, .inr (7, [.ref bY, .ref ki, .ref at_, .ref nu, .int 4, .int 0])), (bY, .inl (cI, 300, .inl g_5))]) [2, 3] rfl
  have hDc := hD.sub (ws' := [(tP, .inr (7, [.ref bY, .ref ki, .ref at_, .ref nu, .int 4, .int 0])), (bY, .inl (cI, 300, .inl g_5))]) [2, 3] (by decide) rfl
  refine raw_Vv (ci := 7) (q0 := 0) (nA := 1) (As := [.int p1]) (rest := []) Z hl.1 (c_X7_take_4 l D cI cM cT tP bY ki at_ nu g_5 p1) (bw_V bw_539 bw_540 bw_541 bw_90 bw_542) ⟨by decide +kernel, by decide +kernel, by decide +kernel⟩ rfl ⟨Nat.le_of_ble_eq_true rfl, Nat.le_of_ble_eq_true rfl⟩ rfl rfl rfl hPc hDc hS rfl (Nat.le_of_ble_eq_true rfl) dX11_feed_40 ⟨Nat.le_of_ble_eq_true rfl, Nat.le_of_ble_eq_true rfl⟩ (fun u6 H1 locs1 h8 hku6 hP1 hD1 hS1 => ?_)
  obtain ⟨g_9, rfl⟩ := h8
  obtain ⟨hP, hD⟩ := z_join (wr := [(x, .inr (11, [.ref st, .ref dr, .ref nw, .ref kp, .ref rd, .ref tm, .ref co])), (rd, .inr (2, [.ref tP, .int (-1), .int (-1), .int 0, .int 37, .int 0, .ref tX]))]) Z hS hP hD [2, 3] [0, 1] rfl (by decide) rfl (by decide) (by decide) hku6 hP1 hD1
  have hS := hS1
  clear hS1
  generalize H1 = H at hP hS ⊢
  generalize locs1 = locs at hS ⊢
  have hP : va_P D vwCl ([(x, .inr (11, [.ref st, .ref dr, .ref nw, .ref kp, .ref rd, .ref tm, .ref co])), (rd, .inr (2, [.ref tP, .int (-1), .int (-1), .int 0, .int 37, .int 0, .ref tX])), (tP, .inr (7, [.ref bY, .ref ki, .ref at_, .ref nu, .int 8, .int 0])), (bY, .inl (cI, 300, .inl g_9))]) H := hP
  have hD : va_D A ([(x, .inr (11, [.ref st, .ref dr, .ref nw, .ref kp, .ref rd, .ref tm, .ref co])), (rd, .inr (2, [.ref tP, .int (-1), .int (-1), .int 0, .int 37, .int 0, .ref tX])), (tP, .inr (7, [.ref bY, .ref ki, .ref at_, .ref nu, .int 8, .int 0])), (bY, .inl (cI, 300, .inl g_9))]) := hD
  refine lv_aload_n hx hb dX11_feed_43 rfl (lv_at hl 0 rfl) ?_
  refine z_get Z i_X11 hP 0 rfl rfl 4 (by decide) bw_472 rfl dX11_feed_44 ?_
  refine z_get Z i_X2 hP 1 rfl rfl 0 (by decide) bw_422 rfl dX11_feed_47 ?_
  refine lv_iload_n hx hb dX11_feed_50 rfl (lv_at hl 3 rfl) ?_
  have hPc := hP.sub2 (wc := [(tP, .inr (7, [.ref bY, .ref ki, .ref at_, .ref nu, .int 8, .int 0])), (bY, .inl (cI, 300, .inl g_9))]) [2, 3] rfl
  have hDc := hD.sub (ws' := [(tP, .inr (7, [.ref bY, .ref ki, .ref at_, .ref nu, .int 8, .int 0])), (bY, .inl (cI, 300, .inl g_9))]) [2, 3] (by decide) rfl
  refine raw_Vv (ci := 7) (q0 := 0) (nA := 1) (As := [.int p2]) (rest := []) Z hl.1 (c_X7_take_8 l D cI cM cT tP bY ki at_ nu g_9 p2) (bw_V bw_539 bw_540 bw_541 bw_90 bw_542) ⟨by decide +kernel, by decide +kernel, by decide +kernel⟩ rfl ⟨Nat.le_of_ble_eq_true rfl, Nat.le_of_ble_eq_true rfl⟩ rfl rfl rfl hPc hDc hS rfl (Nat.le_of_ble_eq_true rfl) dX11_feed_51 ⟨Nat.le_of_ble_eq_true rfl, Nat.le_of_ble_eq_true rfl⟩ (fun u10 H1 locs1 h12 hku10 hP1 hD1 hS1 => ?_)
  obtain ⟨g_13, rfl⟩ := h12
  obtain ⟨hP, hD⟩ := z_join (wr := [(x, .inr (11, [.ref st, .ref dr, .ref nw, .ref kp, .ref rd, .ref tm, .ref co])), (rd, .inr (2, [.ref tP, .int (-1), .int (-1), .int 0, .int 37, .int 0, .ref tX]))]) Z hS hP hD [2, 3] [0, 1] rfl (by decide) rfl (by decide) (by decide) hku10 hP1 hD1
  have hS := hS1
  clear hS1
  generalize H1 = H at hP hS ⊢
  generalize locs1 = locs at hS ⊢
  have hP : va_P D vwCl ([(x, .inr (11, [.ref st, .ref dr, .ref nw, .ref kp, .ref rd, .ref tm, .ref co])), (rd, .inr (2, [.ref tP, .int (-1), .int (-1), .int 0, .int 37, .int 0, .ref tX])), (tP, .inr (7, [.ref bY, .ref ki, .ref at_, .ref nu, .int 12, .int 0])), (bY, .inl (cI, 300, .inl g_13))]) H := hP
  have hD : va_D A ([(x, .inr (11, [.ref st, .ref dr, .ref nw, .ref kp, .ref rd, .ref tm, .ref co])), (rd, .inr (2, [.ref tP, .int (-1), .int (-1), .int 0, .int 37, .int 0, .ref tX])), (tP, .inr (7, [.ref bY, .ref ki, .ref at_, .ref nu, .int 12, .int 0])), (bY, .inl (cI, 300, .inl g_13))]) := hD
  refine lv_aload_n hx hb dX11_feed_54 rfl (lv_at hl 0 rfl) ?_
  refine z_get Z i_X11 hP 0 rfl rfl 4 (by decide) bw_472 rfl dX11_feed_55 ?_
  refine z_get Z i_X2 hP 1 rfl rfl 0 (by decide) bw_422 rfl dX11_feed_58 ?_
  refine lv_iload hx hb dX11_feed_61 (lv_at hl 4 rfl) ?_
  have hPc := hP.sub2 (wc := [(tP, .inr (7, [.ref bY, .ref ki, .ref at_, .ref nu, .int 12, .int 0])), (bY, .inl (cI, 300, .inl g_13))]) [2, 3] rfl
  have hDc := hD.sub (ws' := [(tP, .inr (7, [.ref bY, .ref ki, .ref at_, .ref nu, .int 12, .int 0])), (bY, .inl (cI, 300, .inl g_13))]) [2, 3] (by decide) rfl
  refine raw_Vv (ci := 7) (q0 := 0) (nA := 1) (As := [.int p3]) (rest := []) Z hl.1 (c_X7_take_12 l D cI cM cT tP bY ki at_ nu g_13 p3) (bw_V bw_539 bw_540 bw_541 bw_90 bw_542) ⟨by decide +kernel, by decide +kernel, by decide +kernel⟩ rfl ⟨Nat.le_of_ble_eq_true rfl, Nat.le_of_ble_eq_true rfl⟩ rfl rfl rfl hPc hDc hS rfl (Nat.le_of_ble_eq_true rfl) dX11_feed_63 ⟨Nat.le_of_ble_eq_true rfl, Nat.le_of_ble_eq_true rfl⟩ (fun u14 H1 locs1 h16 hku14 hP1 hD1 hS1 => ?_)
  obtain ⟨g_17, rfl⟩ := h16
  obtain ⟨hP, hD⟩ := z_join (wr := [(x, .inr (11, [.ref st, .ref dr, .ref nw, .ref kp, .ref rd, .ref tm, .ref co])), (rd, .inr (2, [.ref tP, .int (-1), .int (-1), .int 0, .int 37, .int 0, .ref tX]))]) Z hS hP hD [2, 3] [0, 1] rfl (by decide) rfl (by decide) (by decide) hku14 hP1 hD1
  have hS := hS1
  clear hS1
  generalize H1 = H at hP hS ⊢
  generalize locs1 = locs at hS ⊢
  have hP : va_P D vwCl ([(x, .inr (11, [.ref st, .ref dr, .ref nw, .ref kp, .ref rd, .ref tm, .ref co])), (rd, .inr (2, [.ref tP, .int (-1), .int (-1), .int 0, .int 37, .int 0, .ref tX])), (tP, .inr (7, [.ref bY, .ref ki, .ref at_, .ref nu, .int 16, .int 0])), (bY, .inl (cI, 300, .inl g_17))]) H := hP
  have hD : va_D A ([(x, .inr (11, [.ref st, .ref dr, .ref nw, .ref kp, .ref rd, .ref tm, .ref co])), (rd, .inr (2, [.ref tP, .int (-1), .int (-1), .int 0, .int 37, .int 0, .ref tX])), (tP, .inr (7, [.ref bY, .ref ki, .ref at_, .ref nu, .int 16, .int 0])), (bY, .inl (cI, 300, .inl g_17))]) := hD
  refine lv_aload_n hx hb dX11_feed_66 rfl (lv_at hl 0 rfl) ?_
  refine z_get Z i_X11 hP 0 rfl rfl 4 (by decide) bw_472 rfl dX11_feed_67 ?_
  refine z_get Z i_X2 hP 1 rfl rfl 0 (by decide) bw_422 rfl dX11_feed_70 ?_
  refine lv_iload hx hb dX11_feed_73 (lv_at hl 5 rfl) ?_
  have hPc := hP.sub2 (wc := [(tP, .inr (7, [.ref bY, .ref ki, .ref at_, .ref nu, .int 16, .int 0])), (bY, .inl (cI, 300, .inl g_17))]) [2, 3] rfl
  have hDc := hD.sub (ws' := [(tP, .inr (7, [.ref bY, .ref ki, .ref at_, .ref nu, .int 16, .int 0])), (bY, .inl (cI, 300, .inl g_17))]) [2, 3] (by decide) rfl
  refine raw_Vv (ci := 7) (q0 := 0) (nA := 1) (As := [.int p4]) (rest := []) Z hl.1 (c_X7_take_16 l D cI cM cT tP bY ki at_ nu g_17 p4) (bw_V bw_539 bw_540 bw_541 bw_90 bw_542) ⟨by decide +kernel, by decide +kernel, by decide +kernel⟩ rfl ⟨Nat.le_of_ble_eq_true rfl, Nat.le_of_ble_eq_true rfl⟩ rfl rfl rfl hPc hDc hS rfl (Nat.le_of_ble_eq_true rfl) dX11_feed_75 ⟨Nat.le_of_ble_eq_true rfl, Nat.le_of_ble_eq_true rfl⟩ (fun u18 H1 locs1 h20 hku18 hP1 hD1 hS1 => ?_)
  obtain ⟨g_21, rfl⟩ := h20
  obtain ⟨hP, hD⟩ := z_join (wr := [(x, .inr (11, [.ref st, .ref dr, .ref nw, .ref kp, .ref rd, .ref tm, .ref co])), (rd, .inr (2, [.ref tP, .int (-1), .int (-1), .int 0, .int 37, .int 0, .ref tX]))]) Z hS hP hD [2, 3] [0, 1] rfl (by decide) rfl (by decide) (by decide) hku18 hP1 hD1
  have hS := hS1
  clear hS1
  generalize H1 = H at hP hS ⊢
  generalize locs1 = locs at hS ⊢
  have hP : va_P D vwCl ([(x, .inr (11, [.ref st, .ref dr, .ref nw, .ref kp, .ref rd, .ref tm, .ref co])), (rd, .inr (2, [.ref tP, .int (-1), .int (-1), .int 0, .int 37, .int 0, .ref tX])), (tP, .inr (7, [.ref bY, .ref ki, .ref at_, .ref nu, .int 20, .int 0])), (bY, .inl (cI, 300, .inl g_21))]) H := hP
  have hD : va_D A ([(x, .inr (11, [.ref st, .ref dr, .ref nw, .ref kp, .ref rd, .ref tm, .ref co])), (rd, .inr (2, [.ref tP, .int (-1), .int (-1), .int 0, .int 37, .int 0, .ref tX])), (tP, .inr (7, [.ref bY, .ref ki, .ref at_, .ref nu, .int 20, .int 0])), (bY, .inl (cI, 300, .inl g_21))]) := hD
  refine lv_aload_n hx hb dX11_feed_78 rfl (lv_at hl 0 rfl) ?_
  refine z_get Z i_X11 hP 0 rfl rfl 4 (by decide) bw_472 rfl dX11_feed_79 ?_
  refine z_get Z i_X2 hP 1 rfl rfl 0 (by decide) bw_422 rfl dX11_feed_82 ?_
  refine z_get Z i_X7 hP 2 rfl rfl 4 (by decide) bw_403 rfl dX11_feed_85 ?_
  exact z_ret Z rfl hP hD hS ((by first | rfl | assumption)) dX11_feed_88 (Nat.le_of_ble_eq_true rfl) (Nat.le_of_ble_eq_true rfl)
set_option maxHeartbeats 4000000 in
set_option maxRecDepth 100000 in
theorem c_X9_clear (l : Launch) (D : va_G) (cI cM cT : ClassId) (t0 : Nat) (cd : Nat) (lF : Nat) (lT : Nat) (cK : Nat) (cM_ : Nat) (n1 : Int32) (n2 : Int32) (f1 : Nat → Int32) (f2 : Nat → Int32) : Cv l D (ty3 cI cM cT) yX9_clear cX9_clear 1 1 0 0 [.ref t0] ([(t0, .inr (9, [.ref cd, .ref lF, .ref lT, .ref cK, .ref cM_, .int n1, .int n2])), (lF, .inl (cI, 4, .inl f1)), (lT, .inl (cI, 4, .inl f2))]) (fun u => ∃ (g1 : Nat → Int32) (g2 : Nat → Int32), u = [(t0, .inr (9, [.ref cd, .ref lF, .ref lT, .ref cK, .ref cM_, .int 0, .int 0])), (lF, .inl (cI, 4, .inl g1)), (lT, .inl (cI, 4, .inl g2))]) := by
  refine Cv.of (by decide +kernel) (Nat.le_of_ble_eq_true rfl) ?_
  intro p e s m below meth c A ls Z hin hP hD hl
  have hx := Z.1
  have hb := Z.2.1
  have hS : va_S A s.heap s.heap [] := va_S.rf
  have hl : lv_has ls 1 [(0, .ref t0)] := hl
  skip
  refine lv_aload_n hx hb dX9_clear_0 rfl (lv_at hl 0 rfl) ?_
  refine lv_iconst (v := 0) hx hb dX9_clear_1 (by decide) ?_
  refine z_put Z i_X9 tyX9 tyX9_ok nmX9 hP hD hS 0 rfl rfl 5 (by decide) bw_310 rfl rfl rfl (Nat.le_of_ble_eq_true rfl) dX9_clear_2 (fun H locs hP hD hS => ?_)
  have hP : va_P D vwCl ([(t0, .inr (9, [.ref cd, .ref lF, .ref lT, .ref cK, .ref cM_, .int 0, .int n2])), (lF, .inl (cI, 4, .inl f1)), (lT, .inl (cI, 4, .inl f2))]) H := hP
  have hD : va_D A ([(t0, .inr (9, [.ref cd, .ref lF, .ref lT, .ref cK, .ref cM_, .int 0, .int n2])), (lF, .inl (cI, 4, .inl f1)), (lT, .inl (cI, 4, .inl f2))]) := hD
  refine lv_aload_n hx hb dX9_clear_5 rfl (lv_at hl 0 rfl) ?_
  refine lv_iconst (v := 0) hx hb dX9_clear_6 (by decide) ?_
  refine z_put Z i_X9 tyX9 tyX9_ok nmX9 hP hD hS 0 rfl rfl 6 (by decide) bw_312 rfl rfl rfl (Nat.le_of_ble_eq_true rfl) dX9_clear_7 (fun H locs hP hD hS => ?_)
  have hP : va_P D vwCl ([(t0, .inr (9, [.ref cd, .ref lF, .ref lT, .ref cK, .ref cM_, .int 0, .int 0])), (lF, .inl (cI, 4, .inl f1)), (lT, .inl (cI, 4, .inl f2))]) H := hP
  have hD : va_D A ([(t0, .inr (9, [.ref cd, .ref lF, .ref lT, .ref cK, .ref cM_, .int 0, .int 0])), (lF, .inl (cI, 4, .inl f1)), (lT, .inl (cI, 4, .inl f2))]) := hD
  refine lv_aload_n hx hb dX9_clear_10 rfl (lv_at hl 0 rfl) ?_
  refine z_get Z i_X9 hP 0 rfl rfl 1 (by decide) bw_300 rfl dX9_clear_11 ?_
  refine lv_iconst (v := 0) hx hb dX9_clear_14 (by decide) ?_
  have hPc := hP.sub2 (wc := [(lF, .inl (cI, 4, .inl f1))]) [1] rfl
  have hDc := hD.sub (ws' := [(lF, .inl (cI, 4, .inl f1))]) [1] (by decide) rfl
  refine raw_Sv (nA := 2) (As := [.ref lF, .int 0]) (rest := []) Z hl.1 (c_J7_fill_53178 l D cI cM cT lF 4 f1 0 (by omega)) (bw_S bw_559 bw_560 bw_94 bw_561) ⟨by decide +kernel, by decide +kernel, by decide +kernel⟩ rfl ⟨Nat.le_of_ble_eq_true rfl, Nat.le_of_ble_eq_true rfl⟩ hPc hDc hS rfl (Nat.le_of_ble_eq_true rfl) dX9_clear_15 ⟨Nat.le_of_ble_eq_true rfl, Nat.le_of_ble_eq_true rfl⟩ (fun u1 H1 locs1 h3 hku1 hP1 hD1 hS1 => ?_)
  obtain ⟨g_4, rfl, huh3_0⟩ := h3
  obtain ⟨hP, hD⟩ := z_join (wr := [(t0, .inr (9, [.ref cd, .ref lF, .ref lT, .ref cK, .ref cM_, .int 0, .int 0])), (lT, .inl (cI, 4, .inl f2))]) Z hS hP hD [1] [0, 2] rfl (by decide) rfl (by decide) (by decide) hku1 hP1 hD1
  have hS := hS1
  clear hS1
  generalize H1 = H at hP hS ⊢
  generalize locs1 = locs at hS ⊢
  have hP : va_P D vwCl ([(t0, .inr (9, [.ref cd, .ref lF, .ref lT, .ref cK, .ref cM_, .int 0, .int 0])), (lT, .inl (cI, 4, .inl f2)), (lF, .inl (cI, 4, .inl g_4))]) H := hP
  have hD : va_D A ([(t0, .inr (9, [.ref cd, .ref lF, .ref lT, .ref cK, .ref cM_, .int 0, .int 0])), (lT, .inl (cI, 4, .inl f2)), (lF, .inl (cI, 4, .inl g_4))]) := hD
  refine lv_aload_n hx hb dX9_clear_18 rfl (lv_at hl 0 rfl) ?_
  refine z_get Z i_X9 hP 0 rfl rfl 2 (by decide) bw_303 rfl dX9_clear_19 ?_
  refine lv_iconst (v := 0) hx hb dX9_clear_22 (by decide) ?_
  have hPc := hP.sub2 (wc := [(lT, .inl (cI, 4, .inl f2))]) [1] rfl
  have hDc := hD.sub (ws' := [(lT, .inl (cI, 4, .inl f2))]) [1] (by decide) rfl
  refine raw_Sv (nA := 2) (As := [.ref lT, .int 0]) (rest := []) Z hl.1 (c_J7_fill_53178 l D cI cM cT lT 4 f2 0 (by omega)) (bw_S bw_559 bw_560 bw_94 bw_561) ⟨by decide +kernel, by decide +kernel, by decide +kernel⟩ rfl ⟨Nat.le_of_ble_eq_true rfl, Nat.le_of_ble_eq_true rfl⟩ hPc hDc hS rfl (Nat.le_of_ble_eq_true rfl) dX9_clear_23 ⟨Nat.le_of_ble_eq_true rfl, Nat.le_of_ble_eq_true rfl⟩ (fun u5 H1 locs1 h7 hku5 hP1 hD1 hS1 => ?_)
  obtain ⟨g_8, rfl, huh7_0⟩ := h7
  obtain ⟨hP, hD⟩ := z_join (wr := [(t0, .inr (9, [.ref cd, .ref lF, .ref lT, .ref cK, .ref cM_, .int 0, .int 0])), (lF, .inl (cI, 4, .inl g_4))]) Z hS hP hD [1] [0, 2] rfl (by decide) rfl (by decide) (by decide) hku5 hP1 hD1
  have hS := hS1
  clear hS1
  generalize H1 = H at hP hS ⊢
  generalize locs1 = locs at hS ⊢
  have hP : va_P D vwCl ([(t0, .inr (9, [.ref cd, .ref lF, .ref lT, .ref cK, .ref cM_, .int 0, .int 0])), (lF, .inl (cI, 4, .inl g_4)), (lT, .inl (cI, 4, .inl g_8))]) H := hP
  have hD : va_D A ([(t0, .inr (9, [.ref cd, .ref lF, .ref lT, .ref cK, .ref cM_, .int 0, .int 0])), (lF, .inl (cI, 4, .inl g_4)), (lT, .inl (cI, 4, .inl g_8))]) := hD
  exact z_vret Z hP hD hS (⟨g_4, g_8, rfl⟩) dX9_clear_26 (Nat.le_of_ble_eq_true rfl) (Nat.le_of_ble_eq_true rfl)
set_option maxHeartbeats 4000000 in
set_option maxRecDepth 100000 in
theorem c_X7_put (l : Launch) (D : va_G) (cI cM cT : ClassId) (tP : Nat) (bY : Nat) (ki : Nat) (at_ : Nat) (nu : Nat) (f1 : Nat → Int32) (f2 : Nat → Int32) (f3 : Nat → Int32) (w1 : Int32) (w2 : Int32) (w3 : Int32) : Cv l D (ty3 cI cM cT) yX7_put cX7_put 4 0 0 0 [.ref tP, .int w1, .int w2, .int w3] ([(tP, .inr (7, [.ref bY, .ref ki, .ref at_, .ref nu, .int 0, .int 0])), (ki, .inl (cI, 301, .inl f1)), (at_, .inl (cI, 301, .inl f2)), (nu, .inl (cI, 301, .inl f3))]) (fun u => u = [(tP, .inr (7, [.ref bY, .ref ki, .ref at_, .ref nu, .int 0, .int 1])), (ki, .inl (cI, 301, .inl (upd f1 (0 : Int32).toNatClampNeg w1))), (at_, .inl (cI, 301, .inl (upd f2 (0 : Int32).toNatClampNeg w2))), (nu, .inl (cI, 301, .inl (upd f3 (0 : Int32).toNatClampNeg w3)))]) := by
  refine Cv.of (by decide +kernel) (Nat.le_of_ble_eq_true rfl) ?_
  intro p e s m below meth c A ls Z hin hP hD hl
  have hx := Z.1
  have hb := Z.2.1
  have hS : va_S A s.heap s.heap [] := va_S.rf
  have hl : lv_has ls 4 [(0, .ref tP), (1, .int w1), (2, .int w2), (3, .int w3)] := hl
  skip
  refine lv_aload_n hx hb dX7_put_0 rfl (lv_at hl 0 rfl) ?_
  refine z_get Z i_X7 hP 0 rfl rfl 5 (by decide) bw_404 rfl dX7_put_1 ?_
  refine lv_sipush (v := 300) hx hb dX7_put_4 (by decide) ?_
  refine lv_icmp_gt (tgt := 50) hx hb dX7_put_7 (by decide) (fun h => absurd h (by decide)) (fun c1 => ?_)
  refine lv_aload_n hx hb dX7_put_10 rfl (lv_at hl 0 rfl) ?_
  refine z_get Z i_X7 hP 0 rfl rfl 1 (by decide) bw_396 rfl dX7_put_11 ?_
  refine lv_aload_n hx hb dX7_put_14 rfl (lv_at hl 0 rfl) ?_
  refine z_get Z i_X7 hP 0 rfl rfl 5 (by decide) bw_404 rfl dX7_put_15 ?_
  refine lv_iload_n hx hb dX7_put_18 rfl (lv_at hl 1 rfl) ?_
  refine z_iast Z hP hD hS 1 0 rfl rfl (vin (by decide)) dX7_put_19 (fun H locs hP hD hS => ?_)
  have hP : va_P D vwCl ([(tP, .inr (7, [.ref bY, .ref ki, .ref at_, .ref nu, .int 0, .int 0])), (ki, .inl (cI, 301, .inl (upd f1 (0 : Int32).toNatClampNeg w1))), (at_, .inl (cI, 301, .inl f2)), (nu, .inl (cI, 301, .inl f3))]) H := hP
  have hD : va_D A ([(tP, .inr (7, [.ref bY, .ref ki, .ref at_, .ref nu, .int 0, .int 0])), (ki, .inl (cI, 301, .inl (upd f1 (0 : Int32).toNatClampNeg w1))), (at_, .inl (cI, 301, .inl f2)), (nu, .inl (cI, 301, .inl f3))]) := hD
  refine lv_aload_n hx hb dX7_put_20 rfl (lv_at hl 0 rfl) ?_
  refine z_get Z i_X7 hP 0 rfl rfl 2 (by decide) bw_398 rfl dX7_put_21 ?_
  refine lv_aload_n hx hb dX7_put_24 rfl (lv_at hl 0 rfl) ?_
  refine z_get Z i_X7 hP 0 rfl rfl 5 (by decide) bw_404 rfl dX7_put_25 ?_
  refine lv_iload_n hx hb dX7_put_28 rfl (lv_at hl 2 rfl) ?_
  refine z_iast Z hP hD hS 2 0 rfl rfl (vin (by decide)) dX7_put_29 (fun H locs hP hD hS => ?_)
  have hP : va_P D vwCl ([(tP, .inr (7, [.ref bY, .ref ki, .ref at_, .ref nu, .int 0, .int 0])), (ki, .inl (cI, 301, .inl (upd f1 (0 : Int32).toNatClampNeg w1))), (at_, .inl (cI, 301, .inl (upd f2 (0 : Int32).toNatClampNeg w2))), (nu, .inl (cI, 301, .inl f3))]) H := hP
  have hD : va_D A ([(tP, .inr (7, [.ref bY, .ref ki, .ref at_, .ref nu, .int 0, .int 0])), (ki, .inl (cI, 301, .inl (upd f1 (0 : Int32).toNatClampNeg w1))), (at_, .inl (cI, 301, .inl (upd f2 (0 : Int32).toNatClampNeg w2))), (nu, .inl (cI, 301, .inl f3))]) := hD
  refine lv_aload_n hx hb dX7_put_30 rfl (lv_at hl 0 rfl) ?_
  refine z_get Z i_X7 hP 0 rfl rfl 3 (by decide) bw_400 rfl dX7_put_31 ?_
  refine lv_aload_n hx hb dX7_put_34 rfl (lv_at hl 0 rfl) ?_
  refine z_get Z i_X7 hP 0 rfl rfl 5 (by decide) bw_404 rfl dX7_put_35 ?_
  refine lv_iload_n hx hb dX7_put_38 rfl (lv_at hl 3 rfl) ?_
  refine z_iast Z hP hD hS 3 0 rfl rfl (vin (by decide)) dX7_put_39 (fun H locs hP hD hS => ?_)
  have hP : va_P D vwCl ([(tP, .inr (7, [.ref bY, .ref ki, .ref at_, .ref nu, .int 0, .int 0])), (ki, .inl (cI, 301, .inl (upd f1 (0 : Int32).toNatClampNeg w1))), (at_, .inl (cI, 301, .inl (upd f2 (0 : Int32).toNatClampNeg w2))), (nu, .inl (cI, 301, .inl (upd f3 (0 : Int32).toNatClampNeg w3)))]) H := hP
  have hD : va_D A ([(tP, .inr (7, [.ref bY, .ref ki, .ref at_, .ref nu, .int 0, .int 0])), (ki, .inl (cI, 301, .inl (upd f1 (0 : Int32).toNatClampNeg w1))), (at_, .inl (cI, 301, .inl (upd f2 (0 : Int32).toNatClampNeg w2))), (nu, .inl (cI, 301, .inl (upd f3 (0 : Int32).toNatClampNeg w3)))]) := hD
  refine lv_aload_n hx hb dX7_put_40 rfl (lv_at hl 0 rfl) ?_
  refine lv_dup hx hb dX7_put_41 rfl ?_
  refine z_get Z i_X7 hP 0 rfl rfl 5 (by decide) bw_404 rfl dX7_put_42 ?_
  refine lv_iconst (v := 1) hx hb dX7_put_45 (by decide) ?_
  refine lv_iadd hx hb dX7_put_46 ?_
  refine z_topi (y := 1) (by decide) ?_
  refine z_put Z i_X7 tyX7 tyX7_ok nmX7 hP hD hS 0 rfl rfl 5 (by decide) bw_404 rfl rfl rfl (Nat.le_of_ble_eq_true rfl) dX7_put_47 (fun H locs hP hD hS => ?_)
  have hP : va_P D vwCl ([(tP, .inr (7, [.ref bY, .ref ki, .ref at_, .ref nu, .int 0, .int 1])), (ki, .inl (cI, 301, .inl (upd f1 (0 : Int32).toNatClampNeg w1))), (at_, .inl (cI, 301, .inl (upd f2 (0 : Int32).toNatClampNeg w2))), (nu, .inl (cI, 301, .inl (upd f3 (0 : Int32).toNatClampNeg w3)))]) H := hP
  have hD : va_D A ([(tP, .inr (7, [.ref bY, .ref ki, .ref at_, .ref nu, .int 0, .int 1])), (ki, .inl (cI, 301, .inl (upd f1 (0 : Int32).toNatClampNeg w1))), (at_, .inl (cI, 301, .inl (upd f2 (0 : Int32).toNatClampNeg w2))), (nu, .inl (cI, 301, .inl (upd f3 (0 : Int32).toNatClampNeg w3)))]) := hD
  exact z_vret Z hP hD hS (rfl) dX7_put_50 (Nat.le_of_ble_eq_true rfl) (Nat.le_of_ble_eq_true rfl)
set_option maxHeartbeats 4000000 in
set_option maxRecDepth 100000 in
theorem c_X7_split (l : Launch) (D : va_G) (cI cM cT : ClassId) (tP : Nat) (bY : Nat) (ki : Nat) (at_ : Nat) (nu : Nat) (f1 : Nat → Int32) (f2 : Nat → Int32) (f3 : Nat → Int32) : Cv l D (ty3 cI cM cT) yX7_split cX7_split 3 1 0 0 [.ref tP] ([(tP, .inr (7, [.ref bY, .ref ki, .ref at_, .ref nu, .int 0, .int 0])), (ki, .inl (cI, 301, .inl f1)), (at_, .inl (cI, 301, .inl f2)), (nu, .inl (cI, 301, .inl f3))]) (fun u => u = [(tP, .inr (7, [.ref bY, .ref ki, .ref at_, .ref nu, .int 0, .int 1])), (ki, .inl (cI, 301, .inl (upd f1 (0 : Int32).toNatClampNeg 37))), (at_, .inl (cI, 301, .inl (upd f2 (0 : Int32).toNatClampNeg 0))), (nu, .inl (cI, 301, .inl (upd f3 (0 : Int32).toNatClampNeg 0)))]) := by
  refine Cv.of (by decide +kernel) (Nat.le_of_ble_eq_true rfl) ?_
  intro p e s m below meth c A ls Z hin hP hD hl
  have hx := Z.1
  have hb := Z.2.1
  have hS : va_S A s.heap s.heap [] := va_S.rf
  have hl : lv_has ls 3 [(0, .ref tP)] := hl
  skip
  refine lv_aload_n hx hb dX7_split_0 rfl (lv_at hl 0 rfl) ?_
  refine lv_iconst (v := 0) hx hb dX7_split_1 (by decide) ?_
  refine z_put Z i_X7 tyX7 tyX7_ok nmX7 hP hD hS 0 rfl rfl 5 (by decide) bw_404 rfl rfl rfl (Nat.le_of_ble_eq_true rfl) dX7_split_2 (fun H locs hP hD hS => ?_)
  have hP : va_P D vwCl ([(tP, .inr (7, [.ref bY, .ref ki, .ref at_, .ref nu, .int 0, .int 0])), (ki, .inl (cI, 301, .inl f1)), (at_, .inl (cI, 301, .inl f2)), (nu, .inl (cI, 301, .inl f3))]) H := hP
  have hD : va_D A ([(tP, .inr (7, [.ref bY, .ref ki, .ref at_, .ref nu, .int 0, .int 0])), (ki, .inl (cI, 301, .inl f1)), (at_, .inl (cI, 301, .inl f2)), (nu, .inl (cI, 301, .inl f3))]) := hD
  refine lv_iconst (v := 0) hx hb dX7_split_5 (by decide) ?_
  refine lv_istore_n (lv' := [(1, .int 0), (0, .ref tP)]) hx hb dX7_split_6 rfl hl (by decide) rfl (fun ls hl => ?_)
  refine lv_iconst (v := 0) hx hb dX7_split_7 (by decide) ?_
  refine lv_istore_n (lv' := [(2, .int 0), (1, .int 0), (0, .ref tP)]) hx hb dX7_split_8 rfl hl (by decide) rfl (fun ls hl => ?_)
  refine lv_iload_n hx hb dX7_split_9 rfl (lv_at hl 0 rfl) ?_
  refine lv_sipush (v := 300) hx hb dX7_split_10 (by decide) ?_
  refine lv_icmp_ge (tgt := 64) hx hb dX7_split_13 (by decide) (fun h => absurd h (by decide)) (fun c1 => ?_)
  refine lv_iload_n hx hb dX7_split_16 rfl (lv_at hl 1 rfl) ?_
  refine lv_aload_n hx hb dX7_split_17 rfl (lv_at hl 2 rfl) ?_
  refine z_get Z i_X7 hP 0 rfl rfl 4 (by decide) bw_402 rfl dX7_split_18 ?_
  refine lv_icmp_ge (tgt := 64) hx hb dX7_split_21 (by decide) (fun c2 => ?_) (fun h => absurd (by decide) h)
  refine lv_aload_n hx hb dX7_split_64 rfl (lv_at hl 2 rfl) ?_
  refine lv_bipush (v := 37) hx hb dX7_split_65 (by decide) ?_
  refine lv_aload_n hx hb dX7_split_67 rfl (lv_at hl 2 rfl) ?_
  refine z_get Z i_X7 hP 0 rfl rfl 4 (by decide) bw_402 rfl dX7_split_68 ?_
  refine lv_iconst (v := 0) hx hb dX7_split_71 (by decide) ?_
  have hPc := hP.sub2 (wc := [(tP, .inr (7, [.ref bY, .ref ki, .ref at_, .ref nu, .int 0, .int 0])), (ki, .inl (cI, 301, .inl f1)), (at_, .inl (cI, 301, .inl f2)), (nu, .inl (cI, 301, .inl f3))]) [0, 1, 2, 3] rfl
  have hDc := hD.sub (ws' := [(tP, .inr (7, [.ref bY, .ref ki, .ref at_, .ref nu, .int 0, .int 0])), (ki, .inl (cI, 301, .inl f1)), (at_, .inl (cI, 301, .inl f2)), (nu, .inl (cI, 301, .inl f3))]) [0, 1, 2, 3] (by decide) rfl
  refine raw_Vv (ci := 7) (q0 := 0) (nA := 3) (As := [.int 37, .int 0, .int 0]) (rest := []) Z hl.1 (c_X7_put l D cI cM cT tP bY ki at_ nu f1 f2 f3 37 0 0) (bw_V bw_631 bw_633 bw_3 bw_90 bw_634) ⟨by decide +kernel, by decide +kernel, by decide +kernel⟩ rfl ⟨Nat.le_of_ble_eq_true rfl, Nat.le_of_ble_eq_true rfl⟩ rfl rfl rfl hPc hDc hS rfl (Nat.le_of_ble_eq_true rfl) dX7_split_72 ⟨Nat.le_of_ble_eq_true rfl, Nat.le_of_ble_eq_true rfl⟩ (fun u3 H1 locs1 h5 hku3 hP1 hD1 hS1 => ?_)
  obtain rfl := h5
  obtain ⟨hP, hD⟩ := z_join (wr := []) Z hS hP hD [0, 1, 2, 3] [] rfl (by decide) rfl (by decide) (by decide) hku3 hP1 hD1
  have hS := hS1
  clear hS1
  generalize H1 = H at hP hS ⊢
  generalize locs1 = locs at hS ⊢
  have hP : va_P D vwCl ([(tP, .inr (7, [.ref bY, .ref ki, .ref at_, .ref nu, .int 0, .int 1])), (ki, .inl (cI, 301, .inl (upd f1 (0 : Int32).toNatClampNeg 37))), (at_, .inl (cI, 301, .inl (upd f2 (0 : Int32).toNatClampNeg 0))), (nu, .inl (cI, 301, .inl (upd f3 (0 : Int32).toNatClampNeg 0)))]) H := hP
  have hD : va_D A ([(tP, .inr (7, [.ref bY, .ref ki, .ref at_, .ref nu, .int 0, .int 1])), (ki, .inl (cI, 301, .inl (upd f1 (0 : Int32).toNatClampNeg 37))), (at_, .inl (cI, 301, .inl (upd f2 (0 : Int32).toNatClampNeg 0))), (nu, .inl (cI, 301, .inl (upd f3 (0 : Int32).toNatClampNeg 0)))]) := hD
  exact z_vret Z hP hD hS (rfl) dX7_split_75 (Nat.le_of_ble_eq_true rfl) (Nat.le_of_ble_eq_true rfl)
set_option maxHeartbeats 4000000 in
set_option maxRecDepth 100000 in
theorem c_X2_read (l : Launch) (D : va_G) (cI cM cT : ClassId) (rd : Nat) (tP : Nat) (tX : Nat) (bY : Nat) (ki : Nat) (at_ : Nat) (nu : Nat) (t0 : Nat) (cd : Nat) (lF : Nat) (lT : Nat) (cK : Nat) (cM_ : Nat) : Cv l D (ty3 cI cM cT) yX2_read cX2_read 4 2 0 0 [.ref rd, .ref t0] ([(rd, .inr (2, [.ref tP, .int (-1), .int (-1), .int 0, .int 37, .int 0, .ref tX])), (tP, .inr (7, [.ref bY, .ref ki, .ref at_, .ref nu, .int 0, .int 0])), (ki, .inl (cI, 301, .inl (fun _ => 0))), (at_, .inl (cI, 301, .inl (fun _ => 0))), (nu, .inl (cI, 301, .inl (fun _ => 0))), (t0, .inr (9, [.ref cd, .ref lF, .ref lT, .ref cK, .ref cM_, .int 0, .int 0])), (lF, .inl (cI, 4, .inl (fun _ => 0))), (lT, .inl (cI, 4, .inl (fun _ => 0)))]) (fun u => u = [(rd, .inr (2, [.ref tP, .int 0, .int (-1), .int 0, .int 37, .int 0, .ref t0])), (tP, .inr (7, [.ref bY, .ref ki, .ref at_, .ref nu, .int 0, .int 1]))]) := by
  refine Cv.of (by decide +kernel) (Nat.le_of_ble_eq_true rfl) ?_
  intro p e s m below meth c A ls Z hin hP hD hl
  have hx := Z.1
  have hb := Z.2.1
  have hS : va_S A s.heap s.heap [] := va_S.rf
  have hl : lv_has ls 4 [(0, .ref rd), (1, .ref t0)] := hl
  skip
  refine lv_aload_n hx hb dX2_read_0 rfl (lv_at hl 0 rfl) ?_
  refine lv_aload_n hx hb dX2_read_1 rfl (lv_at hl 1 rfl) ?_
  refine z_put Z i_X2 tyX2 tyX2_ok nmX2 hP hD hS 0 rfl rfl 6 (by decide) bw_430 rfl rfl rfl (Nat.le_of_ble_eq_true rfl) dX2_read_2 (fun H locs hP hD hS => ?_)
  have hP : va_P D vwCl ([(rd, .inr (2, [.ref tP, .int (-1), .int (-1), .int 0, .int 37, .int 0, .ref t0])), (tP, .inr (7, [.ref bY, .ref ki, .ref at_, .ref nu, .int 0, .int 0])), (ki, .inl (cI, 301, .inl (fun _ => 0))), (at_, .inl (cI, 301, .inl (fun _ => 0))), (nu, .inl (cI, 301, .inl (fun _ => 0))), (t0, .inr (9, [.ref cd, .ref lF, .ref lT, .ref cK, .ref cM_, .int 0, .int 0])), (lF, .inl (cI, 4, .inl (fun _ => 0))), (lT, .inl (cI, 4, .inl (fun _ => 0)))]) H := hP
  have hD : va_D A ([(rd, .inr (2, [.ref tP, .int (-1), .int (-1), .int 0, .int 37, .int 0, .ref t0])), (tP, .inr (7, [.ref bY, .ref ki, .ref at_, .ref nu, .int 0, .int 0])), (ki, .inl (cI, 301, .inl (fun _ => 0))), (at_, .inl (cI, 301, .inl (fun _ => 0))), (nu, .inl (cI, 301, .inl (fun _ => 0))), (t0, .inr (9, [.ref cd, .ref lF, .ref lT, .ref cK, .ref cM_, .int 0, .int 0])), (lF, .inl (cI, 4, .inl (fun _ => 0))), (lT, .inl (cI, 4, .inl (fun _ => 0)))]) := hD
  refine lv_aload_n hx hb dX2_read_5 rfl (lv_at hl 0 rfl) ?_
  refine z_get Z i_X2 hP 0 rfl rfl 6 (by decide) bw_430 rfl dX2_read_6 ?_
  have hPc := hP.sub2 (wc := [(t0, .inr (9, [.ref cd, .ref lF, .ref lT, .ref cK, .ref cM_, .int 0, .int 0])), (lF, .inl (cI, 4, .inl (fun _ => 0))), (lT, .inl (cI, 4, .inl (fun _ => 0)))]) [5, 6, 7] rfl
  have hDc := hD.sub (ws' := [(t0, .inr (9, [.ref cd, .ref lF, .ref lT, .ref cK, .ref cM_, .int 0, .int 0])), (lF, .inl (cI, 4, .inl (fun _ => 0))), (lT, .inl (cI, 4, .inl (fun _ => 0)))]) [5, 6, 7] (by decide) rfl
  refine raw_Vv (ci := 9) (q0 := 0) (nA := 0) (As := []) (rest := []) Z hl.1 (c_X9_clear l D cI cM cT t0 cd lF lT cK cM_ 0 0 (fun _ => 0) (fun _ => 0)) (bw_V bw_555 bw_556 bw_557 bw_88 bw_558) ⟨by decide +kernel, by decide +kernel, by decide +kernel⟩ rfl ⟨Nat.le_of_ble_eq_true rfl, Nat.le_of_ble_eq_true rfl⟩ rfl rfl rfl hPc hDc hS rfl (Nat.le_of_ble_eq_true rfl) dX2_read_9 ⟨Nat.le_of_ble_eq_true rfl, Nat.le_of_ble_eq_true rfl⟩ (fun u1 H1 locs1 h3 hku1 hP1 hD1 hS1 => ?_)
  obtain ⟨g1_4, g2_5, rfl⟩ := h3
  obtain ⟨hP, hD⟩ := z_join (wr := [(rd, .inr (2, [.ref tP, .int (-1), .int (-1), .int 0, .int 37, .int 0, .ref t0])), (tP, .inr (7, [.ref bY, .ref ki, .ref at_, .ref nu, .int 0, .int 0])), (ki, .inl (cI, 301, .inl (fun _ => 0))), (at_, .inl (cI, 301, .inl (fun _ => 0))), (nu, .inl (cI, 301, .inl (fun _ => 0)))]) Z hS hP hD [5, 6, 7] [0, 1, 2, 3, 4] rfl (by decide) rfl (by decide) (by decide) hku1 hP1 hD1
  have hS := hS1
  clear hS1
  generalize H1 = H at hP hS ⊢
  generalize locs1 = locs at hS ⊢
  have hP : va_P D vwCl ([(rd, .inr (2, [.ref tP, .int (-1), .int (-1), .int 0, .int 37, .int 0, .ref t0])), (tP, .inr (7, [.ref bY, .ref ki, .ref at_, .ref nu, .int 0, .int 0])), (ki, .inl (cI, 301, .inl (fun _ => 0))), (at_, .inl (cI, 301, .inl (fun _ => 0))), (nu, .inl (cI, 301, .inl (fun _ => 0))), (t0, .inr (9, [.ref cd, .ref lF, .ref lT, .ref cK, .ref cM_, .int 0, .int 0])), (lF, .inl (cI, 4, .inl g1_4)), (lT, .inl (cI, 4, .inl g2_5))]) H := hP
  have hD : va_D A ([(rd, .inr (2, [.ref tP, .int (-1), .int (-1), .int 0, .int 37, .int 0, .ref t0])), (tP, .inr (7, [.ref bY, .ref ki, .ref at_, .ref nu, .int 0, .int 0])), (ki, .inl (cI, 301, .inl (fun _ => 0))), (at_, .inl (cI, 301, .inl (fun _ => 0))), (nu, .inl (cI, 301, .inl (fun _ => 0))), (t0, .inr (9, [.ref cd, .ref lF, .ref lT, .ref cK, .ref cM_, .int 0, .int 0])), (lF, .inl (cI, 4, .inl g1_4)), (lT, .inl (cI, 4, .inl g2_5))]) := hD
  refine lv_aload_n hx hb dX2_read_12 rfl (lv_at hl 0 rfl) ?_
  refine lv_iconst (v := 0) hx hb dX2_read_13 (by decide) ?_
  refine z_put Z i_X2 tyX2 tyX2_ok nmX2 hP hD hS 0 rfl rfl 1 (by decide) bw_423 rfl rfl rfl (Nat.le_of_ble_eq_true rfl) dX2_read_14 (fun H locs hP hD hS => ?_)
  have hP : va_P D vwCl ([(rd, .inr (2, [.ref tP, .int 0, .int (-1), .int 0, .int 37, .int 0, .ref t0])), (tP, .inr (7, [.ref bY, .ref ki, .ref at_, .ref nu, .int 0, .int 0])), (ki, .inl (cI, 301, .inl (fun _ => 0))), (at_, .inl (cI, 301, .inl (fun _ => 0))), (nu, .inl (cI, 301, .inl (fun _ => 0))), (t0, .inr (9, [.ref cd, .ref lF, .ref lT, .ref cK, .ref cM_, .int 0, .int 0])), (lF, .inl (cI, 4, .inl g1_4)), (lT, .inl (cI, 4, .inl g2_5))]) H := hP
  have hD : va_D A ([(rd, .inr (2, [.ref tP, .int 0, .int (-1), .int 0, .int 37, .int 0, .ref t0])), (tP, .inr (7, [.ref bY, .ref ki, .ref at_, .ref nu, .int 0, .int 0])), (ki, .inl (cI, 301, .inl (fun _ => 0))), (at_, .inl (cI, 301, .inl (fun _ => 0))), (nu, .inl (cI, 301, .inl (fun _ => 0))), (t0, .inr (9, [.ref cd, .ref lF, .ref lT, .ref cK, .ref cM_, .int 0, .int 0])), (lF, .inl (cI, 4, .inl g1_4)), (lT, .inl (cI, 4, .inl g2_5))]) := hD
  refine lv_aload_n hx hb dX2_read_17 rfl (lv_at hl 0 rfl) ?_
  refine lv_iconst (v := (-1)) hx hb dX2_read_18 (by decide) ?_
  refine z_put Z i_X2 tyX2 tyX2_ok nmX2 hP hD hS 0 rfl rfl 2 (by decide) bw_425 rfl rfl rfl (Nat.le_of_ble_eq_true rfl) dX2_read_19 (fun H locs hP hD hS => ?_)
  have hP : va_P D vwCl ([(rd, .inr (2, [.ref tP, .int 0, .int (-1), .int 0, .int 37, .int 0, .ref t0])), (tP, .inr (7, [.ref bY, .ref ki, .ref at_, .ref nu, .int 0, .int 0])), (ki, .inl (cI, 301, .inl (fun _ => 0))), (at_, .inl (cI, 301, .inl (fun _ => 0))), (nu, .inl (cI, 301, .inl (fun _ => 0))), (t0, .inr (9, [.ref cd, .ref lF, .ref lT, .ref cK, .ref cM_, .int 0, .int 0])), (lF, .inl (cI, 4, .inl g1_4)), (lT, .inl (cI, 4, .inl g2_5))]) H := hP
  have hD : va_D A ([(rd, .inr (2, [.ref tP, .int 0, .int (-1), .int 0, .int 37, .int 0, .ref t0])), (tP, .inr (7, [.ref bY, .ref ki, .ref at_, .ref nu, .int 0, .int 0])), (ki, .inl (cI, 301, .inl (fun _ => 0))), (at_, .inl (cI, 301, .inl (fun _ => 0))), (nu, .inl (cI, 301, .inl (fun _ => 0))), (t0, .inr (9, [.ref cd, .ref lF, .ref lT, .ref cK, .ref cM_, .int 0, .int 0])), (lF, .inl (cI, 4, .inl g1_4)), (lT, .inl (cI, 4, .inl g2_5))]) := hD
  refine lv_aload_n hx hb dX2_read_22 rfl (lv_at hl 0 rfl) ?_
  refine z_get Z i_X2 hP 0 rfl rfl 0 (by decide) bw_421 rfl dX2_read_23 ?_
  have hPc := hP.sub2 (wc := [(tP, .inr (7, [.ref bY, .ref ki, .ref at_, .ref nu, .int 0, .int 0])), (ki, .inl (cI, 301, .inl (fun _ => 0))), (at_, .inl (cI, 301, .inl (fun _ => 0))), (nu, .inl (cI, 301, .inl (fun _ => 0)))]) [1, 2, 3, 4] rfl
  have hDc := hD.sub (ws' := [(tP, .inr (7, [.ref bY, .ref ki, .ref at_, .ref nu, .int 0, .int 0])), (ki, .inl (cI, 301, .inl (fun _ => 0))), (at_, .inl (cI, 301, .inl (fun _ => 0))), (nu, .inl (cI, 301, .inl (fun _ => 0)))]) [1, 2, 3, 4] (by decide) rfl
  refine raw_Vv (ci := 7) (q0 := 0) (nA := 0) (As := []) (rest := []) Z hl.1 (c_X7_split l D cI cM cT tP bY ki at_ nu (fun _ => 0) (fun _ => 0) (fun _ => 0)) (bw_V bw_562 bw_563 bw_564 bw_90 bw_565) ⟨by decide +kernel, by decide +kernel, by decide +kernel⟩ rfl ⟨Nat.le_of_ble_eq_true rfl, Nat.le_of_ble_eq_true rfl⟩ rfl rfl rfl hPc hDc hS rfl (Nat.le_of_ble_eq_true rfl) dX2_read_26 ⟨Nat.le_of_ble_eq_true rfl, Nat.le_of_ble_eq_true rfl⟩ (fun u6 H1 locs1 h8 hku6 hP1 hD1 hS1 => ?_)
  obtain rfl := h8
  obtain ⟨hP, hD⟩ := z_join (wr := [(rd, .inr (2, [.ref tP, .int 0, .int (-1), .int 0, .int 37, .int 0, .ref t0])), (t0, .inr (9, [.ref cd, .ref lF, .ref lT, .ref cK, .ref cM_, .int 0, .int 0])), (lF, .inl (cI, 4, .inl g1_4)), (lT, .inl (cI, 4, .inl g2_5))]) Z hS hP hD [1, 2, 3, 4] [0, 5, 6, 7] rfl (by decide) rfl (by decide) (by decide) hku6 hP1 hD1
  have hS := hS1
  clear hS1
  generalize H1 = H at hP hS ⊢
  generalize locs1 = locs at hS ⊢
  have hP : va_P D vwCl ([(rd, .inr (2, [.ref tP, .int 0, .int (-1), .int 0, .int 37, .int 0, .ref t0])), (t0, .inr (9, [.ref cd, .ref lF, .ref lT, .ref cK, .ref cM_, .int 0, .int 0])), (lF, .inl (cI, 4, .inl g1_4)), (lT, .inl (cI, 4, .inl g2_5)), (tP, .inr (7, [.ref bY, .ref ki, .ref at_, .ref nu, .int 0, .int 1])), (ki, .inl (cI, 301, .inl (upd (fun _ => 0) (0 : Int32).toNatClampNeg 37))), (at_, .inl (cI, 301, .inl (upd (fun _ => 0) (0 : Int32).toNatClampNeg 0))), (nu, .inl (cI, 301, .inl (upd (fun _ => 0) (0 : Int32).toNatClampNeg 0)))]) H := hP
  have hD : va_D A ([(rd, .inr (2, [.ref tP, .int 0, .int (-1), .int 0, .int 37, .int 0, .ref t0])), (t0, .inr (9, [.ref cd, .ref lF, .ref lT, .ref cK, .ref cM_, .int 0, .int 0])), (lF, .inl (cI, 4, .inl g1_4)), (lT, .inl (cI, 4, .inl g2_5)), (tP, .inr (7, [.ref bY, .ref ki, .ref at_, .ref nu, .int 0, .int 1])), (ki, .inl (cI, 301, .inl (upd (fun _ => 0) (0 : Int32).toNatClampNeg 37))), (at_, .inl (cI, 301, .inl (upd (fun _ => 0) (0 : Int32).toNatClampNeg 0))), (nu, .inl (cI, 301, .inl (upd (fun _ => 0) (0 : Int32).toNatClampNeg 0)))]) := hD
  refine lv_aload_n hx hb dX2_read_29 rfl (lv_at hl 0 rfl) ?_
  refine lv_iconst (v := 0) hx hb dX2_read_30 (by decide) ?_
  refine z_put Z i_X2 tyX2 tyX2_ok nmX2 hP hD hS 0 rfl rfl 3 (by decide) bw_427 rfl rfl rfl (Nat.le_of_ble_eq_true rfl) dX2_read_31 (fun H locs hP hD hS => ?_)
  have hP : va_P D vwCl ([(rd, .inr (2, [.ref tP, .int 0, .int (-1), .int 0, .int 37, .int 0, .ref t0])), (t0, .inr (9, [.ref cd, .ref lF, .ref lT, .ref cK, .ref cM_, .int 0, .int 0])), (lF, .inl (cI, 4, .inl g1_4)), (lT, .inl (cI, 4, .inl g2_5)), (tP, .inr (7, [.ref bY, .ref ki, .ref at_, .ref nu, .int 0, .int 1])), (ki, .inl (cI, 301, .inl (upd (fun _ => 0) (0 : Int32).toNatClampNeg 37))), (at_, .inl (cI, 301, .inl (upd (fun _ => 0) (0 : Int32).toNatClampNeg 0))), (nu, .inl (cI, 301, .inl (upd (fun _ => 0) (0 : Int32).toNatClampNeg 0)))]) H := hP
  have hD : va_D A ([(rd, .inr (2, [.ref tP, .int 0, .int (-1), .int 0, .int 37, .int 0, .ref t0])), (t0, .inr (9, [.ref cd, .ref lF, .ref lT, .ref cK, .ref cM_, .int 0, .int 0])), (lF, .inl (cI, 4, .inl g1_4)), (lT, .inl (cI, 4, .inl g2_5)), (tP, .inr (7, [.ref bY, .ref ki, .ref at_, .ref nu, .int 0, .int 1])), (ki, .inl (cI, 301, .inl (upd (fun _ => 0) (0 : Int32).toNatClampNeg 37))), (at_, .inl (cI, 301, .inl (upd (fun _ => 0) (0 : Int32).toNatClampNeg 0))), (nu, .inl (cI, 301, .inl (upd (fun _ => 0) (0 : Int32).toNatClampNeg 0)))]) := hD
  refine lv_aload_n hx hb dX2_read_34 rfl (lv_at hl 0 rfl) ?_
  refine lv_aload_n hx hb dX2_read_35 rfl (lv_at hl 0 rfl) ?_
  refine z_get Z i_X2 hP 0 rfl rfl 0 (by decide) bw_421 rfl dX2_read_36 ?_
  refine z_get Z i_X7 hP 4 rfl rfl 1 (by decide) bw_397 rfl dX2_read_39 ?_
  refine lv_iconst (v := 0) hx hb dX2_read_42 (by decide) ?_
  refine z_iald Z hP 5 0 rfl rfl (vin (by decide)) dX2_read_43 ?_
  refine z_topi (y := 37) pk_us ?_
  refine z_put Z i_X2 tyX2 tyX2_ok nmX2 hP hD hS 0 rfl rfl 4 (by decide) bw_428 rfl rfl rfl (Nat.le_of_ble_eq_true rfl) dX2_read_44 (fun H locs hP hD hS => ?_)
  have hP : va_P D vwCl ([(rd, .inr (2, [.ref tP, .int 0, .int (-1), .int 0, .int 37, .int 0, .ref t0])), (t0, .inr (9, [.ref cd, .ref lF, .ref lT, .ref cK, .ref cM_, .int 0, .int 0])), (lF, .inl (cI, 4, .inl g1_4)), (lT, .inl (cI, 4, .inl g2_5)), (tP, .inr (7, [.ref bY, .ref ki, .ref at_, .ref nu, .int 0, .int 1])), (ki, .inl (cI, 301, .inl (upd (fun _ => 0) (0 : Int32).toNatClampNeg 37))), (at_, .inl (cI, 301, .inl (upd (fun _ => 0) (0 : Int32).toNatClampNeg 0))), (nu, .inl (cI, 301, .inl (upd (fun _ => 0) (0 : Int32).toNatClampNeg 0)))]) H := hP
  have hD : va_D A ([(rd, .inr (2, [.ref tP, .int 0, .int (-1), .int 0, .int 37, .int 0, .ref t0])), (t0, .inr (9, [.ref cd, .ref lF, .ref lT, .ref cK, .ref cM_, .int 0, .int 0])), (lF, .inl (cI, 4, .inl g1_4)), (lT, .inl (cI, 4, .inl g2_5)), (tP, .inr (7, [.ref bY, .ref ki, .ref at_, .ref nu, .int 0, .int 1])), (ki, .inl (cI, 301, .inl (upd (fun _ => 0) (0 : Int32).toNatClampNeg 37))), (at_, .inl (cI, 301, .inl (upd (fun _ => 0) (0 : Int32).toNatClampNeg 0))), (nu, .inl (cI, 301, .inl (upd (fun _ => 0) (0 : Int32).toNatClampNeg 0)))]) := hD
  refine lv_aload_n hx hb dX2_read_47 rfl (lv_at hl 0 rfl) ?_
  refine lv_aload_n hx hb dX2_read_48 rfl (lv_at hl 0 rfl) ?_
  refine z_get Z i_X2 hP 0 rfl rfl 0 (by decide) bw_421 rfl dX2_read_49 ?_
  refine z_get Z i_X7 hP 4 rfl rfl 3 (by decide) bw_401 rfl dX2_read_52 ?_
  refine lv_iconst (v := 0) hx hb dX2_read_55 (by decide) ?_
  refine z_iald Z hP 7 0 rfl rfl (vin (by decide)) dX2_read_56 ?_
  refine z_topi (y := 0) pk_us ?_
  refine z_put Z i_X2 tyX2 tyX2_ok nmX2 hP hD hS 0 rfl rfl 5 (by decide) bw_429 rfl rfl rfl (Nat.le_of_ble_eq_true rfl) dX2_read_57 (fun H locs hP hD hS => ?_)
  have hP : va_P D vwCl ([(rd, .inr (2, [.ref tP, .int 0, .int (-1), .int 0, .int 37, .int 0, .ref t0])), (t0, .inr (9, [.ref cd, .ref lF, .ref lT, .ref cK, .ref cM_, .int 0, .int 0])), (lF, .inl (cI, 4, .inl g1_4)), (lT, .inl (cI, 4, .inl g2_5)), (tP, .inr (7, [.ref bY, .ref ki, .ref at_, .ref nu, .int 0, .int 1])), (ki, .inl (cI, 301, .inl (upd (fun _ => 0) (0 : Int32).toNatClampNeg 37))), (at_, .inl (cI, 301, .inl (upd (fun _ => 0) (0 : Int32).toNatClampNeg 0))), (nu, .inl (cI, 301, .inl (upd (fun _ => 0) (0 : Int32).toNatClampNeg 0)))]) H := hP
  have hD : va_D A ([(rd, .inr (2, [.ref tP, .int 0, .int (-1), .int 0, .int 37, .int 0, .ref t0])), (t0, .inr (9, [.ref cd, .ref lF, .ref lT, .ref cK, .ref cM_, .int 0, .int 0])), (lF, .inl (cI, 4, .inl g1_4)), (lT, .inl (cI, 4, .inl g2_5)), (tP, .inr (7, [.ref bY, .ref ki, .ref at_, .ref nu, .int 0, .int 1])), (ki, .inl (cI, 301, .inl (upd (fun _ => 0) (0 : Int32).toNatClampNeg 37))), (at_, .inl (cI, 301, .inl (upd (fun _ => 0) (0 : Int32).toNatClampNeg 0))), (nu, .inl (cI, 301, .inl (upd (fun _ => 0) (0 : Int32).toNatClampNeg 0)))]) := hD
  refine lv_iconst (v := 1) hx hb dX2_read_60 (by decide) ?_
  refine lv_istore_n (lv' := [(2, .int 1), (0, .ref rd), (1, .ref t0)]) hx hb dX2_read_61 rfl hl (by decide) rfl (fun ls hl => ?_)
  refine lv_iconst (v := 0) hx hb dX2_read_62 (by decide) ?_
  refine lv_istore_n (lv' := [(3, .int 0), (2, .int 1), (0, .ref rd), (1, .ref t0)]) hx hb dX2_read_63 rfl hl (by decide) rfl (fun ls hl => ?_)
  refine lv_iload_n hx hb dX2_read_64 rfl (lv_at hl 0 rfl) ?_
  refine lv_bipush (v := 24) hx hb dX2_read_65 (by decide) ?_
  refine lv_icmp_gt (tgt := 94) hx hb dX2_read_67 (by decide) (fun h => absurd h (by decide)) (fun c9 => ?_)
  refine lv_iload_n hx hb dX2_read_70 rfl (lv_at hl 1 rfl) ?_
  refine lv_if_eq (tgt := 94) hx hb dX2_read_71 (by decide) (fun h => absurd h (by decide)) (fun c10 => ?_)
  refine lv_aload_n hx hb dX2_read_74 rfl (lv_at hl 2 rfl) ?_
  refine z_get Z i_X2 hP 0 rfl rfl 4 (by decide) bw_428 rfl dX2_read_75 ?_
  refine lv_bipush (v := 37) hx hb dX2_read_78 (by decide) ?_
  refine lv_icmp_eq (tgt := 94) hx hb dX2_read_80 (by decide) (fun c11 => ?_) (fun h => absurd (by decide) h)
  have hP := hP.sub2 (wc := [(rd, .inr (2, [.ref tP, .int 0, .int (-1), .int 0, .int 37, .int 0, .ref t0])), (tP, .inr (7, [.ref bY, .ref ki, .ref at_, .ref nu, .int 0, .int 1]))]) [0, 4] rfl
  have hD := hD.sub (ws' := [(rd, .inr (2, [.ref tP, .int 0, .int (-1), .int 0, .int 37, .int 0, .ref t0])), (tP, .inr (7, [.ref bY, .ref ki, .ref at_, .ref nu, .int 0, .int 1]))]) [0, 4] (by decide) rfl
  exact z_vret Z hP hD hS (rfl) dX2_read_94 (Nat.le_of_ble_eq_true rfl) (Nat.le_of_ble_eq_true rfl)
set_option maxHeartbeats 4000000 in
set_option maxRecDepth 100000 in
theorem c_X11_text (l : Launch) (D : va_G) (cI cM cT : ClassId) (x : Nat) (st : Nat) (dr : Nat) (nw : Nat) (kp : Nat) (rd : Nat) (tm : Nat) (co : Nat) (rO : Nat) (sT : Nat) (mA : Nat) (sB : Nat) (sA : Nat) (tH : Nat) (tF : Nat) (tS : Nat) (tA : Nat) (lW : Nat) (nA : Nat) (kA : Nat) (tP : Nat) (tX : Nat) (bY : Nat) (ki : Nat) (at_ : Nat) (nu : Nat) (t0 : Nat) (cd : Nat) (lF : Nat) (lT : Nat) (cK : Nat) (cM_ : Nat) (tf : Nat → Option Nat) (htf : tf 0 = some t0) : Ci l D (ty3 cI cM cT) yX11_text cX11_text 1 (some .int) 4 0 0 [.ref x] ([(x, .inr (11, [.ref st, .ref dr, .ref nw, .ref kp, .ref rd, .ref tm, .ref co])), (nw, .inr (10, [.ref rO, .ref sT, .ref mA, .ref sB, .ref sA, .ref tH, .ref tF, .ref tS, .int 0, .int 0, .int (-1), .int 0, .int 0])), (dr, .inr (0, [.ref nw, .ref tA, .ref lW, .ref nA, .ref kA, .int 0, .int 0])), (tA, .inl (cT, 4, .inr (.inr (.inr (.inr tf))))), (rd, .inr (2, [.ref tP, .int (-1), .int (-1), .int 0, .int 37, .int 0, .ref tX])), (tP, .inr (7, [.ref bY, .ref ki, .ref at_, .ref nu, .int 0, .int 0])), (ki, .inl (cI, 301, .inl (fun _ => 0))), (at_, .inl (cI, 301, .inl (fun _ => 0))), (nu, .inl (cI, 301, .inl (fun _ => 0))), (t0, .inr (9, [.ref cd, .ref lF, .ref lT, .ref cK, .ref cM_, .int 0, .int 0])), (lF, .inl (cI, 4, .inl (fun _ => 0))), (lT, .inl (cI, 4, .inl (fun _ => 0)))]) (fun r u => r = 0) := by
  refine Ci.of (by decide +kernel) (Nat.le_of_ble_eq_true rfl) ?_
  intro p e s m below meth c A ls Z hin hP hD hl
  have hx := Z.1
  have hb := Z.2.1
  have hS : va_S A s.heap s.heap [] := va_S.rf
  have hl : lv_has ls 1 [(0, .ref x)] := hl
  skip
  refine lv_aload_n hx hb dX11_text_0 rfl (lv_at hl 0 rfl) ?_
  refine z_get Z i_X11 hP 0 rfl rfl 2 (by decide) bw_470 rfl dX11_text_1 ?_
  refine z_get Z i_X10 hP 1 rfl rfl 9 (by decide) bw_255 rfl dX11_text_4 ?_
  refine lv_iconst (v := 4) hx hb dX11_text_7 (by decide) ?_
  refine lv_icmp_lt (tgt := 13) hx hb dX11_text_8 (by decide) (fun c1 => ?_) (fun h => absurd (by decide) h)
  refine lv_aload_n hx hb dX11_text_13 rfl (lv_at hl 0 rfl) ?_
  refine z_get Z i_X11 hP 0 rfl rfl 4 (by decide) bw_472 rfl dX11_text_14 ?_
  refine lv_aload_n hx hb dX11_text_17 rfl (lv_at hl 0 rfl) ?_
  refine z_get Z i_X11 hP 0 rfl rfl 1 (by decide) bw_469 rfl dX11_text_18 ?_
  refine z_get Z i_X0 hP 2 rfl rfl 1 (by decide) bw_334 rfl dX11_text_21 ?_
  refine lv_aload_n hx hb dX11_text_24 rfl (lv_at hl 0 rfl) ?_
  refine z_get Z i_X11 hP 0 rfl rfl 2 (by decide) bw_470 rfl dX11_text_25 ?_
  refine z_get Z i_X10 hP 1 rfl rfl 9 (by decide) bw_255 rfl dX11_text_28 ?_
  refine z_aald Z hP 3 2 rfl rfl (vin (by decide)) htf dX11_text_31 ?_
  have hPc := hP.sub2 (wc := [(rd, .inr (2, [.ref tP, .int (-1), .int (-1), .int 0, .int 37, .int 0, .ref tX])), (tP, .inr (7, [.ref bY, .ref ki, .ref at_, .ref nu, .int 0, .int 0])), (ki, .inl (cI, 301, .inl (fun _ => 0))), (at_, .inl (cI, 301, .inl (fun _ => 0))), (nu, .inl (cI, 301, .inl (fun _ => 0))), (t0, .inr (9, [.ref cd, .ref lF, .ref lT, .ref cK, .ref cM_, .int 0, .int 0])), (lF, .inl (cI, 4, .inl (fun _ => 0))), (lT, .inl (cI, 4, .inl (fun _ => 0)))]) [4, 5, 6, 7, 8, 9, 10, 11] rfl
  have hDc := hD.sub (ws' := [(rd, .inr (2, [.ref tP, .int (-1), .int (-1), .int 0, .int 37, .int 0, .ref tX])), (tP, .inr (7, [.ref bY, .ref ki, .ref at_, .ref nu, .int 0, .int 0])), (ki, .inl (cI, 301, .inl (fun _ => 0))), (at_, .inl (cI, 301, .inl (fun _ => 0))), (nu, .inl (cI, 301, .inl (fun _ => 0))), (t0, .inr (9, [.ref cd, .ref lF, .ref lT, .ref cK, .ref cM_, .int 0, .int 0])), (lF, .inl (cI, 4, .inl (fun _ => 0))), (lT, .inl (cI, 4, .inl (fun _ => 0)))]) [4, 5, 6, 7, 8, 9, 10, 11] (by decide) rfl
  refine raw_Vv (ci := 2) (q0 := 0) (nA := 1) (As := [.ref t0]) (rest := []) Z hl.1 (c_X2_read l D cI cM cT rd tP tX bY ki at_ nu t0 cd lF lT cK cM_) (bw_V bw_551 bw_552 bw_553 bw_89 bw_554) ⟨by decide +kernel, by decide +kernel, by decide +kernel⟩ rfl ⟨Nat.le_of_ble_eq_true rfl, Nat.le_of_ble_eq_true rfl⟩ rfl rfl rfl hPc hDc hS rfl (Nat.le_of_ble_eq_true rfl) dX11_text_32 ⟨Nat.le_of_ble_eq_true rfl, Nat.le_of_ble_eq_true rfl⟩ (fun u2 H1 locs1 h4 hku2 hP1 hD1 hS1 => ?_)
  obtain rfl := h4
  obtain ⟨hP, hD⟩ := z_join (wr := [(x, .inr (11, [.ref st, .ref dr, .ref nw, .ref kp, .ref rd, .ref tm, .ref co])), (nw, .inr (10, [.ref rO, .ref sT, .ref mA, .ref sB, .ref sA, .ref tH, .ref tF, .ref tS, .int 0, .int 0, .int (-1), .int 0, .int 0])), (dr, .inr (0, [.ref nw, .ref tA, .ref lW, .ref nA, .ref kA, .int 0, .int 0])), (tA, .inl (cT, 4, .inr (.inr (.inr (.inr tf)))))]) Z hS hP hD [4, 5, 6, 7, 8, 9, 10, 11] [0, 1, 2, 3] rfl (by decide) rfl (by decide) (by decide) hku2 hP1 hD1
  have hS := hS1
  clear hS1
  generalize H1 = H at hP hS ⊢
  generalize locs1 = locs at hS ⊢
  have hP : va_P D vwCl ([(x, .inr (11, [.ref st, .ref dr, .ref nw, .ref kp, .ref rd, .ref tm, .ref co])), (nw, .inr (10, [.ref rO, .ref sT, .ref mA, .ref sB, .ref sA, .ref tH, .ref tF, .ref tS, .int 0, .int 0, .int (-1), .int 0, .int 0])), (dr, .inr (0, [.ref nw, .ref tA, .ref lW, .ref nA, .ref kA, .int 0, .int 0])), (tA, .inl (cT, 4, .inr (.inr (.inr (.inr tf))))), (rd, .inr (2, [.ref tP, .int 0, .int (-1), .int 0, .int 37, .int 0, .ref t0])), (tP, .inr (7, [.ref bY, .ref ki, .ref at_, .ref nu, .int 0, .int 1]))]) H := hP
  have hD : va_D A ([(x, .inr (11, [.ref st, .ref dr, .ref nw, .ref kp, .ref rd, .ref tm, .ref co])), (nw, .inr (10, [.ref rO, .ref sT, .ref mA, .ref sB, .ref sA, .ref tH, .ref tF, .ref tS, .int 0, .int 0, .int (-1), .int 0, .int 0])), (dr, .inr (0, [.ref nw, .ref tA, .ref lW, .ref nA, .ref kA, .int 0, .int 0])), (tA, .inl (cT, 4, .inr (.inr (.inr (.inr tf))))), (rd, .inr (2, [.ref tP, .int 0, .int (-1), .int 0, .int 37, .int 0, .ref t0])), (tP, .inr (7, [.ref bY, .ref ki, .ref at_, .ref nu, .int 0, .int 1]))]) := hD
  refine lv_aload_n hx hb dX11_text_35 rfl (lv_at hl 0 rfl) ?_
  refine z_get Z i_X11 hP 0 rfl rfl 4 (by decide) bw_472 rfl dX11_text_36 ?_
  refine z_get Z i_X2 hP 4 rfl rfl 0 (by decide) bw_422 rfl dX11_text_39 ?_
  refine lv_iconst (v := 0) hx hb dX11_text_42 (by decide) ?_
  refine z_put Z i_X7 tyX7 tyX7_ok nmX7 hP hD hS 5 rfl rfl 4 (by decide) bw_403 rfl rfl rfl (Nat.le_of_ble_eq_true rfl) dX11_text_43 (fun H locs hP hD hS => ?_)
  have hP : va_P D vwCl ([(x, .inr (11, [.ref st, .ref dr, .ref nw, .ref kp, .ref rd, .ref tm, .ref co])), (nw, .inr (10, [.ref rO, .ref sT, .ref mA, .ref sB, .ref sA, .ref tH, .ref tF, .ref tS, .int 0, .int 0, .int (-1), .int 0, .int 0])), (dr, .inr (0, [.ref nw, .ref tA, .ref lW, .ref nA, .ref kA, .int 0, .int 0])), (tA, .inl (cT, 4, .inr (.inr (.inr (.inr tf))))), (rd, .inr (2, [.ref tP, .int 0, .int (-1), .int 0, .int 37, .int 0, .ref t0])), (tP, .inr (7, [.ref bY, .ref ki, .ref at_, .ref nu, .int 0, .int 1]))]) H := hP
  have hD : va_D A ([(x, .inr (11, [.ref st, .ref dr, .ref nw, .ref kp, .ref rd, .ref tm, .ref co])), (nw, .inr (10, [.ref rO, .ref sT, .ref mA, .ref sB, .ref sA, .ref tH, .ref tF, .ref tS, .int 0, .int 0, .int (-1), .int 0, .int 0])), (dr, .inr (0, [.ref nw, .ref tA, .ref lW, .ref nA, .ref kA, .int 0, .int 0])), (tA, .inl (cT, 4, .inr (.inr (.inr (.inr tf))))), (rd, .inr (2, [.ref tP, .int 0, .int (-1), .int 0, .int 37, .int 0, .ref t0])), (tP, .inr (7, [.ref bY, .ref ki, .ref at_, .ref nu, .int 0, .int 1]))]) := hD
  refine lv_aload_n hx hb dX11_text_46 rfl (lv_at hl 0 rfl) ?_
  refine z_get Z i_X11 hP 0 rfl rfl 4 (by decide) bw_472 rfl dX11_text_47 ?_
  refine z_get Z i_X2 hP 4 rfl rfl 1 (by decide) bw_424 rfl dX11_text_50 ?_
  refine lv_if_eq (tgt := 58) hx hb dX11_text_53 (by decide) (fun c5 => ?_) (fun h => absurd (by decide) h)
  refine lv_aload_n hx hb dX11_text_58 rfl (lv_at hl 0 rfl) ?_
  refine z_get Z i_X11 hP 0 rfl rfl 2 (by decide) bw_470 rfl dX11_text_59 ?_
  refine lv_dup hx hb dX11_text_62 rfl ?_
  refine z_get Z i_X10 hP 1 rfl rfl 9 (by decide) bw_255 rfl dX11_text_63 ?_
  refine lv_iconst (v := 1) hx hb dX11_text_66 (by decide) ?_
  refine lv_iadd hx hb dX11_text_67 ?_
  refine z_topi (y := 1) (by decide) ?_
  refine z_put Z i_X10 tyX10 tyX10_ok nmX10 hP hD hS 1 rfl rfl 9 (by decide) bw_255 rfl rfl rfl (Nat.le_of_ble_eq_true rfl) dX11_text_68 (fun H locs hP hD hS => ?_)
  have hP : va_P D vwCl ([(x, .inr (11, [.ref st, .ref dr, .ref nw, .ref kp, .ref rd, .ref tm, .ref co])), (nw, .inr (10, [.ref rO, .ref sT, .ref mA, .ref sB, .ref sA, .ref tH, .ref tF, .ref tS, .int 0, .int 1, .int (-1), .int 0, .int 0])), (dr, .inr (0, [.ref nw, .ref tA, .ref lW, .ref nA, .ref kA, .int 0, .int 0])), (tA, .inl (cT, 4, .inr (.inr (.inr (.inr tf))))), (rd, .inr (2, [.ref tP, .int 0, .int (-1), .int 0, .int 37, .int 0, .ref t0])), (tP, .inr (7, [.ref bY, .ref ki, .ref at_, .ref nu, .int 0, .int 1]))]) H := hP
  have hD : va_D A ([(x, .inr (11, [.ref st, .ref dr, .ref nw, .ref kp, .ref rd, .ref tm, .ref co])), (nw, .inr (10, [.ref rO, .ref sT, .ref mA, .ref sB, .ref sA, .ref tH, .ref tF, .ref tS, .int 0, .int 1, .int (-1), .int 0, .int 0])), (dr, .inr (0, [.ref nw, .ref tA, .ref lW, .ref nA, .ref kA, .int 0, .int 0])), (tA, .inl (cT, 4, .inr (.inr (.inr (.inr tf))))), (rd, .inr (2, [.ref tP, .int 0, .int (-1), .int 0, .int 37, .int 0, .ref t0])), (tP, .inr (7, [.ref bY, .ref ki, .ref at_, .ref nu, .int 0, .int 1]))]) := hD
  refine lv_aload_n hx hb dX11_text_71 rfl (lv_at hl 0 rfl) ?_
  refine z_get Z i_X11 hP 0 rfl rfl 2 (by decide) bw_470 rfl dX11_text_72 ?_
  refine z_get Z i_X10 hP 1 rfl rfl 9 (by decide) bw_255 rfl dX11_text_75 ?_
  refine lv_iconst (v := 1) hx hb dX11_text_78 (by decide) ?_
  refine lv_isub hx hb dX11_text_79 ?_
  refine z_topi (y := 0) (by decide) ?_
  exact z_ret Z rfl hP hD hS ((by first | rfl | assumption)) dX11_text_80 (Nat.le_of_ble_eq_true rfl) (Nat.le_of_ble_eq_true rfl)
set_option maxHeartbeats 4000000 in
set_option maxRecDepth 100000 in
theorem c_X8_seek (l : Launch) (D : va_G) (cI cM cT : ClassId) (tm : Nat) (be : Nat) (or_ : Nat) (sO : Nat) (f : Nat → Int32) (f0 : Nat → Int32) (p0 : Int32) (p1 : Int32) : Cv l D (ty3 cI cM cT) yX8_seek cX8_seek 8 1 0 0 [.ref tm, .ref sO, .int p0, .int p1, .int 0, .int 0] ([(tm, .inr (8, [.ref be, .ref or_, .int 0, .int (-1)])), (be, .inl (cI, 6, .inl f)), (or_, .inl (cI, 6, .inl f0))]) (fun u => ∃ (o : Int32) (g : Nat → Int32), u = [(tm, .inr (8, [.ref be, .ref or_, .int 0, .int o])), (be, .inl (cI, 6, .inl g))] ∧ o = (if p0 = p1 then 0 else (-1))) := by
  refine Cv.of (by decide +kernel) (Nat.le_of_ble_eq_true rfl) ?_
  intro p e s m below meth c A ls Z hin hP hD hl
  have hx := Z.1
  have hb := Z.2.1
  have hS : va_S A s.heap s.heap [] := va_S.rf
  have hl : lv_has ls 8 [(0, .ref tm), (1, .ref sO), (2, .int p0), (3, .int p1), (4, .int 0), (5, .int 0)] := hl
  skip
  refine lv_iload hx hb dX8_seek_0 (lv_at hl 4 rfl) ?_
  refine lv_aload_n hx hb dX8_seek_2 rfl (lv_at hl 0 rfl) ?_
  refine z_get Z i_X8 hP 0 rfl rfl 2 (by decide) bw_455 rfl dX8_seek_3 ?_
  refine lv_icmp_lt (tgt := 53) hx hb dX8_seek_6 (by decide) (fun h => absurd h (by decide)) (fun c1 => ?_)
  refine lv_iload_n hx hb dX8_seek_9 rfl (lv_at hl 2 rfl) ?_
  refine lv_iload_n hx hb dX8_seek_10 rfl (lv_at hl 3 rfl) ?_
  refine lv_icmp_ne (tgt := 52) hx hb dX8_seek_11 (by decide) (fun c2 => ?_) (fun c2 => ?_)
  · have hP := hP.sub2 (wc := [(tm, .inr (8, [.ref be, .ref or_, .int 0, .int (-1)])), (be, .inl (cI, 6, .inl f))]) [0, 1] rfl
    have hD := hD.sub (ws' := [(tm, .inr (8, [.ref be, .ref or_, .int 0, .int (-1)])), (be, .inl (cI, 6, .inl f))]) [0, 1] (by decide) rfl
    exact z_vret Z hP hD hS (⟨(-1), f, rfl, (by first | rfl | assumption | (rw [if_pos (by (try simp only [zlt, zle, zeq, zl_0, zl_1, zl_2, zl_3, zl_4, zl_5, zl_6, zl_7, zl_8, zl_9, zl_10, zl_11, zl_12, zl_13, zl_19, zl_20, zl_30, zl_64, zl_99, zl_100, zl_299, zl_300, zl_399, zl_999, zl_9999, zl_m1, zl_m2, zl_m3, zl_32, zl_280] at c1 c2 ⊢); omega)]; first | done | ((try simp only [zlt, zle, zeq, zl_0, zl_1, zl_2, zl_3, zl_4, zl_5, zl_6, zl_7, zl_8, zl_9, zl_10, zl_11, zl_12, zl_13, zl_19, zl_20, zl_30, zl_64, zl_99, zl_100, zl_299, zl_300, zl_399, zl_999, zl_9999, zl_m1, zl_m2, zl_m3, zl_32, zl_280] at c1 c2 ⊢); omega)) | (rw [if_neg (by (try simp only [zlt, zle, zeq, zl_0, zl_1, zl_2, zl_3, zl_4, zl_5, zl_6, zl_7, zl_8, zl_9, zl_10, zl_11, zl_12, zl_13, zl_19, zl_20, zl_30, zl_64, zl_99, zl_100, zl_299, zl_300, zl_399, zl_999, zl_9999, zl_m1, zl_m2, zl_m3, zl_32, zl_280] at c1 c2 ⊢); omega)]; first | done | ((try simp only [zlt, zle, zeq, zl_0, zl_1, zl_2, zl_3, zl_4, zl_5, zl_6, zl_7, zl_8, zl_9, zl_10, zl_11, zl_12, zl_13, zl_19, zl_20, zl_30, zl_64, zl_99, zl_100, zl_299, zl_300, zl_399, zl_999, zl_9999, zl_m1, zl_m2, zl_m3, zl_32, zl_280] at c1 c2 ⊢); omega)))⟩) dX8_seek_52 (Nat.le_of_ble_eq_true rfl) (Nat.le_of_ble_eq_true rfl)
  · refine lv_aload_n hx hb dX8_seek_14 rfl (lv_at hl 0 rfl) ?_
    refine z_get Z i_X8 hP 0 rfl rfl 3 (by decide) bw_457 rfl dX8_seek_15 ?_
    refine lv_iconst (v := (-1)) hx hb dX8_seek_18 (by decide) ?_
    refine lv_icmp_eq (tgt := 31) hx hb dX8_seek_19 (by decide) (fun c3 => ?_) (fun h => absurd (by decide) h)
    refine lv_aload_n hx hb dX8_seek_31 rfl (lv_at hl 0 rfl) ?_
    refine lv_iload hx hb dX8_seek_32 (lv_at hl 5 rfl) ?_
    refine z_put Z i_X8 tyX8 tyX8_ok nmX8 hP hD hS 0 rfl rfl 3 (by decide) bw_457 rfl rfl rfl (Nat.le_of_ble_eq_true rfl) dX8_seek_34 (fun H locs hP hD hS => ?_)
    have hP : va_P D vwCl ([(tm, .inr (8, [.ref be, .ref or_, .int 0, .int 0])), (be, .inl (cI, 6, .inl f)), (or_, .inl (cI, 6, .inl f0))]) H := hP
    have hD : va_D A ([(tm, .inr (8, [.ref be, .ref or_, .int 0, .int 0])), (be, .inl (cI, 6, .inl f)), (or_, .inl (cI, 6, .inl f0))]) := hD
    refine lv_aload_n hx hb dX8_seek_37 rfl (lv_at hl 0 rfl) ?_
    refine z_get Z i_X8 hP 0 rfl rfl 1 (by decide) bw_454 rfl dX8_seek_38 ?_
    refine lv_iconst (v := 0) hx hb dX8_seek_41 (by decide) ?_
    refine lv_aload_n hx hb dX8_seek_42 rfl (lv_at hl 0 rfl) ?_
    refine z_get Z i_X8 hP 0 rfl rfl 0 (by decide) bw_452 rfl dX8_seek_43 ?_
    refine lv_iconst (v := 0) hx hb dX8_seek_46 (by decide) ?_
    refine lv_bipush (v := 6) hx hb dX8_seek_47 (by decide) ?_
    refine va_copyi hx hb (Z.2.2.1.trans hl.1.symm) Z.2.2.2.1 (Z.2.2.2.2.1 _ bw_916) (Z.2.2.2.2.1 _ bw_526) (Z.2.2.2.2.1 _ bw_525) (Z.2.2.2.2.1 _ bw_93) Z.2.2.2.2.2.2.1 hP hD hS 2 1 0 0 rfl rfl rfl rfl rfl (by decide) (by decide) (by decide) (by decide) (by decide) (fun _ _ => rfl) (Nat.le_of_ble_eq_true rfl) (by decide +kernel) dX8_seek_49 (fun H locs hP hD hS => ?_)
    have hP : va_P D vwCl ([(tm, .inr (8, [.ref be, .ref or_, .int 0, .int 0])), (be, .inl (cI, 6, .inl (va_cpy f0 f 0 0 6))), (or_, .inl (cI, 6, .inl f0))]) H := hP
    have hD : va_D A ([(tm, .inr (8, [.ref be, .ref or_, .int 0, .int 0])), (be, .inl (cI, 6, .inl (va_cpy f0 f 0 0 6))), (or_, .inl (cI, 6, .inl f0))]) := hD
    have hP := hP.sub2 (wc := [(tm, .inr (8, [.ref be, .ref or_, .int 0, .int 0])), (be, .inl (cI, 6, .inl (va_cpy f0 f 0 0 6)))]) [0, 1] rfl
    have hD := hD.sub (ws' := [(tm, .inr (8, [.ref be, .ref or_, .int 0, .int 0])), (be, .inl (cI, 6, .inl (va_cpy f0 f 0 0 6)))]) [0, 1] (by decide) rfl
    exact z_vret Z hP hD hS (⟨0, (va_cpy f0 f 0 0 6), rfl, (by first | rfl | assumption | (rw [if_pos (by (try simp only [zlt, zle, zeq, zl_0, zl_1, zl_2, zl_3, zl_4, zl_5, zl_6, zl_7, zl_8, zl_9, zl_10, zl_11, zl_12, zl_13, zl_19, zl_20, zl_30, zl_64, zl_99, zl_100, zl_299, zl_300, zl_399, zl_999, zl_9999, zl_m1, zl_m2, zl_m3, zl_32, zl_280] at c1 c2 c3 ⊢); omega)]; first | done | ((try simp only [zlt, zle, zeq, zl_0, zl_1, zl_2, zl_3, zl_4, zl_5, zl_6, zl_7, zl_8, zl_9, zl_10, zl_11, zl_12, zl_13, zl_19, zl_20, zl_30, zl_64, zl_99, zl_100, zl_299, zl_300, zl_399, zl_999, zl_9999, zl_m1, zl_m2, zl_m3, zl_32, zl_280] at c1 c2 c3 ⊢); omega)) | (rw [if_neg (by (try simp only [zlt, zle, zeq, zl_0, zl_1, zl_2, zl_3, zl_4, zl_5, zl_6, zl_7, zl_8, zl_9, zl_10, zl_11, zl_12, zl_13, zl_19, zl_20, zl_30, zl_64, zl_99, zl_100, zl_299, zl_300, zl_399, zl_999, zl_9999, zl_m1, zl_m2, zl_m3, zl_32, zl_280] at c1 c2 c3 ⊢); omega)]; first | done | ((try simp only [zlt, zle, zeq, zl_0, zl_1, zl_2, zl_3, zl_4, zl_5, zl_6, zl_7, zl_8, zl_9, zl_10, zl_11, zl_12, zl_13, zl_19, zl_20, zl_30, zl_64, zl_99, zl_100, zl_299, zl_300, zl_399, zl_999, zl_9999, zl_m1, zl_m2, zl_m3, zl_32, zl_280] at c1 c2 c3 ⊢); omega)))⟩) dX8_seek_52 (Nat.le_of_ble_eq_true rfl) (Nat.le_of_ble_eq_true rfl)
set_option maxHeartbeats 4000000 in
set_option maxRecDepth 100000 in
theorem c_X8_find (l : Launch) (D : va_G) (cI cM cT : ClassId) (tm : Nat) (be : Nat) (or_ : Nat) (st : Nat) (dr : Nat) (s1 : Nat) (s2 : Nat) (s3 : Nat) (nw : Nat) (tA : Nat) (lW : Nat) (nA : Nat) (kA : Nat) (rO : Nat) (sT : Nat) (mA : Nat) (sB : Nat) (sA : Nat) (tH : Nat) (tF : Nat) (tS : Nat) (cO : Nat) (sH : Nat) (f : Nat → Int32) (f0 : Nat → Int32) (p0 : Int32) (p1 : Int32) : Cv l D (ty3 cI cM cT) yX8_find cX8_find 6 2 0 0 [.ref tm, .ref st, .int p0, .int p1] ([(tm, .inr (8, [.ref be, .ref or_, .int 0, .int (-1)])), (be, .inl (cI, 6, .inl f)), (or_, .inl (cI, 6, .inl f0)), (st, .inr (6, [.ref dr, .ref s1, .ref s2, .ref s3, .int 1])), (dr, .inr (0, [.ref nw, .ref tA, .ref lW, .ref nA, .ref kA, .int 0, .int 0])), (nw, .inr (10, [.ref rO, .ref sT, .ref mA, .ref sB, .ref sA, .ref tH, .ref tF, .ref tS, .int 0, .int 0, .int (-1), .int 0, .int 0])), (sT, .inr (4, [.ref cO, .ref sH, .int 0]))]) (fun u => ∃ (o : Int32) (g : Nat → Int32), u = [(tm, .inr (8, [.ref be, .ref or_, .int 0, .int o])), (be, .inl (cI, 6, .inl g))] ∧ o = (if p0 = p1 then 0 else (-1))) := by
  refine Cv.of (by decide +kernel) (Nat.le_of_ble_eq_true rfl) ?_
  intro p e s m below meth c A ls Z hin hP hD hl
  have hx := Z.1
  have hb := Z.2.1
  have hS : va_S A s.heap s.heap [] := va_S.rf
  have hl : lv_has ls 6 [(0, .ref tm), (1, .ref st), (2, .int p0), (3, .int p1)] := hl
  skip
  refine lv_aload_n hx hb dX8_find_0 rfl (lv_at hl 1 rfl) ?_
  refine z_get Z i_X6 hP 3 rfl rfl 0 (by decide) bw_361 rfl dX8_find_1 ?_
  refine z_get Z i_X0 hP 4 rfl rfl 0 (by decide) bw_332 rfl dX8_find_4 ?_
  refine z_get Z i_X10 hP 5 rfl rfl 1 (by decide) bw_235 rfl dX8_find_7 ?_
  refine z_get Z i_X4 hP 6 rfl rfl 2 (by decide) bw_166 rfl dX8_find_10 ?_
  refine lv_istore (lv' := [(4, .int 0), (0, .ref tm), (1, .ref st), (2, .int p0), (3, .int p1)]) hx hb dX8_find_13 hl (by decide) rfl (fun ls hl => ?_)
  refine lv_aload_n hx hb dX8_find_15 rfl (lv_at hl 1 rfl) ?_
  refine lv_iconst (v := (-1)) hx hb dX8_find_16 (by decide) ?_
  refine z_put Z i_X8 tyX8 tyX8_ok nmX8 hP hD hS 0 rfl rfl 3 (by decide) bw_457 rfl rfl rfl (Nat.le_of_ble_eq_true rfl) dX8_find_17 (fun H locs hP hD hS => ?_)
  have hP : va_P D vwCl ([(tm, .inr (8, [.ref be, .ref or_, .int 0, .int (-1)])), (be, .inl (cI, 6, .inl f)), (or_, .inl (cI, 6, .inl f0)), (st, .inr (6, [.ref dr, .ref s1, .ref s2, .ref s3, .int 1])), (dr, .inr (0, [.ref nw, .ref tA, .ref lW, .ref nA, .ref kA, .int 0, .int 0])), (nw, .inr (10, [.ref rO, .ref sT, .ref mA, .ref sB, .ref sA, .ref tH, .ref tF, .ref tS, .int 0, .int 0, .int (-1), .int 0, .int 0])), (sT, .inr (4, [.ref cO, .ref sH, .int 0]))]) H := hP
  have hD : va_D A ([(tm, .inr (8, [.ref be, .ref or_, .int 0, .int (-1)])), (be, .inl (cI, 6, .inl f)), (or_, .inl (cI, 6, .inl f0)), (st, .inr (6, [.ref dr, .ref s1, .ref s2, .ref s3, .int 1])), (dr, .inr (0, [.ref nw, .ref tA, .ref lW, .ref nA, .ref kA, .int 0, .int 0])), (nw, .inr (10, [.ref rO, .ref sT, .ref mA, .ref sB, .ref sA, .ref tH, .ref tF, .ref tS, .int 0, .int 0, .int (-1), .int 0, .int 0])), (sT, .inr (4, [.ref cO, .ref sH, .int 0]))]) := hD
  refine lv_aload_n hx hb dX8_find_20 rfl (lv_at hl 1 rfl) ?_
  refine lv_iconst (v := 0) hx hb dX8_find_21 (by decide) ?_
  refine z_put Z i_X8 tyX8 tyX8_ok nmX8 hP hD hS 0 rfl rfl 2 (by decide) bw_455 rfl rfl rfl (Nat.le_of_ble_eq_true rfl) dX8_find_22 (fun H locs hP hD hS => ?_)
  have hP : va_P D vwCl ([(tm, .inr (8, [.ref be, .ref or_, .int 0, .int (-1)])), (be, .inl (cI, 6, .inl f)), (or_, .inl (cI, 6, .inl f0)), (st, .inr (6, [.ref dr, .ref s1, .ref s2, .ref s3, .int 1])), (dr, .inr (0, [.ref nw, .ref tA, .ref lW, .ref nA, .ref kA, .int 0, .int 0])), (nw, .inr (10, [.ref rO, .ref sT, .ref mA, .ref sB, .ref sA, .ref tH, .ref tF, .ref tS, .int 0, .int 0, .int (-1), .int 0, .int 0])), (sT, .inr (4, [.ref cO, .ref sH, .int 0]))]) H := hP
  have hD : va_D A ([(tm, .inr (8, [.ref be, .ref or_, .int 0, .int (-1)])), (be, .inl (cI, 6, .inl f)), (or_, .inl (cI, 6, .inl f0)), (st, .inr (6, [.ref dr, .ref s1, .ref s2, .ref s3, .int 1])), (dr, .inr (0, [.ref nw, .ref tA, .ref lW, .ref nA, .ref kA, .int 0, .int 0])), (nw, .inr (10, [.ref rO, .ref sT, .ref mA, .ref sB, .ref sA, .ref tH, .ref tF, .ref tS, .int 0, .int 0, .int (-1), .int 0, .int 0])), (sT, .inr (4, [.ref cO, .ref sH, .int 0]))]) := hD
  refine lv_aload_n hx hb dX8_find_25 rfl (lv_at hl 1 rfl) ?_
  refine lv_aload_n hx hb dX8_find_26 rfl (lv_at hl 2 rfl) ?_
  refine lv_iload_n hx hb dX8_find_27 rfl (lv_at hl 3 rfl) ?_
  refine lv_iload_n hx hb dX8_find_28 rfl (lv_at hl 4 rfl) ?_
  refine lv_iconst (v := 0) hx hb dX8_find_29 (by decide) ?_
  refine lv_iconst (v := 0) hx hb dX8_find_30 (by decide) ?_
  have hPc := hP.sub2 (wc := [(tm, .inr (8, [.ref be, .ref or_, .int 0, .int (-1)])), (be, .inl (cI, 6, .inl f)), (or_, .inl (cI, 6, .inl f0))]) [0, 1, 2] rfl
  have hDc := hD.sub (ws' := [(tm, .inr (8, [.ref be, .ref or_, .int 0, .int (-1)])), (be, .inl (cI, 6, .inl f)), (or_, .inl (cI, 6, .inl f0))]) [0, 1, 2] (by decide) rfl
  refine raw_Vv (ci := 8) (q0 := 0) (nA := 5) (As := [.ref st, .int p0, .int p1, .int 0, .int 0]) (rest := []) Z hl.1 (c_X8_seek l D cI cM cT tm be or_ st f f0 p0 p1) (bw_V bw_912 bw_914 bw_29 bw_91 bw_915) ⟨by decide +kernel, by decide +kernel, by decide +kernel⟩ rfl ⟨Nat.le_of_ble_eq_true rfl, Nat.le_of_ble_eq_true rfl⟩ rfl rfl rfl hPc hDc hS rfl (Nat.le_of_ble_eq_true rfl) dX8_find_31 ⟨Nat.le_of_ble_eq_true rfl, Nat.le_of_ble_eq_true rfl⟩ (fun u1 H1 locs1 h3 hku1 hP1 hD1 hS1 => ?_)
  obtain ⟨o_4, g_5, rfl, huh3_0⟩ := h3
  obtain ⟨hP, hD⟩ := z_join (wr := [(st, .inr (6, [.ref dr, .ref s1, .ref s2, .ref s3, .int 1])), (dr, .inr (0, [.ref nw, .ref tA, .ref lW, .ref nA, .ref kA, .int 0, .int 0])), (nw, .inr (10, [.ref rO, .ref sT, .ref mA, .ref sB, .ref sA, .ref tH, .ref tF, .ref tS, .int 0, .int 0, .int (-1), .int 0, .int 0])), (sT, .inr (4, [.ref cO, .ref sH, .int 0]))]) Z hS hP hD [0, 1, 2] [3, 4, 5, 6] rfl (by decide) rfl (by decide) (by decide) hku1 hP1 hD1
  have hS := hS1
  clear hS1
  generalize H1 = H at hP hS ⊢
  generalize locs1 = locs at hS ⊢
  have hP : va_P D vwCl ([(st, .inr (6, [.ref dr, .ref s1, .ref s2, .ref s3, .int 1])), (dr, .inr (0, [.ref nw, .ref tA, .ref lW, .ref nA, .ref kA, .int 0, .int 0])), (nw, .inr (10, [.ref rO, .ref sT, .ref mA, .ref sB, .ref sA, .ref tH, .ref tF, .ref tS, .int 0, .int 0, .int (-1), .int 0, .int 0])), (sT, .inr (4, [.ref cO, .ref sH, .int 0])), (tm, .inr (8, [.ref be, .ref or_, .int 0, .int o_4])), (be, .inl (cI, 6, .inl g_5))]) H := hP
  have hD : va_D A ([(st, .inr (6, [.ref dr, .ref s1, .ref s2, .ref s3, .int 1])), (dr, .inr (0, [.ref nw, .ref tA, .ref lW, .ref nA, .ref kA, .int 0, .int 0])), (nw, .inr (10, [.ref rO, .ref sT, .ref mA, .ref sB, .ref sA, .ref tH, .ref tF, .ref tS, .int 0, .int 0, .int (-1), .int 0, .int 0])), (sT, .inr (4, [.ref cO, .ref sH, .int 0])), (tm, .inr (8, [.ref be, .ref or_, .int 0, .int o_4])), (be, .inl (cI, 6, .inl g_5))]) := hD
  refine lv_iconst (v := 1) hx hb dX8_find_34 (by decide) ?_
  refine lv_istore (lv' := [(5, .int 1), (4, .int 0), (0, .ref tm), (1, .ref st), (2, .int p0), (3, .int p1)]) hx hb dX8_find_35 hl (by decide) rfl (fun ls hl => ?_)
  refine lv_iload hx hb dX8_find_37 (lv_at hl 0 rfl) ?_
  refine lv_iload hx hb dX8_find_39 (lv_at hl 1 rfl) ?_
  refine lv_icmp_gt (tgt := 73) hx hb dX8_find_41 (by decide) (fun c6 => ?_) (fun h => absurd (by decide) h)
  have hP := hP.sub2 (wc := [(tm, .inr (8, [.ref be, .ref or_, .int 0, .int o_4])), (be, .inl (cI, 6, .inl g_5))]) [4, 5] rfl
  have hD := hD.sub (ws' := [(tm, .inr (8, [.ref be, .ref or_, .int 0, .int o_4])), (be, .inl (cI, 6, .inl g_5))]) [4, 5] (by decide) rfl
  exact z_vret Z hP hD hS (⟨o_4, g_5, rfl, (by first | rfl | assumption | (rw [if_pos (by (try simp only [zlt, zle, zeq, zl_0, zl_1, zl_2, zl_3, zl_4, zl_5, zl_6, zl_7, zl_8, zl_9, zl_10, zl_11, zl_12, zl_13, zl_19, zl_20, zl_30, zl_64, zl_99, zl_100, zl_299, zl_300, zl_399, zl_999, zl_9999, zl_m1, zl_m2, zl_m3, zl_32, zl_280] at c6 ⊢); omega)]; first | done | ((try simp only [zlt, zle, zeq, zl_0, zl_1, zl_2, zl_3, zl_4, zl_5, zl_6, zl_7, zl_8, zl_9, zl_10, zl_11, zl_12, zl_13, zl_19, zl_20, zl_30, zl_64, zl_99, zl_100, zl_299, zl_300, zl_399, zl_999, zl_9999, zl_m1, zl_m2, zl_m3, zl_32, zl_280] at c6 ⊢); omega)) | (rw [if_neg (by (try simp only [zlt, zle, zeq, zl_0, zl_1, zl_2, zl_3, zl_4, zl_5, zl_6, zl_7, zl_8, zl_9, zl_10, zl_11, zl_12, zl_13, zl_19, zl_20, zl_30, zl_64, zl_99, zl_100, zl_299, zl_300, zl_399, zl_999, zl_9999, zl_m1, zl_m2, zl_m3, zl_32, zl_280] at c6 ⊢); omega)]; first | done | ((try simp only [zlt, zle, zeq, zl_0, zl_1, zl_2, zl_3, zl_4, zl_5, zl_6, zl_7, zl_8, zl_9, zl_10, zl_11, zl_12, zl_13, zl_19, zl_20, zl_30, zl_64, zl_99, zl_100, zl_299, zl_300, zl_399, zl_999, zl_9999, zl_m1, zl_m2, zl_m3, zl_32, zl_280] at c6 ⊢); omega)))⟩) dX8_find_73 (Nat.le_of_ble_eq_true rfl) (Nat.le_of_ble_eq_true rfl)
set_option maxHeartbeats 4000000 in
set_option maxRecDepth 100000 in
theorem c_X11_harness (l : Launch) (D : va_G) (cI cM cT : ClassId) (x : Nat) (st : Nat) (dr : Nat) (nw : Nat) (kp : Nat) (rd : Nat) (tm : Nat) (co : Nat) (be : Nat) (or_ : Nat) (s1 : Nat) (s2 : Nat) (s3 : Nat) (tA : Nat) (lW : Nat) (nA : Nat) (kA : Nat) (rO : Nat) (sT : Nat) (mA : Nat) (sB : Nat) (sA : Nat) (tH : Nat) (tF : Nat) (tS : Nat) (cO : Nat) (sH : Nat) (p0 : Int32) (p1 : Int32) (p2 : Int32) : Ci l D (ty3 cI cM cT) yX11_harness cX11_harness 4 (some .int) 4 0 0 [.ref x, .int p0, .int p1, .int p2] ([(x, .inr (11, [.ref st, .ref dr, .ref nw, .ref kp, .ref rd, .ref tm, .ref co])), (tm, .inr (8, [.ref be, .ref or_, .int 0, .int (-1)])), (be, .inl (cI, 6, .inl (fun _ => 0))), (or_, .inl (cI, 6, .inl (fun _ => 0))), (st, .inr (6, [.ref dr, .ref s1, .ref s2, .ref s3, .int 1])), (dr, .inr (0, [.ref nw, .ref tA, .ref lW, .ref nA, .ref kA, .int 0, .int 0])), (nw, .inr (10, [.ref rO, .ref sT, .ref mA, .ref sB, .ref sA, .ref tH, .ref tF, .ref tS, .int 0, .int 0, .int (-1), .int 0, .int 0])), (sT, .inr (4, [.ref cO, .ref sH, .int 0]))]) (fun r u => r = (if (0 ≤ p0 ∧ p0 < 300) ∧ (0 ≤ p1 ∧ p1 < 300) ∧ p0 = p1 ∧ (p2 = (-1) ∨ p2 = (-2)) then 0 else (-3))) := by
  refine Ci.of (by decide +kernel) (Nat.le_of_ble_eq_true rfl) ?_
  intro p e s m below meth c A ls Z hin hP hD hl
  have hx := Z.1
  have hb := Z.2.1
  have hS : va_S A s.heap s.heap [] := va_S.rf
  have hl : lv_has ls 4 [(0, .ref x), (1, .int p0), (2, .int p1), (3, .int p2)] := hl
  skip
  refine lv_iload_n hx hb dX11_harness_0 rfl (lv_at hl 1 rfl) ?_
  have hPc := hP.sub2 (wc := []) [] rfl
  have hDc := hD.sub (ws' := []) [] (by decide) rfl
  refine raw_Si (nA := 1) (As := [.int p0]) (rest := []) Z hl.1 (c_X11_isPlace l D cI cM cT p0) (bw_S bw_494 bw_495 bw_80 bw_496) ⟨by decide +kernel, by decide +kernel, by decide +kernel⟩ rfl ⟨Nat.le_of_ble_eq_true rfl, Nat.le_of_ble_eq_true rfl⟩ hPc hDc hS rfl (Nat.le_of_ble_eq_true rfl) dX11_harness_1 ⟨Nat.le_of_ble_eq_true rfl, Nat.le_of_ble_eq_true rfl⟩ (fun r2 u1 H1 locs1 h3 hku1 hP1 hD1 hS1 => ?_)
  obtain ⟨hrh3, rfl⟩ := h3
  obtain ⟨hP, hD⟩ := z_join (wr := [(x, .inr (11, [.ref st, .ref dr, .ref nw, .ref kp, .ref rd, .ref tm, .ref co])), (tm, .inr (8, [.ref be, .ref or_, .int 0, .int (-1)])), (be, .inl (cI, 6, .inl (fun _ => 0))), (or_, .inl (cI, 6, .inl (fun _ => 0))), (st, .inr (6, [.ref dr, .ref s1, .ref s2, .ref s3, .int 1])), (dr, .inr (0, [.ref nw, .ref tA, .ref lW, .ref nA, .ref kA, .int 0, .int 0])), (nw, .inr (10, [.ref rO, .ref sT, .ref mA, .ref sB, .ref sA, .ref tH, .ref tF, .ref tS, .int 0, .int 0, .int (-1), .int 0, .int 0])), (sT, .inr (4, [.ref cO, .ref sH, .int 0]))]) Z hS hP hD [] [0, 1, 2, 3, 4, 5, 6, 7] rfl (by decide) rfl (by decide) (by decide) hku1 hP1 hD1
  have hS := hS1
  clear hS1
  generalize H1 = H at hP hS ⊢
  generalize locs1 = locs at hS ⊢
  have hP : va_P D vwCl ([(x, .inr (11, [.ref st, .ref dr, .ref nw, .ref kp, .ref rd, .ref tm, .ref co])), (tm, .inr (8, [.ref be, .ref or_, .int 0, .int (-1)])), (be, .inl (cI, 6, .inl (fun _ => 0))), (or_, .inl (cI, 6, .inl (fun _ => 0))), (st, .inr (6, [.ref dr, .ref s1, .ref s2, .ref s3, .int 1])), (dr, .inr (0, [.ref nw, .ref tA, .ref lW, .ref nA, .ref kA, .int 0, .int 0])), (nw, .inr (10, [.ref rO, .ref sT, .ref mA, .ref sB, .ref sA, .ref tH, .ref tF, .ref tS, .int 0, .int 0, .int (-1), .int 0, .int 0])), (sT, .inr (4, [.ref cO, .ref sH, .int 0]))]) H := hP
  have hD : va_D A ([(x, .inr (11, [.ref st, .ref dr, .ref nw, .ref kp, .ref rd, .ref tm, .ref co])), (tm, .inr (8, [.ref be, .ref or_, .int 0, .int (-1)])), (be, .inl (cI, 6, .inl (fun _ => 0))), (or_, .inl (cI, 6, .inl (fun _ => 0))), (st, .inr (6, [.ref dr, .ref s1, .ref s2, .ref s3, .int 1])), (dr, .inr (0, [.ref nw, .ref tA, .ref lW, .ref nA, .ref kA, .int 0, .int 0])), (nw, .inr (10, [.ref rO, .ref sT, .ref mA, .ref sB, .ref sA, .ref tH, .ref tF, .ref tS, .int 0, .int 0, .int (-1), .int 0, .int 0])), (sT, .inr (4, [.ref cO, .ref sH, .int 0]))]) := hD
  by_cases c4 : 0 ≤ p0 ∧ p0 < 300
  · obtain rfl : r2 = 1 := by rw [hrh3, if_pos c4]
    refine lv_if_eq (tgt := 14) hx hb dX11_harness_4 (by decide) (fun h => absurd h (by decide)) (fun c5 => ?_)
    refine lv_iload_n hx hb dX11_harness_7 rfl (lv_at hl 2 rfl) ?_
    have hPc := hP.sub2 (wc := []) [] rfl
    have hDc := hD.sub (ws' := []) [] (by decide) rfl
    refine raw_Si (nA := 1) (As := [.int p1]) (rest := []) Z hl.1 (c_X11_isPlace l D cI cM cT p1) (bw_S bw_494 bw_495 bw_80 bw_496) ⟨by decide +kernel, by decide +kernel, by decide +kernel⟩ rfl ⟨Nat.le_of_ble_eq_true rfl, Nat.le_of_ble_eq_true rfl⟩ hPc hDc hS rfl (Nat.le_of_ble_eq_true rfl) dX11_harness_8 ⟨Nat.le_of_ble_eq_true rfl, Nat.le_of_ble_eq_true rfl⟩ (fun r7 u6 H1 locs1 h8 hku6 hP1 hD1 hS1 => ?_)
    obtain ⟨hrh8, rfl⟩ := h8
    obtain ⟨hP, hD⟩ := z_join (wr := [(x, .inr (11, [.ref st, .ref dr, .ref nw, .ref kp, .ref rd, .ref tm, .ref co])), (tm, .inr (8, [.ref be, .ref or_, .int 0, .int (-1)])), (be, .inl (cI, 6, .inl (fun _ => 0))), (or_, .inl (cI, 6, .inl (fun _ => 0))), (st, .inr (6, [.ref dr, .ref s1, .ref s2, .ref s3, .int 1])), (dr, .inr (0, [.ref nw, .ref tA, .ref lW, .ref nA, .ref kA, .int 0, .int 0])), (nw, .inr (10, [.ref rO, .ref sT, .ref mA, .ref sB, .ref sA, .ref tH, .ref tF, .ref tS, .int 0, .int 0, .int (-1), .int 0, .int 0])), (sT, .inr (4, [.ref cO, .ref sH, .int 0]))]) Z hS hP hD [] [0, 1, 2, 3, 4, 5, 6, 7] rfl (by decide) rfl (by decide) (by decide) hku6 hP1 hD1
    have hS := hS1
    clear hS1
    generalize H1 = H at hP hS ⊢
    generalize locs1 = locs at hS ⊢
    have hP : va_P D vwCl ([(x, .inr (11, [.ref st, .ref dr, .ref nw, .ref kp, .ref rd, .ref tm, .ref co])), (tm, .inr (8, [.ref be, .ref or_, .int 0, .int (-1)])), (be, .inl (cI, 6, .inl (fun _ => 0))), (or_, .inl (cI, 6, .inl (fun _ => 0))), (st, .inr (6, [.ref dr, .ref s1, .ref s2, .ref s3, .int 1])), (dr, .inr (0, [.ref nw, .ref tA, .ref lW, .ref nA, .ref kA, .int 0, .int 0])), (nw, .inr (10, [.ref rO, .ref sT, .ref mA, .ref sB, .ref sA, .ref tH, .ref tF, .ref tS, .int 0, .int 0, .int (-1), .int 0, .int 0])), (sT, .inr (4, [.ref cO, .ref sH, .int 0]))]) H := hP
    have hD : va_D A ([(x, .inr (11, [.ref st, .ref dr, .ref nw, .ref kp, .ref rd, .ref tm, .ref co])), (tm, .inr (8, [.ref be, .ref or_, .int 0, .int (-1)])), (be, .inl (cI, 6, .inl (fun _ => 0))), (or_, .inl (cI, 6, .inl (fun _ => 0))), (st, .inr (6, [.ref dr, .ref s1, .ref s2, .ref s3, .int 1])), (dr, .inr (0, [.ref nw, .ref tA, .ref lW, .ref nA, .ref kA, .int 0, .int 0])), (nw, .inr (10, [.ref rO, .ref sT, .ref mA, .ref sB, .ref sA, .ref tH, .ref tF, .ref tS, .int 0, .int 0, .int (-1), .int 0, .int 0])), (sT, .inr (4, [.ref cO, .ref sH, .int 0]))]) := hD
    by_cases c9 : 0 ≤ p1 ∧ p1 < 300
    · obtain rfl : r7 = 1 := by rw [hrh8, if_pos c9]
      refine lv_if_ne (tgt := 17) hx hb dX11_harness_11 (by decide) (fun c10 => ?_) (fun h => absurd h (by decide))
      refine lv_aload_n hx hb dX11_harness_17 rfl (lv_at hl 0 rfl) ?_
      refine z_get Z i_X11 hP 0 rfl rfl 5 (by decide) bw_473 rfl dX11_harness_18 ?_
      refine lv_aload_n hx hb dX11_harness_21 rfl (lv_at hl 0 rfl) ?_
      refine z_get Z i_X11 hP 0 rfl rfl 0 (by decide) bw_468 rfl dX11_harness_22 ?_
      refine lv_iload_n hx hb dX11_harness_25 rfl (lv_at hl 1 rfl) ?_
      refine lv_iload_n hx hb dX11_harness_26 rfl (lv_at hl 2 rfl) ?_
      have hPc := hP.sub2 (wc := [(tm, .inr (8, [.ref be, .ref or_, .int 0, .int (-1)])), (be, .inl (cI, 6, .inl (fun _ => 0))), (or_, .inl (cI, 6, .inl (fun _ => 0))), (st, .inr (6, [.ref dr, .ref s1, .ref s2, .ref s3, .int 1])), (dr, .inr (0, [.ref nw, .ref tA, .ref lW, .ref nA, .ref kA, .int 0, .int 0])), (nw, .inr (10, [.ref rO, .ref sT, .ref mA, .ref sB, .ref sA, .ref tH, .ref tF, .ref tS, .int 0, .int 0, .int (-1), .int 0, .int 0])), (sT, .inr (4, [.ref cO, .ref sH, .int 0]))]) [1, 2, 3, 4, 5, 6, 7] rfl
      have hDc := hD.sub (ws' := [(tm, .inr (8, [.ref be, .ref or_, .int 0, .int (-1)])), (be, .inl (cI, 6, .inl (fun _ => 0))), (or_, .inl (cI, 6, .inl (fun _ => 0))), (st, .inr (6, [.ref dr, .ref s1, .ref s2, .ref s3, .int 1])), (dr, .inr (0, [.ref nw, .ref tA, .ref lW, .ref nA, .ref kA, .int 0, .int 0])), (nw, .inr (10, [.ref rO, .ref sT, .ref mA, .ref sB, .ref sA, .ref tH, .ref tF, .ref tS, .int 0, .int 0, .int (-1), .int 0, .int 0])), (sT, .inr (4, [.ref cO, .ref sH, .int 0]))]) [1, 2, 3, 4, 5, 6, 7] (by decide) rfl
      refine raw_Vv (ci := 8) (q0 := 0) (nA := 3) (As := [.ref st, .int p0, .int p1]) (rest := []) Z hl.1 (c_X8_find l D cI cM cT tm be or_ st dr s1 s2 s3 nw tA lW nA kA rO sT mA sB sA tH tF tS cO sH (fun _ => 0) (fun _ => 0) p0 p1) (bw_V bw_908 bw_909 bw_910 bw_91 bw_911) ⟨by decide +kernel, by decide +kernel, by decide +kernel⟩ rfl ⟨Nat.le_of_ble_eq_true rfl, Nat.le_of_ble_eq_true rfl⟩ rfl rfl rfl hPc hDc hS rfl (Nat.le_of_ble_eq_true rfl) dX11_harness_27 ⟨Nat.le_of_ble_eq_true rfl, Nat.le_of_ble_eq_true rfl⟩ (fun u11 H1 locs1 h13 hku11 hP1 hD1 hS1 => ?_)
      obtain ⟨o_14, g_15, rfl, huh13_0⟩ := h13
      obtain ⟨hP, hD⟩ := z_join (wr := [(x, .inr (11, [.ref st, .ref dr, .ref nw, .ref kp, .ref rd, .ref tm, .ref co]))]) Z hS hP hD [1, 2, 3, 4, 5, 6, 7] [0] rfl (by decide) rfl (by decide) (by decide) hku11 hP1 hD1
      have hS := hS1
      clear hS1
      generalize H1 = H at hP hS ⊢
      generalize locs1 = locs at hS ⊢
      have hP : va_P D vwCl ([(x, .inr (11, [.ref st, .ref dr, .ref nw, .ref kp, .ref rd, .ref tm, .ref co])), (tm, .inr (8, [.ref be, .ref or_, .int 0, .int o_14])), (be, .inl (cI, 6, .inl g_15))]) H := hP
      have hD : va_D A ([(x, .inr (11, [.ref st, .ref dr, .ref nw, .ref kp, .ref rd, .ref tm, .ref co])), (tm, .inr (8, [.ref be, .ref or_, .int 0, .int o_14])), (be, .inl (cI, 6, .inl g_15))]) := hD
      by_cases ce : p0 = p1
      · rw [if_pos ce] at huh13_0
        subst huh13_0
        refine lv_aload_n hx hb dX11_harness_30 rfl (lv_at hl 0 rfl) ?_
        refine z_get Z i_X11 hP 0 rfl rfl 5 (by decide) bw_473 rfl dX11_harness_31 ?_
        refine z_get Z i_X8 hP 1 rfl rfl 3 (by decide) bw_458 rfl dX11_harness_34 ?_
        refine lv_iconst (v := (-1)) hx hb dX11_harness_37 (by decide) ?_
        refine lv_icmp_ne (tgt := 44) hx hb dX11_harness_38 (by decide) (fun c16 => ?_) (fun h => absurd h (by decide))
        refine lv_iload_n hx hb dX11_harness_44 rfl (lv_at hl 3 rfl) ?_
        refine lv_iconst (v := (-1)) hx hb dX11_harness_45 (by decide) ?_
        refine lv_icmp_ne (tgt := 57) hx hb dX11_harness_46 (by decide) (fun c17 => ?_) (fun c17 => ?_)
        · refine lv_iload_n hx hb dX11_harness_57 rfl (lv_at hl 3 rfl) ?_
          refine lv_bipush (v := (-2)) hx hb dX11_harness_58 (by decide) ?_
          refine lv_icmp_ne (tgt := 71) hx hb dX11_harness_60 (by decide) (fun c18 => ?_) (fun c18 => ?_)
          · refine lv_iload_n hx hb dX11_harness_71 rfl (lv_at hl 3 rfl) ?_
            refine lv_iconst (v := 0) hx hb dX11_harness_72 (by decide) ?_
            refine lv_aload_n hx hb dX11_harness_73 rfl (lv_at hl 0 rfl) ?_
            refine z_get Z i_X11 hP 0 rfl rfl 5 (by decide) bw_473 rfl dX11_harness_74 ?_
            refine z_get Z i_X8 hP 1 rfl rfl 2 (by decide) bw_456 rfl dX11_harness_77 ?_
            refine lv_iconst (v := 1) hx hb dX11_harness_80 (by decide) ?_
            refine lv_isub hx hb dX11_harness_81 ?_
            refine z_topi (y := (-1)) (by decide) ?_
            have hPc := hP.sub2 (wc := []) [] rfl
            have hDc := hD.sub (ws' := []) [] (by decide) rfl
            refine raw_Si (nA := 3) (As := [.int p2, .int 0, .int (-1)]) (rest := []) Z hl.1 (c_X11_isWithin l D cI cM cT p2 0 (-1)) (bw_S bw_497 bw_498 bw_80 bw_499) ⟨by decide +kernel, by decide +kernel, by decide +kernel⟩ rfl ⟨Nat.le_of_ble_eq_true rfl, Nat.le_of_ble_eq_true rfl⟩ hPc hDc hS rfl (Nat.le_of_ble_eq_true rfl) dX11_harness_82 ⟨Nat.le_of_ble_eq_true rfl, Nat.le_of_ble_eq_true rfl⟩ (fun r20 u19 H1 locs1 h21 hku19 hP1 hD1 hS1 => ?_)
            obtain ⟨hrh21, rfl⟩ := h21
            obtain ⟨hP, hD⟩ := z_join (wr := [(x, .inr (11, [.ref st, .ref dr, .ref nw, .ref kp, .ref rd, .ref tm, .ref co])), (tm, .inr (8, [.ref be, .ref or_, .int 0, .int 0])), (be, .inl (cI, 6, .inl g_15))]) Z hS hP hD [] [0, 1, 2] rfl (by decide) rfl (by decide) (by decide) hku19 hP1 hD1
            have hS := hS1
            clear hS1
            generalize H1 = H at hP hS ⊢
            generalize locs1 = locs at hS ⊢
            have hP : va_P D vwCl ([(x, .inr (11, [.ref st, .ref dr, .ref nw, .ref kp, .ref rd, .ref tm, .ref co])), (tm, .inr (8, [.ref be, .ref or_, .int 0, .int 0])), (be, .inl (cI, 6, .inl g_15))]) H := hP
            have hD : va_D A ([(x, .inr (11, [.ref st, .ref dr, .ref nw, .ref kp, .ref rd, .ref tm, .ref co])), (tm, .inr (8, [.ref be, .ref or_, .int 0, .int 0])), (be, .inl (cI, 6, .inl g_15))]) := hD
            obtain rfl : r20 = 0 := by rw [hrh21, if_neg (by simp only [zlt, zle, zeq, zl_0, zl_1, zl_2, zl_3, zl_4, zl_5, zl_6, zl_7, zl_8, zl_9, zl_10, zl_11, zl_12, zl_13, zl_19, zl_20, zl_30, zl_64, zl_99, zl_100, zl_299, zl_300, zl_399, zl_999, zl_9999, zl_m1, zl_m2, zl_m3, zl_32, zl_280]; omega)]
            refine lv_if_eq (tgt := 100) hx hb dX11_harness_85 (by decide) (fun c23 => ?_) (fun h => absurd (by decide) h)
            refine lv_bipush (v := (-3)) hx hb dX11_harness_100 (by decide) ?_
            exact z_ret Z rfl hP hD hS ((by first | rfl | assumption | (rw [if_pos (by (try simp only [zlt, zle, zeq, zl_0, zl_1, zl_2, zl_3, zl_4, zl_5, zl_6, zl_7, zl_8, zl_9, zl_10, zl_11, zl_12, zl_13, zl_19, zl_20, zl_30, zl_64, zl_99, zl_100, zl_299, zl_300, zl_399, zl_999, zl_9999, zl_m1, zl_m2, zl_m3, zl_32, zl_280] at c4 c5 c9 c10 ce c16 c17 c18 c23 ⊢); omega)]; first | done | ((try simp only [zlt, zle, zeq, zl_0, zl_1, zl_2, zl_3, zl_4, zl_5, zl_6, zl_7, zl_8, zl_9, zl_10, zl_11, zl_12, zl_13, zl_19, zl_20, zl_30, zl_64, zl_99, zl_100, zl_299, zl_300, zl_399, zl_999, zl_9999, zl_m1, zl_m2, zl_m3, zl_32, zl_280] at c4 c5 c9 c10 ce c16 c17 c18 c23 ⊢); omega)) | (rw [if_neg (by (try simp only [zlt, zle, zeq, zl_0, zl_1, zl_2, zl_3, zl_4, zl_5, zl_6, zl_7, zl_8, zl_9, zl_10, zl_11, zl_12, zl_13, zl_19, zl_20, zl_30, zl_64, zl_99, zl_100, zl_299, zl_300, zl_399, zl_999, zl_9999, zl_m1, zl_m2, zl_m3, zl_32, zl_280] at c4 c5 c9 c10 ce c16 c17 c18 c23 ⊢); omega)]; first | done | ((try simp only [zlt, zle, zeq, zl_0, zl_1, zl_2, zl_3, zl_4, zl_5, zl_6, zl_7, zl_8, zl_9, zl_10, zl_11, zl_12, zl_13, zl_19, zl_20, zl_30, zl_64, zl_99, zl_100, zl_299, zl_300, zl_399, zl_999, zl_9999, zl_m1, zl_m2, zl_m3, zl_32, zl_280] at c4 c5 c9 c10 ce c16 c17 c18 c23 ⊢); omega)))) dX11_harness_102 (Nat.le_of_ble_eq_true rfl) (Nat.le_of_ble_eq_true rfl)
          · refine lv_aload_n hx hb dX11_harness_63 rfl (lv_at hl 0 rfl) ?_
            refine z_get Z i_X11 hP 0 rfl rfl 5 (by decide) bw_473 rfl dX11_harness_64 ?_
            refine z_get Z i_X8 hP 1 rfl rfl 3 (by decide) bw_458 rfl dX11_harness_67 ?_
            exact z_ret Z rfl hP hD hS ((by first | rfl | assumption | (rw [if_pos (by (try simp only [zlt, zle, zeq, zl_0, zl_1, zl_2, zl_3, zl_4, zl_5, zl_6, zl_7, zl_8, zl_9, zl_10, zl_11, zl_12, zl_13, zl_19, zl_20, zl_30, zl_64, zl_99, zl_100, zl_299, zl_300, zl_399, zl_999, zl_9999, zl_m1, zl_m2, zl_m3, zl_32, zl_280] at c4 c5 c9 c10 ce c16 c17 c18 ⊢); omega)]; first | done | ((try simp only [zlt, zle, zeq, zl_0, zl_1, zl_2, zl_3, zl_4, zl_5, zl_6, zl_7, zl_8, zl_9, zl_10, zl_11, zl_12, zl_13, zl_19, zl_20, zl_30, zl_64, zl_99, zl_100, zl_299, zl_300, zl_399, zl_999, zl_9999, zl_m1, zl_m2, zl_m3, zl_32, zl_280] at c4 c5 c9 c10 ce c16 c17 c18 ⊢); omega)) | (rw [if_neg (by (try simp only [zlt, zle, zeq, zl_0, zl_1, zl_2, zl_3, zl_4, zl_5, zl_6, zl_7, zl_8, zl_9, zl_10, zl_11, zl_12, zl_13, zl_19, zl_20, zl_30, zl_64, zl_99, zl_100, zl_299, zl_300, zl_399, zl_999, zl_9999, zl_m1, zl_m2, zl_m3, zl_32, zl_280] at c4 c5 c9 c10 ce c16 c17 c18 ⊢); omega)]; first | done | ((try simp only [zlt, zle, zeq, zl_0, zl_1, zl_2, zl_3, zl_4, zl_5, zl_6, zl_7, zl_8, zl_9, zl_10, zl_11, zl_12, zl_13, zl_19, zl_20, zl_30, zl_64, zl_99, zl_100, zl_299, zl_300, zl_399, zl_999, zl_9999, zl_m1, zl_m2, zl_m3, zl_32, zl_280] at c4 c5 c9 c10 ce c16 c17 c18 ⊢); omega)))) dX11_harness_70 (Nat.le_of_ble_eq_true rfl) (Nat.le_of_ble_eq_true rfl)
        · refine lv_aload_n hx hb dX11_harness_49 rfl (lv_at hl 0 rfl) ?_
          refine z_get Z i_X11 hP 0 rfl rfl 5 (by decide) bw_473 rfl dX11_harness_50 ?_
          refine z_get Z i_X8 hP 1 rfl rfl 2 (by decide) bw_456 rfl dX11_harness_53 ?_
          exact z_ret Z rfl hP hD hS ((by first | rfl | assumption | (rw [if_pos (by (try simp only [zlt, zle, zeq, zl_0, zl_1, zl_2, zl_3, zl_4, zl_5, zl_6, zl_7, zl_8, zl_9, zl_10, zl_11, zl_12, zl_13, zl_19, zl_20, zl_30, zl_64, zl_99, zl_100, zl_299, zl_300, zl_399, zl_999, zl_9999, zl_m1, zl_m2, zl_m3, zl_32, zl_280] at c4 c5 c9 c10 ce c16 c17 ⊢); omega)]; first | done | ((try simp only [zlt, zle, zeq, zl_0, zl_1, zl_2, zl_3, zl_4, zl_5, zl_6, zl_7, zl_8, zl_9, zl_10, zl_11, zl_12, zl_13, zl_19, zl_20, zl_30, zl_64, zl_99, zl_100, zl_299, zl_300, zl_399, zl_999, zl_9999, zl_m1, zl_m2, zl_m3, zl_32, zl_280] at c4 c5 c9 c10 ce c16 c17 ⊢); omega)) | (rw [if_neg (by (try simp only [zlt, zle, zeq, zl_0, zl_1, zl_2, zl_3, zl_4, zl_5, zl_6, zl_7, zl_8, zl_9, zl_10, zl_11, zl_12, zl_13, zl_19, zl_20, zl_30, zl_64, zl_99, zl_100, zl_299, zl_300, zl_399, zl_999, zl_9999, zl_m1, zl_m2, zl_m3, zl_32, zl_280] at c4 c5 c9 c10 ce c16 c17 ⊢); omega)]; first | done | ((try simp only [zlt, zle, zeq, zl_0, zl_1, zl_2, zl_3, zl_4, zl_5, zl_6, zl_7, zl_8, zl_9, zl_10, zl_11, zl_12, zl_13, zl_19, zl_20, zl_30, zl_64, zl_99, zl_100, zl_299, zl_300, zl_399, zl_999, zl_9999, zl_m1, zl_m2, zl_m3, zl_32, zl_280] at c4 c5 c9 c10 ce c16 c17 ⊢); omega)))) dX11_harness_56 (Nat.le_of_ble_eq_true rfl) (Nat.le_of_ble_eq_true rfl)
      · rw [if_neg ce] at huh13_0
        subst huh13_0
        refine lv_aload_n hx hb dX11_harness_30 rfl (lv_at hl 0 rfl) ?_
        refine z_get Z i_X11 hP 0 rfl rfl 5 (by decide) bw_473 rfl dX11_harness_31 ?_
        refine z_get Z i_X8 hP 1 rfl rfl 3 (by decide) bw_458 rfl dX11_harness_34 ?_
        refine lv_iconst (v := (-1)) hx hb dX11_harness_37 (by decide) ?_
        refine lv_icmp_ne (tgt := 44) hx hb dX11_harness_38 (by decide) (fun h => absurd (by decide) h) (fun c24 => ?_)
        refine lv_bipush (v := (-3)) hx hb dX11_harness_41 (by decide) ?_
        exact z_ret Z rfl hP hD hS ((by first | rfl | assumption | (rw [if_pos (by (try simp only [zlt, zle, zeq, zl_0, zl_1, zl_2, zl_3, zl_4, zl_5, zl_6, zl_7, zl_8, zl_9, zl_10, zl_11, zl_12, zl_13, zl_19, zl_20, zl_30, zl_64, zl_99, zl_100, zl_299, zl_300, zl_399, zl_999, zl_9999, zl_m1, zl_m2, zl_m3, zl_32, zl_280] at c4 c5 c9 c10 ce c24 ⊢); omega)]; first | done | ((try simp only [zlt, zle, zeq, zl_0, zl_1, zl_2, zl_3, zl_4, zl_5, zl_6, zl_7, zl_8, zl_9, zl_10, zl_11, zl_12, zl_13, zl_19, zl_20, zl_30, zl_64, zl_99, zl_100, zl_299, zl_300, zl_399, zl_999, zl_9999, zl_m1, zl_m2, zl_m3, zl_32, zl_280] at c4 c5 c9 c10 ce c24 ⊢); omega)) | (rw [if_neg (by (try simp only [zlt, zle, zeq, zl_0, zl_1, zl_2, zl_3, zl_4, zl_5, zl_6, zl_7, zl_8, zl_9, zl_10, zl_11, zl_12, zl_13, zl_19, zl_20, zl_30, zl_64, zl_99, zl_100, zl_299, zl_300, zl_399, zl_999, zl_9999, zl_m1, zl_m2, zl_m3, zl_32, zl_280] at c4 c5 c9 c10 ce c24 ⊢); omega)]; first | done | ((try simp only [zlt, zle, zeq, zl_0, zl_1, zl_2, zl_3, zl_4, zl_5, zl_6, zl_7, zl_8, zl_9, zl_10, zl_11, zl_12, zl_13, zl_19, zl_20, zl_30, zl_64, zl_99, zl_100, zl_299, zl_300, zl_399, zl_999, zl_9999, zl_m1, zl_m2, zl_m3, zl_32, zl_280] at c4 c5 c9 c10 ce c24 ⊢); omega)))) dX11_harness_43 (Nat.le_of_ble_eq_true rfl) (Nat.le_of_ble_eq_true rfl)
    · obtain rfl : r7 = 0 := by rw [hrh8, if_neg c9]
      refine lv_if_ne (tgt := 17) hx hb dX11_harness_11 (by decide) (fun h => absurd (by decide) h) (fun c25 => ?_)
      refine lv_bipush (v := (-3)) hx hb dX11_harness_14 (by decide) ?_
      exact z_ret Z rfl hP hD hS ((by first | rfl | assumption | (rw [if_pos (by (try simp only [zlt, zle, zeq, zl_0, zl_1, zl_2, zl_3, zl_4, zl_5, zl_6, zl_7, zl_8, zl_9, zl_10, zl_11, zl_12, zl_13, zl_19, zl_20, zl_30, zl_64, zl_99, zl_100, zl_299, zl_300, zl_399, zl_999, zl_9999, zl_m1, zl_m2, zl_m3, zl_32, zl_280] at c4 c5 c9 c25 ⊢); omega)]; first | done | ((try simp only [zlt, zle, zeq, zl_0, zl_1, zl_2, zl_3, zl_4, zl_5, zl_6, zl_7, zl_8, zl_9, zl_10, zl_11, zl_12, zl_13, zl_19, zl_20, zl_30, zl_64, zl_99, zl_100, zl_299, zl_300, zl_399, zl_999, zl_9999, zl_m1, zl_m2, zl_m3, zl_32, zl_280] at c4 c5 c9 c25 ⊢); omega)) | (rw [if_neg (by (try simp only [zlt, zle, zeq, zl_0, zl_1, zl_2, zl_3, zl_4, zl_5, zl_6, zl_7, zl_8, zl_9, zl_10, zl_11, zl_12, zl_13, zl_19, zl_20, zl_30, zl_64, zl_99, zl_100, zl_299, zl_300, zl_399, zl_999, zl_9999, zl_m1, zl_m2, zl_m3, zl_32, zl_280] at c4 c5 c9 c25 ⊢); omega)]; first | done | ((try simp only [zlt, zle, zeq, zl_0, zl_1, zl_2, zl_3, zl_4, zl_5, zl_6, zl_7, zl_8, zl_9, zl_10, zl_11, zl_12, zl_13, zl_19, zl_20, zl_30, zl_64, zl_99, zl_100, zl_299, zl_300, zl_399, zl_999, zl_9999, zl_m1, zl_m2, zl_m3, zl_32, zl_280] at c4 c5 c9 c25 ⊢); omega)))) dX11_harness_16 (Nat.le_of_ble_eq_true rfl) (Nat.le_of_ble_eq_true rfl)
  · obtain rfl : r2 = 0 := by rw [hrh3, if_neg c4]
    refine lv_if_eq (tgt := 14) hx hb dX11_harness_4 (by decide) (fun c26 => ?_) (fun h => absurd (by decide) h)
    refine lv_bipush (v := (-3)) hx hb dX11_harness_14 (by decide) ?_
    exact z_ret Z rfl hP hD hS ((by first | rfl | assumption | (rw [if_pos (by (try simp only [zlt, zle, zeq, zl_0, zl_1, zl_2, zl_3, zl_4, zl_5, zl_6, zl_7, zl_8, zl_9, zl_10, zl_11, zl_12, zl_13, zl_19, zl_20, zl_30, zl_64, zl_99, zl_100, zl_299, zl_300, zl_399, zl_999, zl_9999, zl_m1, zl_m2, zl_m3, zl_32, zl_280] at c4 c26 ⊢); omega)]; first | done | ((try simp only [zlt, zle, zeq, zl_0, zl_1, zl_2, zl_3, zl_4, zl_5, zl_6, zl_7, zl_8, zl_9, zl_10, zl_11, zl_12, zl_13, zl_19, zl_20, zl_30, zl_64, zl_99, zl_100, zl_299, zl_300, zl_399, zl_999, zl_9999, zl_m1, zl_m2, zl_m3, zl_32, zl_280] at c4 c26 ⊢); omega)) | (rw [if_neg (by (try simp only [zlt, zle, zeq, zl_0, zl_1, zl_2, zl_3, zl_4, zl_5, zl_6, zl_7, zl_8, zl_9, zl_10, zl_11, zl_12, zl_13, zl_19, zl_20, zl_30, zl_64, zl_99, zl_100, zl_299, zl_300, zl_399, zl_999, zl_9999, zl_m1, zl_m2, zl_m3, zl_32, zl_280] at c4 c26 ⊢); omega)]; first | done | ((try simp only [zlt, zle, zeq, zl_0, zl_1, zl_2, zl_3, zl_4, zl_5, zl_6, zl_7, zl_8, zl_9, zl_10, zl_11, zl_12, zl_13, zl_19, zl_20, zl_30, zl_64, zl_99, zl_100, zl_299, zl_300, zl_399, zl_999, zl_9999, zl_m1, zl_m2, zl_m3, zl_32, zl_280] at c4 c26 ⊢); omega)))) dX11_harness_16 (Nat.le_of_ble_eq_true rfl) (Nat.le_of_ble_eq_true rfl)
set_option maxHeartbeats 4000000 in
set_option maxRecDepth 100000 in
theorem c_J6_bitCount_0f7a4 (l : Launch) (D : va_G) (cI cM cT : ClassId) : Ci l D (ty3 cI cM cT) yJ6_bitCount_0f7a4 cJ6_bitCount_0f7a4 1 (some .int) 0 0 0 [.int 0] ([]) (fun r u => r = 0 ∧ u = []) := by
  refine Ci.of (by decide +kernel) (Nat.le_of_ble_eq_true rfl) ?_
  intro p e s m below meth c A ls Z hin hP hD hl
  have hx := Z.1
  have hb := Z.2.1
  have hS : va_S A s.heap s.heap [] := va_S.rf
  have hl : lv_has ls 1 [(0, .int 0)] := hl
  skip
  refine lv_iload_n hx hb dJ6_bitCount_0f7a4_0 rfl (lv_at hl 0 rfl) ?_
  refine lv_iload_n hx hb dJ6_bitCount_0f7a4_1 rfl (lv_at hl 0 rfl) ?_
  refine lv_iconst (v := 1) hx hb dJ6_bitCount_0f7a4_2 (by decide) ?_
  refine lv_iushr (v := 0) hx hb dJ6_bitCount_0f7a4_3 (by decide) ?_
  refine lv_ldcw (v := 1431655765) hx hb Z.2.2.2.1 (Z.2.2.2.2.1 _ bw_939) dJ6_bitCount_0f7a4_4 ?_
  refine lv_iand hx hb dJ6_bitCount_0f7a4_7 ?_
  refine z_topi (y := 0) (by decide) ?_
  refine lv_isub hx hb dJ6_bitCount_0f7a4_8 ?_
  refine z_topi (y := 0) (by decide) ?_
  refine lv_istore_n (lv' := [(0, .int 0)]) hx hb dJ6_bitCount_0f7a4_9 rfl hl (by decide) rfl (fun ls hl => ?_)
  refine lv_iload_n hx hb dJ6_bitCount_0f7a4_10 rfl (lv_at hl 0 rfl) ?_
  refine lv_ldcw (v := 858993459) hx hb Z.2.2.2.1 (Z.2.2.2.2.1 _ bw_940) dJ6_bitCount_0f7a4_11 ?_
  refine lv_iand hx hb dJ6_bitCount_0f7a4_14 ?_
  refine z_topi (y := 0) (by decide) ?_
  refine lv_iload_n hx hb dJ6_bitCount_0f7a4_15 rfl (lv_at hl 0 rfl) ?_
  refine lv_iconst (v := 2) hx hb dJ6_bitCount_0f7a4_16 (by decide) ?_
  refine lv_iushr (v := 0) hx hb dJ6_bitCount_0f7a4_17 (by decide) ?_
  refine lv_ldcw (v := 858993459) hx hb Z.2.2.2.1 (Z.2.2.2.2.1 _ bw_940) dJ6_bitCount_0f7a4_18 ?_
  refine lv_iand hx hb dJ6_bitCount_0f7a4_21 ?_
  refine z_topi (y := 0) (by decide) ?_
  refine lv_iadd hx hb dJ6_bitCount_0f7a4_22 ?_
  refine z_topi (y := 0) (by decide) ?_
  refine lv_istore_n (lv' := [(0, .int 0)]) hx hb dJ6_bitCount_0f7a4_23 rfl hl (by decide) rfl (fun ls hl => ?_)
  refine lv_iload_n hx hb dJ6_bitCount_0f7a4_24 rfl (lv_at hl 0 rfl) ?_
  refine lv_iload_n hx hb dJ6_bitCount_0f7a4_25 rfl (lv_at hl 0 rfl) ?_
  refine lv_iconst (v := 4) hx hb dJ6_bitCount_0f7a4_26 (by decide) ?_
  refine lv_iushr (v := 0) hx hb dJ6_bitCount_0f7a4_27 (by decide) ?_
  refine lv_iadd hx hb dJ6_bitCount_0f7a4_28 ?_
  refine z_topi (y := 0) (by decide) ?_
  refine lv_ldcw (v := 252645135) hx hb Z.2.2.2.1 (Z.2.2.2.2.1 _ bw_941) dJ6_bitCount_0f7a4_29 ?_
  refine lv_iand hx hb dJ6_bitCount_0f7a4_32 ?_
  refine z_topi (y := 0) (by decide) ?_
  refine lv_istore_n (lv' := [(0, .int 0)]) hx hb dJ6_bitCount_0f7a4_33 rfl hl (by decide) rfl (fun ls hl => ?_)
  refine lv_iload_n hx hb dJ6_bitCount_0f7a4_34 rfl (lv_at hl 0 rfl) ?_
  refine lv_iload_n hx hb dJ6_bitCount_0f7a4_35 rfl (lv_at hl 0 rfl) ?_
  refine lv_bipush (v := 8) hx hb dJ6_bitCount_0f7a4_36 (by decide) ?_
  refine lv_iushr (v := 0) hx hb dJ6_bitCount_0f7a4_38 (by decide) ?_
  refine lv_iadd hx hb dJ6_bitCount_0f7a4_39 ?_
  refine z_topi (y := 0) (by decide) ?_
  refine lv_istore_n (lv' := [(0, .int 0)]) hx hb dJ6_bitCount_0f7a4_40 rfl hl (by decide) rfl (fun ls hl => ?_)
  refine lv_iload_n hx hb dJ6_bitCount_0f7a4_41 rfl (lv_at hl 0 rfl) ?_
  refine lv_iload_n hx hb dJ6_bitCount_0f7a4_42 rfl (lv_at hl 0 rfl) ?_
  refine lv_bipush (v := 16) hx hb dJ6_bitCount_0f7a4_43 (by decide) ?_
  refine lv_iushr (v := 0) hx hb dJ6_bitCount_0f7a4_45 (by decide) ?_
  refine lv_iadd hx hb dJ6_bitCount_0f7a4_46 ?_
  refine z_topi (y := 0) (by decide) ?_
  refine lv_istore_n (lv' := [(0, .int 0)]) hx hb dJ6_bitCount_0f7a4_47 rfl hl (by decide) rfl (fun ls hl => ?_)
  refine lv_iload_n hx hb dJ6_bitCount_0f7a4_48 rfl (lv_at hl 0 rfl) ?_
  refine lv_bipush (v := 63) hx hb dJ6_bitCount_0f7a4_49 (by decide) ?_
  refine lv_iand hx hb dJ6_bitCount_0f7a4_51 ?_
  refine z_topi (y := 0) (by decide) ?_
  exact z_ret Z rfl hP hD hS (⟨rfl, rfl⟩) dJ6_bitCount_0f7a4_52 (Nat.le_of_ble_eq_true rfl) (Nat.le_of_ble_eq_true rfl)
set_option maxHeartbeats 4000000 in
set_option maxRecDepth 100000 in
theorem c_X11_thief (l : Launch) (D : va_G) (cI cM cT : ClassId) (x : Nat) (st : Nat) (dr : Nat) (nw : Nat) (kp : Nat) (rd : Nat) (tm : Nat) (co : Nat) (rO : Nat) (sT : Nat) (mA : Nat) (sB : Nat) (sA : Nat) (tH : Nat) (tF : Nat) (tS : Nat) (cO : Nat) (sH : Nat) (p0 : Int32) (p1 : Int32) (p2 : Int32) : Ci l D (ty3 cI cM cT) yX11_thief cX11_thief 6 (some .int) 3 0 0 [.ref x, .int p0, .int p1, .int p2] ([(x, .inr (11, [.ref st, .ref dr, .ref nw, .ref kp, .ref rd, .ref tm, .ref co])), (nw, .inr (10, [.ref rO, .ref sT, .ref mA, .ref sB, .ref sA, .ref tH, .ref tF, .ref tS, .int 0, .int 0, .int (-1), .int 0, .int 0])), (sT, .inr (4, [.ref cO, .ref sH, .int 0]))]) (fun r u => r = (if (0 ≤ p0 ∧ p0 < 300) ∧ (0 ≤ p1 ∧ p1 < 300) ∧ p2 = (-1) then 0 else (-1))) := by
  refine Ci.of (by decide +kernel) (Nat.le_of_ble_eq_true rfl) ?_
  intro p e s m below meth c A ls Z hin hP hD hl
  have hx := Z.1
  have hb := Z.2.1
  have hS : va_S A s.heap s.heap [] := va_S.rf
  have hl : lv_has ls 6 [(0, .ref x), (1, .int p0), (2, .int p1), (3, .int p2)] := hl
  skip
  refine lv_iload_n hx hb dX11_thief_0 rfl (lv_at hl 1 rfl) ?_
  have hPc := hP.sub2 (wc := []) [] rfl
  have hDc := hD.sub (ws' := []) [] (by decide) rfl
  refine raw_Si (nA := 1) (As := [.int p0]) (rest := []) Z hl.1 (c_X11_isPlace l D cI cM cT p0) (bw_S bw_494 bw_495 bw_80 bw_496) ⟨by decide +kernel, by decide +kernel, by decide +kernel⟩ rfl ⟨Nat.le_of_ble_eq_true rfl, Nat.le_of_ble_eq_true rfl⟩ hPc hDc hS rfl (Nat.le_of_ble_eq_true rfl) dX11_thief_1 ⟨Nat.le_of_ble_eq_true rfl, Nat.le_of_ble_eq_true rfl⟩ (fun r2 u1 H1 locs1 h3 hku1 hP1 hD1 hS1 => ?_)
  obtain ⟨hrh3, rfl⟩ := h3
  obtain ⟨hP, hD⟩ := z_join (wr := [(x, .inr (11, [.ref st, .ref dr, .ref nw, .ref kp, .ref rd, .ref tm, .ref co])), (nw, .inr (10, [.ref rO, .ref sT, .ref mA, .ref sB, .ref sA, .ref tH, .ref tF, .ref tS, .int 0, .int 0, .int (-1), .int 0, .int 0])), (sT, .inr (4, [.ref cO, .ref sH, .int 0]))]) Z hS hP hD [] [0, 1, 2] rfl (by decide) rfl (by decide) (by decide) hku1 hP1 hD1
  have hS := hS1
  clear hS1
  generalize H1 = H at hP hS ⊢
  generalize locs1 = locs at hS ⊢
  have hP : va_P D vwCl ([(x, .inr (11, [.ref st, .ref dr, .ref nw, .ref kp, .ref rd, .ref tm, .ref co])), (nw, .inr (10, [.ref rO, .ref sT, .ref mA, .ref sB, .ref sA, .ref tH, .ref tF, .ref tS, .int 0, .int 0, .int (-1), .int 0, .int 0])), (sT, .inr (4, [.ref cO, .ref sH, .int 0]))]) H := hP
  have hD : va_D A ([(x, .inr (11, [.ref st, .ref dr, .ref nw, .ref kp, .ref rd, .ref tm, .ref co])), (nw, .inr (10, [.ref rO, .ref sT, .ref mA, .ref sB, .ref sA, .ref tH, .ref tF, .ref tS, .int 0, .int 0, .int (-1), .int 0, .int 0])), (sT, .inr (4, [.ref cO, .ref sH, .int 0]))]) := hD
  by_cases c4 : 0 ≤ p0 ∧ p0 < 300
  · obtain rfl : r2 = 1 := by rw [hrh3, if_pos c4]
    refine lv_if_eq (tgt := 19) hx hb dX11_thief_4 (by decide) (fun h => absurd h (by decide)) (fun c5 => ?_)
    refine lv_iload_n hx hb dX11_thief_7 rfl (lv_at hl 2 rfl) ?_
    have hPc := hP.sub2 (wc := []) [] rfl
    have hDc := hD.sub (ws' := []) [] (by decide) rfl
    refine raw_Si (nA := 1) (As := [.int p1]) (rest := []) Z hl.1 (c_X11_isPlace l D cI cM cT p1) (bw_S bw_494 bw_495 bw_80 bw_496) ⟨by decide +kernel, by decide +kernel, by decide +kernel⟩ rfl ⟨Nat.le_of_ble_eq_true rfl, Nat.le_of_ble_eq_true rfl⟩ hPc hDc hS rfl (Nat.le_of_ble_eq_true rfl) dX11_thief_8 ⟨Nat.le_of_ble_eq_true rfl, Nat.le_of_ble_eq_true rfl⟩ (fun r7 u6 H1 locs1 h8 hku6 hP1 hD1 hS1 => ?_)
    obtain ⟨hrh8, rfl⟩ := h8
    obtain ⟨hP, hD⟩ := z_join (wr := [(x, .inr (11, [.ref st, .ref dr, .ref nw, .ref kp, .ref rd, .ref tm, .ref co])), (nw, .inr (10, [.ref rO, .ref sT, .ref mA, .ref sB, .ref sA, .ref tH, .ref tF, .ref tS, .int 0, .int 0, .int (-1), .int 0, .int 0])), (sT, .inr (4, [.ref cO, .ref sH, .int 0]))]) Z hS hP hD [] [0, 1, 2] rfl (by decide) rfl (by decide) (by decide) hku6 hP1 hD1
    have hS := hS1
    clear hS1
    generalize H1 = H at hP hS ⊢
    generalize locs1 = locs at hS ⊢
    have hP : va_P D vwCl ([(x, .inr (11, [.ref st, .ref dr, .ref nw, .ref kp, .ref rd, .ref tm, .ref co])), (nw, .inr (10, [.ref rO, .ref sT, .ref mA, .ref sB, .ref sA, .ref tH, .ref tF, .ref tS, .int 0, .int 0, .int (-1), .int 0, .int 0])), (sT, .inr (4, [.ref cO, .ref sH, .int 0]))]) H := hP
    have hD : va_D A ([(x, .inr (11, [.ref st, .ref dr, .ref nw, .ref kp, .ref rd, .ref tm, .ref co])), (nw, .inr (10, [.ref rO, .ref sT, .ref mA, .ref sB, .ref sA, .ref tH, .ref tF, .ref tS, .int 0, .int 0, .int (-1), .int 0, .int 0])), (sT, .inr (4, [.ref cO, .ref sH, .int 0]))]) := hD
    by_cases c9 : 0 ≤ p1 ∧ p1 < 300
    · obtain rfl : r7 = 1 := by rw [hrh8, if_pos c9]
      refine lv_if_eq (tgt := 19) hx hb dX11_thief_11 (by decide) (fun h => absurd h (by decide)) (fun c10 => ?_)
      refine lv_iload_n hx hb dX11_thief_14 rfl (lv_at hl 3 rfl) ?_
      refine lv_iconst (v := (-1)) hx hb dX11_thief_15 (by decide) ?_
      refine lv_icmp_ge (tgt := 21) hx hb dX11_thief_16 (by decide) (fun c11 => ?_) (fun c11 => ?_)
      · refine lv_iconst (v := 0) hx hb dX11_thief_21 (by decide) ?_
        refine lv_istore (lv' := [(4, .int 0), (0, .ref x), (1, .int p0), (2, .int p1), (3, .int p2)]) hx hb dX11_thief_22 hl (by decide) rfl (fun ls hl => ?_)
        refine lv_iconst (v := 0) hx hb dX11_thief_24 (by decide) ?_
        refine lv_istore (lv' := [(5, .int 0), (4, .int 0), (0, .ref x), (1, .int p0), (2, .int p1), (3, .int p2)]) hx hb dX11_thief_25 hl (by decide) rfl (fun ls hl => ?_)
        refine lv_iload hx hb dX11_thief_27 (lv_at hl 0 rfl) ?_
        refine lv_iconst (v := 1) hx hb dX11_thief_29 (by decide) ?_
        refine lv_aload_n hx hb dX11_thief_30 rfl (lv_at hl 2 rfl) ?_
        refine z_get Z i_X11 hP 0 rfl rfl 2 (by decide) bw_470 rfl dX11_thief_31 ?_
        refine z_get Z i_X10 hP 1 rfl rfl 1 (by decide) bw_237 rfl dX11_thief_34 ?_
        refine z_get Z i_X4 hP 2 rfl rfl 2 (by decide) bw_167 rfl dX11_thief_37 ?_
        refine lv_ishl hx hb dX11_thief_40 ?_
        refine z_topi (y := 1) (by decide) ?_
        refine lv_icmp_ge (tgt := 82) hx hb dX11_thief_41 (by decide) (fun h => absurd h (by decide)) (fun c12 => ?_)
        refine lv_iload hx hb dX11_thief_44 (lv_at hl 0 rfl) ?_
        have hPc := hP.sub2 (wc := []) [] rfl
        have hDc := hD.sub (ws' := []) [] (by decide) rfl
        refine raw_Si (nA := 1) (As := [.int 0]) (rest := []) Z hl.1 (c_J6_bitCount_0f7a4 l D cI cM cT) (bw_S bw_936 bw_937 bw_101 bw_938) ⟨by decide +kernel, by decide +kernel, by decide +kernel⟩ rfl ⟨Nat.le_of_ble_eq_true rfl, Nat.le_of_ble_eq_true rfl⟩ hPc hDc hS rfl (Nat.le_of_ble_eq_true rfl) dX11_thief_46 ⟨Nat.le_of_ble_eq_true rfl, Nat.le_of_ble_eq_true rfl⟩ (fun r14 u13 H1 locs1 h15 hku13 hP1 hD1 hS1 => ?_)
        obtain ⟨rfl, rfl⟩ := h15
        obtain ⟨hP, hD⟩ := z_join (wr := [(x, .inr (11, [.ref st, .ref dr, .ref nw, .ref kp, .ref rd, .ref tm, .ref co])), (nw, .inr (10, [.ref rO, .ref sT, .ref mA, .ref sB, .ref sA, .ref tH, .ref tF, .ref tS, .int 0, .int 0, .int (-1), .int 0, .int 0])), (sT, .inr (4, [.ref cO, .ref sH, .int 0]))]) Z hS hP hD [] [0, 1, 2] rfl (by decide) rfl (by decide) (by decide) hku13 hP1 hD1
        have hS := hS1
        clear hS1
        generalize H1 = H at hP hS ⊢
        generalize locs1 = locs at hS ⊢
        have hP : va_P D vwCl ([(x, .inr (11, [.ref st, .ref dr, .ref nw, .ref kp, .ref rd, .ref tm, .ref co])), (nw, .inr (10, [.ref rO, .ref sT, .ref mA, .ref sB, .ref sA, .ref tH, .ref tF, .ref tS, .int 0, .int 0, .int (-1), .int 0, .int 0])), (sT, .inr (4, [.ref cO, .ref sH, .int 0]))]) H := hP
        have hD : va_D A ([(x, .inr (11, [.ref st, .ref dr, .ref nw, .ref kp, .ref rd, .ref tm, .ref co])), (nw, .inr (10, [.ref rO, .ref sT, .ref mA, .ref sB, .ref sA, .ref tH, .ref tF, .ref tS, .int 0, .int 0, .int (-1), .int 0, .int 0])), (sT, .inr (4, [.ref cO, .ref sH, .int 0]))]) := hD
        refine lv_iconst (v := 3) hx hb dX11_thief_49 (by decide) ?_
        refine lv_icmp_ne (tgt := 76) hx hb dX11_thief_50 (by decide) (fun c16 => ?_) (fun h => absurd h (by decide))
        refine lv_iinc (v := 1) (lv' := [(5, .int 1), (4, .int 0), (0, .ref x), (1, .int p0), (2, .int p1), (3, .int p2)]) hx hb dX11_thief_76 hl (k := 0) rfl (by decide) (by decide) rfl (fun ls hl => ?_)
        refine lv_goto (tgt := 27) hx hb dX11_thief_79 (by decide) ?_
        refine lv_iload hx hb dX11_thief_27 (lv_at hl 0 rfl) ?_
        refine lv_iconst (v := 1) hx hb dX11_thief_29 (by decide) ?_
        refine lv_aload_n hx hb dX11_thief_30 rfl (lv_at hl 2 rfl) ?_
        refine z_get Z i_X11 hP 0 rfl rfl 2 (by decide) bw_470 rfl dX11_thief_31 ?_
        refine z_get Z i_X10 hP 1 rfl rfl 1 (by decide) bw_237 rfl dX11_thief_34 ?_
        refine z_get Z i_X4 hP 2 rfl rfl 2 (by decide) bw_167 rfl dX11_thief_37 ?_
        refine lv_ishl hx hb dX11_thief_40 ?_
        refine z_topi (y := 1) (by decide) ?_
        refine lv_icmp_ge (tgt := 82) hx hb dX11_thief_41 (by decide) (fun c17 => ?_) (fun h => absurd (by decide) h)
        refine lv_iload_n hx hb dX11_thief_82 rfl (lv_at hl 5 rfl) ?_
        refine lv_iconst (v := (-1)) hx hb dX11_thief_83 (by decide) ?_
        refine lv_icmp_ne (tgt := 92) hx hb dX11_thief_84 (by decide) (fun c18 => ?_) (fun c18 => ?_)
        · refine lv_iconst (v := (-1)) hx hb dX11_thief_92 (by decide) ?_
          exact z_ret Z rfl hP hD hS ((by first | rfl | assumption | (rw [if_pos (by (try simp only [zlt, zle, zeq, zl_0, zl_1, zl_2, zl_3, zl_4, zl_5, zl_6, zl_7, zl_8, zl_9, zl_10, zl_11, zl_12, zl_13, zl_19, zl_20, zl_30, zl_64, zl_99, zl_100, zl_299, zl_300, zl_399, zl_999, zl_9999, zl_m1, zl_m2, zl_m3, zl_32, zl_280] at c4 c5 c9 c10 c11 c12 c16 c17 c18 ⊢); omega)]; first | done | ((try simp only [zlt, zle, zeq, zl_0, zl_1, zl_2, zl_3, zl_4, zl_5, zl_6, zl_7, zl_8, zl_9, zl_10, zl_11, zl_12, zl_13, zl_19, zl_20, zl_30, zl_64, zl_99, zl_100, zl_299, zl_300, zl_399, zl_999, zl_9999, zl_m1, zl_m2, zl_m3, zl_32, zl_280] at c4 c5 c9 c10 c11 c12 c16 c17 c18 ⊢); omega)) | (rw [if_neg (by (try simp only [zlt, zle, zeq, zl_0, zl_1, zl_2, zl_3, zl_4, zl_5, zl_6, zl_7, zl_8, zl_9, zl_10, zl_11, zl_12, zl_13, zl_19, zl_20, zl_30, zl_64, zl_99, zl_100, zl_299, zl_300, zl_399, zl_999, zl_9999, zl_m1, zl_m2, zl_m3, zl_32, zl_280] at c4 c5 c9 c10 c11 c12 c16 c17 c18 ⊢); omega)]; first | done | ((try simp only [zlt, zle, zeq, zl_0, zl_1, zl_2, zl_3, zl_4, zl_5, zl_6, zl_7, zl_8, zl_9, zl_10, zl_11, zl_12, zl_13, zl_19, zl_20, zl_30, zl_64, zl_99, zl_100, zl_299, zl_300, zl_399, zl_999, zl_9999, zl_m1, zl_m2, zl_m3, zl_32, zl_280] at c4 c5 c9 c10 c11 c12 c16 c17 c18 ⊢); omega)))) dX11_thief_93 (Nat.le_of_ble_eq_true rfl) (Nat.le_of_ble_eq_true rfl)
        · refine lv_iload hx hb dX11_thief_87 (lv_at hl 1 rfl) ?_
          refine lv_goto (tgt := 93) hx hb dX11_thief_89 (by decide) ?_
          exact z_ret Z rfl hP hD hS ((by first | rfl | assumption | (rw [if_pos (by (try simp only [zlt, zle, zeq, zl_0, zl_1, zl_2, zl_3, zl_4, zl_5, zl_6, zl_7, zl_8, zl_9, zl_10, zl_11, zl_12, zl_13, zl_19, zl_20, zl_30, zl_64, zl_99, zl_100, zl_299, zl_300, zl_399, zl_999, zl_9999, zl_m1, zl_m2, zl_m3, zl_32, zl_280] at c4 c5 c9 c10 c11 c12 c16 c17 c18 ⊢); omega)]; first | done | ((try simp only [zlt, zle, zeq, zl_0, zl_1, zl_2, zl_3, zl_4, zl_5, zl_6, zl_7, zl_8, zl_9, zl_10, zl_11, zl_12, zl_13, zl_19, zl_20, zl_30, zl_64, zl_99, zl_100, zl_299, zl_300, zl_399, zl_999, zl_9999, zl_m1, zl_m2, zl_m3, zl_32, zl_280] at c4 c5 c9 c10 c11 c12 c16 c17 c18 ⊢); omega)) | (rw [if_neg (by (try simp only [zlt, zle, zeq, zl_0, zl_1, zl_2, zl_3, zl_4, zl_5, zl_6, zl_7, zl_8, zl_9, zl_10, zl_11, zl_12, zl_13, zl_19, zl_20, zl_30, zl_64, zl_99, zl_100, zl_299, zl_300, zl_399, zl_999, zl_9999, zl_m1, zl_m2, zl_m3, zl_32, zl_280] at c4 c5 c9 c10 c11 c12 c16 c17 c18 ⊢); omega)]; first | done | ((try simp only [zlt, zle, zeq, zl_0, zl_1, zl_2, zl_3, zl_4, zl_5, zl_6, zl_7, zl_8, zl_9, zl_10, zl_11, zl_12, zl_13, zl_19, zl_20, zl_30, zl_64, zl_99, zl_100, zl_299, zl_300, zl_399, zl_999, zl_9999, zl_m1, zl_m2, zl_m3, zl_32, zl_280] at c4 c5 c9 c10 c11 c12 c16 c17 c18 ⊢); omega)))) dX11_thief_93 (Nat.le_of_ble_eq_true rfl) (Nat.le_of_ble_eq_true rfl)
      · refine lv_iconst (v := (-1)) hx hb dX11_thief_19 (by decide) ?_
        exact z_ret Z rfl hP hD hS ((by first | rfl | assumption | (rw [if_pos (by (try simp only [zlt, zle, zeq, zl_0, zl_1, zl_2, zl_3, zl_4, zl_5, zl_6, zl_7, zl_8, zl_9, zl_10, zl_11, zl_12, zl_13, zl_19, zl_20, zl_30, zl_64, zl_99, zl_100, zl_299, zl_300, zl_399, zl_999, zl_9999, zl_m1, zl_m2, zl_m3, zl_32, zl_280] at c4 c5 c9 c10 c11 ⊢); omega)]; first | done | ((try simp only [zlt, zle, zeq, zl_0, zl_1, zl_2, zl_3, zl_4, zl_5, zl_6, zl_7, zl_8, zl_9, zl_10, zl_11, zl_12, zl_13, zl_19, zl_20, zl_30, zl_64, zl_99, zl_100, zl_299, zl_300, zl_399, zl_999, zl_9999, zl_m1, zl_m2, zl_m3, zl_32, zl_280] at c4 c5 c9 c10 c11 ⊢); omega)) | (rw [if_neg (by (try simp only [zlt, zle, zeq, zl_0, zl_1, zl_2, zl_3, zl_4, zl_5, zl_6, zl_7, zl_8, zl_9, zl_10, zl_11, zl_12, zl_13, zl_19, zl_20, zl_30, zl_64, zl_99, zl_100, zl_299, zl_300, zl_399, zl_999, zl_9999, zl_m1, zl_m2, zl_m3, zl_32, zl_280] at c4 c5 c9 c10 c11 ⊢); omega)]; first | done | ((try simp only [zlt, zle, zeq, zl_0, zl_1, zl_2, zl_3, zl_4, zl_5, zl_6, zl_7, zl_8, zl_9, zl_10, zl_11, zl_12, zl_13, zl_19, zl_20, zl_30, zl_64, zl_99, zl_100, zl_299, zl_300, zl_399, zl_999, zl_9999, zl_m1, zl_m2, zl_m3, zl_32, zl_280] at c4 c5 c9 c10 c11 ⊢); omega)))) dX11_thief_20 (Nat.le_of_ble_eq_true rfl) (Nat.le_of_ble_eq_true rfl)
    · obtain rfl : r7 = 0 := by rw [hrh8, if_neg c9]
      refine lv_if_eq (tgt := 19) hx hb dX11_thief_11 (by decide) (fun c19 => ?_) (fun h => absurd (by decide) h)
      refine lv_iconst (v := (-1)) hx hb dX11_thief_19 (by decide) ?_
      exact z_ret Z rfl hP hD hS ((by first | rfl | assumption | (rw [if_pos (by (try simp only [zlt, zle, zeq, zl_0, zl_1, zl_2, zl_3, zl_4, zl_5, zl_6, zl_7, zl_8, zl_9, zl_10, zl_11, zl_12, zl_13, zl_19, zl_20, zl_30, zl_64, zl_99, zl_100, zl_299, zl_300, zl_399, zl_999, zl_9999, zl_m1, zl_m2, zl_m3, zl_32, zl_280] at c4 c5 c9 c19 ⊢); omega)]; first | done | ((try simp only [zlt, zle, zeq, zl_0, zl_1, zl_2, zl_3, zl_4, zl_5, zl_6, zl_7, zl_8, zl_9, zl_10, zl_11, zl_12, zl_13, zl_19, zl_20, zl_30, zl_64, zl_99, zl_100, zl_299, zl_300, zl_399, zl_999, zl_9999, zl_m1, zl_m2, zl_m3, zl_32, zl_280] at c4 c5 c9 c19 ⊢); omega)) | (rw [if_neg (by (try simp only [zlt, zle, zeq, zl_0, zl_1, zl_2, zl_3, zl_4, zl_5, zl_6, zl_7, zl_8, zl_9, zl_10, zl_11, zl_12, zl_13, zl_19, zl_20, zl_30, zl_64, zl_99, zl_100, zl_299, zl_300, zl_399, zl_999, zl_9999, zl_m1, zl_m2, zl_m3, zl_32, zl_280] at c4 c5 c9 c19 ⊢); omega)]; first | done | ((try simp only [zlt, zle, zeq, zl_0, zl_1, zl_2, zl_3, zl_4, zl_5, zl_6, zl_7, zl_8, zl_9, zl_10, zl_11, zl_12, zl_13, zl_19, zl_20, zl_30, zl_64, zl_99, zl_100, zl_299, zl_300, zl_399, zl_999, zl_9999, zl_m1, zl_m2, zl_m3, zl_32, zl_280] at c4 c5 c9 c19 ⊢); omega)))) dX11_thief_20 (Nat.le_of_ble_eq_true rfl) (Nat.le_of_ble_eq_true rfl)
  · obtain rfl : r2 = 0 := by rw [hrh3, if_neg c4]
    refine lv_if_eq (tgt := 19) hx hb dX11_thief_4 (by decide) (fun c20 => ?_) (fun h => absurd (by decide) h)
    refine lv_iconst (v := (-1)) hx hb dX11_thief_19 (by decide) ?_
    exact z_ret Z rfl hP hD hS ((by first | rfl | assumption | (rw [if_pos (by (try simp only [zlt, zle, zeq, zl_0, zl_1, zl_2, zl_3, zl_4, zl_5, zl_6, zl_7, zl_8, zl_9, zl_10, zl_11, zl_12, zl_13, zl_19, zl_20, zl_30, zl_64, zl_99, zl_100, zl_299, zl_300, zl_399, zl_999, zl_9999, zl_m1, zl_m2, zl_m3, zl_32, zl_280] at c4 c20 ⊢); omega)]; first | done | ((try simp only [zlt, zle, zeq, zl_0, zl_1, zl_2, zl_3, zl_4, zl_5, zl_6, zl_7, zl_8, zl_9, zl_10, zl_11, zl_12, zl_13, zl_19, zl_20, zl_30, zl_64, zl_99, zl_100, zl_299, zl_300, zl_399, zl_999, zl_9999, zl_m1, zl_m2, zl_m3, zl_32, zl_280] at c4 c20 ⊢); omega)) | (rw [if_neg (by (try simp only [zlt, zle, zeq, zl_0, zl_1, zl_2, zl_3, zl_4, zl_5, zl_6, zl_7, zl_8, zl_9, zl_10, zl_11, zl_12, zl_13, zl_19, zl_20, zl_30, zl_64, zl_99, zl_100, zl_299, zl_300, zl_399, zl_999, zl_9999, zl_m1, zl_m2, zl_m3, zl_32, zl_280] at c4 c20 ⊢); omega)]; first | done | ((try simp only [zlt, zle, zeq, zl_0, zl_1, zl_2, zl_3, zl_4, zl_5, zl_6, zl_7, zl_8, zl_9, zl_10, zl_11, zl_12, zl_13, zl_19, zl_20, zl_30, zl_64, zl_99, zl_100, zl_299, zl_300, zl_399, zl_999, zl_9999, zl_m1, zl_m2, zl_m3, zl_32, zl_280] at c4 c20 ⊢); omega)))) dX11_thief_20 (Nat.le_of_ble_eq_true rfl) (Nat.le_of_ble_eq_true rfl)
set_option maxHeartbeats 4000000 in
set_option maxRecDepth 100000 in
theorem c_X11_about (l : Launch) (D : va_G) (cI cM cT : ClassId) (x : Nat) (st : Nat) (dr : Nat) (nw : Nat) (kp : Nat) (rd : Nat) (tm : Nat) (co : Nat) (rO : Nat) (sT : Nat) (mA : Nat) (sB : Nat) (sA : Nat) (tH : Nat) (tF : Nat) (tS : Nat) (iA : Nat) (mU : Nat) (bF : Nat) (bT : Nat) (cO : Nat) (sH : Nat) (rG : Nat) (tP : Nat) (tX : Nat) (bY : Nat) (ki : Nat) (at_ : Nat) (nu : Nat) (p0 : Int32) : Ci l D (ty3 cI cM cT) yX11_about cX11_about 2 (some .int) 3 0 0 [.ref x, .int p0] ([(x, .inr (11, [.ref st, .ref dr, .ref nw, .ref kp, .ref rd, .ref tm, .ref co])), (nw, .inr (10, [.ref rO, .ref sT, .ref mA, .ref sB, .ref sA, .ref tH, .ref tF, .ref tS, .int 0, .int 0, .int (-1), .int 0, .int 0])), (mA, .inr (1, [.ref iA, .int 0, .int 0, .int 0, .int 0, .int 0, .int 13])), (rO, .inr (3, [.ref mU, .ref bF, .ref bT, .int 0])), (mU, .inl (cI, 300, .inl (fun _ => 0))), (sT, .inr (4, [.ref cO, .ref sH, .int 0])), (sB, .inr (5, [.ref rG, .int 0, .int 0])), (rd, .inr (2, [.ref tP, .int (-1), .int (-1), .int 0, .int 37, .int 0, .ref tX])), (tP, .inr (7, [.ref bY, .ref ki, .ref at_, .ref nu, .int 0, .int 0]))]) (fun r u => r = (if 100 ≤ p0 ∧ p0 ≤ 399 then 0 else if p0 = 5 then 13 else if p0 = 7 then (-1) else if 0 ≤ p0 ∧ p0 ≤ 11 then 0 else (-2))) := by
  refine Ci.of (by decide +kernel) (Nat.le_of_ble_eq_true rfl) ?_
  intro p e s m below meth c A ls Z hin hP hD hl
  have hx := Z.1
  have hb := Z.2.1
  have hS : va_S A s.heap s.heap [] := va_S.rf
  have hl : lv_has ls 2 [(0, .ref x), (1, .int p0)] := hl
  skip
  refine lv_iload_n hx hb dX11_about_0 rfl (lv_at hl 1 rfl) ?_
  refine lv_bipush (v := 20) hx hb dX11_about_1 (by decide) ?_
  refine lv_bipush (v := 20) hx hb dX11_about_3 (by decide) ?_
  refine lv_aload_n hx hb dX11_about_5 rfl (lv_at hl 0 rfl) ?_
  refine z_get Z i_X11 hP 0 rfl rfl 2 (by decide) bw_470 rfl dX11_about_6 ?_
  refine z_get Z i_X10 hP 1 rfl rfl 2 (by decide) bw_240 rfl dX11_about_9 ?_
  refine z_get Z i_X1 hP 2 rfl rfl 1 (by decide) bw_184 rfl dX11_about_12 ?_
  refine lv_iadd hx hb dX11_about_15 ?_
  refine z_topi (y := 20) (by decide) ?_
  refine lv_iconst (v := 1) hx hb dX11_about_16 (by decide) ?_
  refine lv_isub hx hb dX11_about_17 ?_
  refine z_topi (y := 19) (by decide) ?_
  have hPc := hP.sub2 (wc := []) [] rfl
  have hDc := hD.sub (ws' := []) [] (by decide) rfl
  refine raw_Si (nA := 3) (As := [.int p0, .int 20, .int 19]) (rest := []) Z hl.1 (c_X11_isWithin l D cI cM cT p0 20 19) (bw_S bw_497 bw_498 bw_80 bw_499) ⟨by decide +kernel, by decide +kernel, by decide +kernel⟩ rfl ⟨Nat.le_of_ble_eq_true rfl, Nat.le_of_ble_eq_true rfl⟩ hPc hDc hS rfl (Nat.le_of_ble_eq_true rfl) dX11_about_18 ⟨Nat.le_of_ble_eq_true rfl, Nat.le_of_ble_eq_true rfl⟩ (fun r2 u1 H1 locs1 h3 hku1 hP1 hD1 hS1 => ?_)
  obtain ⟨hrh3, rfl⟩ := h3
  obtain ⟨hP, hD⟩ := z_join (wr := [(x, .inr (11, [.ref st, .ref dr, .ref nw, .ref kp, .ref rd, .ref tm, .ref co])), (nw, .inr (10, [.ref rO, .ref sT, .ref mA, .ref sB, .ref sA, .ref tH, .ref tF, .ref tS, .int 0, .int 0, .int (-1), .int 0, .int 0])), (mA, .inr (1, [.ref iA, .int 0, .int 0, .int 0, .int 0, .int 0, .int 13])), (rO, .inr (3, [.ref mU, .ref bF, .ref bT, .int 0])), (mU, .inl (cI, 300, .inl (fun _ => 0))), (sT, .inr (4, [.ref cO, .ref sH, .int 0])), (sB, .inr (5, [.ref rG, .int 0, .int 0])), (rd, .inr (2, [.ref tP, .int (-1), .int (-1), .int 0, .int 37, .int 0, .ref tX])), (tP, .inr (7, [.ref bY, .ref ki, .ref at_, .ref nu, .int 0, .int 0]))]) Z hS hP hD [] [0, 1, 2, 3, 4, 5, 6, 7, 8] rfl (by decide) rfl (by decide) (by decide) hku1 hP1 hD1
  have hS := hS1
  clear hS1
  generalize H1 = H at hP hS ⊢
  generalize locs1 = locs at hS ⊢
  have hP : va_P D vwCl ([(x, .inr (11, [.ref st, .ref dr, .ref nw, .ref kp, .ref rd, .ref tm, .ref co])), (nw, .inr (10, [.ref rO, .ref sT, .ref mA, .ref sB, .ref sA, .ref tH, .ref tF, .ref tS, .int 0, .int 0, .int (-1), .int 0, .int 0])), (mA, .inr (1, [.ref iA, .int 0, .int 0, .int 0, .int 0, .int 0, .int 13])), (rO, .inr (3, [.ref mU, .ref bF, .ref bT, .int 0])), (mU, .inl (cI, 300, .inl (fun _ => 0))), (sT, .inr (4, [.ref cO, .ref sH, .int 0])), (sB, .inr (5, [.ref rG, .int 0, .int 0])), (rd, .inr (2, [.ref tP, .int (-1), .int (-1), .int 0, .int 37, .int 0, .ref tX])), (tP, .inr (7, [.ref bY, .ref ki, .ref at_, .ref nu, .int 0, .int 0]))]) H := hP
  have hD : va_D A ([(x, .inr (11, [.ref st, .ref dr, .ref nw, .ref kp, .ref rd, .ref tm, .ref co])), (nw, .inr (10, [.ref rO, .ref sT, .ref mA, .ref sB, .ref sA, .ref tH, .ref tF, .ref tS, .int 0, .int 0, .int (-1), .int 0, .int 0])), (mA, .inr (1, [.ref iA, .int 0, .int 0, .int 0, .int 0, .int 0, .int 13])), (rO, .inr (3, [.ref mU, .ref bF, .ref bT, .int 0])), (mU, .inl (cI, 300, .inl (fun _ => 0))), (sT, .inr (4, [.ref cO, .ref sH, .int 0])), (sB, .inr (5, [.ref rG, .int 0, .int 0])), (rd, .inr (2, [.ref tP, .int (-1), .int (-1), .int 0, .int 37, .int 0, .ref tX])), (tP, .inr (7, [.ref bY, .ref ki, .ref at_, .ref nu, .int 0, .int 0]))]) := hD
  obtain rfl : r2 = 0 := by rw [hrh3, if_neg (by simp only [zlt, zle, zeq, zl_0, zl_1, zl_2, zl_3, zl_4, zl_5, zl_6, zl_7, zl_8, zl_9, zl_10, zl_11, zl_12, zl_13, zl_19, zl_20, zl_30, zl_64, zl_99, zl_100, zl_299, zl_300, zl_399, zl_999, zl_9999, zl_m1, zl_m2, zl_m3, zl_32, zl_280]; omega)]
  refine lv_if_eq (tgt := 40) hx hb dX11_about_21 (by decide) (fun c5 => ?_) (fun h => absurd (by decide) h)
  refine lv_iload_n hx hb dX11_about_40 rfl (lv_at hl 1 rfl) ?_
  refine lv_bipush (v := 100) hx hb dX11_about_41 (by decide) ?_
  refine lv_sipush (v := 399) hx hb dX11_about_43 (by decide) ?_
  have hPc := hP.sub2 (wc := []) [] rfl
  have hDc := hD.sub (ws' := []) [] (by decide) rfl
  refine raw_Si (nA := 3) (As := [.int p0, .int 100, .int 399]) (rest := []) Z hl.1 (c_X11_isWithin l D cI cM cT p0 100 399) (bw_S bw_497 bw_498 bw_80 bw_499) ⟨by decide +kernel, by decide +kernel, by decide +kernel⟩ rfl ⟨Nat.le_of_ble_eq_true rfl, Nat.le_of_ble_eq_true rfl⟩ hPc hDc hS rfl (Nat.le_of_ble_eq_true rfl) dX11_about_46 ⟨Nat.le_of_ble_eq_true rfl, Nat.le_of_ble_eq_true rfl⟩ (fun r7 u6 H1 locs1 h8 hku6 hP1 hD1 hS1 => ?_)
  obtain ⟨hrh8, rfl⟩ := h8
  obtain ⟨hP, hD⟩ := z_join (wr := [(x, .inr (11, [.ref st, .ref dr, .ref nw, .ref kp, .ref rd, .ref tm, .ref co])), (nw, .inr (10, [.ref rO, .ref sT, .ref mA, .ref sB, .ref sA, .ref tH, .ref tF, .ref tS, .int 0, .int 0, .int (-1), .int 0, .int 0])), (mA, .inr (1, [.ref iA, .int 0, .int 0, .int 0, .int 0, .int 0, .int 13])), (rO, .inr (3, [.ref mU, .ref bF, .ref bT, .int 0])), (mU, .inl (cI, 300, .inl (fun _ => 0))), (sT, .inr (4, [.ref cO, .ref sH, .int 0])), (sB, .inr (5, [.ref rG, .int 0, .int 0])), (rd, .inr (2, [.ref tP, .int (-1), .int (-1), .int 0, .int 37, .int 0, .ref tX])), (tP, .inr (7, [.ref bY, .ref ki, .ref at_, .ref nu, .int 0, .int 0]))]) Z hS hP hD [] [0, 1, 2, 3, 4, 5, 6, 7, 8] rfl (by decide) rfl (by decide) (by decide) hku6 hP1 hD1
  have hS := hS1
  clear hS1
  generalize H1 = H at hP hS ⊢
  generalize locs1 = locs at hS ⊢
  have hP : va_P D vwCl ([(x, .inr (11, [.ref st, .ref dr, .ref nw, .ref kp, .ref rd, .ref tm, .ref co])), (nw, .inr (10, [.ref rO, .ref sT, .ref mA, .ref sB, .ref sA, .ref tH, .ref tF, .ref tS, .int 0, .int 0, .int (-1), .int 0, .int 0])), (mA, .inr (1, [.ref iA, .int 0, .int 0, .int 0, .int 0, .int 0, .int 13])), (rO, .inr (3, [.ref mU, .ref bF, .ref bT, .int 0])), (mU, .inl (cI, 300, .inl (fun _ => 0))), (sT, .inr (4, [.ref cO, .ref sH, .int 0])), (sB, .inr (5, [.ref rG, .int 0, .int 0])), (rd, .inr (2, [.ref tP, .int (-1), .int (-1), .int 0, .int 37, .int 0, .ref tX])), (tP, .inr (7, [.ref bY, .ref ki, .ref at_, .ref nu, .int 0, .int 0]))]) H := hP
  have hD : va_D A ([(x, .inr (11, [.ref st, .ref dr, .ref nw, .ref kp, .ref rd, .ref tm, .ref co])), (nw, .inr (10, [.ref rO, .ref sT, .ref mA, .ref sB, .ref sA, .ref tH, .ref tF, .ref tS, .int 0, .int 0, .int (-1), .int 0, .int 0])), (mA, .inr (1, [.ref iA, .int 0, .int 0, .int 0, .int 0, .int 0, .int 13])), (rO, .inr (3, [.ref mU, .ref bF, .ref bT, .int 0])), (mU, .inl (cI, 300, .inl (fun _ => 0))), (sT, .inr (4, [.ref cO, .ref sH, .int 0])), (sB, .inr (5, [.ref rG, .int 0, .int 0])), (rd, .inr (2, [.ref tP, .int (-1), .int (-1), .int 0, .int 37, .int 0, .ref tX])), (tP, .inr (7, [.ref bY, .ref ki, .ref at_, .ref nu, .int 0, .int 0]))]) := hD
  by_cases c9 : 100 ≤ p0 ∧ p0 ≤ 399
  · obtain rfl : r7 = 1 := by rw [hrh8, if_pos c9]
    refine lv_if_eq (tgt := 68) hx hb dX11_about_49 (by decide) (fun h => absurd h (by decide)) (fun c10 => ?_)
    refine lv_aload_n hx hb dX11_about_52 rfl (lv_at hl 0 rfl) ?_
    refine z_get Z i_X11 hP 0 rfl rfl 2 (by decide) bw_470 rfl dX11_about_53 ?_
    refine z_get Z i_X10 hP 1 rfl rfl 0 (by decide) bw_232 rfl dX11_about_56 ?_
    refine z_get Z i_X3 hP 3 rfl rfl 0 (by decide) bw_135 rfl dX11_about_59 ?_
    refine lv_iload_n hx hb dX11_about_62 rfl (lv_at hl 1 rfl) ?_
    refine lv_bipush (v := 100) hx hb dX11_about_63 (by decide) ?_
    refine lv_isub hx hb dX11_about_65 ?_
    refine z_iald Z hP 4 0 rfl rfl (vp_in_iff.mpr (by have e9 : (p0 - 100).toInt = p0.toInt - 100 := zsub (by (try simp only [zlt, zle, zeq, zl_0, zl_1, zl_2, zl_3, zl_4, zl_5, zl_6, zl_7, zl_8, zl_9, zl_10, zl_11, zl_12, zl_13, zl_19, zl_20, zl_30, zl_64, zl_99, zl_100, zl_299, zl_300, zl_399, zl_999, zl_9999, zl_m1, zl_m2, zl_m3, zl_32, zl_280] at c5 c9 c10 ⊢); omega) (by (try simp only [zlt, zle, zeq, zl_0, zl_1, zl_2, zl_3, zl_4, zl_5, zl_6, zl_7, zl_8, zl_9, zl_10, zl_11, zl_12, zl_13, zl_19, zl_20, zl_30, zl_64, zl_99, zl_100, zl_299, zl_300, zl_399, zl_999, zl_9999, zl_m1, zl_m2, zl_m3, zl_32, zl_280] at c5 c9 c10 ⊢); omega); simp only [zlt, zle, zeq, zl_0, zl_1, zl_2, zl_3, zl_4, zl_5, zl_6, zl_7, zl_8, zl_9, zl_10, zl_11, zl_12, zl_13, zl_19, zl_20, zl_30, zl_64, zl_99, zl_100, zl_299, zl_300, zl_399, zl_999, zl_9999, zl_m1, zl_m2, zl_m3, zl_32, zl_280] at c5 c9 c10 ⊢; omega)) dX11_about_66 ?_
    refine z_topi (y := 0) rfl ?_
    exact z_ret Z rfl hP hD hS ((by first | rfl | assumption | (rw [if_pos (by (try simp only [zlt, zle, zeq, zl_0, zl_1, zl_2, zl_3, zl_4, zl_5, zl_6, zl_7, zl_8, zl_9, zl_10, zl_11, zl_12, zl_13, zl_19, zl_20, zl_30, zl_64, zl_99, zl_100, zl_299, zl_300, zl_399, zl_999, zl_9999, zl_m1, zl_m2, zl_m3, zl_32, zl_280] at c5 c9 c10 ⊢); omega)]; first | done | ((try simp only [zlt, zle, zeq, zl_0, zl_1, zl_2, zl_3, zl_4, zl_5, zl_6, zl_7, zl_8, zl_9, zl_10, zl_11, zl_12, zl_13, zl_19, zl_20, zl_30, zl_64, zl_99, zl_100, zl_299, zl_300, zl_399, zl_999, zl_9999, zl_m1, zl_m2, zl_m3, zl_32, zl_280] at c5 c9 c10 ⊢); omega)) | (rw [if_neg (by (try simp only [zlt, zle, zeq, zl_0, zl_1, zl_2, zl_3, zl_4, zl_5, zl_6, zl_7, zl_8, zl_9, zl_10, zl_11, zl_12, zl_13, zl_19, zl_20, zl_30, zl_64, zl_99, zl_100, zl_299, zl_300, zl_399, zl_999, zl_9999, zl_m1, zl_m2, zl_m3, zl_32, zl_280] at c5 c9 c10 ⊢); omega), if_pos (by (try simp only [zlt, zle, zeq, zl_0, zl_1, zl_2, zl_3, zl_4, zl_5, zl_6, zl_7, zl_8, zl_9, zl_10, zl_11, zl_12, zl_13, zl_19, zl_20, zl_30, zl_64, zl_99, zl_100, zl_299, zl_300, zl_399, zl_999, zl_9999, zl_m1, zl_m2, zl_m3, zl_32, zl_280] at c5 c9 c10 ⊢); omega)]; first | done | ((try simp only [zlt, zle, zeq, zl_0, zl_1, zl_2, zl_3, zl_4, zl_5, zl_6, zl_7, zl_8, zl_9, zl_10, zl_11, zl_12, zl_13, zl_19, zl_20, zl_30, zl_64, zl_99, zl_100, zl_299, zl_300, zl_399, zl_999, zl_9999, zl_m1, zl_m2, zl_m3, zl_32, zl_280] at c5 c9 c10 ⊢); omega)) | (rw [if_neg (by (try simp only [zlt, zle, zeq, zl_0, zl_1, zl_2, zl_3, zl_4, zl_5, zl_6, zl_7, zl_8, zl_9, zl_10, zl_11, zl_12, zl_13, zl_19, zl_20, zl_30, zl_64, zl_99, zl_100, zl_299, zl_300, zl_399, zl_999, zl_9999, zl_m1, zl_m2, zl_m3, zl_32, zl_280] at c5 c9 c10 ⊢); omega), if_neg (by (try simp only [zlt, zle, zeq, zl_0, zl_1, zl_2, zl_3, zl_4, zl_5, zl_6, zl_7, zl_8, zl_9, zl_10, zl_11, zl_12, zl_13, zl_19, zl_20, zl_30, zl_64, zl_99, zl_100, zl_299, zl_300, zl_399, zl_999, zl_9999, zl_m1, zl_m2, zl_m3, zl_32, zl_280] at c5 c9 c10 ⊢); omega), if_pos (by (try simp only [zlt, zle, zeq, zl_0, zl_1, zl_2, zl_3, zl_4, zl_5, zl_6, zl_7, zl_8, zl_9, zl_10, zl_11, zl_12, zl_13, zl_19, zl_20, zl_30, zl_64, zl_99, zl_100, zl_299, zl_300, zl_399, zl_999, zl_9999, zl_m1, zl_m2, zl_m3, zl_32, zl_280] at c5 c9 c10 ⊢); omega)]; first | done | ((try simp only [zlt, zle, zeq, zl_0, zl_1, zl_2, zl_3, zl_4, zl_5, zl_6, zl_7, zl_8, zl_9, zl_10, zl_11, zl_12, zl_13, zl_19, zl_20, zl_30, zl_64, zl_99, zl_100, zl_299, zl_300, zl_399, zl_999, zl_9999, zl_m1, zl_m2, zl_m3, zl_32, zl_280] at c5 c9 c10 ⊢); omega)) | (rw [if_neg (by (try simp only [zlt, zle, zeq, zl_0, zl_1, zl_2, zl_3, zl_4, zl_5, zl_6, zl_7, zl_8, zl_9, zl_10, zl_11, zl_12, zl_13, zl_19, zl_20, zl_30, zl_64, zl_99, zl_100, zl_299, zl_300, zl_399, zl_999, zl_9999, zl_m1, zl_m2, zl_m3, zl_32, zl_280] at c5 c9 c10 ⊢); omega), if_neg (by (try simp only [zlt, zle, zeq, zl_0, zl_1, zl_2, zl_3, zl_4, zl_5, zl_6, zl_7, zl_8, zl_9, zl_10, zl_11, zl_12, zl_13, zl_19, zl_20, zl_30, zl_64, zl_99, zl_100, zl_299, zl_300, zl_399, zl_999, zl_9999, zl_m1, zl_m2, zl_m3, zl_32, zl_280] at c5 c9 c10 ⊢); omega), if_neg (by (try simp only [zlt, zle, zeq, zl_0, zl_1, zl_2, zl_3, zl_4, zl_5, zl_6, zl_7, zl_8, zl_9, zl_10, zl_11, zl_12, zl_13, zl_19, zl_20, zl_30, zl_64, zl_99, zl_100, zl_299, zl_300, zl_399, zl_999, zl_9999, zl_m1, zl_m2, zl_m3, zl_32, zl_280] at c5 c9 c10 ⊢); omega), if_pos (by (try simp only [zlt, zle, zeq, zl_0, zl_1, zl_2, zl_3, zl_4, zl_5, zl_6, zl_7, zl_8, zl_9, zl_10, zl_11, zl_12, zl_13, zl_19, zl_20, zl_30, zl_64, zl_99, zl_100, zl_299, zl_300, zl_399, zl_999, zl_9999, zl_m1, zl_m2, zl_m3, zl_32, zl_280] at c5 c9 c10 ⊢); omega)]; first | done | ((try simp only [zlt, zle, zeq, zl_0, zl_1, zl_2, zl_3, zl_4, zl_5, zl_6, zl_7, zl_8, zl_9, zl_10, zl_11, zl_12, zl_13, zl_19, zl_20, zl_30, zl_64, zl_99, zl_100, zl_299, zl_300, zl_399, zl_999, zl_9999, zl_m1, zl_m2, zl_m3, zl_32, zl_280] at c5 c9 c10 ⊢); omega)) | (rw [if_neg (by (try simp only [zlt, zle, zeq, zl_0, zl_1, zl_2, zl_3, zl_4, zl_5, zl_6, zl_7, zl_8, zl_9, zl_10, zl_11, zl_12, zl_13, zl_19, zl_20, zl_30, zl_64, zl_99, zl_100, zl_299, zl_300, zl_399, zl_999, zl_9999, zl_m1, zl_m2, zl_m3, zl_32, zl_280] at c5 c9 c10 ⊢); omega), if_neg (by (try simp only [zlt, zle, zeq, zl_0, zl_1, zl_2, zl_3, zl_4, zl_5, zl_6, zl_7, zl_8, zl_9, zl_10, zl_11, zl_12, zl_13, zl_19, zl_20, zl_30, zl_64, zl_99, zl_100, zl_299, zl_300, zl_399, zl_999, zl_9999, zl_m1, zl_m2, zl_m3, zl_32, zl_280] at c5 c9 c10 ⊢); omega), if_neg (by (try simp only [zlt, zle, zeq, zl_0, zl_1, zl_2, zl_3, zl_4, zl_5, zl_6, zl_7, zl_8, zl_9, zl_10, zl_11, zl_12, zl_13, zl_19, zl_20, zl_30, zl_64, zl_99, zl_100, zl_299, zl_300, zl_399, zl_999, zl_9999, zl_m1, zl_m2, zl_m3, zl_32, zl_280] at c5 c9 c10 ⊢); omega), if_neg (by (try simp only [zlt, zle, zeq, zl_0, zl_1, zl_2, zl_3, zl_4, zl_5, zl_6, zl_7, zl_8, zl_9, zl_10, zl_11, zl_12, zl_13, zl_19, zl_20, zl_30, zl_64, zl_99, zl_100, zl_299, zl_300, zl_399, zl_999, zl_9999, zl_m1, zl_m2, zl_m3, zl_32, zl_280] at c5 c9 c10 ⊢); omega)]; first | done | ((try simp only [zlt, zle, zeq, zl_0, zl_1, zl_2, zl_3, zl_4, zl_5, zl_6, zl_7, zl_8, zl_9, zl_10, zl_11, zl_12, zl_13, zl_19, zl_20, zl_30, zl_64, zl_99, zl_100, zl_299, zl_300, zl_399, zl_999, zl_9999, zl_m1, zl_m2, zl_m3, zl_32, zl_280] at c5 c9 c10 ⊢); omega)))) dX11_about_67 (Nat.le_of_ble_eq_true rfl) (Nat.le_of_ble_eq_true rfl)
  · obtain rfl : r7 = 0 := by rw [hrh8, if_neg c9]
    refine lv_if_eq (tgt := 68) hx hb dX11_about_49 (by decide) (fun c11 => ?_) (fun h => absurd (by decide) h)
    refine lv_iload_n hx hb dX11_about_68 rfl (lv_at hl 1 rfl) ?_
    by_cases c12 : p0.toInt < 0 ∨ 11 < p0.toInt
    · refine lv_tableOut (tgt := 249) hx hb dX11_about_69 c12 (by decide) ?_
      refine lv_bipush (v := (-2)) hx hb dX11_about_249 (by decide) ?_
      exact z_ret Z rfl hP hD hS ((by first | rfl | assumption | (rw [if_pos (by (try simp only [zlt, zle, zeq, zl_0, zl_1, zl_2, zl_3, zl_4, zl_5, zl_6, zl_7, zl_8, zl_9, zl_10, zl_11, zl_12, zl_13, zl_19, zl_20, zl_30, zl_64, zl_99, zl_100, zl_299, zl_300, zl_399, zl_999, zl_9999, zl_m1, zl_m2, zl_m3, zl_32, zl_280] at c5 c9 c11 c12 ⊢); omega)]; first | done | ((try simp only [zlt, zle, zeq, zl_0, zl_1, zl_2, zl_3, zl_4, zl_5, zl_6, zl_7, zl_8, zl_9, zl_10, zl_11, zl_12, zl_13, zl_19, zl_20, zl_30, zl_64, zl_99, zl_100, zl_299, zl_300, zl_399, zl_999, zl_9999, zl_m1, zl_m2, zl_m3, zl_32, zl_280] at c5 c9 c11 c12 ⊢); omega)) | (rw [if_neg (by (try simp only [zlt, zle, zeq, zl_0, zl_1, zl_2, zl_3, zl_4, zl_5, zl_6, zl_7, zl_8, zl_9, zl_10, zl_11, zl_12, zl_13, zl_19, zl_20, zl_30, zl_64, zl_99, zl_100, zl_299, zl_300, zl_399, zl_999, zl_9999, zl_m1, zl_m2, zl_m3, zl_32, zl_280] at c5 c9 c11 c12 ⊢); omega), if_pos (by (try simp only [zlt, zle, zeq, zl_0, zl_1, zl_2, zl_3, zl_4, zl_5, zl_6, zl_7, zl_8, zl_9, zl_10, zl_11, zl_12, zl_13, zl_19, zl_20, zl_30, zl_64, zl_99, zl_100, zl_299, zl_300, zl_399, zl_999, zl_9999, zl_m1, zl_m2, zl_m3, zl_32, zl_280] at c5 c9 c11 c12 ⊢); omega)]; first | done | ((try simp only [zlt, zle, zeq, zl_0, zl_1, zl_2, zl_3, zl_4, zl_5, zl_6, zl_7, zl_8, zl_9, zl_10, zl_11, zl_12, zl_13, zl_19, zl_20, zl_30, zl_64, zl_99, zl_100, zl_299, zl_300, zl_399, zl_999, zl_9999, zl_m1, zl_m2, zl_m3, zl_32, zl_280] at c5 c9 c11 c12 ⊢); omega)) | (rw [if_neg (by (try simp only [zlt, zle, zeq, zl_0, zl_1, zl_2, zl_3, zl_4, zl_5, zl_6, zl_7, zl_8, zl_9, zl_10, zl_11, zl_12, zl_13, zl_19, zl_20, zl_30, zl_64, zl_99, zl_100, zl_299, zl_300, zl_399, zl_999, zl_9999, zl_m1, zl_m2, zl_m3, zl_32, zl_280] at c5 c9 c11 c12 ⊢); omega), if_neg (by (try simp only [zlt, zle, zeq, zl_0, zl_1, zl_2, zl_3, zl_4, zl_5, zl_6, zl_7, zl_8, zl_9, zl_10, zl_11, zl_12, zl_13, zl_19, zl_20, zl_30, zl_64, zl_99, zl_100, zl_299, zl_300, zl_399, zl_999, zl_9999, zl_m1, zl_m2, zl_m3, zl_32, zl_280] at c5 c9 c11 c12 ⊢); omega), if_pos (by (try simp only [zlt, zle, zeq, zl_0, zl_1, zl_2, zl_3, zl_4, zl_5, zl_6, zl_7, zl_8, zl_9, zl_10, zl_11, zl_12, zl_13, zl_19, zl_20, zl_30, zl_64, zl_99, zl_100, zl_299, zl_300, zl_399, zl_999, zl_9999, zl_m1, zl_m2, zl_m3, zl_32, zl_280] at c5 c9 c11 c12 ⊢); omega)]; first | done | ((try simp only [zlt, zle, zeq, zl_0, zl_1, zl_2, zl_3, zl_4, zl_5, zl_6, zl_7, zl_8, zl_9, zl_10, zl_11, zl_12, zl_13, zl_19, zl_20, zl_30, zl_64, zl_99, zl_100, zl_299, zl_300, zl_399, zl_999, zl_9999, zl_m1, zl_m2, zl_m3, zl_32, zl_280] at c5 c9 c11 c12 ⊢); omega)) | (rw [if_neg (by (try simp only [zlt, zle, zeq, zl_0, zl_1, zl_2, zl_3, zl_4, zl_5, zl_6, zl_7, zl_8, zl_9, zl_10, zl_11, zl_12, zl_13, zl_19, zl_20, zl_30, zl_64, zl_99, zl_100, zl_299, zl_300, zl_399, zl_999, zl_9999, zl_m1, zl_m2, zl_m3, zl_32, zl_280] at c5 c9 c11 c12 ⊢); omega), if_neg (by (try simp only [zlt, zle, zeq, zl_0, zl_1, zl_2, zl_3, zl_4, zl_5, zl_6, zl_7, zl_8, zl_9, zl_10, zl_11, zl_12, zl_13, zl_19, zl_20, zl_30, zl_64, zl_99, zl_100, zl_299, zl_300, zl_399, zl_999, zl_9999, zl_m1, zl_m2, zl_m3, zl_32, zl_280] at c5 c9 c11 c12 ⊢); omega), if_neg (by (try simp only [zlt, zle, zeq, zl_0, zl_1, zl_2, zl_3, zl_4, zl_5, zl_6, zl_7, zl_8, zl_9, zl_10, zl_11, zl_12, zl_13, zl_19, zl_20, zl_30, zl_64, zl_99, zl_100, zl_299, zl_300, zl_399, zl_999, zl_9999, zl_m1, zl_m2, zl_m3, zl_32, zl_280] at c5 c9 c11 c12 ⊢); omega), if_pos (by (try simp only [zlt, zle, zeq, zl_0, zl_1, zl_2, zl_3, zl_4, zl_5, zl_6, zl_7, zl_8, zl_9, zl_10, zl_11, zl_12, zl_13, zl_19, zl_20, zl_30, zl_64, zl_99, zl_100, zl_299, zl_300, zl_399, zl_999, zl_9999, zl_m1, zl_m2, zl_m3, zl_32, zl_280] at c5 c9 c11 c12 ⊢); omega)]; first | done | ((try simp only [zlt, zle, zeq, zl_0, zl_1, zl_2, zl_3, zl_4, zl_5, zl_6, zl_7, zl_8, zl_9, zl_10, zl_11, zl_12, zl_13, zl_19, zl_20, zl_30, zl_64, zl_99, zl_100, zl_299, zl_300, zl_399, zl_999, zl_9999, zl_m1, zl_m2, zl_m3, zl_32, zl_280] at c5 c9 c11 c12 ⊢); omega)) | (rw [if_neg (by (try simp only [zlt, zle, zeq, zl_0, zl_1, zl_2, zl_3, zl_4, zl_5, zl_6, zl_7, zl_8, zl_9, zl_10, zl_11, zl_12, zl_13, zl_19, zl_20, zl_30, zl_64, zl_99, zl_100, zl_299, zl_300, zl_399, zl_999, zl_9999, zl_m1, zl_m2, zl_m3, zl_32, zl_280] at c5 c9 c11 c12 ⊢); omega), if_neg (by (try simp only [zlt, zle, zeq, zl_0, zl_1, zl_2, zl_3, zl_4, zl_5, zl_6, zl_7, zl_8, zl_9, zl_10, zl_11, zl_12, zl_13, zl_19, zl_20, zl_30, zl_64, zl_99, zl_100, zl_299, zl_300, zl_399, zl_999, zl_9999, zl_m1, zl_m2, zl_m3, zl_32, zl_280] at c5 c9 c11 c12 ⊢); omega), if_neg (by (try simp only [zlt, zle, zeq, zl_0, zl_1, zl_2, zl_3, zl_4, zl_5, zl_6, zl_7, zl_8, zl_9, zl_10, zl_11, zl_12, zl_13, zl_19, zl_20, zl_30, zl_64, zl_99, zl_100, zl_299, zl_300, zl_399, zl_999, zl_9999, zl_m1, zl_m2, zl_m3, zl_32, zl_280] at c5 c9 c11 c12 ⊢); omega), if_neg (by (try simp only [zlt, zle, zeq, zl_0, zl_1, zl_2, zl_3, zl_4, zl_5, zl_6, zl_7, zl_8, zl_9, zl_10, zl_11, zl_12, zl_13, zl_19, zl_20, zl_30, zl_64, zl_99, zl_100, zl_299, zl_300, zl_399, zl_999, zl_9999, zl_m1, zl_m2, zl_m3, zl_32, zl_280] at c5 c9 c11 c12 ⊢); omega)]; first | done | ((try simp only [zlt, zle, zeq, zl_0, zl_1, zl_2, zl_3, zl_4, zl_5, zl_6, zl_7, zl_8, zl_9, zl_10, zl_11, zl_12, zl_13, zl_19, zl_20, zl_30, zl_64, zl_99, zl_100, zl_299, zl_300, zl_399, zl_999, zl_9999, zl_m1, zl_m2, zl_m3, zl_32, zl_280] at c5 c9 c11 c12 ⊢); omega)))) dX11_about_251 (Nat.le_of_ble_eq_true rfl) (Nat.le_of_ble_eq_true rfl)
    · have hsw : p0 = 0 ∨ p0 = 1 ∨ p0 = 2 ∨ p0 = 3 ∨ p0 = 4 ∨ p0 = 5 ∨ p0 = 6 ∨ p0 = 7 ∨ p0 = 8 ∨ p0 = 9 ∨ p0 = 10 ∨ p0 = 11 := by simp only [zeq, zl_0, zl_1, zl_2, zl_3, zl_4, zl_5, zl_6, zl_7, zl_8, zl_9, zl_10, zl_11, zl_12, zl_13, zl_19, zl_20, zl_30, zl_64, zl_99, zl_100, zl_299, zl_300, zl_399, zl_999, zl_9999, zl_m1, zl_m2, zl_m3, zl_32, zl_280]; omega
      clear c12
      rcases hsw with rfl | rfl | rfl | rfl | rfl | rfl | rfl | rfl | rfl | rfl | rfl | rfl
      · refine lv_tableIn (off := 63) (tgt := 132) hx hb dX11_about_69 (by decide) (by decide) rfl (by decide) ?_
        refine lv_aload_n hx hb dX11_about_132 rfl (lv_at hl 0 rfl) ?_
        refine z_get Z i_X11 hP 0 rfl rfl 2 (by decide) bw_470 rfl dX11_about_133 ?_
        refine z_get Z i_X10 hP 1 rfl rfl 1 (by decide) bw_237 rfl dX11_about_136 ?_
        refine z_get Z i_X4 hP 5 rfl rfl 2 (by decide) bw_167 rfl dX11_about_139 ?_
        exact z_ret Z rfl hP hD hS ((by first | rfl | assumption | (rw [if_pos (by (try simp only [zlt, zle, zeq, zl_0, zl_1, zl_2, zl_3, zl_4, zl_5, zl_6, zl_7, zl_8, zl_9, zl_10, zl_11, zl_12, zl_13, zl_19, zl_20, zl_30, zl_64, zl_99, zl_100, zl_299, zl_300, zl_399, zl_999, zl_9999, zl_m1, zl_m2, zl_m3, zl_32, zl_280] at c5 c9 c11 ⊢); omega)]; first | done | ((try simp only [zlt, zle, zeq, zl_0, zl_1, zl_2, zl_3, zl_4, zl_5, zl_6, zl_7, zl_8, zl_9, zl_10, zl_11, zl_12, zl_13, zl_19, zl_20, zl_30, zl_64, zl_99, zl_100, zl_299, zl_300, zl_399, zl_999, zl_9999, zl_m1, zl_m2, zl_m3, zl_32, zl_280] at c5 c9 c11 ⊢); omega)) | (rw [if_neg (by (try simp only [zlt, zle, zeq, zl_0, zl_1, zl_2, zl_3, zl_4, zl_5, zl_6, zl_7, zl_8, zl_9, zl_10, zl_11, zl_12, zl_13, zl_19, zl_20, zl_30, zl_64, zl_99, zl_100, zl_299, zl_300, zl_399, zl_999, zl_9999, zl_m1, zl_m2, zl_m3, zl_32, zl_280] at c5 c9 c11 ⊢); omega), if_pos (by (try simp only [zlt, zle, zeq, zl_0, zl_1, zl_2, zl_3, zl_4, zl_5, zl_6, zl_7, zl_8, zl_9, zl_10, zl_11, zl_12, zl_13, zl_19, zl_20, zl_30, zl_64, zl_99, zl_100, zl_299, zl_300, zl_399, zl_999, zl_9999, zl_m1, zl_m2, zl_m3, zl_32, zl_280] at c5 c9 c11 ⊢); omega)]; first | done | ((try simp only [zlt, zle, zeq, zl_0, zl_1, zl_2, zl_3, zl_4, zl_5, zl_6, zl_7, zl_8, zl_9, zl_10, zl_11, zl_12, zl_13, zl_19, zl_20, zl_30, zl_64, zl_99, zl_100, zl_299, zl_300, zl_399, zl_999, zl_9999, zl_m1, zl_m2, zl_m3, zl_32, zl_280] at c5 c9 c11 ⊢); omega)) | (rw [if_neg (by (try simp only [zlt, zle, zeq, zl_0, zl_1, zl_2, zl_3, zl_4, zl_5, zl_6, zl_7, zl_8, zl_9, zl_10, zl_11, zl_12, zl_13, zl_19, zl_20, zl_30, zl_64, zl_99, zl_100, zl_299, zl_300, zl_399, zl_999, zl_9999, zl_m1, zl_m2, zl_m3, zl_32, zl_280] at c5 c9 c11 ⊢); omega), if_neg (by (try simp only [zlt, zle, zeq, zl_0, zl_1, zl_2, zl_3, zl_4, zl_5, zl_6, zl_7, zl_8, zl_9, zl_10, zl_11, zl_12, zl_13, zl_19, zl_20, zl_30, zl_64, zl_99, zl_100, zl_299, zl_300, zl_399, zl_999, zl_9999, zl_m1, zl_m2, zl_m3, zl_32, zl_280] at c5 c9 c11 ⊢); omega), if_pos (by (try simp only [zlt, zle, zeq, zl_0, zl_1, zl_2, zl_3, zl_4, zl_5, zl_6, zl_7, zl_8, zl_9, zl_10, zl_11, zl_12, zl_13, zl_19, zl_20, zl_30, zl_64, zl_99, zl_100, zl_299, zl_300, zl_399, zl_999, zl_9999, zl_m1, zl_m2, zl_m3, zl_32, zl_280] at c5 c9 c11 ⊢); omega)]; first | done | ((try simp only [zlt, zle, zeq, zl_0, zl_1, zl_2, zl_3, zl_4, zl_5, zl_6, zl_7, zl_8, zl_9, zl_10, zl_11, zl_12, zl_13, zl_19, zl_20, zl_30, zl_64, zl_99, zl_100, zl_299, zl_300, zl_399, zl_999, zl_9999, zl_m1, zl_m2, zl_m3, zl_32, zl_280] at c5 c9 c11 ⊢); omega)) | (rw [if_neg (by (try simp only [zlt, zle, zeq, zl_0, zl_1, zl_2, zl_3, zl_4, zl_5, zl_6, zl_7, zl_8, zl_9, zl_10, zl_11, zl_12, zl_13, zl_19, zl_20, zl_30, zl_64, zl_99, zl_100, zl_299, zl_300, zl_399, zl_999, zl_9999, zl_m1, zl_m2, zl_m3, zl_32, zl_280] at c5 c9 c11 ⊢); omega), if_neg (by (try simp only [zlt, zle, zeq, zl_0, zl_1, zl_2, zl_3, zl_4, zl_5, zl_6, zl_7, zl_8, zl_9, zl_10, zl_11, zl_12, zl_13, zl_19, zl_20, zl_30, zl_64, zl_99, zl_100, zl_299, zl_300, zl_399, zl_999, zl_9999, zl_m1, zl_m2, zl_m3, zl_32, zl_280] at c5 c9 c11 ⊢); omega), if_neg (by (try simp only [zlt, zle, zeq, zl_0, zl_1, zl_2, zl_3, zl_4, zl_5, zl_6, zl_7, zl_8, zl_9, zl_10, zl_11, zl_12, zl_13, zl_19, zl_20, zl_30, zl_64, zl_99, zl_100, zl_299, zl_300, zl_399, zl_999, zl_9999, zl_m1, zl_m2, zl_m3, zl_32, zl_280] at c5 c9 c11 ⊢); omega), if_pos (by (try simp only [zlt, zle, zeq, zl_0, zl_1, zl_2, zl_3, zl_4, zl_5, zl_6, zl_7, zl_8, zl_9, zl_10, zl_11, zl_12, zl_13, zl_19, zl_20, zl_30, zl_64, zl_99, zl_100, zl_299, zl_300, zl_399, zl_999, zl_9999, zl_m1, zl_m2, zl_m3, zl_32, zl_280] at c5 c9 c11 ⊢); omega)]; first | done | ((try simp only [zlt, zle, zeq, zl_0, zl_1, zl_2, zl_3, zl_4, zl_5, zl_6, zl_7, zl_8, zl_9, zl_10, zl_11, zl_12, zl_13, zl_19, zl_20, zl_30, zl_64, zl_99, zl_100, zl_299, zl_300, zl_399, zl_999, zl_9999, zl_m1, zl_m2, zl_m3, zl_32, zl_280] at c5 c9 c11 ⊢); omega)) | (rw [if_neg (by (try simp only [zlt, zle, zeq, zl_0, zl_1, zl_2, zl_3, zl_4, zl_5, zl_6, zl_7, zl_8, zl_9, zl_10, zl_11, zl_12, zl_13, zl_19, zl_20, zl_30, zl_64, zl_99, zl_100, zl_299, zl_300, zl_399, zl_999, zl_9999, zl_m1, zl_m2, zl_m3, zl_32, zl_280] at c5 c9 c11 ⊢); omega), if_neg (by (try simp only [zlt, zle, zeq, zl_0, zl_1, zl_2, zl_3, zl_4, zl_5, zl_6, zl_7, zl_8, zl_9, zl_10, zl_11, zl_12, zl_13, zl_19, zl_20, zl_30, zl_64, zl_99, zl_100, zl_299, zl_300, zl_399, zl_999, zl_9999, zl_m1, zl_m2, zl_m3, zl_32, zl_280] at c5 c9 c11 ⊢); omega), if_neg (by (try simp only [zlt, zle, zeq, zl_0, zl_1, zl_2, zl_3, zl_4, zl_5, zl_6, zl_7, zl_8, zl_9, zl_10, zl_11, zl_12, zl_13, zl_19, zl_20, zl_30, zl_64, zl_99, zl_100, zl_299, zl_300, zl_399, zl_999, zl_9999, zl_m1, zl_m2, zl_m3, zl_32, zl_280] at c5 c9 c11 ⊢); omega), if_neg (by (try simp only [zlt, zle, zeq, zl_0, zl_1, zl_2, zl_3, zl_4, zl_5, zl_6, zl_7, zl_8, zl_9, zl_10, zl_11, zl_12, zl_13, zl_19, zl_20, zl_30, zl_64, zl_99, zl_100, zl_299, zl_300, zl_399, zl_999, zl_9999, zl_m1, zl_m2, zl_m3, zl_32, zl_280] at c5 c9 c11 ⊢); omega)]; first | done | ((try simp only [zlt, zle, zeq, zl_0, zl_1, zl_2, zl_3, zl_4, zl_5, zl_6, zl_7, zl_8, zl_9, zl_10, zl_11, zl_12, zl_13, zl_19, zl_20, zl_30, zl_64, zl_99, zl_100, zl_299, zl_300, zl_399, zl_999, zl_9999, zl_m1, zl_m2, zl_m3, zl_32, zl_280] at c5 c9 c11 ⊢); omega)))) dX11_about_142 (Nat.le_of_ble_eq_true rfl) (Nat.le_of_ble_eq_true rfl)
      · refine lv_tableIn (off := 74) (tgt := 143) hx hb dX11_about_69 (by decide) (by decide) rfl (by decide) ?_
        refine lv_aload_n hx hb dX11_about_143 rfl (lv_at hl 0 rfl) ?_
        refine z_get Z i_X11 hP 0 rfl rfl 2 (by decide) bw_470 rfl dX11_about_144 ?_
        refine z_get Z i_X10 hP 1 rfl rfl 0 (by decide) bw_232 rfl dX11_about_147 ?_
        refine z_get Z i_X3 hP 3 rfl rfl 3 (by decide) bw_142 rfl dX11_about_150 ?_
        exact z_ret Z rfl hP hD hS ((by first | rfl | assumption | (rw [if_pos (by (try simp only [zlt, zle, zeq, zl_0, zl_1, zl_2, zl_3, zl_4, zl_5, zl_6, zl_7, zl_8, zl_9, zl_10, zl_11, zl_12, zl_13, zl_19, zl_20, zl_30, zl_64, zl_99, zl_100, zl_299, zl_300, zl_399, zl_999, zl_9999, zl_m1, zl_m2, zl_m3, zl_32, zl_280] at c5 c9 c11 ⊢); omega)]; first | done | ((try simp only [zlt, zle, zeq, zl_0, zl_1, zl_2, zl_3, zl_4, zl_5, zl_6, zl_7, zl_8, zl_9, zl_10, zl_11, zl_12, zl_13, zl_19, zl_20, zl_30, zl_64, zl_99, zl_100, zl_299, zl_300, zl_399, zl_999, zl_9999, zl_m1, zl_m2, zl_m3, zl_32, zl_280] at c5 c9 c11 ⊢); omega)) | (rw [if_neg (by (try simp only [zlt, zle, zeq, zl_0, zl_1, zl_2, zl_3, zl_4, zl_5, zl_6, zl_7, zl_8, zl_9, zl_10, zl_11, zl_12, zl_13, zl_19, zl_20, zl_30, zl_64, zl_99, zl_100, zl_299, zl_300, zl_399, zl_999, zl_9999, zl_m1, zl_m2, zl_m3, zl_32, zl_280] at c5 c9 c11 ⊢); omega), if_pos (by (try simp only [zlt, zle, zeq, zl_0, zl_1, zl_2, zl_3, zl_4, zl_5, zl_6, zl_7, zl_8, zl_9, zl_10, zl_11, zl_12, zl_13, zl_19, zl_20, zl_30, zl_64, zl_99, zl_100, zl_299, zl_300, zl_399, zl_999, zl_9999, zl_m1, zl_m2, zl_m3, zl_32, zl_280] at c5 c9 c11 ⊢); omega)]; first | done | ((try simp only [zlt, zle, zeq, zl_0, zl_1, zl_2, zl_3, zl_4, zl_5, zl_6, zl_7, zl_8, zl_9, zl_10, zl_11, zl_12, zl_13, zl_19, zl_20, zl_30, zl_64, zl_99, zl_100, zl_299, zl_300, zl_399, zl_999, zl_9999, zl_m1, zl_m2, zl_m3, zl_32, zl_280] at c5 c9 c11 ⊢); omega)) | (rw [if_neg (by (try simp only [zlt, zle, zeq, zl_0, zl_1, zl_2, zl_3, zl_4, zl_5, zl_6, zl_7, zl_8, zl_9, zl_10, zl_11, zl_12, zl_13, zl_19, zl_20, zl_30, zl_64, zl_99, zl_100, zl_299, zl_300, zl_399, zl_999, zl_9999, zl_m1, zl_m2, zl_m3, zl_32, zl_280] at c5 c9 c11 ⊢); omega), if_neg (by (try simp only [zlt, zle, zeq, zl_0, zl_1, zl_2, zl_3, zl_4, zl_5, zl_6, zl_7, zl_8, zl_9, zl_10, zl_11, zl_12, zl_13, zl_19, zl_20, zl_30, zl_64, zl_99, zl_100, zl_299, zl_300, zl_399, zl_999, zl_9999, zl_m1, zl_m2, zl_m3, zl_32, zl_280] at c5 c9 c11 ⊢); omega), if_pos (by (try simp only [zlt, zle, zeq, zl_0, zl_1, zl_2, zl_3, zl_4, zl_5, zl_6, zl_7, zl_8, zl_9, zl_10, zl_11, zl_12, zl_13, zl_19, zl_20, zl_30, zl_64, zl_99, zl_100, zl_299, zl_300, zl_399, zl_999, zl_9999, zl_m1, zl_m2, zl_m3, zl_32, zl_280] at c5 c9 c11 ⊢); omega)]; first | done | ((try simp only [zlt, zle, zeq, zl_0, zl_1, zl_2, zl_3, zl_4, zl_5, zl_6, zl_7, zl_8, zl_9, zl_10, zl_11, zl_12, zl_13, zl_19, zl_20, zl_30, zl_64, zl_99, zl_100, zl_299, zl_300, zl_399, zl_999, zl_9999, zl_m1, zl_m2, zl_m3, zl_32, zl_280] at c5 c9 c11 ⊢); omega)) | (rw [if_neg (by (try simp only [zlt, zle, zeq, zl_0, zl_1, zl_2, zl_3, zl_4, zl_5, zl_6, zl_7, zl_8, zl_9, zl_10, zl_11, zl_12, zl_13, zl_19, zl_20, zl_30, zl_64, zl_99, zl_100, zl_299, zl_300, zl_399, zl_999, zl_9999, zl_m1, zl_m2, zl_m3, zl_32, zl_280] at c5 c9 c11 ⊢); omega), if_neg (by (try simp only [zlt, zle, zeq, zl_0, zl_1, zl_2, zl_3, zl_4, zl_5, zl_6, zl_7, zl_8, zl_9, zl_10, zl_11, zl_12, zl_13, zl_19, zl_20, zl_30, zl_64, zl_99, zl_100, zl_299, zl_300, zl_399, zl_999, zl_9999, zl_m1, zl_m2, zl_m3, zl_32, zl_280] at c5 c9 c11 ⊢); omega), if_neg (by (try simp only [zlt, zle, zeq, zl_0, zl_1, zl_2, zl_3, zl_4, zl_5, zl_6, zl_7, zl_8, zl_9, zl_10, zl_11, zl_12, zl_13, zl_19, zl_20, zl_30, zl_64, zl_99, zl_100, zl_299, zl_300, zl_399, zl_999, zl_9999, zl_m1, zl_m2, zl_m3, zl_32, zl_280] at c5 c9 c11 ⊢); omega), if_pos (by (try simp only [zlt, zle, zeq, zl_0, zl_1, zl_2, zl_3, zl_4, zl_5, zl_6, zl_7, zl_8, zl_9, zl_10, zl_11, zl_12, zl_13, zl_19, zl_20, zl_30, zl_64, zl_99, zl_100, zl_299, zl_300, zl_399, zl_999, zl_9999, zl_m1, zl_m2, zl_m3, zl_32, zl_280] at c5 c9 c11 ⊢); omega)]; first | done | ((try simp only [zlt, zle, zeq, zl_0, zl_1, zl_2, zl_3, zl_4, zl_5, zl_6, zl_7, zl_8, zl_9, zl_10, zl_11, zl_12, zl_13, zl_19, zl_20, zl_30, zl_64, zl_99, zl_100, zl_299, zl_300, zl_399, zl_999, zl_9999, zl_m1, zl_m2, zl_m3, zl_32, zl_280] at c5 c9 c11 ⊢); omega)) | (rw [if_neg (by (try simp only [zlt, zle, zeq, zl_0, zl_1, zl_2, zl_3, zl_4, zl_5, zl_6, zl_7, zl_8, zl_9, zl_10, zl_11, zl_12, zl_13, zl_19, zl_20, zl_30, zl_64, zl_99, zl_100, zl_299, zl_300, zl_399, zl_999, zl_9999, zl_m1, zl_m2, zl_m3, zl_32, zl_280] at c5 c9 c11 ⊢); omega), if_neg (by (try simp only [zlt, zle, zeq, zl_0, zl_1, zl_2, zl_3, zl_4, zl_5, zl_6, zl_7, zl_8, zl_9, zl_10, zl_11, zl_12, zl_13, zl_19, zl_20, zl_30, zl_64, zl_99, zl_100, zl_299, zl_300, zl_399, zl_999, zl_9999, zl_m1, zl_m2, zl_m3, zl_32, zl_280] at c5 c9 c11 ⊢); omega), if_neg (by (try simp only [zlt, zle, zeq, zl_0, zl_1, zl_2, zl_3, zl_4, zl_5, zl_6, zl_7, zl_8, zl_9, zl_10, zl_11, zl_12, zl_13, zl_19, zl_20, zl_30, zl_64, zl_99, zl_100, zl_299, zl_300, zl_399, zl_999, zl_9999, zl_m1, zl_m2, zl_m3, zl_32, zl_280] at c5 c9 c11 ⊢); omega), if_neg (by (try simp only [zlt, zle, zeq, zl_0, zl_1, zl_2, zl_3, zl_4, zl_5, zl_6, zl_7, zl_8, zl_9, zl_10, zl_11, zl_12, zl_13, zl_19, zl_20, zl_30, zl_64, zl_99, zl_100, zl_299, zl_300, zl_399, zl_999, zl_9999, zl_m1, zl_m2, zl_m3, zl_32, zl_280] at c5 c9 c11 ⊢); omega)]; first | done | ((try simp only [zlt, zle, zeq, zl_0, zl_1, zl_2, zl_3, zl_4, zl_5, zl_6, zl_7, zl_8, zl_9, zl_10, zl_11, zl_12, zl_13, zl_19, zl_20, zl_30, zl_64, zl_99, zl_100, zl_299, zl_300, zl_399, zl_999, zl_9999, zl_m1, zl_m2, zl_m3, zl_32, zl_280] at c5 c9 c11 ⊢); omega)))) dX11_about_153 (Nat.le_of_ble_eq_true rfl) (Nat.le_of_ble_eq_true rfl)
      · refine lv_tableIn (off := 85) (tgt := 154) hx hb dX11_about_69 (by decide) (by decide) rfl (by decide) ?_
        refine lv_aload_n hx hb dX11_about_154 rfl (lv_at hl 0 rfl) ?_
        refine z_get Z i_X11 hP 0 rfl rfl 2 (by decide) bw_470 rfl dX11_about_155 ?_
        refine z_get Z i_X10 hP 1 rfl rfl 2 (by decide) bw_240 rfl dX11_about_158 ?_
        refine z_get Z i_X1 hP 2 rfl rfl 1 (by decide) bw_184 rfl dX11_about_161 ?_
        exact z_ret Z rfl hP hD hS ((by first | rfl | assumption | (rw [if_pos (by (try simp only [zlt, zle, zeq, zl_0, zl_1, zl_2, zl_3, zl_4, zl_5, zl_6, zl_7, zl_8, zl_9, zl_10, zl_11, zl_12, zl_13, zl_19, zl_20, zl_30, zl_64, zl_99, zl_100, zl_299, zl_300, zl_399, zl_999, zl_9999, zl_m1, zl_m2, zl_m3, zl_32, zl_280] at c5 c9 c11 ⊢); omega)]; first | done | ((try simp only [zlt, zle, zeq, zl_0, zl_1, zl_2, zl_3, zl_4, zl_5, zl_6, zl_7, zl_8, zl_9, zl_10, zl_11, zl_12, zl_13, zl_19, zl_20, zl_30, zl_64, zl_99, zl_100, zl_299, zl_300, zl_399, zl_999, zl_9999, zl_m1, zl_m2, zl_m3, zl_32, zl_280] at c5 c9 c11 ⊢); omega)) | (rw [if_neg (by (try simp only [zlt, zle, zeq, zl_0, zl_1, zl_2, zl_3, zl_4, zl_5, zl_6, zl_7, zl_8, zl_9, zl_10, zl_11, zl_12, zl_13, zl_19, zl_20, zl_30, zl_64, zl_99, zl_100, zl_299, zl_300, zl_399, zl_999, zl_9999, zl_m1, zl_m2, zl_m3, zl_32, zl_280] at c5 c9 c11 ⊢); omega), if_pos (by (try simp only [zlt, zle, zeq, zl_0, zl_1, zl_2, zl_3, zl_4, zl_5, zl_6, zl_7, zl_8, zl_9, zl_10, zl_11, zl_12, zl_13, zl_19, zl_20, zl_30, zl_64, zl_99, zl_100, zl_299, zl_300, zl_399, zl_999, zl_9999, zl_m1, zl_m2, zl_m3, zl_32, zl_280] at c5 c9 c11 ⊢); omega)]; first | done | ((try simp only [zlt, zle, zeq, zl_0, zl_1, zl_2, zl_3, zl_4, zl_5, zl_6, zl_7, zl_8, zl_9, zl_10, zl_11, zl_12, zl_13, zl_19, zl_20, zl_30, zl_64, zl_99, zl_100, zl_299, zl_300, zl_399, zl_999, zl_9999, zl_m1, zl_m2, zl_m3, zl_32, zl_280] at c5 c9 c11 ⊢); omega)) | (rw [if_neg (by (try simp only [zlt, zle, zeq, zl_0, zl_1, zl_2, zl_3, zl_4, zl_5, zl_6, zl_7, zl_8, zl_9, zl_10, zl_11, zl_12, zl_13, zl_19, zl_20, zl_30, zl_64, zl_99, zl_100, zl_299, zl_300, zl_399, zl_999, zl_9999, zl_m1, zl_m2, zl_m3, zl_32, zl_280] at c5 c9 c11 ⊢); omega), if_neg (by (try simp only [zlt, zle, zeq, zl_0, zl_1, zl_2, zl_3, zl_4, zl_5, zl_6, zl_7, zl_8, zl_9, zl_10, zl_11, zl_12, zl_13, zl_19, zl_20, zl_30, zl_64, zl_99, zl_100, zl_299, zl_300, zl_399, zl_999, zl_9999, zl_m1, zl_m2, zl_m3, zl_32, zl_280] at c5 c9 c11 ⊢); omega), if_pos (by (try simp only [zlt, zle, zeq, zl_0, zl_1, zl_2, zl_3, zl_4, zl_5, zl_6, zl_7, zl_8, zl_9, zl_10, zl_11, zl_12, zl_13, zl_19, zl_20, zl_30, zl_64, zl_99, zl_100, zl_299, zl_300, zl_399, zl_999, zl_9999, zl_m1, zl_m2, zl_m3, zl_32, zl_280] at c5 c9 c11 ⊢); omega)]; first | done | ((try simp only [zlt, zle, zeq, zl_0, zl_1, zl_2, zl_3, zl_4, zl_5, zl_6, zl_7, zl_8, zl_9, zl_10, zl_11, zl_12, zl_13, zl_19, zl_20, zl_30, zl_64, zl_99, zl_100, zl_299, zl_300, zl_399, zl_999, zl_9999, zl_m1, zl_m2, zl_m3, zl_32, zl_280] at c5 c9 c11 ⊢); omega)) | (rw [if_neg (by (try simp only [zlt, zle, zeq, zl_0, zl_1, zl_2, zl_3, zl_4, zl_5, zl_6, zl_7, zl_8, zl_9, zl_10, zl_11, zl_12, zl_13, zl_19, zl_20, zl_30, zl_64, zl_99, zl_100, zl_299, zl_300, zl_399, zl_999, zl_9999, zl_m1, zl_m2, zl_m3, zl_32, zl_280] at c5 c9 c11 ⊢); omega), if_neg (by (try simp only [zlt, zle, zeq, zl_0, zl_1, zl_2, zl_3, zl_4, zl_5, zl_6, zl_7, zl_8, zl_9, zl_10, zl_11, zl_12, zl_13, zl_19, zl_20, zl_30, zl_64, zl_99, zl_100, zl_299, zl_300, zl_399, zl_999, zl_9999, zl_m1, zl_m2, zl_m3, zl_32, zl_280] at c5 c9 c11 ⊢); omega), if_neg (by (try simp only [zlt, zle, zeq, zl_0, zl_1, zl_2, zl_3, zl_4, zl_5, zl_6, zl_7, zl_8, zl_9, zl_10, zl_11, zl_12, zl_13, zl_19, zl_20, zl_30, zl_64, zl_99, zl_100, zl_299, zl_300, zl_399, zl_999, zl_9999, zl_m1, zl_m2, zl_m3, zl_32, zl_280] at c5 c9 c11 ⊢); omega), if_pos (by (try simp only [zlt, zle, zeq, zl_0, zl_1, zl_2, zl_3, zl_4, zl_5, zl_6, zl_7, zl_8, zl_9, zl_10, zl_11, zl_12, zl_13, zl_19, zl_20, zl_30, zl_64, zl_99, zl_100, zl_299, zl_300, zl_399, zl_999, zl_9999, zl_m1, zl_m2, zl_m3, zl_32, zl_280] at c5 c9 c11 ⊢); omega)]; first | done | ((try simp only [zlt, zle, zeq, zl_0, zl_1, zl_2, zl_3, zl_4, zl_5, zl_6, zl_7, zl_8, zl_9, zl_10, zl_11, zl_12, zl_13, zl_19, zl_20, zl_30, zl_64, zl_99, zl_100, zl_299, zl_300, zl_399, zl_999, zl_9999, zl_m1, zl_m2, zl_m3, zl_32, zl_280] at c5 c9 c11 ⊢); omega)) | (rw [if_neg (by (try simp only [zlt, zle, zeq, zl_0, zl_1, zl_2, zl_3, zl_4, zl_5, zl_6, zl_7, zl_8, zl_9, zl_10, zl_11, zl_12, zl_13, zl_19, zl_20, zl_30, zl_64, zl_99, zl_100, zl_299, zl_300, zl_399, zl_999, zl_9999, zl_m1, zl_m2, zl_m3, zl_32, zl_280] at c5 c9 c11 ⊢); omega), if_neg (by (try simp only [zlt, zle, zeq, zl_0, zl_1, zl_2, zl_3, zl_4, zl_5, zl_6, zl_7, zl_8, zl_9, zl_10, zl_11, zl_12, zl_13, zl_19, zl_20, zl_30, zl_64, zl_99, zl_100, zl_299, zl_300, zl_399, zl_999, zl_9999, zl_m1, zl_m2, zl_m3, zl_32, zl_280] at c5 c9 c11 ⊢); omega), if_neg (by (try simp only [zlt, zle, zeq, zl_0, zl_1, zl_2, zl_3, zl_4, zl_5, zl_6, zl_7, zl_8, zl_9, zl_10, zl_11, zl_12, zl_13, zl_19, zl_20, zl_30, zl_64, zl_99, zl_100, zl_299, zl_300, zl_399, zl_999, zl_9999, zl_m1, zl_m2, zl_m3, zl_32, zl_280] at c5 c9 c11 ⊢); omega), if_neg (by (try simp only [zlt, zle, zeq, zl_0, zl_1, zl_2, zl_3, zl_4, zl_5, zl_6, zl_7, zl_8, zl_9, zl_10, zl_11, zl_12, zl_13, zl_19, zl_20, zl_30, zl_64, zl_99, zl_100, zl_299, zl_300, zl_399, zl_999, zl_9999, zl_m1, zl_m2, zl_m3, zl_32, zl_280] at c5 c9 c11 ⊢); omega)]; first | done | ((try simp only [zlt, zle, zeq, zl_0, zl_1, zl_2, zl_3, zl_4, zl_5, zl_6, zl_7, zl_8, zl_9, zl_10, zl_11, zl_12, zl_13, zl_19, zl_20, zl_30, zl_64, zl_99, zl_100, zl_299, zl_300, zl_399, zl_999, zl_9999, zl_m1, zl_m2, zl_m3, zl_32, zl_280] at c5 c9 c11 ⊢); omega)))) dX11_about_164 (Nat.le_of_ble_eq_true rfl) (Nat.le_of_ble_eq_true rfl)
      · refine lv_tableIn (off := 96) (tgt := 165) hx hb dX11_about_69 (by decide) (by decide) rfl (by decide) ?_
        refine lv_aload_n hx hb dX11_about_165 rfl (lv_at hl 0 rfl) ?_
        refine z_get Z i_X11 hP 0 rfl rfl 2 (by decide) bw_470 rfl dX11_about_166 ?_
        refine z_get Z i_X10 hP 1 rfl rfl 2 (by decide) bw_240 rfl dX11_about_169 ?_
        refine z_get Z i_X1 hP 2 rfl rfl 5 (by decide) bw_193 rfl dX11_about_172 ?_
        exact z_ret Z rfl hP hD hS ((by first | rfl | assumption | (rw [if_pos (by (try simp only [zlt, zle, zeq, zl_0, zl_1, zl_2, zl_3, zl_4, zl_5, zl_6, zl_7, zl_8, zl_9, zl_10, zl_11, zl_12, zl_13, zl_19, zl_20, zl_30, zl_64, zl_99, zl_100, zl_299, zl_300, zl_399, zl_999, zl_9999, zl_m1, zl_m2, zl_m3, zl_32, zl_280] at c5 c9 c11 ⊢); omega)]; first | done | ((try simp only [zlt, zle, zeq, zl_0, zl_1, zl_2, zl_3, zl_4, zl_5, zl_6, zl_7, zl_8, zl_9, zl_10, zl_11, zl_12, zl_13, zl_19, zl_20, zl_30, zl_64, zl_99, zl_100, zl_299, zl_300, zl_399, zl_999, zl_9999, zl_m1, zl_m2, zl_m3, zl_32, zl_280] at c5 c9 c11 ⊢); omega)) | (rw [if_neg (by (try simp only [zlt, zle, zeq, zl_0, zl_1, zl_2, zl_3, zl_4, zl_5, zl_6, zl_7, zl_8, zl_9, zl_10, zl_11, zl_12, zl_13, zl_19, zl_20, zl_30, zl_64, zl_99, zl_100, zl_299, zl_300, zl_399, zl_999, zl_9999, zl_m1, zl_m2, zl_m3, zl_32, zl_280] at c5 c9 c11 ⊢); omega), if_pos (by (try simp only [zlt, zle, zeq, zl_0, zl_1, zl_2, zl_3, zl_4, zl_5, zl_6, zl_7, zl_8, zl_9, zl_10, zl_11, zl_12, zl_13, zl_19, zl_20, zl_30, zl_64, zl_99, zl_100, zl_299, zl_300, zl_399, zl_999, zl_9999, zl_m1, zl_m2, zl_m3, zl_32, zl_280] at c5 c9 c11 ⊢); omega)]; first | done | ((try simp only [zlt, zle, zeq, zl_0, zl_1, zl_2, zl_3, zl_4, zl_5, zl_6, zl_7, zl_8, zl_9, zl_10, zl_11, zl_12, zl_13, zl_19, zl_20, zl_30, zl_64, zl_99, zl_100, zl_299, zl_300, zl_399, zl_999, zl_9999, zl_m1, zl_m2, zl_m3, zl_32, zl_280] at c5 c9 c11 ⊢); omega)) | (rw [if_neg (by (try simp only [zlt, zle, zeq, zl_0, zl_1, zl_2, zl_3, zl_4, zl_5, zl_6, zl_7, zl_8, zl_9, zl_10, zl_11, zl_12, zl_13, zl_19, zl_20, zl_30, zl_64, zl_99, zl_100, zl_299, zl_300, zl_399, zl_999, zl_9999, zl_m1, zl_m2, zl_m3, zl_32, zl_280] at c5 c9 c11 ⊢); omega), if_neg (by (try simp only [zlt, zle, zeq, zl_0, zl_1, zl_2, zl_3, zl_4, zl_5, zl_6, zl_7, zl_8, zl_9, zl_10, zl_11, zl_12, zl_13, zl_19, zl_20, zl_30, zl_64, zl_99, zl_100, zl_299, zl_300, zl_399, zl_999, zl_9999, zl_m1, zl_m2, zl_m3, zl_32, zl_280] at c5 c9 c11 ⊢); omega), if_pos (by (try simp only [zlt, zle, zeq, zl_0, zl_1, zl_2, zl_3, zl_4, zl_5, zl_6, zl_7, zl_8, zl_9, zl_10, zl_11, zl_12, zl_13, zl_19, zl_20, zl_30, zl_64, zl_99, zl_100, zl_299, zl_300, zl_399, zl_999, zl_9999, zl_m1, zl_m2, zl_m3, zl_32, zl_280] at c5 c9 c11 ⊢); omega)]; first | done | ((try simp only [zlt, zle, zeq, zl_0, zl_1, zl_2, zl_3, zl_4, zl_5, zl_6, zl_7, zl_8, zl_9, zl_10, zl_11, zl_12, zl_13, zl_19, zl_20, zl_30, zl_64, zl_99, zl_100, zl_299, zl_300, zl_399, zl_999, zl_9999, zl_m1, zl_m2, zl_m3, zl_32, zl_280] at c5 c9 c11 ⊢); omega)) | (rw [if_neg (by (try simp only [zlt, zle, zeq, zl_0, zl_1, zl_2, zl_3, zl_4, zl_5, zl_6, zl_7, zl_8, zl_9, zl_10, zl_11, zl_12, zl_13, zl_19, zl_20, zl_30, zl_64, zl_99, zl_100, zl_299, zl_300, zl_399, zl_999, zl_9999, zl_m1, zl_m2, zl_m3, zl_32, zl_280] at c5 c9 c11 ⊢); omega), if_neg (by (try simp only [zlt, zle, zeq, zl_0, zl_1, zl_2, zl_3, zl_4, zl_5, zl_6, zl_7, zl_8, zl_9, zl_10, zl_11, zl_12, zl_13, zl_19, zl_20, zl_30, zl_64, zl_99, zl_100, zl_299, zl_300, zl_399, zl_999, zl_9999, zl_m1, zl_m2, zl_m3, zl_32, zl_280] at c5 c9 c11 ⊢); omega), if_neg (by (try simp only [zlt, zle, zeq, zl_0, zl_1, zl_2, zl_3, zl_4, zl_5, zl_6, zl_7, zl_8, zl_9, zl_10, zl_11, zl_12, zl_13, zl_19, zl_20, zl_30, zl_64, zl_99, zl_100, zl_299, zl_300, zl_399, zl_999, zl_9999, zl_m1, zl_m2, zl_m3, zl_32, zl_280] at c5 c9 c11 ⊢); omega), if_pos (by (try simp only [zlt, zle, zeq, zl_0, zl_1, zl_2, zl_3, zl_4, zl_5, zl_6, zl_7, zl_8, zl_9, zl_10, zl_11, zl_12, zl_13, zl_19, zl_20, zl_30, zl_64, zl_99, zl_100, zl_299, zl_300, zl_399, zl_999, zl_9999, zl_m1, zl_m2, zl_m3, zl_32, zl_280] at c5 c9 c11 ⊢); omega)]; first | done | ((try simp only [zlt, zle, zeq, zl_0, zl_1, zl_2, zl_3, zl_4, zl_5, zl_6, zl_7, zl_8, zl_9, zl_10, zl_11, zl_12, zl_13, zl_19, zl_20, zl_30, zl_64, zl_99, zl_100, zl_299, zl_300, zl_399, zl_999, zl_9999, zl_m1, zl_m2, zl_m3, zl_32, zl_280] at c5 c9 c11 ⊢); omega)) | (rw [if_neg (by (try simp only [zlt, zle, zeq, zl_0, zl_1, zl_2, zl_3, zl_4, zl_5, zl_6, zl_7, zl_8, zl_9, zl_10, zl_11, zl_12, zl_13, zl_19, zl_20, zl_30, zl_64, zl_99, zl_100, zl_299, zl_300, zl_399, zl_999, zl_9999, zl_m1, zl_m2, zl_m3, zl_32, zl_280] at c5 c9 c11 ⊢); omega), if_neg (by (try simp only [zlt, zle, zeq, zl_0, zl_1, zl_2, zl_3, zl_4, zl_5, zl_6, zl_7, zl_8, zl_9, zl_10, zl_11, zl_12, zl_13, zl_19, zl_20, zl_30, zl_64, zl_99, zl_100, zl_299, zl_300, zl_399, zl_999, zl_9999, zl_m1, zl_m2, zl_m3, zl_32, zl_280] at c5 c9 c11 ⊢); omega), if_neg (by (try simp only [zlt, zle, zeq, zl_0, zl_1, zl_2, zl_3, zl_4, zl_5, zl_6, zl_7, zl_8, zl_9, zl_10, zl_11, zl_12, zl_13, zl_19, zl_20, zl_30, zl_64, zl_99, zl_100, zl_299, zl_300, zl_399, zl_999, zl_9999, zl_m1, zl_m2, zl_m3, zl_32, zl_280] at c5 c9 c11 ⊢); omega), if_neg (by (try simp only [zlt, zle, zeq, zl_0, zl_1, zl_2, zl_3, zl_4, zl_5, zl_6, zl_7, zl_8, zl_9, zl_10, zl_11, zl_12, zl_13, zl_19, zl_20, zl_30, zl_64, zl_99, zl_100, zl_299, zl_300, zl_399, zl_999, zl_9999, zl_m1, zl_m2, zl_m3, zl_32, zl_280] at c5 c9 c11 ⊢); omega)]; first | done | ((try simp only [zlt, zle, zeq, zl_0, zl_1, zl_2, zl_3, zl_4, zl_5, zl_6, zl_7, zl_8, zl_9, zl_10, zl_11, zl_12, zl_13, zl_19, zl_20, zl_30, zl_64, zl_99, zl_100, zl_299, zl_300, zl_399, zl_999, zl_9999, zl_m1, zl_m2, zl_m3, zl_32, zl_280] at c5 c9 c11 ⊢); omega)))) dX11_about_175 (Nat.le_of_ble_eq_true rfl) (Nat.le_of_ble_eq_true rfl)
      · refine lv_tableIn (off := 107) (tgt := 176) hx hb dX11_about_69 (by decide) (by decide) rfl (by decide) ?_
        refine lv_aload_n hx hb dX11_about_176 rfl (lv_at hl 0 rfl) ?_
        refine z_get Z i_X11 hP 0 rfl rfl 2 (by decide) bw_470 rfl dX11_about_177 ?_
        refine z_get Z i_X10 hP 1 rfl rfl 8 (by decide) bw_253 rfl dX11_about_180 ?_
        exact z_ret Z rfl hP hD hS ((by first | rfl | assumption | (rw [if_pos (by (try simp only [zlt, zle, zeq, zl_0, zl_1, zl_2, zl_3, zl_4, zl_5, zl_6, zl_7, zl_8, zl_9, zl_10, zl_11, zl_12, zl_13, zl_19, zl_20, zl_30, zl_64, zl_99, zl_100, zl_299, zl_300, zl_399, zl_999, zl_9999, zl_m1, zl_m2, zl_m3, zl_32, zl_280] at c5 c9 c11 ⊢); omega)]; first | done | ((try simp only [zlt, zle, zeq, zl_0, zl_1, zl_2, zl_3, zl_4, zl_5, zl_6, zl_7, zl_8, zl_9, zl_10, zl_11, zl_12, zl_13, zl_19, zl_20, zl_30, zl_64, zl_99, zl_100, zl_299, zl_300, zl_399, zl_999, zl_9999, zl_m1, zl_m2, zl_m3, zl_32, zl_280] at c5 c9 c11 ⊢); omega)) | (rw [if_neg (by (try simp only [zlt, zle, zeq, zl_0, zl_1, zl_2, zl_3, zl_4, zl_5, zl_6, zl_7, zl_8, zl_9, zl_10, zl_11, zl_12, zl_13, zl_19, zl_20, zl_30, zl_64, zl_99, zl_100, zl_299, zl_300, zl_399, zl_999, zl_9999, zl_m1, zl_m2, zl_m3, zl_32, zl_280] at c5 c9 c11 ⊢); omega), if_pos (by (try simp only [zlt, zle, zeq, zl_0, zl_1, zl_2, zl_3, zl_4, zl_5, zl_6, zl_7, zl_8, zl_9, zl_10, zl_11, zl_12, zl_13, zl_19, zl_20, zl_30, zl_64, zl_99, zl_100, zl_299, zl_300, zl_399, zl_999, zl_9999, zl_m1, zl_m2, zl_m3, zl_32, zl_280] at c5 c9 c11 ⊢); omega)]; first | done | ((try simp only [zlt, zle, zeq, zl_0, zl_1, zl_2, zl_3, zl_4, zl_5, zl_6, zl_7, zl_8, zl_9, zl_10, zl_11, zl_12, zl_13, zl_19, zl_20, zl_30, zl_64, zl_99, zl_100, zl_299, zl_300, zl_399, zl_999, zl_9999, zl_m1, zl_m2, zl_m3, zl_32, zl_280] at c5 c9 c11 ⊢); omega)) | (rw [if_neg (by (try simp only [zlt, zle, zeq, zl_0, zl_1, zl_2, zl_3, zl_4, zl_5, zl_6, zl_7, zl_8, zl_9, zl_10, zl_11, zl_12, zl_13, zl_19, zl_20, zl_30, zl_64, zl_99, zl_100, zl_299, zl_300, zl_399, zl_999, zl_9999, zl_m1, zl_m2, zl_m3, zl_32, zl_280] at c5 c9 c11 ⊢); omega), if_neg (by (try simp only [zlt, zle, zeq, zl_0, zl_1, zl_2, zl_3, zl_4, zl_5, zl_6, zl_7, zl_8, zl_9, zl_10, zl_11, zl_12, zl_13, zl_19, zl_20, zl_30, zl_64, zl_99, zl_100, zl_299, zl_300, zl_399, zl_999, zl_9999, zl_m1, zl_m2, zl_m3, zl_32, zl_280] at c5 c9 c11 ⊢); omega), if_pos (by (try simp only [zlt, zle, zeq, zl_0, zl_1, zl_2, zl_3, zl_4, zl_5, zl_6, zl_7, zl_8, zl_9, zl_10, zl_11, zl_12, zl_13, zl_19, zl_20, zl_30, zl_64, zl_99, zl_100, zl_299, zl_300, zl_399, zl_999, zl_9999, zl_m1, zl_m2, zl_m3, zl_32, zl_280] at c5 c9 c11 ⊢); omega)]; first | done | ((try simp only [zlt, zle, zeq, zl_0, zl_1, zl_2, zl_3, zl_4, zl_5, zl_6, zl_7, zl_8, zl_9, zl_10, zl_11, zl_12, zl_13, zl_19, zl_20, zl_30, zl_64, zl_99, zl_100, zl_299, zl_300, zl_399, zl_999, zl_9999, zl_m1, zl_m2, zl_m3, zl_32, zl_280] at c5 c9 c11 ⊢); omega)) | (rw [if_neg (by (try simp only [zlt, zle, zeq, zl_0, zl_1, zl_2, zl_3, zl_4, zl_5, zl_6, zl_7, zl_8, zl_9, zl_10, zl_11, zl_12, zl_13, zl_19, zl_20, zl_30, zl_64, zl_99, zl_100, zl_299, zl_300, zl_399, zl_999, zl_9999, zl_m1, zl_m2, zl_m3, zl_32, zl_280] at c5 c9 c11 ⊢); omega), if_neg (by (try simp only [zlt, zle, zeq, zl_0, zl_1, zl_2, zl_3, zl_4, zl_5, zl_6, zl_7, zl_8, zl_9, zl_10, zl_11, zl_12, zl_13, zl_19, zl_20, zl_30, zl_64, zl_99, zl_100, zl_299, zl_300, zl_399, zl_999, zl_9999, zl_m1, zl_m2, zl_m3, zl_32, zl_280] at c5 c9 c11 ⊢); omega), if_neg (by (try simp only [zlt, zle, zeq, zl_0, zl_1, zl_2, zl_3, zl_4, zl_5, zl_6, zl_7, zl_8, zl_9, zl_10, zl_11, zl_12, zl_13, zl_19, zl_20, zl_30, zl_64, zl_99, zl_100, zl_299, zl_300, zl_399, zl_999, zl_9999, zl_m1, zl_m2, zl_m3, zl_32, zl_280] at c5 c9 c11 ⊢); omega), if_pos (by (try simp only [zlt, zle, zeq, zl_0, zl_1, zl_2, zl_3, zl_4, zl_5, zl_6, zl_7, zl_8, zl_9, zl_10, zl_11, zl_12, zl_13, zl_19, zl_20, zl_30, zl_64, zl_99, zl_100, zl_299, zl_300, zl_399, zl_999, zl_9999, zl_m1, zl_m2, zl_m3, zl_32, zl_280] at c5 c9 c11 ⊢); omega)]; first | done | ((try simp only [zlt, zle, zeq, zl_0, zl_1, zl_2, zl_3, zl_4, zl_5, zl_6, zl_7, zl_8, zl_9, zl_10, zl_11, zl_12, zl_13, zl_19, zl_20, zl_30, zl_64, zl_99, zl_100, zl_299, zl_300, zl_399, zl_999, zl_9999, zl_m1, zl_m2, zl_m3, zl_32, zl_280] at c5 c9 c11 ⊢); omega)) | (rw [if_neg (by (try simp only [zlt, zle, zeq, zl_0, zl_1, zl_2, zl_3, zl_4, zl_5, zl_6, zl_7, zl_8, zl_9, zl_10, zl_11, zl_12, zl_13, zl_19, zl_20, zl_30, zl_64, zl_99, zl_100, zl_299, zl_300, zl_399, zl_999, zl_9999, zl_m1, zl_m2, zl_m3, zl_32, zl_280] at c5 c9 c11 ⊢); omega), if_neg (by (try simp only [zlt, zle, zeq, zl_0, zl_1, zl_2, zl_3, zl_4, zl_5, zl_6, zl_7, zl_8, zl_9, zl_10, zl_11, zl_12, zl_13, zl_19, zl_20, zl_30, zl_64, zl_99, zl_100, zl_299, zl_300, zl_399, zl_999, zl_9999, zl_m1, zl_m2, zl_m3, zl_32, zl_280] at c5 c9 c11 ⊢); omega), if_neg (by (try simp only [zlt, zle, zeq, zl_0, zl_1, zl_2, zl_3, zl_4, zl_5, zl_6, zl_7, zl_8, zl_9, zl_10, zl_11, zl_12, zl_13, zl_19, zl_20, zl_30, zl_64, zl_99, zl_100, zl_299, zl_300, zl_399, zl_999, zl_9999, zl_m1, zl_m2, zl_m3, zl_32, zl_280] at c5 c9 c11 ⊢); omega), if_neg (by (try simp only [zlt, zle, zeq, zl_0, zl_1, zl_2, zl_3, zl_4, zl_5, zl_6, zl_7, zl_8, zl_9, zl_10, zl_11, zl_12, zl_13, zl_19, zl_20, zl_30, zl_64, zl_99, zl_100, zl_299, zl_300, zl_399, zl_999, zl_9999, zl_m1, zl_m2, zl_m3, zl_32, zl_280] at c5 c9 c11 ⊢); omega)]; first | done | ((try simp only [zlt, zle, zeq, zl_0, zl_1, zl_2, zl_3, zl_4, zl_5, zl_6, zl_7, zl_8, zl_9, zl_10, zl_11, zl_12, zl_13, zl_19, zl_20, zl_30, zl_64, zl_99, zl_100, zl_299, zl_300, zl_399, zl_999, zl_9999, zl_m1, zl_m2, zl_m3, zl_32, zl_280] at c5 c9 c11 ⊢); omega)))) dX11_about_183 (Nat.le_of_ble_eq_true rfl) (Nat.le_of_ble_eq_true rfl)
      · refine lv_tableIn (off := 115) (tgt := 184) hx hb dX11_about_69 (by decide) (by decide) rfl (by decide) ?_
        refine lv_aload_n hx hb dX11_about_184 rfl (lv_at hl 0 rfl) ?_
        refine z_get Z i_X11 hP 0 rfl rfl 2 (by decide) bw_470 rfl dX11_about_185 ?_
        refine z_get Z i_X10 hP 1 rfl rfl 2 (by decide) bw_240 rfl dX11_about_188 ?_
        refine z_get Z i_X1 hP 2 rfl rfl 6 (by decide) bw_195 rfl dX11_about_191 ?_
        exact z_ret Z rfl hP hD hS ((by first | rfl | assumption | (rw [if_pos (by (try simp only [zlt, zle, zeq, zl_0, zl_1, zl_2, zl_3, zl_4, zl_5, zl_6, zl_7, zl_8, zl_9, zl_10, zl_11, zl_12, zl_13, zl_19, zl_20, zl_30, zl_64, zl_99, zl_100, zl_299, zl_300, zl_399, zl_999, zl_9999, zl_m1, zl_m2, zl_m3, zl_32, zl_280] at c5 c9 c11 ⊢); omega)]; first | done | ((try simp only [zlt, zle, zeq, zl_0, zl_1, zl_2, zl_3, zl_4, zl_5, zl_6, zl_7, zl_8, zl_9, zl_10, zl_11, zl_12, zl_13, zl_19, zl_20, zl_30, zl_64, zl_99, zl_100, zl_299, zl_300, zl_399, zl_999, zl_9999, zl_m1, zl_m2, zl_m3, zl_32, zl_280] at c5 c9 c11 ⊢); omega)) | (rw [if_neg (by (try simp only [zlt, zle, zeq, zl_0, zl_1, zl_2, zl_3, zl_4, zl_5, zl_6, zl_7, zl_8, zl_9, zl_10, zl_11, zl_12, zl_13, zl_19, zl_20, zl_30, zl_64, zl_99, zl_100, zl_299, zl_300, zl_399, zl_999, zl_9999, zl_m1, zl_m2, zl_m3, zl_32, zl_280] at c5 c9 c11 ⊢); omega), if_pos (by (try simp only [zlt, zle, zeq, zl_0, zl_1, zl_2, zl_3, zl_4, zl_5, zl_6, zl_7, zl_8, zl_9, zl_10, zl_11, zl_12, zl_13, zl_19, zl_20, zl_30, zl_64, zl_99, zl_100, zl_299, zl_300, zl_399, zl_999, zl_9999, zl_m1, zl_m2, zl_m3, zl_32, zl_280] at c5 c9 c11 ⊢); omega)]; first | done | ((try simp only [zlt, zle, zeq, zl_0, zl_1, zl_2, zl_3, zl_4, zl_5, zl_6, zl_7, zl_8, zl_9, zl_10, zl_11, zl_12, zl_13, zl_19, zl_20, zl_30, zl_64, zl_99, zl_100, zl_299, zl_300, zl_399, zl_999, zl_9999, zl_m1, zl_m2, zl_m3, zl_32, zl_280] at c5 c9 c11 ⊢); omega)) | (rw [if_neg (by (try simp only [zlt, zle, zeq, zl_0, zl_1, zl_2, zl_3, zl_4, zl_5, zl_6, zl_7, zl_8, zl_9, zl_10, zl_11, zl_12, zl_13, zl_19, zl_20, zl_30, zl_64, zl_99, zl_100, zl_299, zl_300, zl_399, zl_999, zl_9999, zl_m1, zl_m2, zl_m3, zl_32, zl_280] at c5 c9 c11 ⊢); omega), if_neg (by (try simp only [zlt, zle, zeq, zl_0, zl_1, zl_2, zl_3, zl_4, zl_5, zl_6, zl_7, zl_8, zl_9, zl_10, zl_11, zl_12, zl_13, zl_19, zl_20, zl_30, zl_64, zl_99, zl_100, zl_299, zl_300, zl_399, zl_999, zl_9999, zl_m1, zl_m2, zl_m3, zl_32, zl_280] at c5 c9 c11 ⊢); omega), if_pos (by (try simp only [zlt, zle, zeq, zl_0, zl_1, zl_2, zl_3, zl_4, zl_5, zl_6, zl_7, zl_8, zl_9, zl_10, zl_11, zl_12, zl_13, zl_19, zl_20, zl_30, zl_64, zl_99, zl_100, zl_299, zl_300, zl_399, zl_999, zl_9999, zl_m1, zl_m2, zl_m3, zl_32, zl_280] at c5 c9 c11 ⊢); omega)]; first | done | ((try simp only [zlt, zle, zeq, zl_0, zl_1, zl_2, zl_3, zl_4, zl_5, zl_6, zl_7, zl_8, zl_9, zl_10, zl_11, zl_12, zl_13, zl_19, zl_20, zl_30, zl_64, zl_99, zl_100, zl_299, zl_300, zl_399, zl_999, zl_9999, zl_m1, zl_m2, zl_m3, zl_32, zl_280] at c5 c9 c11 ⊢); omega)) | (rw [if_neg (by (try simp only [zlt, zle, zeq, zl_0, zl_1, zl_2, zl_3, zl_4, zl_5, zl_6, zl_7, zl_8, zl_9, zl_10, zl_11, zl_12, zl_13, zl_19, zl_20, zl_30, zl_64, zl_99, zl_100, zl_299, zl_300, zl_399, zl_999, zl_9999, zl_m1, zl_m2, zl_m3, zl_32, zl_280] at c5 c9 c11 ⊢); omega), if_neg (by (try simp only [zlt, zle, zeq, zl_0, zl_1, zl_2, zl_3, zl_4, zl_5, zl_6, zl_7, zl_8, zl_9, zl_10, zl_11, zl_12, zl_13, zl_19, zl_20, zl_30, zl_64, zl_99, zl_100, zl_299, zl_300, zl_399, zl_999, zl_9999, zl_m1, zl_m2, zl_m3, zl_32, zl_280] at c5 c9 c11 ⊢); omega), if_neg (by (try simp only [zlt, zle, zeq, zl_0, zl_1, zl_2, zl_3, zl_4, zl_5, zl_6, zl_7, zl_8, zl_9, zl_10, zl_11, zl_12, zl_13, zl_19, zl_20, zl_30, zl_64, zl_99, zl_100, zl_299, zl_300, zl_399, zl_999, zl_9999, zl_m1, zl_m2, zl_m3, zl_32, zl_280] at c5 c9 c11 ⊢); omega), if_pos (by (try simp only [zlt, zle, zeq, zl_0, zl_1, zl_2, zl_3, zl_4, zl_5, zl_6, zl_7, zl_8, zl_9, zl_10, zl_11, zl_12, zl_13, zl_19, zl_20, zl_30, zl_64, zl_99, zl_100, zl_299, zl_300, zl_399, zl_999, zl_9999, zl_m1, zl_m2, zl_m3, zl_32, zl_280] at c5 c9 c11 ⊢); omega)]; first | done | ((try simp only [zlt, zle, zeq, zl_0, zl_1, zl_2, zl_3, zl_4, zl_5, zl_6, zl_7, zl_8, zl_9, zl_10, zl_11, zl_12, zl_13, zl_19, zl_20, zl_30, zl_64, zl_99, zl_100, zl_299, zl_300, zl_399, zl_999, zl_9999, zl_m1, zl_m2, zl_m3, zl_32, zl_280] at c5 c9 c11 ⊢); omega)) | (rw [if_neg (by (try simp only [zlt, zle, zeq, zl_0, zl_1, zl_2, zl_3, zl_4, zl_5, zl_6, zl_7, zl_8, zl_9, zl_10, zl_11, zl_12, zl_13, zl_19, zl_20, zl_30, zl_64, zl_99, zl_100, zl_299, zl_300, zl_399, zl_999, zl_9999, zl_m1, zl_m2, zl_m3, zl_32, zl_280] at c5 c9 c11 ⊢); omega), if_neg (by (try simp only [zlt, zle, zeq, zl_0, zl_1, zl_2, zl_3, zl_4, zl_5, zl_6, zl_7, zl_8, zl_9, zl_10, zl_11, zl_12, zl_13, zl_19, zl_20, zl_30, zl_64, zl_99, zl_100, zl_299, zl_300, zl_399, zl_999, zl_9999, zl_m1, zl_m2, zl_m3, zl_32, zl_280] at c5 c9 c11 ⊢); omega), if_neg (by (try simp only [zlt, zle, zeq, zl_0, zl_1, zl_2, zl_3, zl_4, zl_5, zl_6, zl_7, zl_8, zl_9, zl_10, zl_11, zl_12, zl_13, zl_19, zl_20, zl_30, zl_64, zl_99, zl_100, zl_299, zl_300, zl_399, zl_999, zl_9999, zl_m1, zl_m2, zl_m3, zl_32, zl_280] at c5 c9 c11 ⊢); omega), if_neg (by (try simp only [zlt, zle, zeq, zl_0, zl_1, zl_2, zl_3, zl_4, zl_5, zl_6, zl_7, zl_8, zl_9, zl_10, zl_11, zl_12, zl_13, zl_19, zl_20, zl_30, zl_64, zl_99, zl_100, zl_299, zl_300, zl_399, zl_999, zl_9999, zl_m1, zl_m2, zl_m3, zl_32, zl_280] at c5 c9 c11 ⊢); omega)]; first | done | ((try simp only [zlt, zle, zeq, zl_0, zl_1, zl_2, zl_3, zl_4, zl_5, zl_6, zl_7, zl_8, zl_9, zl_10, zl_11, zl_12, zl_13, zl_19, zl_20, zl_30, zl_64, zl_99, zl_100, zl_299, zl_300, zl_399, zl_999, zl_9999, zl_m1, zl_m2, zl_m3, zl_32, zl_280] at c5 c9 c11 ⊢); omega)))) dX11_about_194 (Nat.le_of_ble_eq_true rfl) (Nat.le_of_ble_eq_true rfl)
      · refine lv_tableIn (off := 126) (tgt := 195) hx hb dX11_about_69 (by decide) (by decide) rfl (by decide) ?_
        refine lv_aload_n hx hb dX11_about_195 rfl (lv_at hl 0 rfl) ?_
        refine z_get Z i_X11 hP 0 rfl rfl 2 (by decide) bw_470 rfl dX11_about_196 ?_
        refine z_get Z i_X10 hP 1 rfl rfl 9 (by decide) bw_255 rfl dX11_about_199 ?_
        exact z_ret Z rfl hP hD hS ((by first | rfl | assumption | (rw [if_pos (by (try simp only [zlt, zle, zeq, zl_0, zl_1, zl_2, zl_3, zl_4, zl_5, zl_6, zl_7, zl_8, zl_9, zl_10, zl_11, zl_12, zl_13, zl_19, zl_20, zl_30, zl_64, zl_99, zl_100, zl_299, zl_300, zl_399, zl_999, zl_9999, zl_m1, zl_m2, zl_m3, zl_32, zl_280] at c5 c9 c11 ⊢); omega)]; first | done | ((try simp only [zlt, zle, zeq, zl_0, zl_1, zl_2, zl_3, zl_4, zl_5, zl_6, zl_7, zl_8, zl_9, zl_10, zl_11, zl_12, zl_13, zl_19, zl_20, zl_30, zl_64, zl_99, zl_100, zl_299, zl_300, zl_399, zl_999, zl_9999, zl_m1, zl_m2, zl_m3, zl_32, zl_280] at c5 c9 c11 ⊢); omega)) | (rw [if_neg (by (try simp only [zlt, zle, zeq, zl_0, zl_1, zl_2, zl_3, zl_4, zl_5, zl_6, zl_7, zl_8, zl_9, zl_10, zl_11, zl_12, zl_13, zl_19, zl_20, zl_30, zl_64, zl_99, zl_100, zl_299, zl_300, zl_399, zl_999, zl_9999, zl_m1, zl_m2, zl_m3, zl_32, zl_280] at c5 c9 c11 ⊢); omega), if_pos (by (try simp only [zlt, zle, zeq, zl_0, zl_1, zl_2, zl_3, zl_4, zl_5, zl_6, zl_7, zl_8, zl_9, zl_10, zl_11, zl_12, zl_13, zl_19, zl_20, zl_30, zl_64, zl_99, zl_100, zl_299, zl_300, zl_399, zl_999, zl_9999, zl_m1, zl_m2, zl_m3, zl_32, zl_280] at c5 c9 c11 ⊢); omega)]; first | done | ((try simp only [zlt, zle, zeq, zl_0, zl_1, zl_2, zl_3, zl_4, zl_5, zl_6, zl_7, zl_8, zl_9, zl_10, zl_11, zl_12, zl_13, zl_19, zl_20, zl_30, zl_64, zl_99, zl_100, zl_299, zl_300, zl_399, zl_999, zl_9999, zl_m1, zl_m2, zl_m3, zl_32, zl_280] at c5 c9 c11 ⊢); omega)) | (rw [if_neg (by (try simp only [zlt, zle, zeq, zl_0, zl_1, zl_2, zl_3, zl_4, zl_5, zl_6, zl_7, zl_8, zl_9, zl_10, zl_11, zl_12, zl_13, zl_19, zl_20, zl_30, zl_64, zl_99, zl_100, zl_299, zl_300, zl_399, zl_999, zl_9999, zl_m1, zl_m2, zl_m3, zl_32, zl_280] at c5 c9 c11 ⊢); omega), if_neg (by (try simp only [zlt, zle, zeq, zl_0, zl_1, zl_2, zl_3, zl_4, zl_5, zl_6, zl_7, zl_8, zl_9, zl_10, zl_11, zl_12, zl_13, zl_19, zl_20, zl_30, zl_64, zl_99, zl_100, zl_299, zl_300, zl_399, zl_999, zl_9999, zl_m1, zl_m2, zl_m3, zl_32, zl_280] at c5 c9 c11 ⊢); omega), if_pos (by (try simp only [zlt, zle, zeq, zl_0, zl_1, zl_2, zl_3, zl_4, zl_5, zl_6, zl_7, zl_8, zl_9, zl_10, zl_11, zl_12, zl_13, zl_19, zl_20, zl_30, zl_64, zl_99, zl_100, zl_299, zl_300, zl_399, zl_999, zl_9999, zl_m1, zl_m2, zl_m3, zl_32, zl_280] at c5 c9 c11 ⊢); omega)]; first | done | ((try simp only [zlt, zle, zeq, zl_0, zl_1, zl_2, zl_3, zl_4, zl_5, zl_6, zl_7, zl_8, zl_9, zl_10, zl_11, zl_12, zl_13, zl_19, zl_20, zl_30, zl_64, zl_99, zl_100, zl_299, zl_300, zl_399, zl_999, zl_9999, zl_m1, zl_m2, zl_m3, zl_32, zl_280] at c5 c9 c11 ⊢); omega)) | (rw [if_neg (by (try simp only [zlt, zle, zeq, zl_0, zl_1, zl_2, zl_3, zl_4, zl_5, zl_6, zl_7, zl_8, zl_9, zl_10, zl_11, zl_12, zl_13, zl_19, zl_20, zl_30, zl_64, zl_99, zl_100, zl_299, zl_300, zl_399, zl_999, zl_9999, zl_m1, zl_m2, zl_m3, zl_32, zl_280] at c5 c9 c11 ⊢); omega), if_neg (by (try simp only [zlt, zle, zeq, zl_0, zl_1, zl_2, zl_3, zl_4, zl_5, zl_6, zl_7, zl_8, zl_9, zl_10, zl_11, zl_12, zl_13, zl_19, zl_20, zl_30, zl_64, zl_99, zl_100, zl_299, zl_300, zl_399, zl_999, zl_9999, zl_m1, zl_m2, zl_m3, zl_32, zl_280] at c5 c9 c11 ⊢); omega), if_neg (by (try simp only [zlt, zle, zeq, zl_0, zl_1, zl_2, zl_3, zl_4, zl_5, zl_6, zl_7, zl_8, zl_9, zl_10, zl_11, zl_12, zl_13, zl_19, zl_20, zl_30, zl_64, zl_99, zl_100, zl_299, zl_300, zl_399, zl_999, zl_9999, zl_m1, zl_m2, zl_m3, zl_32, zl_280] at c5 c9 c11 ⊢); omega), if_pos (by (try simp only [zlt, zle, zeq, zl_0, zl_1, zl_2, zl_3, zl_4, zl_5, zl_6, zl_7, zl_8, zl_9, zl_10, zl_11, zl_12, zl_13, zl_19, zl_20, zl_30, zl_64, zl_99, zl_100, zl_299, zl_300, zl_399, zl_999, zl_9999, zl_m1, zl_m2, zl_m3, zl_32, zl_280] at c5 c9 c11 ⊢); omega)]; first | done | ((try simp only [zlt, zle, zeq, zl_0, zl_1, zl_2, zl_3, zl_4, zl_5, zl_6, zl_7, zl_8, zl_9, zl_10, zl_11, zl_12, zl_13, zl_19, zl_20, zl_30, zl_64, zl_99, zl_100, zl_299, zl_300, zl_399, zl_999, zl_9999, zl_m1, zl_m2, zl_m3, zl_32, zl_280] at c5 c9 c11 ⊢); omega)) | (rw [if_neg (by (try simp only [zlt, zle, zeq, zl_0, zl_1, zl_2, zl_3, zl_4, zl_5, zl_6, zl_7, zl_8, zl_9, zl_10, zl_11, zl_12, zl_13, zl_19, zl_20, zl_30, zl_64, zl_99, zl_100, zl_299, zl_300, zl_399, zl_999, zl_9999, zl_m1, zl_m2, zl_m3, zl_32, zl_280] at c5 c9 c11 ⊢); omega), if_neg (by (try simp only [zlt, zle, zeq, zl_0, zl_1, zl_2, zl_3, zl_4, zl_5, zl_6, zl_7, zl_8, zl_9, zl_10, zl_11, zl_12, zl_13, zl_19, zl_20, zl_30, zl_64, zl_99, zl_100, zl_299, zl_300, zl_399, zl_999, zl_9999, zl_m1, zl_m2, zl_m3, zl_32, zl_280] at c5 c9 c11 ⊢); omega), if_neg (by (try simp only [zlt, zle, zeq, zl_0, zl_1, zl_2, zl_3, zl_4, zl_5, zl_6, zl_7, zl_8, zl_9, zl_10, zl_11, zl_12, zl_13, zl_19, zl_20, zl_30, zl_64, zl_99, zl_100, zl_299, zl_300, zl_399, zl_999, zl_9999, zl_m1, zl_m2, zl_m3, zl_32, zl_280] at c5 c9 c11 ⊢); omega), if_neg (by (try simp only [zlt, zle, zeq, zl_0, zl_1, zl_2, zl_3, zl_4, zl_5, zl_6, zl_7, zl_8, zl_9, zl_10, zl_11, zl_12, zl_13, zl_19, zl_20, zl_30, zl_64, zl_99, zl_100, zl_299, zl_300, zl_399, zl_999, zl_9999, zl_m1, zl_m2, zl_m3, zl_32, zl_280] at c5 c9 c11 ⊢); omega)]; first | done | ((try simp only [zlt, zle, zeq, zl_0, zl_1, zl_2, zl_3, zl_4, zl_5, zl_6, zl_7, zl_8, zl_9, zl_10, zl_11, zl_12, zl_13, zl_19, zl_20, zl_30, zl_64, zl_99, zl_100, zl_299, zl_300, zl_399, zl_999, zl_9999, zl_m1, zl_m2, zl_m3, zl_32, zl_280] at c5 c9 c11 ⊢); omega)))) dX11_about_202 (Nat.le_of_ble_eq_true rfl) (Nat.le_of_ble_eq_true rfl)
      · refine lv_tableIn (off := 134) (tgt := 203) hx hb dX11_about_69 (by decide) (by decide) rfl (by decide) ?_
        refine lv_aload_n hx hb dX11_about_203 rfl (lv_at hl 0 rfl) ?_
        refine z_get Z i_X11 hP 0 rfl rfl 2 (by decide) bw_470 rfl dX11_about_204 ?_
        refine z_get Z i_X10 hP 1 rfl rfl 10 (by decide) bw_258 rfl dX11_about_207 ?_
        exact z_ret Z rfl hP hD hS ((by first | rfl | assumption | (rw [if_pos (by (try simp only [zlt, zle, zeq, zl_0, zl_1, zl_2, zl_3, zl_4, zl_5, zl_6, zl_7, zl_8, zl_9, zl_10, zl_11, zl_12, zl_13, zl_19, zl_20, zl_30, zl_64, zl_99, zl_100, zl_299, zl_300, zl_399, zl_999, zl_9999, zl_m1, zl_m2, zl_m3, zl_32, zl_280] at c5 c9 c11 ⊢); omega)]; first | done | ((try simp only [zlt, zle, zeq, zl_0, zl_1, zl_2, zl_3, zl_4, zl_5, zl_6, zl_7, zl_8, zl_9, zl_10, zl_11, zl_12, zl_13, zl_19, zl_20, zl_30, zl_64, zl_99, zl_100, zl_299, zl_300, zl_399, zl_999, zl_9999, zl_m1, zl_m2, zl_m3, zl_32, zl_280] at c5 c9 c11 ⊢); omega)) | (rw [if_neg (by (try simp only [zlt, zle, zeq, zl_0, zl_1, zl_2, zl_3, zl_4, zl_5, zl_6, zl_7, zl_8, zl_9, zl_10, zl_11, zl_12, zl_13, zl_19, zl_20, zl_30, zl_64, zl_99, zl_100, zl_299, zl_300, zl_399, zl_999, zl_9999, zl_m1, zl_m2, zl_m3, zl_32, zl_280] at c5 c9 c11 ⊢); omega), if_pos (by (try simp only [zlt, zle, zeq, zl_0, zl_1, zl_2, zl_3, zl_4, zl_5, zl_6, zl_7, zl_8, zl_9, zl_10, zl_11, zl_12, zl_13, zl_19, zl_20, zl_30, zl_64, zl_99, zl_100, zl_299, zl_300, zl_399, zl_999, zl_9999, zl_m1, zl_m2, zl_m3, zl_32, zl_280] at c5 c9 c11 ⊢); omega)]; first | done | ((try simp only [zlt, zle, zeq, zl_0, zl_1, zl_2, zl_3, zl_4, zl_5, zl_6, zl_7, zl_8, zl_9, zl_10, zl_11, zl_12, zl_13, zl_19, zl_20, zl_30, zl_64, zl_99, zl_100, zl_299, zl_300, zl_399, zl_999, zl_9999, zl_m1, zl_m2, zl_m3, zl_32, zl_280] at c5 c9 c11 ⊢); omega)) | (rw [if_neg (by (try simp only [zlt, zle, zeq, zl_0, zl_1, zl_2, zl_3, zl_4, zl_5, zl_6, zl_7, zl_8, zl_9, zl_10, zl_11, zl_12, zl_13, zl_19, zl_20, zl_30, zl_64, zl_99, zl_100, zl_299, zl_300, zl_399, zl_999, zl_9999, zl_m1, zl_m2, zl_m3, zl_32, zl_280] at c5 c9 c11 ⊢); omega), if_neg (by (try simp only [zlt, zle, zeq, zl_0, zl_1, zl_2, zl_3, zl_4, zl_5, zl_6, zl_7, zl_8, zl_9, zl_10, zl_11, zl_12, zl_13, zl_19, zl_20, zl_30, zl_64, zl_99, zl_100, zl_299, zl_300, zl_399, zl_999, zl_9999, zl_m1, zl_m2, zl_m3, zl_32, zl_280] at c5 c9 c11 ⊢); omega), if_pos (by (try simp only [zlt, zle, zeq, zl_0, zl_1, zl_2, zl_3, zl_4, zl_5, zl_6, zl_7, zl_8, zl_9, zl_10, zl_11, zl_12, zl_13, zl_19, zl_20, zl_30, zl_64, zl_99, zl_100, zl_299, zl_300, zl_399, zl_999, zl_9999, zl_m1, zl_m2, zl_m3, zl_32, zl_280] at c5 c9 c11 ⊢); omega)]; first | done | ((try simp only [zlt, zle, zeq, zl_0, zl_1, zl_2, zl_3, zl_4, zl_5, zl_6, zl_7, zl_8, zl_9, zl_10, zl_11, zl_12, zl_13, zl_19, zl_20, zl_30, zl_64, zl_99, zl_100, zl_299, zl_300, zl_399, zl_999, zl_9999, zl_m1, zl_m2, zl_m3, zl_32, zl_280] at c5 c9 c11 ⊢); omega)) | (rw [if_neg (by (try simp only [zlt, zle, zeq, zl_0, zl_1, zl_2, zl_3, zl_4, zl_5, zl_6, zl_7, zl_8, zl_9, zl_10, zl_11, zl_12, zl_13, zl_19, zl_20, zl_30, zl_64, zl_99, zl_100, zl_299, zl_300, zl_399, zl_999, zl_9999, zl_m1, zl_m2, zl_m3, zl_32, zl_280] at c5 c9 c11 ⊢); omega), if_neg (by (try simp only [zlt, zle, zeq, zl_0, zl_1, zl_2, zl_3, zl_4, zl_5, zl_6, zl_7, zl_8, zl_9, zl_10, zl_11, zl_12, zl_13, zl_19, zl_20, zl_30, zl_64, zl_99, zl_100, zl_299, zl_300, zl_399, zl_999, zl_9999, zl_m1, zl_m2, zl_m3, zl_32, zl_280] at c5 c9 c11 ⊢); omega), if_neg (by (try simp only [zlt, zle, zeq, zl_0, zl_1, zl_2, zl_3, zl_4, zl_5, zl_6, zl_7, zl_8, zl_9, zl_10, zl_11, zl_12, zl_13, zl_19, zl_20, zl_30, zl_64, zl_99, zl_100, zl_299, zl_300, zl_399, zl_999, zl_9999, zl_m1, zl_m2, zl_m3, zl_32, zl_280] at c5 c9 c11 ⊢); omega), if_pos (by (try simp only [zlt, zle, zeq, zl_0, zl_1, zl_2, zl_3, zl_4, zl_5, zl_6, zl_7, zl_8, zl_9, zl_10, zl_11, zl_12, zl_13, zl_19, zl_20, zl_30, zl_64, zl_99, zl_100, zl_299, zl_300, zl_399, zl_999, zl_9999, zl_m1, zl_m2, zl_m3, zl_32, zl_280] at c5 c9 c11 ⊢); omega)]; first | done | ((try simp only [zlt, zle, zeq, zl_0, zl_1, zl_2, zl_3, zl_4, zl_5, zl_6, zl_7, zl_8, zl_9, zl_10, zl_11, zl_12, zl_13, zl_19, zl_20, zl_30, zl_64, zl_99, zl_100, zl_299, zl_300, zl_399, zl_999, zl_9999, zl_m1, zl_m2, zl_m3, zl_32, zl_280] at c5 c9 c11 ⊢); omega)) | (rw [if_neg (by (try simp only [zlt, zle, zeq, zl_0, zl_1, zl_2, zl_3, zl_4, zl_5, zl_6, zl_7, zl_8, zl_9, zl_10, zl_11, zl_12, zl_13, zl_19, zl_20, zl_30, zl_64, zl_99, zl_100, zl_299, zl_300, zl_399, zl_999, zl_9999, zl_m1, zl_m2, zl_m3, zl_32, zl_280] at c5 c9 c11 ⊢); omega), if_neg (by (try simp only [zlt, zle, zeq, zl_0, zl_1, zl_2, zl_3, zl_4, zl_5, zl_6, zl_7, zl_8, zl_9, zl_10, zl_11, zl_12, zl_13, zl_19, zl_20, zl_30, zl_64, zl_99, zl_100, zl_299, zl_300, zl_399, zl_999, zl_9999, zl_m1, zl_m2, zl_m3, zl_32, zl_280] at c5 c9 c11 ⊢); omega), if_neg (by (try simp only [zlt, zle, zeq, zl_0, zl_1, zl_2, zl_3, zl_4, zl_5, zl_6, zl_7, zl_8, zl_9, zl_10, zl_11, zl_12, zl_13, zl_19, zl_20, zl_30, zl_64, zl_99, zl_100, zl_299, zl_300, zl_399, zl_999, zl_9999, zl_m1, zl_m2, zl_m3, zl_32, zl_280] at c5 c9 c11 ⊢); omega), if_neg (by (try simp only [zlt, zle, zeq, zl_0, zl_1, zl_2, zl_3, zl_4, zl_5, zl_6, zl_7, zl_8, zl_9, zl_10, zl_11, zl_12, zl_13, zl_19, zl_20, zl_30, zl_64, zl_99, zl_100, zl_299, zl_300, zl_399, zl_999, zl_9999, zl_m1, zl_m2, zl_m3, zl_32, zl_280] at c5 c9 c11 ⊢); omega)]; first | done | ((try simp only [zlt, zle, zeq, zl_0, zl_1, zl_2, zl_3, zl_4, zl_5, zl_6, zl_7, zl_8, zl_9, zl_10, zl_11, zl_12, zl_13, zl_19, zl_20, zl_30, zl_64, zl_99, zl_100, zl_299, zl_300, zl_399, zl_999, zl_9999, zl_m1, zl_m2, zl_m3, zl_32, zl_280] at c5 c9 c11 ⊢); omega)))) dX11_about_210 (Nat.le_of_ble_eq_true rfl) (Nat.le_of_ble_eq_true rfl)
      · refine lv_tableIn (off := 142) (tgt := 211) hx hb dX11_about_69 (by decide) (by decide) rfl (by decide) ?_
        refine lv_aload_n hx hb dX11_about_211 rfl (lv_at hl 0 rfl) ?_
        refine z_get Z i_X11 hP 0 rfl rfl 2 (by decide) bw_470 rfl dX11_about_212 ?_
        refine z_get Z i_X10 hP 1 rfl rfl 3 (by decide) bw_242 rfl dX11_about_215 ?_
        refine z_get Z i_X5 hP 6 rfl rfl 2 (by decide) bw_223 rfl dX11_about_218 ?_
        exact z_ret Z rfl hP hD hS ((by first | rfl | assumption | (rw [if_pos (by (try simp only [zlt, zle, zeq, zl_0, zl_1, zl_2, zl_3, zl_4, zl_5, zl_6, zl_7, zl_8, zl_9, zl_10, zl_11, zl_12, zl_13, zl_19, zl_20, zl_30, zl_64, zl_99, zl_100, zl_299, zl_300, zl_399, zl_999, zl_9999, zl_m1, zl_m2, zl_m3, zl_32, zl_280] at c5 c9 c11 ⊢); omega)]; first | done | ((try simp only [zlt, zle, zeq, zl_0, zl_1, zl_2, zl_3, zl_4, zl_5, zl_6, zl_7, zl_8, zl_9, zl_10, zl_11, zl_12, zl_13, zl_19, zl_20, zl_30, zl_64, zl_99, zl_100, zl_299, zl_300, zl_399, zl_999, zl_9999, zl_m1, zl_m2, zl_m3, zl_32, zl_280] at c5 c9 c11 ⊢); omega)) | (rw [if_neg (by (try simp only [zlt, zle, zeq, zl_0, zl_1, zl_2, zl_3, zl_4, zl_5, zl_6, zl_7, zl_8, zl_9, zl_10, zl_11, zl_12, zl_13, zl_19, zl_20, zl_30, zl_64, zl_99, zl_100, zl_299, zl_300, zl_399, zl_999, zl_9999, zl_m1, zl_m2, zl_m3, zl_32, zl_280] at c5 c9 c11 ⊢); omega), if_pos (by (try simp only [zlt, zle, zeq, zl_0, zl_1, zl_2, zl_3, zl_4, zl_5, zl_6, zl_7, zl_8, zl_9, zl_10, zl_11, zl_12, zl_13, zl_19, zl_20, zl_30, zl_64, zl_99, zl_100, zl_299, zl_300, zl_399, zl_999, zl_9999, zl_m1, zl_m2, zl_m3, zl_32, zl_280] at c5 c9 c11 ⊢); omega)]; first | done | ((try simp only [zlt, zle, zeq, zl_0, zl_1, zl_2, zl_3, zl_4, zl_5, zl_6, zl_7, zl_8, zl_9, zl_10, zl_11, zl_12, zl_13, zl_19, zl_20, zl_30, zl_64, zl_99, zl_100, zl_299, zl_300, zl_399, zl_999, zl_9999, zl_m1, zl_m2, zl_m3, zl_32, zl_280] at c5 c9 c11 ⊢); omega)) | (rw [if_neg (by (try simp only [zlt, zle, zeq, zl_0, zl_1, zl_2, zl_3, zl_4, zl_5, zl_6, zl_7, zl_8, zl_9, zl_10, zl_11, zl_12, zl_13, zl_19, zl_20, zl_30, zl_64, zl_99, zl_100, zl_299, zl_300, zl_399, zl_999, zl_9999, zl_m1, zl_m2, zl_m3, zl_32, zl_280] at c5 c9 c11 ⊢); omega), if_neg (by (try simp only [zlt, zle, zeq, zl_0, zl_1, zl_2, zl_3, zl_4, zl_5, zl_6, zl_7, zl_8, zl_9, zl_10, zl_11, zl_12, zl_13, zl_19, zl_20, zl_30, zl_64, zl_99, zl_100, zl_299, zl_300, zl_399, zl_999, zl_9999, zl_m1, zl_m2, zl_m3, zl_32, zl_280] at c5 c9 c11 ⊢); omega), if_pos (by (try simp only [zlt, zle, zeq, zl_0, zl_1, zl_2, zl_3, zl_4, zl_5, zl_6, zl_7, zl_8, zl_9, zl_10, zl_11, zl_12, zl_13, zl_19, zl_20, zl_30, zl_64, zl_99, zl_100, zl_299, zl_300, zl_399, zl_999, zl_9999, zl_m1, zl_m2, zl_m3, zl_32, zl_280] at c5 c9 c11 ⊢); omega)]; first | done | ((try simp only [zlt, zle, zeq, zl_0, zl_1, zl_2, zl_3, zl_4, zl_5, zl_6, zl_7, zl_8, zl_9, zl_10, zl_11, zl_12, zl_13, zl_19, zl_20, zl_30, zl_64, zl_99, zl_100, zl_299, zl_300, zl_399, zl_999, zl_9999, zl_m1, zl_m2, zl_m3, zl_32, zl_280] at c5 c9 c11 ⊢); omega)) | (rw [if_neg (by (try simp only [zlt, zle, zeq, zl_0, zl_1, zl_2, zl_3, zl_4, zl_5, zl_6, zl_7, zl_8, zl_9, zl_10, zl_11, zl_12, zl_13, zl_19, zl_20, zl_30, zl_64, zl_99, zl_100, zl_299, zl_300, zl_399, zl_999, zl_9999, zl_m1, zl_m2, zl_m3, zl_32, zl_280] at c5 c9 c11 ⊢); omega), if_neg (by (try simp only [zlt, zle, zeq, zl_0, zl_1, zl_2, zl_3, zl_4, zl_5, zl_6, zl_7, zl_8, zl_9, zl_10, zl_11, zl_12, zl_13, zl_19, zl_20, zl_30, zl_64, zl_99, zl_100, zl_299, zl_300, zl_399, zl_999, zl_9999, zl_m1, zl_m2, zl_m3, zl_32, zl_280] at c5 c9 c11 ⊢); omega), if_neg (by (try simp only [zlt, zle, zeq, zl_0, zl_1, zl_2, zl_3, zl_4, zl_5, zl_6, zl_7, zl_8, zl_9, zl_10, zl_11, zl_12, zl_13, zl_19, zl_20, zl_30, zl_64, zl_99, zl_100, zl_299, zl_300, zl_399, zl_999, zl_9999, zl_m1, zl_m2, zl_m3, zl_32, zl_280] at c5 c9 c11 ⊢); omega), if_pos (by (try simp only [zlt, zle, zeq, zl_0, zl_1, zl_2, zl_3, zl_4, zl_5, zl_6, zl_7, zl_8, zl_9, zl_10, zl_11, zl_12, zl_13, zl_19, zl_20, zl_30, zl_64, zl_99, zl_100, zl_299, zl_300, zl_399, zl_999, zl_9999, zl_m1, zl_m2, zl_m3, zl_32, zl_280] at c5 c9 c11 ⊢); omega)]; first | done | ((try simp only [zlt, zle, zeq, zl_0, zl_1, zl_2, zl_3, zl_4, zl_5, zl_6, zl_7, zl_8, zl_9, zl_10, zl_11, zl_12, zl_13, zl_19, zl_20, zl_30, zl_64, zl_99, zl_100, zl_299, zl_300, zl_399, zl_999, zl_9999, zl_m1, zl_m2, zl_m3, zl_32, zl_280] at c5 c9 c11 ⊢); omega)) | (rw [if_neg (by (try simp only [zlt, zle, zeq, zl_0, zl_1, zl_2, zl_3, zl_4, zl_5, zl_6, zl_7, zl_8, zl_9, zl_10, zl_11, zl_12, zl_13, zl_19, zl_20, zl_30, zl_64, zl_99, zl_100, zl_299, zl_300, zl_399, zl_999, zl_9999, zl_m1, zl_m2, zl_m3, zl_32, zl_280] at c5 c9 c11 ⊢); omega), if_neg (by (try simp only [zlt, zle, zeq, zl_0, zl_1, zl_2, zl_3, zl_4, zl_5, zl_6, zl_7, zl_8, zl_9, zl_10, zl_11, zl_12, zl_13, zl_19, zl_20, zl_30, zl_64, zl_99, zl_100, zl_299, zl_300, zl_399, zl_999, zl_9999, zl_m1, zl_m2, zl_m3, zl_32, zl_280] at c5 c9 c11 ⊢); omega), if_neg (by (try simp only [zlt, zle, zeq, zl_0, zl_1, zl_2, zl_3, zl_4, zl_5, zl_6, zl_7, zl_8, zl_9, zl_10, zl_11, zl_12, zl_13, zl_19, zl_20, zl_30, zl_64, zl_99, zl_100, zl_299, zl_300, zl_399, zl_999, zl_9999, zl_m1, zl_m2, zl_m3, zl_32, zl_280] at c5 c9 c11 ⊢); omega), if_neg (by (try simp only [zlt, zle, zeq, zl_0, zl_1, zl_2, zl_3, zl_4, zl_5, zl_6, zl_7, zl_8, zl_9, zl_10, zl_11, zl_12, zl_13, zl_19, zl_20, zl_30, zl_64, zl_99, zl_100, zl_299, zl_300, zl_399, zl_999, zl_9999, zl_m1, zl_m2, zl_m3, zl_32, zl_280] at c5 c9 c11 ⊢); omega)]; first | done | ((try simp only [zlt, zle, zeq, zl_0, zl_1, zl_2, zl_3, zl_4, zl_5, zl_6, zl_7, zl_8, zl_9, zl_10, zl_11, zl_12, zl_13, zl_19, zl_20, zl_30, zl_64, zl_99, zl_100, zl_299, zl_300, zl_399, zl_999, zl_9999, zl_m1, zl_m2, zl_m3, zl_32, zl_280] at c5 c9 c11 ⊢); omega)))) dX11_about_221 (Nat.le_of_ble_eq_true rfl) (Nat.le_of_ble_eq_true rfl)
      · refine lv_tableIn (off := 153) (tgt := 222) hx hb dX11_about_69 (by decide) (by decide) rfl (by decide) ?_
        refine lv_aload_n hx hb dX11_about_222 rfl (lv_at hl 0 rfl) ?_
        refine z_get Z i_X11 hP 0 rfl rfl 2 (by decide) bw_470 rfl dX11_about_223 ?_
        refine z_get Z i_X10 hP 1 rfl rfl 11 (by decide) bw_260 rfl dX11_about_226 ?_
        exact z_ret Z rfl hP hD hS ((by first | rfl | assumption | (rw [if_pos (by (try simp only [zlt, zle, zeq, zl_0, zl_1, zl_2, zl_3, zl_4, zl_5, zl_6, zl_7, zl_8, zl_9, zl_10, zl_11, zl_12, zl_13, zl_19, zl_20, zl_30, zl_64, zl_99, zl_100, zl_299, zl_300, zl_399, zl_999, zl_9999, zl_m1, zl_m2, zl_m3, zl_32, zl_280] at c5 c9 c11 ⊢); omega)]; first | done | ((try simp only [zlt, zle, zeq, zl_0, zl_1, zl_2, zl_3, zl_4, zl_5, zl_6, zl_7, zl_8, zl_9, zl_10, zl_11, zl_12, zl_13, zl_19, zl_20, zl_30, zl_64, zl_99, zl_100, zl_299, zl_300, zl_399, zl_999, zl_9999, zl_m1, zl_m2, zl_m3, zl_32, zl_280] at c5 c9 c11 ⊢); omega)) | (rw [if_neg (by (try simp only [zlt, zle, zeq, zl_0, zl_1, zl_2, zl_3, zl_4, zl_5, zl_6, zl_7, zl_8, zl_9, zl_10, zl_11, zl_12, zl_13, zl_19, zl_20, zl_30, zl_64, zl_99, zl_100, zl_299, zl_300, zl_399, zl_999, zl_9999, zl_m1, zl_m2, zl_m3, zl_32, zl_280] at c5 c9 c11 ⊢); omega), if_pos (by (try simp only [zlt, zle, zeq, zl_0, zl_1, zl_2, zl_3, zl_4, zl_5, zl_6, zl_7, zl_8, zl_9, zl_10, zl_11, zl_12, zl_13, zl_19, zl_20, zl_30, zl_64, zl_99, zl_100, zl_299, zl_300, zl_399, zl_999, zl_9999, zl_m1, zl_m2, zl_m3, zl_32, zl_280] at c5 c9 c11 ⊢); omega)]; first | done | ((try simp only [zlt, zle, zeq, zl_0, zl_1, zl_2, zl_3, zl_4, zl_5, zl_6, zl_7, zl_8, zl_9, zl_10, zl_11, zl_12, zl_13, zl_19, zl_20, zl_30, zl_64, zl_99, zl_100, zl_299, zl_300, zl_399, zl_999, zl_9999, zl_m1, zl_m2, zl_m3, zl_32, zl_280] at c5 c9 c11 ⊢); omega)) | (rw [if_neg (by (try simp only [zlt, zle, zeq, zl_0, zl_1, zl_2, zl_3, zl_4, zl_5, zl_6, zl_7, zl_8, zl_9, zl_10, zl_11, zl_12, zl_13, zl_19, zl_20, zl_30, zl_64, zl_99, zl_100, zl_299, zl_300, zl_399, zl_999, zl_9999, zl_m1, zl_m2, zl_m3, zl_32, zl_280] at c5 c9 c11 ⊢); omega), if_neg (by (try simp only [zlt, zle, zeq, zl_0, zl_1, zl_2, zl_3, zl_4, zl_5, zl_6, zl_7, zl_8, zl_9, zl_10, zl_11, zl_12, zl_13, zl_19, zl_20, zl_30, zl_64, zl_99, zl_100, zl_299, zl_300, zl_399, zl_999, zl_9999, zl_m1, zl_m2, zl_m3, zl_32, zl_280] at c5 c9 c11 ⊢); omega), if_pos (by (try simp only [zlt, zle, zeq, zl_0, zl_1, zl_2, zl_3, zl_4, zl_5, zl_6, zl_7, zl_8, zl_9, zl_10, zl_11, zl_12, zl_13, zl_19, zl_20, zl_30, zl_64, zl_99, zl_100, zl_299, zl_300, zl_399, zl_999, zl_9999, zl_m1, zl_m2, zl_m3, zl_32, zl_280] at c5 c9 c11 ⊢); omega)]; first | done | ((try simp only [zlt, zle, zeq, zl_0, zl_1, zl_2, zl_3, zl_4, zl_5, zl_6, zl_7, zl_8, zl_9, zl_10, zl_11, zl_12, zl_13, zl_19, zl_20, zl_30, zl_64, zl_99, zl_100, zl_299, zl_300, zl_399, zl_999, zl_9999, zl_m1, zl_m2, zl_m3, zl_32, zl_280] at c5 c9 c11 ⊢); omega)) | (rw [if_neg (by (try simp only [zlt, zle, zeq, zl_0, zl_1, zl_2, zl_3, zl_4, zl_5, zl_6, zl_7, zl_8, zl_9, zl_10, zl_11, zl_12, zl_13, zl_19, zl_20, zl_30, zl_64, zl_99, zl_100, zl_299, zl_300, zl_399, zl_999, zl_9999, zl_m1, zl_m2, zl_m3, zl_32, zl_280] at c5 c9 c11 ⊢); omega), if_neg (by (try simp only [zlt, zle, zeq, zl_0, zl_1, zl_2, zl_3, zl_4, zl_5, zl_6, zl_7, zl_8, zl_9, zl_10, zl_11, zl_12, zl_13, zl_19, zl_20, zl_30, zl_64, zl_99, zl_100, zl_299, zl_300, zl_399, zl_999, zl_9999, zl_m1, zl_m2, zl_m3, zl_32, zl_280] at c5 c9 c11 ⊢); omega), if_neg (by (try simp only [zlt, zle, zeq, zl_0, zl_1, zl_2, zl_3, zl_4, zl_5, zl_6, zl_7, zl_8, zl_9, zl_10, zl_11, zl_12, zl_13, zl_19, zl_20, zl_30, zl_64, zl_99, zl_100, zl_299, zl_300, zl_399, zl_999, zl_9999, zl_m1, zl_m2, zl_m3, zl_32, zl_280] at c5 c9 c11 ⊢); omega), if_pos (by (try simp only [zlt, zle, zeq, zl_0, zl_1, zl_2, zl_3, zl_4, zl_5, zl_6, zl_7, zl_8, zl_9, zl_10, zl_11, zl_12, zl_13, zl_19, zl_20, zl_30, zl_64, zl_99, zl_100, zl_299, zl_300, zl_399, zl_999, zl_9999, zl_m1, zl_m2, zl_m3, zl_32, zl_280] at c5 c9 c11 ⊢); omega)]; first | done | ((try simp only [zlt, zle, zeq, zl_0, zl_1, zl_2, zl_3, zl_4, zl_5, zl_6, zl_7, zl_8, zl_9, zl_10, zl_11, zl_12, zl_13, zl_19, zl_20, zl_30, zl_64, zl_99, zl_100, zl_299, zl_300, zl_399, zl_999, zl_9999, zl_m1, zl_m2, zl_m3, zl_32, zl_280] at c5 c9 c11 ⊢); omega)) | (rw [if_neg (by (try simp only [zlt, zle, zeq, zl_0, zl_1, zl_2, zl_3, zl_4, zl_5, zl_6, zl_7, zl_8, zl_9, zl_10, zl_11, zl_12, zl_13, zl_19, zl_20, zl_30, zl_64, zl_99, zl_100, zl_299, zl_300, zl_399, zl_999, zl_9999, zl_m1, zl_m2, zl_m3, zl_32, zl_280] at c5 c9 c11 ⊢); omega), if_neg (by (try simp only [zlt, zle, zeq, zl_0, zl_1, zl_2, zl_3, zl_4, zl_5, zl_6, zl_7, zl_8, zl_9, zl_10, zl_11, zl_12, zl_13, zl_19, zl_20, zl_30, zl_64, zl_99, zl_100, zl_299, zl_300, zl_399, zl_999, zl_9999, zl_m1, zl_m2, zl_m3, zl_32, zl_280] at c5 c9 c11 ⊢); omega), if_neg (by (try simp only [zlt, zle, zeq, zl_0, zl_1, zl_2, zl_3, zl_4, zl_5, zl_6, zl_7, zl_8, zl_9, zl_10, zl_11, zl_12, zl_13, zl_19, zl_20, zl_30, zl_64, zl_99, zl_100, zl_299, zl_300, zl_399, zl_999, zl_9999, zl_m1, zl_m2, zl_m3, zl_32, zl_280] at c5 c9 c11 ⊢); omega), if_neg (by (try simp only [zlt, zle, zeq, zl_0, zl_1, zl_2, zl_3, zl_4, zl_5, zl_6, zl_7, zl_8, zl_9, zl_10, zl_11, zl_12, zl_13, zl_19, zl_20, zl_30, zl_64, zl_99, zl_100, zl_299, zl_300, zl_399, zl_999, zl_9999, zl_m1, zl_m2, zl_m3, zl_32, zl_280] at c5 c9 c11 ⊢); omega)]; first | done | ((try simp only [zlt, zle, zeq, zl_0, zl_1, zl_2, zl_3, zl_4, zl_5, zl_6, zl_7, zl_8, zl_9, zl_10, zl_11, zl_12, zl_13, zl_19, zl_20, zl_30, zl_64, zl_99, zl_100, zl_299, zl_300, zl_399, zl_999, zl_9999, zl_m1, zl_m2, zl_m3, zl_32, zl_280] at c5 c9 c11 ⊢); omega)))) dX11_about_229 (Nat.le_of_ble_eq_true rfl) (Nat.le_of_ble_eq_true rfl)
      · refine lv_tableIn (off := 161) (tgt := 230) hx hb dX11_about_69 (by decide) (by decide) rfl (by decide) ?_
        refine lv_aload_n hx hb dX11_about_230 rfl (lv_at hl 0 rfl) ?_
        refine z_get Z i_X11 hP 0 rfl rfl 2 (by decide) bw_470 rfl dX11_about_231 ?_
        refine z_get Z i_X10 hP 1 rfl rfl 12 (by decide) bw_262 rfl dX11_about_234 ?_
        exact z_ret Z rfl hP hD hS ((by first | rfl | assumption | (rw [if_pos (by (try simp only [zlt, zle, zeq, zl_0, zl_1, zl_2, zl_3, zl_4, zl_5, zl_6, zl_7, zl_8, zl_9, zl_10, zl_11, zl_12, zl_13, zl_19, zl_20, zl_30, zl_64, zl_99, zl_100, zl_299, zl_300, zl_399, zl_999, zl_9999, zl_m1, zl_m2, zl_m3, zl_32, zl_280] at c5 c9 c11 ⊢); omega)]; first | done | ((try simp only [zlt, zle, zeq, zl_0, zl_1, zl_2, zl_3, zl_4, zl_5, zl_6, zl_7, zl_8, zl_9, zl_10, zl_11, zl_12, zl_13, zl_19, zl_20, zl_30, zl_64, zl_99, zl_100, zl_299, zl_300, zl_399, zl_999, zl_9999, zl_m1, zl_m2, zl_m3, zl_32, zl_280] at c5 c9 c11 ⊢); omega)) | (rw [if_neg (by (try simp only [zlt, zle, zeq, zl_0, zl_1, zl_2, zl_3, zl_4, zl_5, zl_6, zl_7, zl_8, zl_9, zl_10, zl_11, zl_12, zl_13, zl_19, zl_20, zl_30, zl_64, zl_99, zl_100, zl_299, zl_300, zl_399, zl_999, zl_9999, zl_m1, zl_m2, zl_m3, zl_32, zl_280] at c5 c9 c11 ⊢); omega), if_pos (by (try simp only [zlt, zle, zeq, zl_0, zl_1, zl_2, zl_3, zl_4, zl_5, zl_6, zl_7, zl_8, zl_9, zl_10, zl_11, zl_12, zl_13, zl_19, zl_20, zl_30, zl_64, zl_99, zl_100, zl_299, zl_300, zl_399, zl_999, zl_9999, zl_m1, zl_m2, zl_m3, zl_32, zl_280] at c5 c9 c11 ⊢); omega)]; first | done | ((try simp only [zlt, zle, zeq, zl_0, zl_1, zl_2, zl_3, zl_4, zl_5, zl_6, zl_7, zl_8, zl_9, zl_10, zl_11, zl_12, zl_13, zl_19, zl_20, zl_30, zl_64, zl_99, zl_100, zl_299, zl_300, zl_399, zl_999, zl_9999, zl_m1, zl_m2, zl_m3, zl_32, zl_280] at c5 c9 c11 ⊢); omega)) | (rw [if_neg (by (try simp only [zlt, zle, zeq, zl_0, zl_1, zl_2, zl_3, zl_4, zl_5, zl_6, zl_7, zl_8, zl_9, zl_10, zl_11, zl_12, zl_13, zl_19, zl_20, zl_30, zl_64, zl_99, zl_100, zl_299, zl_300, zl_399, zl_999, zl_9999, zl_m1, zl_m2, zl_m3, zl_32, zl_280] at c5 c9 c11 ⊢); omega), if_neg (by (try simp only [zlt, zle, zeq, zl_0, zl_1, zl_2, zl_3, zl_4, zl_5, zl_6, zl_7, zl_8, zl_9, zl_10, zl_11, zl_12, zl_13, zl_19, zl_20, zl_30, zl_64, zl_99, zl_100, zl_299, zl_300, zl_399, zl_999, zl_9999, zl_m1, zl_m2, zl_m3, zl_32, zl_280] at c5 c9 c11 ⊢); omega), if_pos (by (try simp only [zlt, zle, zeq, zl_0, zl_1, zl_2, zl_3, zl_4, zl_5, zl_6, zl_7, zl_8, zl_9, zl_10, zl_11, zl_12, zl_13, zl_19, zl_20, zl_30, zl_64, zl_99, zl_100, zl_299, zl_300, zl_399, zl_999, zl_9999, zl_m1, zl_m2, zl_m3, zl_32, zl_280] at c5 c9 c11 ⊢); omega)]; first | done | ((try simp only [zlt, zle, zeq, zl_0, zl_1, zl_2, zl_3, zl_4, zl_5, zl_6, zl_7, zl_8, zl_9, zl_10, zl_11, zl_12, zl_13, zl_19, zl_20, zl_30, zl_64, zl_99, zl_100, zl_299, zl_300, zl_399, zl_999, zl_9999, zl_m1, zl_m2, zl_m3, zl_32, zl_280] at c5 c9 c11 ⊢); omega)) | (rw [if_neg (by (try simp only [zlt, zle, zeq, zl_0, zl_1, zl_2, zl_3, zl_4, zl_5, zl_6, zl_7, zl_8, zl_9, zl_10, zl_11, zl_12, zl_13, zl_19, zl_20, zl_30, zl_64, zl_99, zl_100, zl_299, zl_300, zl_399, zl_999, zl_9999, zl_m1, zl_m2, zl_m3, zl_32, zl_280] at c5 c9 c11 ⊢); omega), if_neg (by (try simp only [zlt, zle, zeq, zl_0, zl_1, zl_2, zl_3, zl_4, zl_5, zl_6, zl_7, zl_8, zl_9, zl_10, zl_11, zl_12, zl_13, zl_19, zl_20, zl_30, zl_64, zl_99, zl_100, zl_299, zl_300, zl_399, zl_999, zl_9999, zl_m1, zl_m2, zl_m3, zl_32, zl_280] at c5 c9 c11 ⊢); omega), if_neg (by (try simp only [zlt, zle, zeq, zl_0, zl_1, zl_2, zl_3, zl_4, zl_5, zl_6, zl_7, zl_8, zl_9, zl_10, zl_11, zl_12, zl_13, zl_19, zl_20, zl_30, zl_64, zl_99, zl_100, zl_299, zl_300, zl_399, zl_999, zl_9999, zl_m1, zl_m2, zl_m3, zl_32, zl_280] at c5 c9 c11 ⊢); omega), if_pos (by (try simp only [zlt, zle, zeq, zl_0, zl_1, zl_2, zl_3, zl_4, zl_5, zl_6, zl_7, zl_8, zl_9, zl_10, zl_11, zl_12, zl_13, zl_19, zl_20, zl_30, zl_64, zl_99, zl_100, zl_299, zl_300, zl_399, zl_999, zl_9999, zl_m1, zl_m2, zl_m3, zl_32, zl_280] at c5 c9 c11 ⊢); omega)]; first | done | ((try simp only [zlt, zle, zeq, zl_0, zl_1, zl_2, zl_3, zl_4, zl_5, zl_6, zl_7, zl_8, zl_9, zl_10, zl_11, zl_12, zl_13, zl_19, zl_20, zl_30, zl_64, zl_99, zl_100, zl_299, zl_300, zl_399, zl_999, zl_9999, zl_m1, zl_m2, zl_m3, zl_32, zl_280] at c5 c9 c11 ⊢); omega)) | (rw [if_neg (by (try simp only [zlt, zle, zeq, zl_0, zl_1, zl_2, zl_3, zl_4, zl_5, zl_6, zl_7, zl_8, zl_9, zl_10, zl_11, zl_12, zl_13, zl_19, zl_20, zl_30, zl_64, zl_99, zl_100, zl_299, zl_300, zl_399, zl_999, zl_9999, zl_m1, zl_m2, zl_m3, zl_32, zl_280] at c5 c9 c11 ⊢); omega), if_neg (by (try simp only [zlt, zle, zeq, zl_0, zl_1, zl_2, zl_3, zl_4, zl_5, zl_6, zl_7, zl_8, zl_9, zl_10, zl_11, zl_12, zl_13, zl_19, zl_20, zl_30, zl_64, zl_99, zl_100, zl_299, zl_300, zl_399, zl_999, zl_9999, zl_m1, zl_m2, zl_m3, zl_32, zl_280] at c5 c9 c11 ⊢); omega), if_neg (by (try simp only [zlt, zle, zeq, zl_0, zl_1, zl_2, zl_3, zl_4, zl_5, zl_6, zl_7, zl_8, zl_9, zl_10, zl_11, zl_12, zl_13, zl_19, zl_20, zl_30, zl_64, zl_99, zl_100, zl_299, zl_300, zl_399, zl_999, zl_9999, zl_m1, zl_m2, zl_m3, zl_32, zl_280] at c5 c9 c11 ⊢); omega), if_neg (by (try simp only [zlt, zle, zeq, zl_0, zl_1, zl_2, zl_3, zl_4, zl_5, zl_6, zl_7, zl_8, zl_9, zl_10, zl_11, zl_12, zl_13, zl_19, zl_20, zl_30, zl_64, zl_99, zl_100, zl_299, zl_300, zl_399, zl_999, zl_9999, zl_m1, zl_m2, zl_m3, zl_32, zl_280] at c5 c9 c11 ⊢); omega)]; first | done | ((try simp only [zlt, zle, zeq, zl_0, zl_1, zl_2, zl_3, zl_4, zl_5, zl_6, zl_7, zl_8, zl_9, zl_10, zl_11, zl_12, zl_13, zl_19, zl_20, zl_30, zl_64, zl_99, zl_100, zl_299, zl_300, zl_399, zl_999, zl_9999, zl_m1, zl_m2, zl_m3, zl_32, zl_280] at c5 c9 c11 ⊢); omega)))) dX11_about_237 (Nat.le_of_ble_eq_true rfl) (Nat.le_of_ble_eq_true rfl)
      · refine lv_tableIn (off := 169) (tgt := 238) hx hb dX11_about_69 (by decide) (by decide) rfl (by decide) ?_
        refine lv_aload_n hx hb dX11_about_238 rfl (lv_at hl 0 rfl) ?_
        refine z_get Z i_X11 hP 0 rfl rfl 4 (by decide) bw_472 rfl dX11_about_239 ?_
        refine z_get Z i_X2 hP 7 rfl rfl 0 (by decide) bw_422 rfl dX11_about_242 ?_
        refine z_get Z i_X7 hP 8 rfl rfl 4 (by decide) bw_403 rfl dX11_about_245 ?_
        exact z_ret Z rfl hP hD hS ((by first | rfl | assumption | (rw [if_pos (by (try simp only [zlt, zle, zeq, zl_0, zl_1, zl_2, zl_3, zl_4, zl_5, zl_6, zl_7, zl_8, zl_9, zl_10, zl_11, zl_12, zl_13, zl_19, zl_20, zl_30, zl_64, zl_99, zl_100, zl_299, zl_300, zl_399, zl_999, zl_9999, zl_m1, zl_m2, zl_m3, zl_32, zl_280] at c5 c9 c11 ⊢); omega)]; first | done | ((try simp only [zlt, zle, zeq, zl_0, zl_1, zl_2, zl_3, zl_4, zl_5, zl_6, zl_7, zl_8, zl_9, zl_10, zl_11, zl_12, zl_13, zl_19, zl_20, zl_30, zl_64, zl_99, zl_100, zl_299, zl_300, zl_399, zl_999, zl_9999, zl_m1, zl_m2, zl_m3, zl_32, zl_280] at c5 c9 c11 ⊢); omega)) | (rw [if_neg (by (try simp only [zlt, zle, zeq, zl_0, zl_1, zl_2, zl_3, zl_4, zl_5, zl_6, zl_7, zl_8, zl_9, zl_10, zl_11, zl_12, zl_13, zl_19, zl_20, zl_30, zl_64, zl_99, zl_100, zl_299, zl_300, zl_399, zl_999, zl_9999, zl_m1, zl_m2, zl_m3, zl_32, zl_280] at c5 c9 c11 ⊢); omega), if_pos (by (try simp only [zlt, zle, zeq, zl_0, zl_1, zl_2, zl_3, zl_4, zl_5, zl_6, zl_7, zl_8, zl_9, zl_10, zl_11, zl_12, zl_13, zl_19, zl_20, zl_30, zl_64, zl_99, zl_100, zl_299, zl_300, zl_399, zl_999, zl_9999, zl_m1, zl_m2, zl_m3, zl_32, zl_280] at c5 c9 c11 ⊢); omega)]; first | done | ((try simp only [zlt, zle, zeq, zl_0, zl_1, zl_2, zl_3, zl_4, zl_5, zl_6, zl_7, zl_8, zl_9, zl_10, zl_11, zl_12, zl_13, zl_19, zl_20, zl_30, zl_64, zl_99, zl_100, zl_299, zl_300, zl_399, zl_999, zl_9999, zl_m1, zl_m2, zl_m3, zl_32, zl_280] at c5 c9 c11 ⊢); omega)) | (rw [if_neg (by (try simp only [zlt, zle, zeq, zl_0, zl_1, zl_2, zl_3, zl_4, zl_5, zl_6, zl_7, zl_8, zl_9, zl_10, zl_11, zl_12, zl_13, zl_19, zl_20, zl_30, zl_64, zl_99, zl_100, zl_299, zl_300, zl_399, zl_999, zl_9999, zl_m1, zl_m2, zl_m3, zl_32, zl_280] at c5 c9 c11 ⊢); omega), if_neg (by (try simp only [zlt, zle, zeq, zl_0, zl_1, zl_2, zl_3, zl_4, zl_5, zl_6, zl_7, zl_8, zl_9, zl_10, zl_11, zl_12, zl_13, zl_19, zl_20, zl_30, zl_64, zl_99, zl_100, zl_299, zl_300, zl_399, zl_999, zl_9999, zl_m1, zl_m2, zl_m3, zl_32, zl_280] at c5 c9 c11 ⊢); omega), if_pos (by (try simp only [zlt, zle, zeq, zl_0, zl_1, zl_2, zl_3, zl_4, zl_5, zl_6, zl_7, zl_8, zl_9, zl_10, zl_11, zl_12, zl_13, zl_19, zl_20, zl_30, zl_64, zl_99, zl_100, zl_299, zl_300, zl_399, zl_999, zl_9999, zl_m1, zl_m2, zl_m3, zl_32, zl_280] at c5 c9 c11 ⊢); omega)]; first | done | ((try simp only [zlt, zle, zeq, zl_0, zl_1, zl_2, zl_3, zl_4, zl_5, zl_6, zl_7, zl_8, zl_9, zl_10, zl_11, zl_12, zl_13, zl_19, zl_20, zl_30, zl_64, zl_99, zl_100, zl_299, zl_300, zl_399, zl_999, zl_9999, zl_m1, zl_m2, zl_m3, zl_32, zl_280] at c5 c9 c11 ⊢); omega)) | (rw [if_neg (by (try simp only [zlt, zle, zeq, zl_0, zl_1, zl_2, zl_3, zl_4, zl_5, zl_6, zl_7, zl_8, zl_9, zl_10, zl_11, zl_12, zl_13, zl_19, zl_20, zl_30, zl_64, zl_99, zl_100, zl_299, zl_300, zl_399, zl_999, zl_9999, zl_m1, zl_m2, zl_m3, zl_32, zl_280] at c5 c9 c11 ⊢); omega), if_neg (by (try simp only [zlt, zle, zeq, zl_0, zl_1, zl_2, zl_3, zl_4, zl_5, zl_6, zl_7, zl_8, zl_9, zl_10, zl_11, zl_12, zl_13, zl_19, zl_20, zl_30, zl_64, zl_99, zl_100, zl_299, zl_300, zl_399, zl_999, zl_9999, zl_m1, zl_m2, zl_m3, zl_32, zl_280] at c5 c9 c11 ⊢); omega), if_neg (by (try simp only [zlt, zle, zeq, zl_0, zl_1, zl_2, zl_3, zl_4, zl_5, zl_6, zl_7, zl_8, zl_9, zl_10, zl_11, zl_12, zl_13, zl_19, zl_20, zl_30, zl_64, zl_99, zl_100, zl_299, zl_300, zl_399, zl_999, zl_9999, zl_m1, zl_m2, zl_m3, zl_32, zl_280] at c5 c9 c11 ⊢); omega), if_pos (by (try simp only [zlt, zle, zeq, zl_0, zl_1, zl_2, zl_3, zl_4, zl_5, zl_6, zl_7, zl_8, zl_9, zl_10, zl_11, zl_12, zl_13, zl_19, zl_20, zl_30, zl_64, zl_99, zl_100, zl_299, zl_300, zl_399, zl_999, zl_9999, zl_m1, zl_m2, zl_m3, zl_32, zl_280] at c5 c9 c11 ⊢); omega)]; first | done | ((try simp only [zlt, zle, zeq, zl_0, zl_1, zl_2, zl_3, zl_4, zl_5, zl_6, zl_7, zl_8, zl_9, zl_10, zl_11, zl_12, zl_13, zl_19, zl_20, zl_30, zl_64, zl_99, zl_100, zl_299, zl_300, zl_399, zl_999, zl_9999, zl_m1, zl_m2, zl_m3, zl_32, zl_280] at c5 c9 c11 ⊢); omega)) | (rw [if_neg (by (try simp only [zlt, zle, zeq, zl_0, zl_1, zl_2, zl_3, zl_4, zl_5, zl_6, zl_7, zl_8, zl_9, zl_10, zl_11, zl_12, zl_13, zl_19, zl_20, zl_30, zl_64, zl_99, zl_100, zl_299, zl_300, zl_399, zl_999, zl_9999, zl_m1, zl_m2, zl_m3, zl_32, zl_280] at c5 c9 c11 ⊢); omega), if_neg (by (try simp only [zlt, zle, zeq, zl_0, zl_1, zl_2, zl_3, zl_4, zl_5, zl_6, zl_7, zl_8, zl_9, zl_10, zl_11, zl_12, zl_13, zl_19, zl_20, zl_30, zl_64, zl_99, zl_100, zl_299, zl_300, zl_399, zl_999, zl_9999, zl_m1, zl_m2, zl_m3, zl_32, zl_280] at c5 c9 c11 ⊢); omega), if_neg (by (try simp only [zlt, zle, zeq, zl_0, zl_1, zl_2, zl_3, zl_4, zl_5, zl_6, zl_7, zl_8, zl_9, zl_10, zl_11, zl_12, zl_13, zl_19, zl_20, zl_30, zl_64, zl_99, zl_100, zl_299, zl_300, zl_399, zl_999, zl_9999, zl_m1, zl_m2, zl_m3, zl_32, zl_280] at c5 c9 c11 ⊢); omega), if_neg (by (try simp only [zlt, zle, zeq, zl_0, zl_1, zl_2, zl_3, zl_4, zl_5, zl_6, zl_7, zl_8, zl_9, zl_10, zl_11, zl_12, zl_13, zl_19, zl_20, zl_30, zl_64, zl_99, zl_100, zl_299, zl_300, zl_399, zl_999, zl_9999, zl_m1, zl_m2, zl_m3, zl_32, zl_280] at c5 c9 c11 ⊢); omega)]; first | done | ((try simp only [zlt, zle, zeq, zl_0, zl_1, zl_2, zl_3, zl_4, zl_5, zl_6, zl_7, zl_8, zl_9, zl_10, zl_11, zl_12, zl_13, zl_19, zl_20, zl_30, zl_64, zl_99, zl_100, zl_299, zl_300, zl_399, zl_999, zl_9999, zl_m1, zl_m2, zl_m3, zl_32, zl_280] at c5 c9 c11 ⊢); omega)))) dX11_about_248 (Nat.le_of_ble_eq_true rfl) (Nat.le_of_ble_eq_true rfl)
end
section
theorem dX11_goOnFrom_0 : decode cX11_goOnFrom 0 = .ok (.iconst 0, 1) := by decide +kernel
theorem dX11_goOnFrom_1 : decode cX11_goOnFrom 1 = .ok (.istore_n 2, 1) := by decide +kernel
theorem dX11_goOnFrom_2 : decode cX11_goOnFrom 2 = .ok (.iload_n 2, 1) := by decide +kernel
theorem dX11_goOnFrom_3 : decode cX11_goOnFrom 3 = .ok (.aload_n 0, 1) := by decide +kernel
theorem dX11_goOnFrom_4 : decode cX11_goOnFrom 4 = .ok (.getfield 27, 3) := by decide +kernel
theorem dX11_goOnFrom_7 : decode cX11_goOnFrom 7 = .ok (.getfield 106, 3) := by decide +kernel
theorem dX11_goOnFrom_10 : decode cX11_goOnFrom 10 = .ok (.getfield 110, 3) := by decide +kernel
theorem dX11_goOnFrom_13 : decode cX11_goOnFrom 13 = .ok (.if_icmp .ge 81, 3) := by decide +kernel
theorem dX11_goOnFrom_16 : decode cX11_goOnFrom 16 = .ok (.aload_n 0, 1) := by decide +kernel
theorem dX11_goOnFrom_17 : decode cX11_goOnFrom 17 = .ok (.getfield 10, 3) := by decide +kernel
theorem dX11_goOnFrom_20 : decode cX11_goOnFrom 20 = .ok (.iload_n 2, 1) := by decide +kernel
theorem dX11_goOnFrom_21 : decode cX11_goOnFrom 21 = .ok (.iload_n 1, 1) := by decide +kernel
theorem dX11_goOnFrom_22 : decode cX11_goOnFrom 22 = .ok (.invokevirtual 181, 3) := by decide +kernel
theorem dX11_goOnFrom_25 : decode cX11_goOnFrom 25 = .ok (.istore_n 3, 1) := by decide +kernel
theorem dX11_goOnFrom_26 : decode cX11_goOnFrom 26 = .ok (.aload_n 0, 1) := by decide +kernel
theorem dX11_goOnFrom_27 : decode cX11_goOnFrom 27 = .ok (.getfield 10, 3) := by decide +kernel
theorem dX11_goOnFrom_30 : decode cX11_goOnFrom 30 = .ok (.getfield 185, 3) := by decide +kernel
theorem dX11_goOnFrom_33 : decode cX11_goOnFrom 33 = .ok (.iload_n 3, 1) := by decide +kernel
theorem dX11_goOnFrom_34 : decode cX11_goOnFrom 34 = .ok (.iaload, 1) := by decide +kernel
theorem dX11_goOnFrom_35 : decode cX11_goOnFrom 35 = .ok (.istore 4, 2) := by decide +kernel
theorem dX11_goOnFrom_37 : decode cX11_goOnFrom 37 = .ok (.aload_n 0, 1) := by decide +kernel
theorem dX11_goOnFrom_38 : decode cX11_goOnFrom 38 = .ok (.getfield 50, 3) := by decide +kernel
theorem dX11_goOnFrom_41 : decode cX11_goOnFrom 41 = .ok (.iload_n 1, 1) := by decide +kernel
theorem dX11_goOnFrom_42 : decode cX11_goOnFrom 42 = .ok (.iaload, 1) := by decide +kernel
theorem dX11_goOnFrom_43 : decode cX11_goOnFrom 43 = .ok (.aload_n 0, 1) := by decide +kernel
theorem dX11_goOnFrom_44 : decode cX11_goOnFrom 44 = .ok (.getfield 10, 3) := by decide +kernel
theorem dX11_goOnFrom_47 : decode cX11_goOnFrom 47 = .ok (.getfield 188, 3) := by decide +kernel
theorem dX11_goOnFrom_50 : decode cX11_goOnFrom 50 = .ok (.iload_n 3, 1) := by decide +kernel
theorem dX11_goOnFrom_51 : decode cX11_goOnFrom 51 = .ok (.iaload, 1) := by decide +kernel
theorem dX11_goOnFrom_52 : decode cX11_goOnFrom 52 = .ok (.sipush 1000, 3) := by decide +kernel
theorem dX11_goOnFrom_55 : decode cX11_goOnFrom 55 = .ok (.imul, 1) := by decide +kernel
theorem dX11_goOnFrom_56 : decode cX11_goOnFrom 56 = .ok (.iadd, 1) := by decide +kernel
theorem dX11_goOnFrom_57 : decode cX11_goOnFrom 57 = .ok (.iconst 1, 1) := by decide +kernel
theorem dX11_goOnFrom_58 : decode cX11_goOnFrom 58 = .ok (.iadd, 1) := by decide +kernel
theorem dX11_goOnFrom_59 : decode cX11_goOnFrom 59 = .ok (.istore 5, 2) := by decide +kernel
theorem dX11_goOnFrom_61 : decode cX11_goOnFrom 61 = .ok (.iload 4, 2) := by decide +kernel
theorem dX11_goOnFrom_63 : decode cX11_goOnFrom 63 = .ok (.iload_n 1, 1) := by decide +kernel
theorem dX11_goOnFrom_64 : decode cX11_goOnFrom 64 = .ok (.if_icmp .le 24, 3) := by decide +kernel
theorem dX11_goOnFrom_67 : decode cX11_goOnFrom 67 = .ok (.iload 5, 2) := by decide +kernel
theorem dX11_goOnFrom_69 : decode cX11_goOnFrom 69 = .ok (.aload_n 0, 1) := by decide +kernel
theorem dX11_goOnFrom_70 : decode cX11_goOnFrom 70 = .ok (.getfield 50, 3) := by decide +kernel
theorem dX11_goOnFrom_73 : decode cX11_goOnFrom 73 = .ok (.iload 4, 2) := by decide +kernel
theorem dX11_goOnFrom_75 : decode cX11_goOnFrom 75 = .ok (.iaload, 1) := by decide +kernel
theorem dX11_goOnFrom_76 : decode cX11_goOnFrom 76 = .ok (.if_icmp .ge 12, 3) := by decide +kernel
theorem dX11_goOnFrom_79 : decode cX11_goOnFrom 79 = .ok (.aload_n 0, 1) := by decide +kernel
theorem dX11_goOnFrom_80 : decode cX11_goOnFrom 80 = .ok (.getfield 50, 3) := by decide +kernel
theorem dX11_goOnFrom_83 : decode cX11_goOnFrom 83 = .ok (.iload 4, 2) := by decide +kernel
theorem dX11_goOnFrom_85 : decode cX11_goOnFrom 85 = .ok (.iload 5, 2) := by decide +kernel
theorem dX11_goOnFrom_87 : decode cX11_goOnFrom 87 = .ok (.iastore, 1) := by decide +kernel
theorem dX11_goOnFrom_88 : decode cX11_goOnFrom 88 = .ok (.iinc 2 1, 3) := by decide +kernel
theorem dX11_goOnFrom_91 : decode cX11_goOnFrom 91 = .ok (.goto (-89), 3) := by decide +kernel
theorem dX11_goOnFrom_94 : decode cX11_goOnFrom 94 = .ok (.return_, 1) := by decide +kernel
theorem dX11_least_0 : decode cX11_least 0 = .ok (.iload_n 1, 1) := by decide +kernel
theorem dX11_least_1 : decode cX11_least 1 = .ok (.invokestatic 54, 3) := by decide +kernel
theorem dX11_least_4 : decode cX11_least 4 = .ok (.ifCond .eq 10, 3) := by decide +kernel
theorem dX11_least_7 : decode cX11_least 7 = .ok (.iload_n 2, 1) := by decide +kernel
theorem dX11_least_8 : decode cX11_least 8 = .ok (.invokestatic 54, 3) := by decide +kernel
theorem dX11_least_11 : decode cX11_least 11 = .ok (.ifCond .ne 5, 3) := by decide +kernel
theorem dX11_least_14 : decode cX11_least 14 = .ok (.iconst (-1), 1) := by decide +kernel
theorem dX11_least_15 : decode cX11_least 15 = .ok (.ireturn, 1) := by decide +kernel
theorem dX11_least_16 : decode cX11_least 16 = .ok (.aload_n 0, 1) := by decide +kernel
theorem dX11_least_17 : decode cX11_least 17 = .ok (.getfield 50, 3) := by decide +kernel
theorem dX11_least_20 : decode cX11_least 20 = .ok (.ldc 228, 2) := by decide +kernel
theorem dX11_least_22 : decode cX11_least 22 = .ok (.invokestatic 229, 3) := by decide +kernel
theorem dX11_least_25 : decode cX11_least 25 = .ok (.aload_n 0, 1) := by decide +kernel
theorem dX11_least_26 : decode cX11_least 26 = .ok (.getfield 50, 3) := by decide +kernel
theorem dX11_least_29 : decode cX11_least 29 = .ok (.iload_n 1, 1) := by decide +kernel
theorem dX11_least_30 : decode cX11_least 30 = .ok (.iconst 0, 1) := by decide +kernel
theorem dX11_least_31 : decode cX11_least 31 = .ok (.iastore, 1) := by decide +kernel
theorem dX11_least_32 : decode cX11_least 32 = .ok (.iload_n 1, 1) := by decide +kernel
theorem dX11_least_33 : decode cX11_least 33 = .ok (.istore 4, 2) := by decide +kernel
theorem dX11_least_35 : decode cX11_least 35 = .ok (.iload 4, 2) := by decide +kernel
theorem dX11_least_37 : decode cX11_least 37 = .ok (.iload_n 2, 1) := by decide +kernel
theorem dX11_least_38 : decode cX11_least 38 = .ok (.if_icmp .ge 27, 3) := by decide +kernel
theorem dX11_least_41 : decode cX11_least 41 = .ok (.aload_n 0, 1) := by decide +kernel
theorem dX11_least_42 : decode cX11_least 42 = .ok (.getfield 50, 3) := by decide +kernel
theorem dX11_least_45 : decode cX11_least 45 = .ok (.iload 4, 2) := by decide +kernel
theorem dX11_least_47 : decode cX11_least 47 = .ok (.iaload, 1) := by decide +kernel
theorem dX11_least_48 : decode cX11_least 48 = .ok (.ldc 228, 2) := by decide +kernel
theorem dX11_least_50 : decode cX11_least 50 = .ok (.if_icmp .eq 9, 3) := by decide +kernel
theorem dX11_least_53 : decode cX11_least 53 = .ok (.aload_n 0, 1) := by decide +kernel
theorem dX11_least_54 : decode cX11_least 54 = .ok (.iload 4, 2) := by decide +kernel
theorem dX11_least_56 : decode cX11_least 56 = .ok (.invokevirtual 235, 3) := by decide +kernel
theorem dX11_least_59 : decode cX11_least 59 = .ok (.iinc 4 1, 3) := by decide +kernel
theorem dX11_least_62 : decode cX11_least 62 = .ok (.goto (-27), 3) := by decide +kernel
theorem dX11_least_65 : decode cX11_least 65 = .ok (.aload_n 0, 1) := by decide +kernel
theorem dX11_least_66 : decode cX11_least 66 = .ok (.getfield 50, 3) := by decide +kernel
theorem dX11_least_69 : decode cX11_least 69 = .ok (.iload_n 2, 1) := by decide +kernel
theorem dX11_least_70 : decode cX11_least 70 = .ok (.iaload, 1) := by decide +kernel
theorem dX11_least_71 : decode cX11_least 71 = .ok (.ldc 228, 2) := by decide +kernel
theorem dX11_least_73 : decode cX11_least 73 = .ok (.if_icmp .ne 5, 3) := by decide +kernel
theorem dX11_least_76 : decode cX11_least 76 = .ok (.iconst (-1), 1) := by decide +kernel
theorem dX11_least_77 : decode cX11_least 77 = .ok (.ireturn, 1) := by decide +kernel
theorem dX11_least_78 : decode cX11_least 78 = .ok (.iload_n 3, 1) := by decide +kernel
theorem dX11_least_79 : decode cX11_least 79 = .ok (.ifCond .eq 16, 3) := by decide +kernel
theorem dX11_least_82 : decode cX11_least 82 = .ok (.aload_n 0, 1) := by decide +kernel
theorem dX11_least_83 : decode cX11_least 83 = .ok (.getfield 50, 3) := by decide +kernel
theorem dX11_least_86 : decode cX11_least 86 = .ok (.iload_n 2, 1) := by decide +kernel
theorem dX11_least_87 : decode cX11_least 87 = .ok (.iaload, 1) := by decide +kernel
theorem dX11_least_88 : decode cX11_least 88 = .ok (.sipush 1000, 3) := by decide +kernel
theorem dX11_least_91 : decode cX11_least 91 = .ok (.irem, 1) := by decide +kernel
theorem dX11_least_92 : decode cX11_least 92 = .ok (.goto 13, 3) := by decide +kernel
theorem dX11_least_95 : decode cX11_least 95 = .ok (.aload_n 0, 1) := by decide +kernel
theorem dX11_least_96 : decode cX11_least 96 = .ok (.getfield 50, 3) := by decide +kernel
theorem dX11_least_99 : decode cX11_least 99 = .ok (.iload_n 2, 1) := by decide +kernel
theorem dX11_least_100 : decode cX11_least 100 = .ok (.iaload, 1) := by decide +kernel
theorem dX11_least_101 : decode cX11_least 101 = .ok (.sipush 1000, 3) := by decide +kernel
theorem dX11_least_104 : decode cX11_least 104 = .ok (.idiv, 1) := by decide +kernel
theorem dX11_least_105 : decode cX11_least 105 = .ok (.ireturn, 1) := by decide +kernel
theorem bw_31 : Cond.selects "CountingHorses" ⟨"CountingHorses", "goOnFrom", "(I)V"⟩ ⟨"CountingHorses", "goOnFrom", "(I)V"⟩ ∈ BW := bw_at 31 (by decide +kernel) (by decide +kernel)
theorem bw_474 : Cond.fieldLink "CountingHorses" 50 "CountingHorses" "costs" "[I" ∈ BW := bw_at 474 (by decide +kernel) (by decide +kernel)
theorem bw_926 : Cond.constant "CountingHorses" 228 2000000000 ∈ BW := bw_at 926 (by decide +kernel) (by decide +kernel)
theorem bw_927 : Cond.methodLink "CountingHorses" 229 ⟨"java/util/Arrays", "fill", "([II)V"⟩ ∈ BW := bw_at 927 (by decide +kernel) (by decide +kernel)
theorem bw_928 : Cond.methodLink "CountingHorses" 235 ⟨"CountingHorses", "goOnFrom", "(I)V"⟩ ∈ BW := bw_at 928 (by decide +kernel) (by decide +kernel)
theorem bw_930 : Cond.instanceMethod ⟨"CountingHorses", "goOnFrom", "(I)V"⟩ ∈ BW := bw_at 930 (by decide +kernel) (by decide +kernel)
theorem bw_931 : Cond.code ⟨"CountingHorses", "goOnFrom", "(I)V"⟩ prog_1_method_37_code 6 none ∈ BW := bw_at 931 (by decide +kernel) (by decide +kernel)
set_option maxHeartbeats 4000000 in
set_option maxRecDepth 100000 in
theorem c_X11_goOnFrom (l : Launch) (D : va_G) (cI cM cT : ClassId) (x : Nat) (st : Nat) (dr : Nat) (nw : Nat) (kp : Nat) (rd : Nat) (tm : Nat) (co : Nat) (rO : Nat) (sT : Nat) (mA : Nat) (sB : Nat) (sA : Nat) (tH : Nat) (tF : Nat) (tS : Nat) (cO : Nat) (sH : Nat) (p0 : Int32) : Cv l D (ty3 cI cM cT) yX11_goOnFrom cX11_goOnFrom 6 1 0 0 [.ref x, .int p0] ([(x, .inr (11, [.ref st, .ref dr, .ref nw, .ref kp, .ref rd, .ref tm, .ref co])), (nw, .inr (10, [.ref rO, .ref sT, .ref mA, .ref sB, .ref sA, .ref tH, .ref tF, .ref tS, .int 0, .int 0, .int (-1), .int 0, .int 0])), (sT, .inr (4, [.ref cO, .ref sH, .int 0]))]) (fun u => u = [(x, .inr (11, [.ref st, .ref dr, .ref nw, .ref kp, .ref rd, .ref tm, .ref co])), (nw, .inr (10, [.ref rO, .ref sT, .ref mA, .ref sB, .ref sA, .ref tH, .ref tF, .ref tS, .int 0, .int 0, .int (-1), .int 0, .int 0])), (sT, .inr (4, [.ref cO, .ref sH, .int 0]))]) := by
  refine Cv.of (by decide +kernel) (Nat.le_of_ble_eq_true rfl) ?_
  intro p e s m below meth c A ls Z hin hP hD hl
  have hx := Z.1
  have hb := Z.2.1
  have hS : va_S A s.heap s.heap [] := va_S.rf
  have hl : lv_has ls 6 [(0, .ref x), (1, .int p0)] := hl
  skip
  refine lv_iconst (v := 0) hx hb dX11_goOnFrom_0 (by decide) ?_
  refine lv_istore_n (lv' := [(2, .int 0), (0, .ref x), (1, .int p0)]) hx hb dX11_goOnFrom_1 rfl hl (by decide) rfl (fun ls hl => ?_)
  refine lv_iload_n hx hb dX11_goOnFrom_2 rfl (lv_at hl 0 rfl) ?_
  refine lv_aload_n hx hb dX11_goOnFrom_3 rfl (lv_at hl 1 rfl) ?_
  refine z_get Z i_X11 hP 0 rfl rfl 2 (by decide) bw_470 rfl dX11_goOnFrom_4 ?_
  refine z_get Z i_X10 hP 1 rfl rfl 1 (by decide) bw_237 rfl dX11_goOnFrom_7 ?_
  refine z_get Z i_X4 hP 2 rfl rfl 2 (by decide) bw_167 rfl dX11_goOnFrom_10 ?_
  refine lv_icmp_ge (tgt := 94) hx hb dX11_goOnFrom_13 (by decide) (fun c1 => ?_) (fun h => absurd (by decide) h)
  exact z_vret Z hP hD hS (rfl) dX11_goOnFrom_94 (Nat.le_of_ble_eq_true rfl) (Nat.le_of_ble_eq_true rfl)
set_option maxHeartbeats 4000000 in
set_option maxRecDepth 100000 in
theorem lp_X11_least {p : Program} (l : Launch) {e : Env} {s : State} {m : MethodId} {below : List Frame} {meth : Method} {c : Code} {A : Nat → Prop} (D : va_G) (cI cM cT : ClassId) (x : Nat) (st : Nat) (dr : Nat) (nw : Nat) (kp : Nat) (rd : Nat) (tm : Nat) (co : Nat) (rO : Nat) (sT : Nat) (mA : Nat) (sB : Nat) (sA : Nat) (tH : Nat) (tF : Nat) (tS : Nat) (cO : Nat) (sH : Nat) (p0 : Int32) (p1 : Int32) (p2 : Int32) (Z : Zx p s m ([.ref x, .int p0, .int p1, .int p2] : List Value).toArray meth c cX11_least 5 (some .int) yX11_least.cls A (ty3 cI cM cT) D) (f9 : Nat → Int32) (hfa : ∀ j, j < 300 → j ≠ (p0 : Int32).toNatClampNeg → f9 j = 2000000000) (hfb : f9 (p0 : Int32).toNatClampNeg = 0) (hc : (0 ≤ p0 ∧ p0 < 300) ∧ (0 ≤ p1 ∧ p1 < 300)) : ∀ (n0 : Nat) (i : Int32) (h0 : 0 ≤ i.toInt) (h1 : i.toInt ≤ 300), (300 - i.toInt).toNat < n0 → ∀ (H : Heap) (locs : List Loc) (ls : Array Slot), va_P D vwCl ([(x, .inr (11, [.ref st, .ref dr, .ref nw, .ref kp, .ref rd, .ref tm, .ref co])), (nw, .inr (10, [.ref rO, .ref sT, .ref mA, .ref sB, .ref sA, .ref tH, .ref tF, .ref tS, .int 0, .int 0, .int (-1), .int 0, .int 0])), (sT, .inr (4, [.ref cO, .ref sH, .int 0])), (co, .inl (cI, 300, .inl f9))]) H → va_D A ([(x, .inr (11, [.ref st, .ref dr, .ref nw, .ref kp, .ref rd, .ref tm, .ref co])), (nw, .inr (10, [.ref rO, .ref sT, .ref mA, .ref sB, .ref sA, .ref tH, .ref tF, .ref tS, .int 0, .int 0, .int (-1), .int 0, .int 0])), (sT, .inr (4, [.ref cO, .ref sH, .int 0])), (co, .inl (cI, 300, .inl f9))]) → va_S A s.heap H locs → lv_has ls 5 [(0, .ref x), (1, .int p0), (2, .int p1), (3, .int p2), (4, .int i)] → W p l e (rmv 3 0 0) s m ([.ref x, .int p0, .int p1, .int p2] : List Value).toArray below meth c H locs 0 0 (MQ below (va_Qi (fun r u => r = (if (0 ≤ p0 ∧ p0 < 300) ∧ (0 ≤ p1 ∧ p1 < 300) ∧ p0 = p1 then 0 else (-1))) (cB D (ty3 cI cM cT) A) A) ([.ref x, .int p0, .int p1, .int p2] : List Value).toArray s 0 0 A) (F0 m 35 ls []) := by
  have hx := Z.1
  have hb := Z.2.1
  intro n0
  induction n0 with
  | zero => intro i h0 h1 hm; exact absurd hm (Nat.not_lt_zero _)
  | succ n0 ih =>
    intro i h0 h1 hm H locs ls hP hD hS hl
    refine lv_iload hx hb dX11_least_35 (lv_at hl 4 rfl) ?_
    refine lv_iload_n hx hb dX11_least_37 rfl (lv_at hl 2 rfl) ?_
    refine lv_icmp_ge (tgt := 65) hx hb dX11_least_38 (by decide) (fun c1 => ?_) (fun c1 => ?_)
    · by_cases ce : p0 = p1
      · have hv : f9 (p1 : Int32).toNatClampNeg = 0 := by rw [← ce]; exact hfb
        refine lv_aload_n hx hb dX11_least_65 rfl (lv_at hl 0 rfl) ?_
        refine z_get Z i_X11 hP 0 rfl rfl 6 (by decide) bw_474 rfl dX11_least_66 ?_
        refine lv_iload_n hx hb dX11_least_69 rfl (lv_at hl 2 rfl) ?_
        refine z_iald Z hP 3 0 rfl rfl (vp_in_iff.mpr (by (try simp only [zlt, zle, zeq, zl_0, zl_1, zl_2, zl_3, zl_4, zl_5, zl_6, zl_7, zl_8, zl_9, zl_10, zl_11, zl_12, zl_13, zl_19, zl_20, zl_30, zl_64, zl_99, zl_100, zl_299, zl_300, zl_399, zl_999, zl_9999, zl_m1, zl_m2, zl_m3, zl_32, zl_280] at hc h0 h1 hm c1 ce ⊢); omega)) dX11_least_70 ?_
        refine z_topi (y := 0) hv ?_
        refine lv_ldc (v := 2000000000) hx hb Z.2.2.2.1 (Z.2.2.2.2.1 _ bw_926) dX11_least_71 ?_
        refine lv_icmp_ne (tgt := 78) hx hb dX11_least_73 (by decide) (fun c2 => ?_) (fun h => absurd h (by decide))
        refine lv_iload_n hx hb dX11_least_78 rfl (lv_at hl 3 rfl) ?_
        refine lv_if_eq (tgt := 95) hx hb dX11_least_79 (by decide) (fun c3 => ?_) (fun c3 => ?_)
        · refine lv_aload_n hx hb dX11_least_95 rfl (lv_at hl 0 rfl) ?_
          refine z_get Z i_X11 hP 0 rfl rfl 6 (by decide) bw_474 rfl dX11_least_96 ?_
          refine lv_iload_n hx hb dX11_least_99 rfl (lv_at hl 2 rfl) ?_
          refine z_iald Z hP 3 0 rfl rfl (vp_in_iff.mpr (by (try simp only [zlt, zle, zeq, zl_0, zl_1, zl_2, zl_3, zl_4, zl_5, zl_6, zl_7, zl_8, zl_9, zl_10, zl_11, zl_12, zl_13, zl_19, zl_20, zl_30, zl_64, zl_99, zl_100, zl_299, zl_300, zl_399, zl_999, zl_9999, zl_m1, zl_m2, zl_m3, zl_32, zl_280] at hc h0 h1 hm c1 ce c2 c3 ⊢); omega)) dX11_least_100 ?_
          refine z_topi (y := 0) hv ?_
          refine lv_sipush (v := 1000) hx hb dX11_least_101 (by decide) ?_
          refine lv_idiv hx hb dX11_least_104 (by decide) ?_
          refine z_topi (y := 0) (by decide) ?_
          exact z_ret Z rfl hP hD hS ((by first | rfl | assumption | (rw [if_pos (by (try simp only [zlt, zle, zeq, zl_0, zl_1, zl_2, zl_3, zl_4, zl_5, zl_6, zl_7, zl_8, zl_9, zl_10, zl_11, zl_12, zl_13, zl_19, zl_20, zl_30, zl_64, zl_99, zl_100, zl_299, zl_300, zl_399, zl_999, zl_9999, zl_m1, zl_m2, zl_m3, zl_32, zl_280] at hc h0 h1 hm c1 ce c2 c3 ⊢); omega)]; first | done | ((try simp only [zlt, zle, zeq, zl_0, zl_1, zl_2, zl_3, zl_4, zl_5, zl_6, zl_7, zl_8, zl_9, zl_10, zl_11, zl_12, zl_13, zl_19, zl_20, zl_30, zl_64, zl_99, zl_100, zl_299, zl_300, zl_399, zl_999, zl_9999, zl_m1, zl_m2, zl_m3, zl_32, zl_280] at hc h0 h1 hm c1 ce c2 c3 ⊢); omega)) | (rw [if_neg (by (try simp only [zlt, zle, zeq, zl_0, zl_1, zl_2, zl_3, zl_4, zl_5, zl_6, zl_7, zl_8, zl_9, zl_10, zl_11, zl_12, zl_13, zl_19, zl_20, zl_30, zl_64, zl_99, zl_100, zl_299, zl_300, zl_399, zl_999, zl_9999, zl_m1, zl_m2, zl_m3, zl_32, zl_280] at hc h0 h1 hm c1 ce c2 c3 ⊢); omega)]; first | done | ((try simp only [zlt, zle, zeq, zl_0, zl_1, zl_2, zl_3, zl_4, zl_5, zl_6, zl_7, zl_8, zl_9, zl_10, zl_11, zl_12, zl_13, zl_19, zl_20, zl_30, zl_64, zl_99, zl_100, zl_299, zl_300, zl_399, zl_999, zl_9999, zl_m1, zl_m2, zl_m3, zl_32, zl_280] at hc h0 h1 hm c1 ce c2 c3 ⊢); omega)))) dX11_least_105 (Nat.le_of_ble_eq_true rfl) (Nat.le_of_ble_eq_true rfl)
        · refine lv_aload_n hx hb dX11_least_82 rfl (lv_at hl 0 rfl) ?_
          refine z_get Z i_X11 hP 0 rfl rfl 6 (by decide) bw_474 rfl dX11_least_83 ?_
          refine lv_iload_n hx hb dX11_least_86 rfl (lv_at hl 2 rfl) ?_
          refine z_iald Z hP 3 0 rfl rfl (vp_in_iff.mpr (by (try simp only [zlt, zle, zeq, zl_0, zl_1, zl_2, zl_3, zl_4, zl_5, zl_6, zl_7, zl_8, zl_9, zl_10, zl_11, zl_12, zl_13, zl_19, zl_20, zl_30, zl_64, zl_99, zl_100, zl_299, zl_300, zl_399, zl_999, zl_9999, zl_m1, zl_m2, zl_m3, zl_32, zl_280] at hc h0 h1 hm c1 ce c2 c3 ⊢); omega)) dX11_least_87 ?_
          refine z_topi (y := 0) hv ?_
          refine lv_sipush (v := 1000) hx hb dX11_least_88 (by decide) ?_
          refine lv_irem hx hb dX11_least_91 (by decide) ?_
          refine z_topi (y := 0) (by decide) ?_
          refine lv_goto (tgt := 105) hx hb dX11_least_92 (by decide) ?_
          exact z_ret Z rfl hP hD hS ((by first | rfl | assumption | (rw [if_pos (by (try simp only [zlt, zle, zeq, zl_0, zl_1, zl_2, zl_3, zl_4, zl_5, zl_6, zl_7, zl_8, zl_9, zl_10, zl_11, zl_12, zl_13, zl_19, zl_20, zl_30, zl_64, zl_99, zl_100, zl_299, zl_300, zl_399, zl_999, zl_9999, zl_m1, zl_m2, zl_m3, zl_32, zl_280] at hc h0 h1 hm c1 ce c2 c3 ⊢); omega)]; first | done | ((try simp only [zlt, zle, zeq, zl_0, zl_1, zl_2, zl_3, zl_4, zl_5, zl_6, zl_7, zl_8, zl_9, zl_10, zl_11, zl_12, zl_13, zl_19, zl_20, zl_30, zl_64, zl_99, zl_100, zl_299, zl_300, zl_399, zl_999, zl_9999, zl_m1, zl_m2, zl_m3, zl_32, zl_280] at hc h0 h1 hm c1 ce c2 c3 ⊢); omega)) | (rw [if_neg (by (try simp only [zlt, zle, zeq, zl_0, zl_1, zl_2, zl_3, zl_4, zl_5, zl_6, zl_7, zl_8, zl_9, zl_10, zl_11, zl_12, zl_13, zl_19, zl_20, zl_30, zl_64, zl_99, zl_100, zl_299, zl_300, zl_399, zl_999, zl_9999, zl_m1, zl_m2, zl_m3, zl_32, zl_280] at hc h0 h1 hm c1 ce c2 c3 ⊢); omega)]; first | done | ((try simp only [zlt, zle, zeq, zl_0, zl_1, zl_2, zl_3, zl_4, zl_5, zl_6, zl_7, zl_8, zl_9, zl_10, zl_11, zl_12, zl_13, zl_19, zl_20, zl_30, zl_64, zl_99, zl_100, zl_299, zl_300, zl_399, zl_999, zl_9999, zl_m1, zl_m2, zl_m3, zl_32, zl_280] at hc h0 h1 hm c1 ce c2 c3 ⊢); omega)))) dX11_least_105 (Nat.le_of_ble_eq_true rfl) (Nat.le_of_ble_eq_true rfl)
      · have hv : f9 (p1 : Int32).toNatClampNeg = 2000000000 := hfa _ (zclt (by (try simp only [zlt, zle, zeq, zl_0, zl_1, zl_2, zl_3, zl_4, zl_5, zl_6, zl_7, zl_8, zl_9, zl_10, zl_11, zl_12, zl_13, zl_19, zl_20, zl_30, zl_64, zl_99, zl_100, zl_299, zl_300, zl_399, zl_999, zl_9999, zl_m1, zl_m2, zl_m3, zl_32, zl_280] at hc h0 h1 hm c1 ce ⊢); omega) (by (try simp only [zlt, zle, zeq, zl_0, zl_1, zl_2, zl_3, zl_4, zl_5, zl_6, zl_7, zl_8, zl_9, zl_10, zl_11, zl_12, zl_13, zl_19, zl_20, zl_30, zl_64, zl_99, zl_100, zl_299, zl_300, zl_399, zl_999, zl_9999, zl_m1, zl_m2, zl_m3, zl_32, zl_280] at hc h0 h1 hm c1 ce ⊢); omega)) (fun h => ce (zcinj (by (try simp only [zlt, zle, zeq, zl_0, zl_1, zl_2, zl_3, zl_4, zl_5, zl_6, zl_7, zl_8, zl_9, zl_10, zl_11, zl_12, zl_13, zl_19, zl_20, zl_30, zl_64, zl_99, zl_100, zl_299, zl_300, zl_399, zl_999, zl_9999, zl_m1, zl_m2, zl_m3, zl_32, zl_280] at hc h0 h1 hm c1 ce ⊢); omega) (by (try simp only [zlt, zle, zeq, zl_0, zl_1, zl_2, zl_3, zl_4, zl_5, zl_6, zl_7, zl_8, zl_9, zl_10, zl_11, zl_12, zl_13, zl_19, zl_20, zl_30, zl_64, zl_99, zl_100, zl_299, zl_300, zl_399, zl_999, zl_9999, zl_m1, zl_m2, zl_m3, zl_32, zl_280] at hc h0 h1 hm c1 ce ⊢); omega) h).symm)
        refine lv_aload_n hx hb dX11_least_65 rfl (lv_at hl 0 rfl) ?_
        refine z_get Z i_X11 hP 0 rfl rfl 6 (by decide) bw_474 rfl dX11_least_66 ?_
        refine lv_iload_n hx hb dX11_least_69 rfl (lv_at hl 2 rfl) ?_
        refine z_iald Z hP 3 0 rfl rfl (vp_in_iff.mpr (by (try simp only [zlt, zle, zeq, zl_0, zl_1, zl_2, zl_3, zl_4, zl_5, zl_6, zl_7, zl_8, zl_9, zl_10, zl_11, zl_12, zl_13, zl_19, zl_20, zl_30, zl_64, zl_99, zl_100, zl_299, zl_300, zl_399, zl_999, zl_9999, zl_m1, zl_m2, zl_m3, zl_32, zl_280] at hc h0 h1 hm c1 ce ⊢); omega)) dX11_least_70 ?_
        refine z_topi (y := 2000000000) hv ?_
        refine lv_ldc (v := 2000000000) hx hb Z.2.2.2.1 (Z.2.2.2.2.1 _ bw_926) dX11_least_71 ?_
        refine lv_icmp_ne (tgt := 78) hx hb dX11_least_73 (by decide) (fun h => absurd (by decide) h) (fun c4 => ?_)
        refine lv_iconst (v := (-1)) hx hb dX11_least_76 (by decide) ?_
        exact z_ret Z rfl hP hD hS ((by first | rfl | assumption | (rw [if_pos (by (try simp only [zlt, zle, zeq, zl_0, zl_1, zl_2, zl_3, zl_4, zl_5, zl_6, zl_7, zl_8, zl_9, zl_10, zl_11, zl_12, zl_13, zl_19, zl_20, zl_30, zl_64, zl_99, zl_100, zl_299, zl_300, zl_399, zl_999, zl_9999, zl_m1, zl_m2, zl_m3, zl_32, zl_280] at hc h0 h1 hm c1 ce c4 ⊢); omega)]; first | done | ((try simp only [zlt, zle, zeq, zl_0, zl_1, zl_2, zl_3, zl_4, zl_5, zl_6, zl_7, zl_8, zl_9, zl_10, zl_11, zl_12, zl_13, zl_19, zl_20, zl_30, zl_64, zl_99, zl_100, zl_299, zl_300, zl_399, zl_999, zl_9999, zl_m1, zl_m2, zl_m3, zl_32, zl_280] at hc h0 h1 hm c1 ce c4 ⊢); omega)) | (rw [if_neg (by (try simp only [zlt, zle, zeq, zl_0, zl_1, zl_2, zl_3, zl_4, zl_5, zl_6, zl_7, zl_8, zl_9, zl_10, zl_11, zl_12, zl_13, zl_19, zl_20, zl_30, zl_64, zl_99, zl_100, zl_299, zl_300, zl_399, zl_999, zl_9999, zl_m1, zl_m2, zl_m3, zl_32, zl_280] at hc h0 h1 hm c1 ce c4 ⊢); omega)]; first | done | ((try simp only [zlt, zle, zeq, zl_0, zl_1, zl_2, zl_3, zl_4, zl_5, zl_6, zl_7, zl_8, zl_9, zl_10, zl_11, zl_12, zl_13, zl_19, zl_20, zl_30, zl_64, zl_99, zl_100, zl_299, zl_300, zl_399, zl_999, zl_9999, zl_m1, zl_m2, zl_m3, zl_32, zl_280] at hc h0 h1 hm c1 ce c4 ⊢); omega)))) dX11_least_77 (Nat.le_of_ble_eq_true rfl) (Nat.le_of_ble_eq_true rfl)
    · refine lv_aload_n hx hb dX11_least_41 rfl (lv_at hl 0 rfl) ?_
      refine z_get Z i_X11 hP 0 rfl rfl 6 (by decide) bw_474 rfl dX11_least_42 ?_
      refine lv_iload hx hb dX11_least_45 (lv_at hl 4 rfl) ?_
      refine z_iald Z hP 3 0 rfl rfl (vp_in_iff.mpr (by (try simp only [zlt, zle, zeq, zl_0, zl_1, zl_2, zl_3, zl_4, zl_5, zl_6, zl_7, zl_8, zl_9, zl_10, zl_11, zl_12, zl_13, zl_19, zl_20, zl_30, zl_64, zl_99, zl_100, zl_299, zl_300, zl_399, zl_999, zl_9999, zl_m1, zl_m2, zl_m3, zl_32, zl_280] at hc h0 h1 hm c1 ⊢); omega)) dX11_least_47 ?_
      refine lv_topi (fun z5 ez5 => ?_)
      refine lv_ldc (v := 2000000000) hx hb Z.2.2.2.1 (Z.2.2.2.2.1 _ bw_926) dX11_least_48 ?_
      refine lv_icmp_eq (tgt := 59) hx hb dX11_least_50 (by decide) (fun c6 => ?_) (fun c6 => ?_)
      · refine lv_iinc (v := (i + 1)) (lv' := [(4, .int (i + 1)), (0, .ref x), (1, .int p0), (2, .int p1), (3, .int p2)]) hx hb dX11_least_59 hl (k := 4) rfl (by rfl) (by decide) rfl (fun ls hl => ?_)
        refine lv_goto (tgt := 35) hx hb dX11_least_62 (by decide) ?_
        have e9 : (i + 1).toInt = i.toInt + 1 := zinc (by (try simp only [zlt, zle, zeq, zl_0, zl_1, zl_2, zl_3, zl_4, zl_5, zl_6, zl_7, zl_8, zl_9, zl_10, zl_11, zl_12, zl_13, zl_19, zl_20, zl_30, zl_64, zl_99, zl_100, zl_299, zl_300, zl_399, zl_999, zl_9999, zl_m1, zl_m2, zl_m3, zl_32, zl_280] at hc h0 h1 hm c1 c6 ⊢); omega)
        exact ih (i + 1) (by (try simp only [zlt, zle, zeq, zl_0, zl_1, zl_2, zl_3, zl_4, zl_5, zl_6, zl_7, zl_8, zl_9, zl_10, zl_11, zl_12, zl_13, zl_19, zl_20, zl_30, zl_64, zl_99, zl_100, zl_299, zl_300, zl_399, zl_999, zl_9999, zl_m1, zl_m2, zl_m3, zl_32, zl_280] at hc h0 h1 hm c1 c6 e9 ⊢); omega) (by (try simp only [zlt, zle, zeq, zl_0, zl_1, zl_2, zl_3, zl_4, zl_5, zl_6, zl_7, zl_8, zl_9, zl_10, zl_11, zl_12, zl_13, zl_19, zl_20, zl_30, zl_64, zl_99, zl_100, zl_299, zl_300, zl_399, zl_999, zl_9999, zl_m1, zl_m2, zl_m3, zl_32, zl_280] at hc h0 h1 hm c1 c6 e9 ⊢); omega) (by (try simp only [zlt, zle, zeq, zl_0, zl_1, zl_2, zl_3, zl_4, zl_5, zl_6, zl_7, zl_8, zl_9, zl_10, zl_11, zl_12, zl_13, zl_19, zl_20, zl_30, zl_64, zl_99, zl_100, zl_299, zl_300, zl_399, zl_999, zl_9999, zl_m1, zl_m2, zl_m3, zl_32, zl_280] at hc h0 h1 hm c1 c6 e9 ⊢); omega) _ _ _ hP hD hS (lv_sub hl [1, 2, 3, 4, 0] rfl)
      · refine lv_aload_n hx hb dX11_least_53 rfl (lv_at hl 0 rfl) ?_
        refine lv_iload hx hb dX11_least_54 (lv_at hl 4 rfl) ?_
        have hPc := hP.sub2 (wc := [(x, .inr (11, [.ref st, .ref dr, .ref nw, .ref kp, .ref rd, .ref tm, .ref co])), (nw, .inr (10, [.ref rO, .ref sT, .ref mA, .ref sB, .ref sA, .ref tH, .ref tF, .ref tS, .int 0, .int 0, .int (-1), .int 0, .int 0])), (sT, .inr (4, [.ref cO, .ref sH, .int 0]))]) [0, 1, 2] rfl
        have hDc := hD.sub (ws' := [(x, .inr (11, [.ref st, .ref dr, .ref nw, .ref kp, .ref rd, .ref tm, .ref co])), (nw, .inr (10, [.ref rO, .ref sT, .ref mA, .ref sB, .ref sA, .ref tH, .ref tF, .ref tS, .int 0, .int 0, .int (-1), .int 0, .int 0])), (sT, .inr (4, [.ref cO, .ref sH, .int 0]))]) [0, 1, 2] (by decide) rfl
        refine raw_Vv (ci := 11) (q0 := 0) (nA := 1) (As := [.int i]) (rest := []) Z hl.1 (c_X11_goOnFrom l D cI cM cT x st dr nw kp rd tm co rO sT mA sB sA tH tF tS cO sH i) (bw_V bw_928 bw_930 bw_31 bw_80 bw_931) ⟨by decide +kernel, by decide +kernel, by decide +kernel⟩ rfl ⟨Nat.le_of_ble_eq_true rfl, Nat.le_of_ble_eq_true rfl⟩ rfl rfl rfl hPc hDc hS rfl (Nat.le_of_ble_eq_true rfl) dX11_least_56 ⟨Nat.le_of_ble_eq_true rfl, Nat.le_of_ble_eq_true rfl⟩ (fun u7 H1 locs1 h9 hku7 hP1 hD1 hS1 => ?_)
        obtain rfl := h9
        obtain ⟨hP, hD⟩ := z_join (wr := [(co, .inl (cI, 300, .inl f9))]) Z hS hP hD [0, 1, 2] [3] rfl (by decide) rfl (by decide) (by decide) hku7 hP1 hD1
        have hS := hS1
        clear hS1
        generalize H1 = H at hP hS ⊢
        generalize locs1 = locs at hS ⊢
        have hP : va_P D vwCl ([(co, .inl (cI, 300, .inl f9)), (x, .inr (11, [.ref st, .ref dr, .ref nw, .ref kp, .ref rd, .ref tm, .ref co])), (nw, .inr (10, [.ref rO, .ref sT, .ref mA, .ref sB, .ref sA, .ref tH, .ref tF, .ref tS, .int 0, .int 0, .int (-1), .int 0, .int 0])), (sT, .inr (4, [.ref cO, .ref sH, .int 0]))]) H := hP
        have hD : va_D A ([(co, .inl (cI, 300, .inl f9)), (x, .inr (11, [.ref st, .ref dr, .ref nw, .ref kp, .ref rd, .ref tm, .ref co])), (nw, .inr (10, [.ref rO, .ref sT, .ref mA, .ref sB, .ref sA, .ref tH, .ref tF, .ref tS, .int 0, .int 0, .int (-1), .int 0, .int 0])), (sT, .inr (4, [.ref cO, .ref sH, .int 0]))]) := hD
        refine lv_iinc (v := (i + 1)) (lv' := [(4, .int (i + 1)), (0, .ref x), (1, .int p0), (2, .int p1), (3, .int p2)]) hx hb dX11_least_59 hl (k := 4) rfl (by rfl) (by decide) rfl (fun ls hl => ?_)
        refine lv_goto (tgt := 35) hx hb dX11_least_62 (by decide) ?_
        have e9 : (i + 1).toInt = i.toInt + 1 := zinc (by (try simp only [zlt, zle, zeq, zl_0, zl_1, zl_2, zl_3, zl_4, zl_5, zl_6, zl_7, zl_8, zl_9, zl_10, zl_11, zl_12, zl_13, zl_19, zl_20, zl_30, zl_64, zl_99, zl_100, zl_299, zl_300, zl_399, zl_999, zl_9999, zl_m1, zl_m2, zl_m3, zl_32, zl_280] at hc h0 h1 hm c1 c6 ⊢); omega)
        exact ih (i + 1) (by (try simp only [zlt, zle, zeq, zl_0, zl_1, zl_2, zl_3, zl_4, zl_5, zl_6, zl_7, zl_8, zl_9, zl_10, zl_11, zl_12, zl_13, zl_19, zl_20, zl_30, zl_64, zl_99, zl_100, zl_299, zl_300, zl_399, zl_999, zl_9999, zl_m1, zl_m2, zl_m3, zl_32, zl_280] at hc h0 h1 hm c1 c6 e9 ⊢); omega) (by (try simp only [zlt, zle, zeq, zl_0, zl_1, zl_2, zl_3, zl_4, zl_5, zl_6, zl_7, zl_8, zl_9, zl_10, zl_11, zl_12, zl_13, zl_19, zl_20, zl_30, zl_64, zl_99, zl_100, zl_299, zl_300, zl_399, zl_999, zl_9999, zl_m1, zl_m2, zl_m3, zl_32, zl_280] at hc h0 h1 hm c1 c6 e9 ⊢); omega) (by (try simp only [zlt, zle, zeq, zl_0, zl_1, zl_2, zl_3, zl_4, zl_5, zl_6, zl_7, zl_8, zl_9, zl_10, zl_11, zl_12, zl_13, zl_19, zl_20, zl_30, zl_64, zl_99, zl_100, zl_299, zl_300, zl_399, zl_999, zl_9999, zl_m1, zl_m2, zl_m3, zl_32, zl_280] at hc h0 h1 hm c1 c6 e9 ⊢); omega) _ _ _ (hP.sub2 [1, 2, 3, 0] rfl) (hD.sub [1, 2, 3, 0] (by decide) rfl) hS (lv_sub hl [1, 2, 3, 4, 0] rfl)
set_option maxHeartbeats 4000000 in
set_option maxRecDepth 100000 in
theorem c_X11_least (l : Launch) (D : va_G) (cI cM cT : ClassId) (x : Nat) (st : Nat) (dr : Nat) (nw : Nat) (kp : Nat) (rd : Nat) (tm : Nat) (co : Nat) (rO : Nat) (sT : Nat) (mA : Nat) (sB : Nat) (sA : Nat) (tH : Nat) (tF : Nat) (tS : Nat) (cO : Nat) (sH : Nat) (p0 : Int32) (p1 : Int32) (p2 : Int32) : Ci l D (ty3 cI cM cT) yX11_least cX11_least 5 (some .int) 3 0 0 [.ref x, .int p0, .int p1, .int p2] ([(x, .inr (11, [.ref st, .ref dr, .ref nw, .ref kp, .ref rd, .ref tm, .ref co])), (nw, .inr (10, [.ref rO, .ref sT, .ref mA, .ref sB, .ref sA, .ref tH, .ref tF, .ref tS, .int 0, .int 0, .int (-1), .int 0, .int 0])), (sT, .inr (4, [.ref cO, .ref sH, .int 0])), (co, .inl (cI, 300, .inl (fun _ => 0)))]) (fun r u => r = (if (0 ≤ p0 ∧ p0 < 300) ∧ (0 ≤ p1 ∧ p1 < 300) ∧ p0 = p1 then 0 else (-1))) := by
  refine Ci.of (by decide +kernel) (Nat.le_of_ble_eq_true rfl) ?_
  intro p e s m below meth c A ls Z hin hP hD hl
  have hx := Z.1
  have hb := Z.2.1
  have hS : va_S A s.heap s.heap [] := va_S.rf
  have hl : lv_has ls 5 [(0, .ref x), (1, .int p0), (2, .int p1), (3, .int p2)] := hl
  skip
  refine lv_iload_n hx hb dX11_least_0 rfl (lv_at hl 1 rfl) ?_
  have hPc := hP.sub2 (wc := []) [] rfl
  have hDc := hD.sub (ws' := []) [] (by decide) rfl
  refine raw_Si (nA := 1) (As := [.int p0]) (rest := []) Z hl.1 (c_X11_isPlace l D cI cM cT p0) (bw_S bw_494 bw_495 bw_80 bw_496) ⟨by decide +kernel, by decide +kernel, by decide +kernel⟩ rfl ⟨Nat.le_of_ble_eq_true rfl, Nat.le_of_ble_eq_true rfl⟩ hPc hDc hS rfl (Nat.le_of_ble_eq_true rfl) dX11_least_1 ⟨Nat.le_of_ble_eq_true rfl, Nat.le_of_ble_eq_true rfl⟩ (fun r2 u1 H1 locs1 h3 hku1 hP1 hD1 hS1 => ?_)
  obtain ⟨hrh3, rfl⟩ := h3
  obtain ⟨hP, hD⟩ := z_join (wr := [(x, .inr (11, [.ref st, .ref dr, .ref nw, .ref kp, .ref rd, .ref tm, .ref co])), (nw, .inr (10, [.ref rO, .ref sT, .ref mA, .ref sB, .ref sA, .ref tH, .ref tF, .ref tS, .int 0, .int 0, .int (-1), .int 0, .int 0])), (sT, .inr (4, [.ref cO, .ref sH, .int 0])), (co, .inl (cI, 300, .inl (fun _ => 0)))]) Z hS hP hD [] [0, 1, 2, 3] rfl (by decide) rfl (by decide) (by decide) hku1 hP1 hD1
  have hS := hS1
  clear hS1
  generalize H1 = H at hP hS ⊢
  generalize locs1 = locs at hS ⊢
  have hP : va_P D vwCl ([(x, .inr (11, [.ref st, .ref dr, .ref nw, .ref kp, .ref rd, .ref tm, .ref co])), (nw, .inr (10, [.ref rO, .ref sT, .ref mA, .ref sB, .ref sA, .ref tH, .ref tF, .ref tS, .int 0, .int 0, .int (-1), .int 0, .int 0])), (sT, .inr (4, [.ref cO, .ref sH, .int 0])), (co, .inl (cI, 300, .inl (fun _ => 0)))]) H := hP
  have hD : va_D A ([(x, .inr (11, [.ref st, .ref dr, .ref nw, .ref kp, .ref rd, .ref tm, .ref co])), (nw, .inr (10, [.ref rO, .ref sT, .ref mA, .ref sB, .ref sA, .ref tH, .ref tF, .ref tS, .int 0, .int 0, .int (-1), .int 0, .int 0])), (sT, .inr (4, [.ref cO, .ref sH, .int 0])), (co, .inl (cI, 300, .inl (fun _ => 0)))]) := hD
  by_cases c4 : 0 ≤ p0 ∧ p0 < 300
  · obtain rfl : r2 = 1 := by rw [hrh3, if_pos c4]
    refine lv_if_eq (tgt := 14) hx hb dX11_least_4 (by decide) (fun h => absurd h (by decide)) (fun c5 => ?_)
    refine lv_iload_n hx hb dX11_least_7 rfl (lv_at hl 2 rfl) ?_
    have hPc := hP.sub2 (wc := []) [] rfl
    have hDc := hD.sub (ws' := []) [] (by decide) rfl
    refine raw_Si (nA := 1) (As := [.int p1]) (rest := []) Z hl.1 (c_X11_isPlace l D cI cM cT p1) (bw_S bw_494 bw_495 bw_80 bw_496) ⟨by decide +kernel, by decide +kernel, by decide +kernel⟩ rfl ⟨Nat.le_of_ble_eq_true rfl, Nat.le_of_ble_eq_true rfl⟩ hPc hDc hS rfl (Nat.le_of_ble_eq_true rfl) dX11_least_8 ⟨Nat.le_of_ble_eq_true rfl, Nat.le_of_ble_eq_true rfl⟩ (fun r7 u6 H1 locs1 h8 hku6 hP1 hD1 hS1 => ?_)
    obtain ⟨hrh8, rfl⟩ := h8
    obtain ⟨hP, hD⟩ := z_join (wr := [(x, .inr (11, [.ref st, .ref dr, .ref nw, .ref kp, .ref rd, .ref tm, .ref co])), (nw, .inr (10, [.ref rO, .ref sT, .ref mA, .ref sB, .ref sA, .ref tH, .ref tF, .ref tS, .int 0, .int 0, .int (-1), .int 0, .int 0])), (sT, .inr (4, [.ref cO, .ref sH, .int 0])), (co, .inl (cI, 300, .inl (fun _ => 0)))]) Z hS hP hD [] [0, 1, 2, 3] rfl (by decide) rfl (by decide) (by decide) hku6 hP1 hD1
    have hS := hS1
    clear hS1
    generalize H1 = H at hP hS ⊢
    generalize locs1 = locs at hS ⊢
    have hP : va_P D vwCl ([(x, .inr (11, [.ref st, .ref dr, .ref nw, .ref kp, .ref rd, .ref tm, .ref co])), (nw, .inr (10, [.ref rO, .ref sT, .ref mA, .ref sB, .ref sA, .ref tH, .ref tF, .ref tS, .int 0, .int 0, .int (-1), .int 0, .int 0])), (sT, .inr (4, [.ref cO, .ref sH, .int 0])), (co, .inl (cI, 300, .inl (fun _ => 0)))]) H := hP
    have hD : va_D A ([(x, .inr (11, [.ref st, .ref dr, .ref nw, .ref kp, .ref rd, .ref tm, .ref co])), (nw, .inr (10, [.ref rO, .ref sT, .ref mA, .ref sB, .ref sA, .ref tH, .ref tF, .ref tS, .int 0, .int 0, .int (-1), .int 0, .int 0])), (sT, .inr (4, [.ref cO, .ref sH, .int 0])), (co, .inl (cI, 300, .inl (fun _ => 0)))]) := hD
    by_cases c9 : 0 ≤ p1 ∧ p1 < 300
    · obtain rfl : r7 = 1 := by rw [hrh8, if_pos c9]
      refine lv_if_ne (tgt := 16) hx hb dX11_least_11 (by decide) (fun c10 => ?_) (fun h => absurd h (by decide))
      refine lv_aload_n hx hb dX11_least_16 rfl (lv_at hl 0 rfl) ?_
      refine z_get Z i_X11 hP 0 rfl rfl 6 (by decide) bw_474 rfl dX11_least_17 ?_
      refine lv_ldc (v := 2000000000) hx hb Z.2.2.2.1 (Z.2.2.2.2.1 _ bw_926) dX11_least_20 ?_
      have hPc := hP.sub2 (wc := [(co, .inl (cI, 300, .inl (fun _ => 0)))]) [3] rfl
      have hDc := hD.sub (ws' := [(co, .inl (cI, 300, .inl (fun _ => 0)))]) [3] (by decide) rfl
      refine raw_Sv (nA := 2) (As := [.ref co, .int 2000000000]) (rest := []) Z hl.1 (c_J7_fill_53178 l D cI cM cT co 300 (fun _ => 0) 2000000000 (by omega)) (bw_S bw_927 bw_560 bw_94 bw_561) ⟨by decide +kernel, by decide +kernel, by decide +kernel⟩ rfl ⟨Nat.le_of_ble_eq_true rfl, Nat.le_of_ble_eq_true rfl⟩ hPc hDc hS rfl (Nat.le_of_ble_eq_true rfl) dX11_least_22 ⟨Nat.le_of_ble_eq_true rfl, Nat.le_of_ble_eq_true rfl⟩ (fun u11 H1 locs1 h13 hku11 hP1 hD1 hS1 => ?_)
      obtain ⟨g_14, rfl, huh13_0⟩ := h13
      obtain ⟨hP, hD⟩ := z_join (wr := [(x, .inr (11, [.ref st, .ref dr, .ref nw, .ref kp, .ref rd, .ref tm, .ref co])), (nw, .inr (10, [.ref rO, .ref sT, .ref mA, .ref sB, .ref sA, .ref tH, .ref tF, .ref tS, .int 0, .int 0, .int (-1), .int 0, .int 0])), (sT, .inr (4, [.ref cO, .ref sH, .int 0]))]) Z hS hP hD [3] [0, 1, 2] rfl (by decide) rfl (by decide) (by decide) hku11 hP1 hD1
      have hS := hS1
      clear hS1
      generalize H1 = H at hP hS ⊢
      generalize locs1 = locs at hS ⊢
      have hP : va_P D vwCl ([(x, .inr (11, [.ref st, .ref dr, .ref nw, .ref kp, .ref rd, .ref tm, .ref co])), (nw, .inr (10, [.ref rO, .ref sT, .ref mA, .ref sB, .ref sA, .ref tH, .ref tF, .ref tS, .int 0, .int 0, .int (-1), .int 0, .int 0])), (sT, .inr (4, [.ref cO, .ref sH, .int 0])), (co, .inl (cI, 300, .inl g_14))]) H := hP
      have hD : va_D A ([(x, .inr (11, [.ref st, .ref dr, .ref nw, .ref kp, .ref rd, .ref tm, .ref co])), (nw, .inr (10, [.ref rO, .ref sT, .ref mA, .ref sB, .ref sA, .ref tH, .ref tF, .ref tS, .int 0, .int 0, .int (-1), .int 0, .int 0])), (sT, .inr (4, [.ref cO, .ref sH, .int 0])), (co, .inl (cI, 300, .inl g_14))]) := hD
      have hg := huh13_0
      refine lv_aload_n hx hb dX11_least_25 rfl (lv_at hl 0 rfl) ?_
      refine z_get Z i_X11 hP 0 rfl rfl 6 (by decide) bw_474 rfl dX11_least_26 ?_
      refine lv_iload_n hx hb dX11_least_29 rfl (lv_at hl 1 rfl) ?_
      refine lv_iconst (v := 0) hx hb dX11_least_30 (by decide) ?_
      refine z_iast Z hP hD hS 3 0 rfl rfl (vp_in_iff.mpr (by (try simp only [zlt, zle, zeq, zl_0, zl_1, zl_2, zl_3, zl_4, zl_5, zl_6, zl_7, zl_8, zl_9, zl_10, zl_11, zl_12, zl_13, zl_19, zl_20, zl_30, zl_64, zl_99, zl_100, zl_299, zl_300, zl_399, zl_999, zl_9999, zl_m1, zl_m2, zl_m3, zl_32, zl_280] at c4 c5 c9 c10 ⊢); omega)) dX11_least_31 (fun H locs hP hD hS => ?_)
      obtain ⟨f9, hf9⟩ : ∃ f9, f9 = upd g_14 (p0 : Int32).toNatClampNeg 0 := ⟨_, rfl⟩
      rw [← hf9] at hP hD
      have hP : va_P D vwCl ([(x, .inr (11, [.ref st, .ref dr, .ref nw, .ref kp, .ref rd, .ref tm, .ref co])), (nw, .inr (10, [.ref rO, .ref sT, .ref mA, .ref sB, .ref sA, .ref tH, .ref tF, .ref tS, .int 0, .int 0, .int (-1), .int 0, .int 0])), (sT, .inr (4, [.ref cO, .ref sH, .int 0])), (co, .inl (cI, 300, .inl f9))]) H := hP
      have hD : va_D A ([(x, .inr (11, [.ref st, .ref dr, .ref nw, .ref kp, .ref rd, .ref tm, .ref co])), (nw, .inr (10, [.ref rO, .ref sT, .ref mA, .ref sB, .ref sA, .ref tH, .ref tF, .ref tS, .int 0, .int 0, .int (-1), .int 0, .int 0])), (sT, .inr (4, [.ref cO, .ref sH, .int 0])), (co, .inl (cI, 300, .inl f9))]) := hD
      have hfa : ∀ j, j < 300 → j ≠ (p0 : Int32).toNatClampNeg → f9 j = 2000000000 := fun j h1 h2 => by rw [hf9, pk_un h2]; exact hg j h1
      have hfb : f9 (p0 : Int32).toNatClampNeg = 0 := by rw [hf9, pk_us]
      refine lv_iload_n hx hb dX11_least_32 rfl (lv_at hl 1 rfl) ?_
      refine lv_istore (lv' := [(4, .int p0), (0, .ref x), (1, .int p0), (2, .int p1), (3, .int p2)]) hx hb dX11_least_33 hl (by decide) rfl (fun ls hl => ?_)
      refine W.widen (k := 0) (n := 0) (Nat.le_of_ble_eq_true rfl) (Nat.le_of_ble_eq_true rfl) ?_
      exact lp_X11_least l D cI cM cT x st dr nw kp rd tm co rO sT mA sB sA tH tF tS cO sH p0 p1 p2 Z  f9 hfa hfb (by (try simp only [zlt, zle, zeq, zl_0, zl_1, zl_2, zl_3, zl_4, zl_5, zl_6, zl_7, zl_8, zl_9, zl_10, zl_11, zl_12, zl_13, zl_19, zl_20, zl_30, zl_64, zl_99, zl_100, zl_299, zl_300, zl_399, zl_999, zl_9999, zl_m1, zl_m2, zl_m3, zl_32, zl_280] at c4 c5 c9 c10 ⊢); omega) _ p0 (by (try simp only [zlt, zle, zeq, zl_0, zl_1, zl_2, zl_3, zl_4, zl_5, zl_6, zl_7, zl_8, zl_9, zl_10, zl_11, zl_12, zl_13, zl_19, zl_20, zl_30, zl_64, zl_99, zl_100, zl_299, zl_300, zl_399, zl_999, zl_9999, zl_m1, zl_m2, zl_m3, zl_32, zl_280] at c4 c5 c9 c10 ⊢); omega) (by (try simp only [zlt, zle, zeq, zl_0, zl_1, zl_2, zl_3, zl_4, zl_5, zl_6, zl_7, zl_8, zl_9, zl_10, zl_11, zl_12, zl_13, zl_19, zl_20, zl_30, zl_64, zl_99, zl_100, zl_299, zl_300, zl_399, zl_999, zl_9999, zl_m1, zl_m2, zl_m3, zl_32, zl_280] at c4 c5 c9 c10 ⊢); omega) (Nat.lt_succ_self _) _ _ _ hP hD hS (lv_sub hl [1, 2, 3, 4, 0] rfl)
    · obtain rfl : r7 = 0 := by rw [hrh8, if_neg c9]
      refine lv_if_ne (tgt := 16) hx hb dX11_least_11 (by decide) (fun h => absurd (by decide) h) (fun c15 => ?_)
      refine lv_iconst (v := (-1)) hx hb dX11_least_14 (by decide) ?_
      exact z_ret Z rfl hP hD hS ((by first | rfl | assumption | (rw [if_pos (by (try simp only [zlt, zle, zeq, zl_0, zl_1, zl_2, zl_3, zl_4, zl_5, zl_6, zl_7, zl_8, zl_9, zl_10, zl_11, zl_12, zl_13, zl_19, zl_20, zl_30, zl_64, zl_99, zl_100, zl_299, zl_300, zl_399, zl_999, zl_9999, zl_m1, zl_m2, zl_m3, zl_32, zl_280] at c4 c5 c9 c15 ⊢); omega)]; first | done | ((try simp only [zlt, zle, zeq, zl_0, zl_1, zl_2, zl_3, zl_4, zl_5, zl_6, zl_7, zl_8, zl_9, zl_10, zl_11, zl_12, zl_13, zl_19, zl_20, zl_30, zl_64, zl_99, zl_100, zl_299, zl_300, zl_399, zl_999, zl_9999, zl_m1, zl_m2, zl_m3, zl_32, zl_280] at c4 c5 c9 c15 ⊢); omega)) | (rw [if_neg (by (try simp only [zlt, zle, zeq, zl_0, zl_1, zl_2, zl_3, zl_4, zl_5, zl_6, zl_7, zl_8, zl_9, zl_10, zl_11, zl_12, zl_13, zl_19, zl_20, zl_30, zl_64, zl_99, zl_100, zl_299, zl_300, zl_399, zl_999, zl_9999, zl_m1, zl_m2, zl_m3, zl_32, zl_280] at c4 c5 c9 c15 ⊢); omega)]; first | done | ((try simp only [zlt, zle, zeq, zl_0, zl_1, zl_2, zl_3, zl_4, zl_5, zl_6, zl_7, zl_8, zl_9, zl_10, zl_11, zl_12, zl_13, zl_19, zl_20, zl_30, zl_64, zl_99, zl_100, zl_299, zl_300, zl_399, zl_999, zl_9999, zl_m1, zl_m2, zl_m3, zl_32, zl_280] at c4 c5 c9 c15 ⊢); omega)))) dX11_least_15 (Nat.le_of_ble_eq_true rfl) (Nat.le_of_ble_eq_true rfl)
  · obtain rfl : r2 = 0 := by rw [hrh3, if_neg c4]
    refine lv_if_eq (tgt := 14) hx hb dX11_least_4 (by decide) (fun c16 => ?_) (fun h => absurd (by decide) h)
    refine lv_iconst (v := (-1)) hx hb dX11_least_14 (by decide) ?_
    exact z_ret Z rfl hP hD hS ((by first | rfl | assumption | (rw [if_pos (by (try simp only [zlt, zle, zeq, zl_0, zl_1, zl_2, zl_3, zl_4, zl_5, zl_6, zl_7, zl_8, zl_9, zl_10, zl_11, zl_12, zl_13, zl_19, zl_20, zl_30, zl_64, zl_99, zl_100, zl_299, zl_300, zl_399, zl_999, zl_9999, zl_m1, zl_m2, zl_m3, zl_32, zl_280] at c4 c16 ⊢); omega)]; first | done | ((try simp only [zlt, zle, zeq, zl_0, zl_1, zl_2, zl_3, zl_4, zl_5, zl_6, zl_7, zl_8, zl_9, zl_10, zl_11, zl_12, zl_13, zl_19, zl_20, zl_30, zl_64, zl_99, zl_100, zl_299, zl_300, zl_399, zl_999, zl_9999, zl_m1, zl_m2, zl_m3, zl_32, zl_280] at c4 c16 ⊢); omega)) | (rw [if_neg (by (try simp only [zlt, zle, zeq, zl_0, zl_1, zl_2, zl_3, zl_4, zl_5, zl_6, zl_7, zl_8, zl_9, zl_10, zl_11, zl_12, zl_13, zl_19, zl_20, zl_30, zl_64, zl_99, zl_100, zl_299, zl_300, zl_399, zl_999, zl_9999, zl_m1, zl_m2, zl_m3, zl_32, zl_280] at c4 c16 ⊢); omega)]; first | done | ((try simp only [zlt, zle, zeq, zl_0, zl_1, zl_2, zl_3, zl_4, zl_5, zl_6, zl_7, zl_8, zl_9, zl_10, zl_11, zl_12, zl_13, zl_19, zl_20, zl_30, zl_64, zl_99, zl_100, zl_299, zl_300, zl_399, zl_999, zl_9999, zl_m1, zl_m2, zl_m3, zl_32, zl_280] at c4 c16 ⊢); omega)))) dX11_least_15 (Nat.le_of_ble_eq_true rfl) (Nat.le_of_ble_eq_true rfl)
end
