section
-- ===== PART A: goes FIRST, ahead of the names: the tables' words, and 'selects' of the private methods out of them =====
/-- a private method of a class that the tables say can be made, by its rows of tables_1 -/
def lw_okq (q : MethodName × Nat) : Prop := (q.1.cls ≠ "java/lang/invoke/MethodHandle" ∧ q.1.cls ≠ "java/lang/invoke/VarHandle") ∧ Cond.instantiable q.1.cls q.2 ∈ tables_1 ∧ Cond.privateMethod q.1 ∈ tables_1 ∧ Cond.instanceMethod q.1 ∈ tables_1
theorem lw_p0 : lw_okq (⟨"LeadFaults$Timeline", "gatherGrid", "([LLeadFaults$Part;I)V"⟩, 3) := ⟨⟨by decide +kernel, by decide +kernel⟩, List.mem_of_getElem? (i := 65) (by decide +kernel), List.mem_of_getElem? (i := 244) (by decide +kernel), List.mem_of_getElem? (i := 245) (by decide +kernel)⟩
theorem lw_p1 : lw_okq (⟨"LeadFaults$Timeline", "gatherEvents", "([LLeadFaults$Part;)V"⟩, 3) := ⟨⟨by decide +kernel, by decide +kernel⟩, List.mem_of_getElem? (i := 65) (by decide +kernel), List.mem_of_getElem? (i := 253) (by decide +kernel), List.mem_of_getElem? (i := 254) (by decide +kernel)⟩
theorem lw_p2 : lw_okq (⟨"LeadFaults$Timeline", "earliestHead", "([LLeadFaults$Part;)I"⟩, 3) := ⟨⟨by decide +kernel, by decide +kernel⟩, List.mem_of_getElem? (i := 65) (by decide +kernel), List.mem_of_getElem? (i := 258) (by decide +kernel), List.mem_of_getElem? (i := 259) (by decide +kernel)⟩
theorem lw_p3 : lw_okq (⟨"LeadFaults$Timeline", "passHeads", "([LLeadFaults$Part;I)V"⟩, 3) := ⟨⟨by decide +kernel, by decide +kernel⟩, List.mem_of_getElem? (i := 65) (by decide +kernel), List.mem_of_getElem? (i := 263) (by decide +kernel), List.mem_of_getElem? (i := 264) (by decide +kernel)⟩
theorem lw_p4 : lw_okq (⟨"LeadFaults", "isVoice", "(I)Z"⟩, 9) := ⟨⟨by decide +kernel, by decide +kernel⟩, List.mem_of_getElem? (i := 14) (by decide +kernel), List.mem_of_getElem? (i := 271) (by decide +kernel), List.mem_of_getElem? (i := 272) (by decide +kernel)⟩
theorem lw_p5 : lw_okq (⟨"LeadFaults", "append", "(IIII)I"⟩, 9) := ⟨⟨by decide +kernel, by decide +kernel⟩, List.mem_of_getElem? (i := 14) (by decide +kernel), List.mem_of_getElem? (i := 281) (by decide +kernel), List.mem_of_getElem? (i := 282) (by decide +kernel)⟩
theorem lw_p6 : lw_okq (⟨"LeadFaults$Judging", "lookAtMoment", "([LLeadFaults$Part;)V"⟩, 8) := ⟨⟨by decide +kernel, by decide +kernel⟩, List.mem_of_getElem? (i := 107) (by decide +kernel), List.mem_of_getElem? (i := 409) (by decide +kernel), List.mem_of_getElem? (i := 410) (by decide +kernel)⟩
theorem lw_p7 : lw_okq (⟨"LeadFaults$Judging", "goes", "(I)Z"⟩, 8) := ⟨⟨by decide +kernel, by decide +kernel⟩, List.mem_of_getElem? (i := 107) (by decide +kernel), List.mem_of_getElem? (i := 413) (by decide +kernel), List.mem_of_getElem? (i := 414) (by decide +kernel)⟩
theorem lw_p8 : lw_okq (⟨"LeadFaults$Judging", "moves", "(I)Z"⟩, 8) := ⟨⟨by decide +kernel, by decide +kernel⟩, List.mem_of_getElem? (i := 107) (by decide +kernel), List.mem_of_getElem? (i := 417) (by decide +kernel), List.mem_of_getElem? (i := 418) (by decide +kernel)⟩
theorem lw_p9 : lw_okq (⟨"LeadFaults$Judging", "alone", "(IIZ)V"⟩, 8) := ⟨⟨by decide +kernel, by decide +kernel⟩, List.mem_of_getElem? (i := 107) (by decide +kernel), List.mem_of_getElem? (i := 422) (by decide +kernel), List.mem_of_getElem? (i := 423) (by decide +kernel)⟩
theorem lw_p10 : lw_okq (⟨"LeadFaults$Judging", "between", "(IIIZ)V"⟩, 8) := ⟨⟨by decide +kernel, by decide +kernel⟩, List.mem_of_getElem? (i := 107) (by decide +kernel), List.mem_of_getElem? (i := 426) (by decide +kernel), List.mem_of_getElem? (i := 427) (by decide +kernel)⟩
theorem lw_p11 : lw_okq (⟨"LeadFaults$Judging", "lookAtInterval", "(II)V"⟩, 8) := ⟨⟨by decide +kernel, by decide +kernel⟩, List.mem_of_getElem? (i := 107) (by decide +kernel), List.mem_of_getElem? (i := 436) (by decide +kernel), List.mem_of_getElem? (i := 437) (by decide +kernel)⟩
theorem lw_p12 : lw_okq (⟨"LeadFaults$Judging", "leads", "(LLeadFaults$Chord;I)Z"⟩, 8) := ⟨⟨by decide +kernel, by decide +kernel⟩, List.mem_of_getElem? (i := 107) (by decide +kernel), List.mem_of_getElem? (i := 444) (by decide +kernel), List.mem_of_getElem? (i := 445) (by decide +kernel)⟩
theorem lw_p13 : lw_okq (⟨"LeadFaults$Judging", "lookAtPair", "()V"⟩, 8) := ⟨⟨by decide +kernel, by decide +kernel⟩, List.mem_of_getElem? (i := 107) (by decide +kernel), List.mem_of_getElem? (i := 456) (by decide +kernel), List.mem_of_getElem? (i := 457) (by decide +kernel)⟩
theorem lw_p14 : lw_okq (⟨"LeadFaults$Judging", "lookAtMove", "(I)V"⟩, 8) := ⟨⟨by decide +kernel, by decide +kernel⟩, List.mem_of_getElem? (i := 107) (by decide +kernel), List.mem_of_getElem? (i := 460) (by decide +kernel), List.mem_of_getElem? (i := 461) (by decide +kernel)⟩
theorem lw_p15 : lw_okq (⟨"LeadFaults$Judging", "lookAtTwo", "(II)V"⟩, 8) := ⟨⟨by decide +kernel, by decide +kernel⟩, List.mem_of_getElem? (i := 107) (by decide +kernel), List.mem_of_getElem? (i := 475) (by decide +kernel), List.mem_of_getElem? (i := 476) (by decide +kernel)⟩
def lw_privs_1 : List (MethodName × Nat) := [(⟨"LeadFaults$Timeline", "gatherGrid", "([LLeadFaults$Part;I)V"⟩, 3), (⟨"LeadFaults$Timeline", "gatherEvents", "([LLeadFaults$Part;)V"⟩, 3), (⟨"LeadFaults$Timeline", "earliestHead", "([LLeadFaults$Part;)I"⟩, 3), (⟨"LeadFaults$Timeline", "passHeads", "([LLeadFaults$Part;I)V"⟩, 3), (⟨"LeadFaults", "isVoice", "(I)Z"⟩, 9), (⟨"LeadFaults", "append", "(IIII)I"⟩, 9), (⟨"LeadFaults$Judging", "lookAtMoment", "([LLeadFaults$Part;)V"⟩, 8), (⟨"LeadFaults$Judging", "goes", "(I)Z"⟩, 8), (⟨"LeadFaults$Judging", "moves", "(I)Z"⟩, 8), (⟨"LeadFaults$Judging", "alone", "(IIZ)V"⟩, 8), (⟨"LeadFaults$Judging", "between", "(IIIZ)V"⟩, 8), (⟨"LeadFaults$Judging", "lookAtInterval", "(II)V"⟩, 8), (⟨"LeadFaults$Judging", "leads", "(LLeadFaults$Chord;I)Z"⟩, 8), (⟨"LeadFaults$Judging", "lookAtPair", "()V"⟩, 8), (⟨"LeadFaults$Judging", "lookAtMove", "(I)V"⟩, 8), (⟨"LeadFaults$Judging", "lookAtTwo", "(II)V"⟩, 8)]
theorem lw_r1 : ∀ q ∈ lw_privs_1, lw_okq q := List.forall_mem_cons.mpr ⟨lw_p0, List.forall_mem_cons.mpr ⟨lw_p1, List.forall_mem_cons.mpr ⟨lw_p2, List.forall_mem_cons.mpr ⟨lw_p3, List.forall_mem_cons.mpr ⟨lw_p4, List.forall_mem_cons.mpr ⟨lw_p5, List.forall_mem_cons.mpr ⟨lw_p6, List.forall_mem_cons.mpr ⟨lw_p7, List.forall_mem_cons.mpr ⟨lw_p8, List.forall_mem_cons.mpr ⟨lw_p9, List.forall_mem_cons.mpr ⟨lw_p10, List.forall_mem_cons.mpr ⟨lw_p11, List.forall_mem_cons.mpr ⟨lw_p12, List.forall_mem_cons.mpr ⟨lw_p13, List.forall_mem_cons.mpr ⟨lw_p14, List.forall_mem_cons.mpr ⟨lw_p15, fun _ h => absurd h List.not_mem_nil⟩⟩⟩⟩⟩⟩⟩⟩⟩⟩⟩⟩⟩⟩⟩⟩
theorem lw_p16 : lw_okq (⟨"LeadFaults$Judging", "way", "(I)I"⟩, 8) := ⟨⟨by decide +kernel, by decide +kernel⟩, List.mem_of_getElem? (i := 107) (by decide +kernel), List.mem_of_getElem? (i := 479) (by decide +kernel), List.mem_of_getElem? (i := 480) (by decide +kernel)⟩
theorem lw_p17 : lw_okq (⟨"LeadFaults$Judging", "isCrossRelation", "(II)Z"⟩, 8) := ⟨⟨by decide +kernel, by decide +kernel⟩, List.mem_of_getElem? (i := 107) (by decide +kernel), List.mem_of_getElem? (i := 498) (by decide +kernel), List.mem_of_getElem? (i := 499) (by decide +kernel)⟩
theorem lw_p18 : lw_okq (⟨"LeadFaults$Findings", "tellOfCell", "(III)I"⟩, 6) := ⟨⟨by decide +kernel, by decide +kernel⟩, List.mem_of_getElem? (i := 113) (by decide +kernel), List.mem_of_getElem? (i := 532) (by decide +kernel), List.mem_of_getElem? (i := 533) (by decide +kernel)⟩
theorem lw_p19 : lw_okq (⟨"LeadFaults", "isMoment", "(I)Z"⟩, 9) := ⟨⟨by decide +kernel, by decide +kernel⟩, List.mem_of_getElem? (i := 14) (by decide +kernel), List.mem_of_getElem? (i := 551) (by decide +kernel), List.mem_of_getElem? (i := 552) (by decide +kernel)⟩
theorem lw_p20 : lw_okq (⟨"LeadFaultsModel", "begin", "()V"⟩, 23) := ⟨⟨by decide +kernel, by decide +kernel⟩, List.mem_of_getElem? (i := 573) (by decide +kernel), List.mem_of_getElem? (i := 579) (by decide +kernel), List.mem_of_getElem? (i := 580) (by decide +kernel)⟩
theorem lw_p21 : lw_okq (⟨"LeadFaultsModel", "isVoice", "(I)Z"⟩, 23) := ⟨⟨by decide +kernel, by decide +kernel⟩, List.mem_of_getElem? (i := 573) (by decide +kernel), List.mem_of_getElem? (i := 661) (by decide +kernel), List.mem_of_getElem? (i := 662) (by decide +kernel)⟩
theorem lw_p22 : lw_okq (⟨"LeadFaultsModel", "add", "(IIII)I"⟩, 23) := ⟨⟨by decide +kernel, by decide +kernel⟩, List.mem_of_getElem? (i := 573) (by decide +kernel), List.mem_of_getElem? (i := 668) (by decide +kernel), List.mem_of_getElem? (i := 669) (by decide +kernel)⟩
theorem lw_p23 : lw_okq (⟨"LeadFaultsModel", "heightOf", "(I)I"⟩, 23) := ⟨⟨by decide +kernel, by decide +kernel⟩, List.mem_of_getElem? (i := 573) (by decide +kernel), List.mem_of_getElem? (i := 696) (by decide +kernel), List.mem_of_getElem? (i := 697) (by decide +kernel)⟩
theorem lw_p24 : lw_okq (⟨"LeadFaultsModel", "learn", "()V"⟩, 23) := ⟨⟨by decide +kernel, by decide +kernel⟩, List.mem_of_getElem? (i := 573) (by decide +kernel), List.mem_of_getElem? (i := 707) (by decide +kernel), List.mem_of_getElem? (i := 708) (by decide +kernel)⟩
theorem lw_p25 : lw_okq (⟨"LeadFaultsModel", "isExcepted", "(II)Z"⟩, 23) := ⟨⟨by decide +kernel, by decide +kernel⟩, List.mem_of_getElem? (i := 573) (by decide +kernel), List.mem_of_getElem? (i := 719) (by decide +kernel), List.mem_of_getElem? (i := 720) (by decide +kernel)⟩
theorem lw_p26 : lw_okq (⟨"LeadFaultsModel", "isAbout", "(III)Z"⟩, 23) := ⟨⟨by decide +kernel, by decide +kernel⟩, List.mem_of_getElem? (i := 573) (by decide +kernel), List.mem_of_getElem? (i := 727) (by decide +kernel), List.mem_of_getElem? (i := 728) (by decide +kernel)⟩
theorem lw_p27 : lw_okq (⟨"LeadFaultsModel", "isBroken", "(IIII)Z"⟩, 23) := ⟨⟨by decide +kernel, by decide +kernel⟩, List.mem_of_getElem? (i := 573) (by decide +kernel), List.mem_of_getElem? (i := 731) (by decide +kernel), List.mem_of_getElem? (i := 732) (by decide +kernel)⟩
theorem lw_p28 : lw_okq (⟨"LeadFaultsModel", "isBrokenAt", "(IIII)Z"⟩, 23) := ⟨⟨by decide +kernel, by decide +kernel⟩, List.mem_of_getElem? (i := 573) (by decide +kernel), List.mem_of_getElem? (i := 738) (by decide +kernel), List.mem_of_getElem? (i := 739) (by decide +kernel)⟩
theorem lw_p29 : lw_okq (⟨"LeadFaultsModel", "at", "(II)I"⟩, 23) := ⟨⟨by decide +kernel, by decide +kernel⟩, List.mem_of_getElem? (i := 573) (by decide +kernel), List.mem_of_getElem? (i := 742) (by decide +kernel), List.mem_of_getElem? (i := 743) (by decide +kernel)⟩
theorem lw_p30 : lw_okq (⟨"LeadFaultsModel", "betweenHeights", "(III)I"⟩, 23) := ⟨⟨by decide +kernel, by decide +kernel⟩, List.mem_of_getElem? (i := 573) (by decide +kernel), List.mem_of_getElem? (i := 746) (by decide +kernel), List.mem_of_getElem? (i := 747) (by decide +kernel)⟩
theorem lw_p31 : lw_okq (⟨"LeadFaultsModel", "isLeading", "(I)Z"⟩, 23) := ⟨⟨by decide +kernel, by decide +kernel⟩, List.mem_of_getElem? (i := 573) (by decide +kernel), List.mem_of_getElem? (i := 750) (by decide +kernel), List.mem_of_getElem? (i := 751) (by decide +kernel)⟩
def lw_privs_2 : List (MethodName × Nat) := [(⟨"LeadFaults$Judging", "way", "(I)I"⟩, 8), (⟨"LeadFaults$Judging", "isCrossRelation", "(II)Z"⟩, 8), (⟨"LeadFaults$Findings", "tellOfCell", "(III)I"⟩, 6), (⟨"LeadFaults", "isMoment", "(I)Z"⟩, 9), (⟨"LeadFaultsModel", "begin", "()V"⟩, 23), (⟨"LeadFaultsModel", "isVoice", "(I)Z"⟩, 23), (⟨"LeadFaultsModel", "add", "(IIII)I"⟩, 23), (⟨"LeadFaultsModel", "heightOf", "(I)I"⟩, 23), (⟨"LeadFaultsModel", "learn", "()V"⟩, 23), (⟨"LeadFaultsModel", "isExcepted", "(II)Z"⟩, 23), (⟨"LeadFaultsModel", "isAbout", "(III)Z"⟩, 23), (⟨"LeadFaultsModel", "isBroken", "(IIII)Z"⟩, 23), (⟨"LeadFaultsModel", "isBrokenAt", "(IIII)Z"⟩, 23), (⟨"LeadFaultsModel", "at", "(II)I"⟩, 23), (⟨"LeadFaultsModel", "betweenHeights", "(III)I"⟩, 23), (⟨"LeadFaultsModel", "isLeading", "(I)Z"⟩, 23)]
theorem lw_r2 : ∀ q ∈ lw_privs_2, lw_okq q := List.forall_mem_cons.mpr ⟨lw_p16, List.forall_mem_cons.mpr ⟨lw_p17, List.forall_mem_cons.mpr ⟨lw_p18, List.forall_mem_cons.mpr ⟨lw_p19, List.forall_mem_cons.mpr ⟨lw_p20, List.forall_mem_cons.mpr ⟨lw_p21, List.forall_mem_cons.mpr ⟨lw_p22, List.forall_mem_cons.mpr ⟨lw_p23, List.forall_mem_cons.mpr ⟨lw_p24, List.forall_mem_cons.mpr ⟨lw_p25, List.forall_mem_cons.mpr ⟨lw_p26, List.forall_mem_cons.mpr ⟨lw_p27, List.forall_mem_cons.mpr ⟨lw_p28, List.forall_mem_cons.mpr ⟨lw_p29, List.forall_mem_cons.mpr ⟨lw_p30, List.forall_mem_cons.mpr ⟨lw_p31, fun _ h => absurd h List.not_mem_nil⟩⟩⟩⟩⟩⟩⟩⟩⟩⟩⟩⟩⟩⟩⟩⟩
theorem lw_p32 : lw_okq (⟨"LeadFaultsModel", "isPairBroken", "(IIIII)Z"⟩, 23) := ⟨⟨by decide +kernel, by decide +kernel⟩, List.mem_of_getElem? (i := 573) (by decide +kernel), List.mem_of_getElem? (i := 757) (by decide +kernel), List.mem_of_getElem? (i := 758) (by decide +kernel)⟩
theorem lw_p33 : lw_okq (⟨"LeadFaultsModel", "goAlike", "(IIII)Z"⟩, 23) := ⟨⟨by decide +kernel, by decide +kernel⟩, List.mem_of_getElem? (i := 573) (by decide +kernel), List.mem_of_getElem? (i := 761) (by decide +kernel), List.mem_of_getElem? (i := 762) (by decide +kernel)⟩
theorem lw_p34 : lw_okq (⟨"LeadFaultsModel", "way", "(III)I"⟩, 23) := ⟨⟨by decide +kernel, by decide +kernel⟩, List.mem_of_getElem? (i := 573) (by decide +kernel), List.mem_of_getElem? (i := 765) (by decide +kernel), List.mem_of_getElem? (i := 766) (by decide +kernel)⟩
theorem lw_p35 : lw_okq (⟨"LeadFaultsModel", "moves", "(III)Z"⟩, 23) := ⟨⟨by decide +kernel, by decide +kernel⟩, List.mem_of_getElem? (i := 573) (by decide +kernel), List.mem_of_getElem? (i := 769) (by decide +kernel), List.mem_of_getElem? (i := 770) (by decide +kernel)⟩
theorem lw_p36 : lw_okq (⟨"LeadFaultsModel", "goes", "(III)Z"⟩, 23) := ⟨⟨by decide +kernel, by decide +kernel⟩, List.mem_of_getElem? (i := 573) (by decide +kernel), List.mem_of_getElem? (i := 773) (by decide +kernel), List.mem_of_getElem? (i := 774) (by decide +kernel)⟩
theorem lw_p37 : lw_okq (⟨"LeadFaultsModel", "which", "(III)I"⟩, 23) := ⟨⟨by decide +kernel, by decide +kernel⟩, List.mem_of_getElem? (i := 573) (by decide +kernel), List.mem_of_getElem? (i := 777) (by decide +kernel), List.mem_of_getElem? (i := 778) (by decide +kernel)⟩
theorem lw_p38 : lw_okq (⟨"LeadFaultsModel", "isPure", "(I)Z"⟩, 23) := ⟨⟨by decide +kernel, by decide +kernel⟩, List.mem_of_getElem? (i := 573) (by decide +kernel), List.mem_of_getElem? (i := 781) (by decide +kernel), List.mem_of_getElem? (i := 782) (by decide +kernel)⟩
theorem lw_p39 : lw_okq (⟨"LeadFaultsModel", "leaps", "(III)Z"⟩, 23) := ⟨⟨by decide +kernel, by decide +kernel⟩, List.mem_of_getElem? (i := 573) (by decide +kernel), List.mem_of_getElem? (i := 785) (by decide +kernel), List.mem_of_getElem? (i := 786) (by decide +kernel)⟩
theorem lw_p40 : lw_okq (⟨"LeadFaultsModel", "crosses", "(IIII)Z"⟩, 23) := ⟨⟨by decide +kernel, by decide +kernel⟩, List.mem_of_getElem? (i := 573) (by decide +kernel), List.mem_of_getElem? (i := 789) (by decide +kernel), List.mem_of_getElem? (i := 790) (by decide +kernel)⟩
def lw_privs_3 : List (MethodName × Nat) := [(⟨"LeadFaultsModel", "isPairBroken", "(IIIII)Z"⟩, 23), (⟨"LeadFaultsModel", "goAlike", "(IIII)Z"⟩, 23), (⟨"LeadFaultsModel", "way", "(III)I"⟩, 23), (⟨"LeadFaultsModel", "moves", "(III)Z"⟩, 23), (⟨"LeadFaultsModel", "goes", "(III)Z"⟩, 23), (⟨"LeadFaultsModel", "which", "(III)I"⟩, 23), (⟨"LeadFaultsModel", "isPure", "(I)Z"⟩, 23), (⟨"LeadFaultsModel", "leaps", "(III)Z"⟩, 23), (⟨"LeadFaultsModel", "crosses", "(IIII)Z"⟩, 23)]
theorem lw_r3 : ∀ q ∈ lw_privs_3, lw_okq q := List.forall_mem_cons.mpr ⟨lw_p32, List.forall_mem_cons.mpr ⟨lw_p33, List.forall_mem_cons.mpr ⟨lw_p34, List.forall_mem_cons.mpr ⟨lw_p35, List.forall_mem_cons.mpr ⟨lw_p36, List.forall_mem_cons.mpr ⟨lw_p37, List.forall_mem_cons.mpr ⟨lw_p38, List.forall_mem_cons.mpr ⟨lw_p39, List.forall_mem_cons.mpr ⟨lw_p40, fun _ h => absurd h List.not_mem_nil⟩⟩⟩⟩⟩⟩⟩⟩⟩
def lw_privs : List (MethodName × Nat) := lw_privs_1 ++ (lw_privs_2 ++ (lw_privs_3))
def lw_tbl : List Cond := k2_sels lw_privs ++ tables_1
theorem lw_privs_ok : ∀ q ∈ lw_privs, lw_okq q := by
  show ∀ q ∈ lw_privs_1 ++ (lw_privs_2 ++ (lw_privs_3)), lw_okq q
  exact List.forall_mem_append.mpr ⟨lw_r1, List.forall_mem_append.mpr ⟨lw_r2, lw_r3⟩⟩
end
section
def RX0 : String := "LeadFaults$Chord"
def RX1 : String := "LeadFaults$Entries"
def RX2 : String := "LeadFaults$Findings"
def RX3 : String := "LeadFaults$Judging"
def RX4 : String := "LeadFaults$Part"
def RX5 : String := "LeadFaults$Timeline"
def RX6 : String := "LeadFaults"
def RX7 : String := "LeadFaultsModel"
def RJ6 : String := "java/lang/Integer"
def RJ9 : String := "java/lang/Math"
def RJ7 : String := "java/util/Arrays"
def RJ10 : String := "java/lang/System"
def RL : String := "LeadFaultsLaw"
def TX0 : u_T := fun k => match k with
  | 0 => ("LeadFaults$Chord", "sounds", "[Z", true)
  | 1 => ("LeadFaults$Chord", "steps", "[I", true)
  | 2 => ("LeadFaults$Chord", "sharps", "[I", true)
  | _ => ("LeadFaults$Chord", "heights", "[I", true)
def tyX0 : Nat → FieldType := fun k => match k with
  | 0 => .array .boolean
  | 1 => .array .int
  | 2 => .array .int
  | _ => .array .int
def TX1 : u_T := fun k => match k with
  | 0 => ("LeadFaults$Entries", "firsts", "[I", true)
  | 1 => ("LeadFaults$Entries", "seconds", "[I", true)
  | _ => ("LeadFaults$Entries", "size", "I", false)
def tyX1 : Nat → FieldType := fun k => match k with
  | 0 => .array .int
  | 1 => .array .int
  | _ => .int
def TX2 : u_T := fun k => match k with
  | 0 => ("LeadFaults$Findings", "marks", "[I", true)
  | 1 => ("LeadFaults$Findings", "times", "[I", true)
  | 2 => ("LeadFaults$Findings", "moments", "I", false)
  | 3 => ("LeadFaults$Findings", "toldOfKind", "[I", true)
  | 4 => ("LeadFaults$Findings", "told", "I", false)
  | _ => ("LeadFaults$Findings", "excepted", "I", false)
def tyX2 : Nat → FieldType := fun k => match k with
  | 0 => .array .int
  | 1 => .array .int
  | 2 => .int
  | 3 => .array .int
  | 4 => .int
  | _ => .int
def TX3 : u_T := fun k => match k with
  | 0 => ("LeadFaults$Judging", "findings", "LLeadFaults$Findings;", true)
  | 1 => ("LeadFaults$Judging", "first", "LLeadFaults$Chord;", false)
  | 2 => ("LeadFaults$Judging", "second", "LLeadFaults$Chord;", false)
  | 3 => ("LeadFaults$Judging", "moment", "I", false)
  | 4 => ("LeadFaults$Judging", "voices", "I", false)
  | 5 => ("LeadFaults$Judging", "ruleBits", "I", false)
  | 6 => ("LeadFaults$Judging", "leadingLetter", "I", false)
  | _ => ("LeadFaults$Judging", "leadingSharpness", "I", false)
def tyX3 : Nat → FieldType := fun k => match k with
  | 0 => .object "LeadFaults$Findings"
  | 1 => .object "LeadFaults$Chord"
  | 2 => .object "LeadFaults$Chord"
  | 3 => .int
  | 4 => .int
  | 5 => .int
  | 6 => .int
  | _ => .int
def TX4 : u_T := fun k => match k with
  | 0 => ("LeadFaults$Part", "times", "[I", true)
  | 1 => ("LeadFaults$Part", "steps", "[I", true)
  | 2 => ("LeadFaults$Part", "sharps", "[I", true)
  | 3 => ("LeadFaults$Part", "size", "I", false)
  | 4 => ("LeadFaults$Part", "low", "I", false)
  | _ => ("LeadFaults$Part", "high", "I", false)
def tyX4 : Nat → FieldType := fun k => match k with
  | 0 => .array .int
  | 1 => .array .int
  | 2 => .array .int
  | 3 => .int
  | 4 => .int
  | _ => .int
def TX5 : u_T := fun k => match k with
  | 0 => ("LeadFaults$Timeline", "times", "[I", true)
  | 1 => ("LeadFaults$Timeline", "size", "I", false)
  | _ => ("LeadFaults$Timeline", "heads", "[I", true)
def tyX5 : Nat → FieldType := fun k => match k with
  | 0 => .array .int
  | 1 => .int
  | _ => .array .int
def TX6 : u_T := fun k => match k with
  | 0 => ("LeadFaults", "parts", "[LLeadFaults$Part;", true)
  | 1 => ("LeadFaults", "timeline", "LLeadFaults$Timeline;", true)
  | 2 => ("LeadFaults", "repeats", "LLeadFaults$Entries;", true)
  | 3 => ("LeadFaults", "exceptions", "LLeadFaults$Entries;", true)
  | 4 => ("LeadFaults", "judging", "LLeadFaults$Judging;", true)
  | 5 => ("LeadFaults", "chord", "LLeadFaults$Chord;", true)
  | 6 => ("LeadFaults", "ruleBits", "I", false)
  | 7 => ("LeadFaults", "fifths", "I", false)
  | _ => ("LeadFaults", "ticks", "I", false)
def tyX6 : Nat → FieldType := fun k => match k with
  | 0 => .array (.object "LeadFaults$Part")
  | 1 => .object "LeadFaults$Timeline"
  | 2 => .object "LeadFaults$Entries"
  | 3 => .object "LeadFaults$Entries"
  | 4 => .object "LeadFaults$Judging"
  | 5 => .object "LeadFaults$Chord"
  | 6 => .int
  | 7 => .int
  | _ => .int
def TX7 : u_T := fun k => match k with
  | 0 => ("LeadFaultsModel", "voices", "I", false)
  | 1 => ("LeadFaultsModel", "many", "[I", true)
  | 2 => ("LeadFaultsModel", "times", "[I", true)
  | 3 => ("LeadFaultsModel", "steps", "[I", true)
  | 4 => ("LeadFaultsModel", "sharps", "[I", true)
  | 5 => ("LeadFaultsModel", "low", "[I", true)
  | 6 => ("LeadFaultsModel", "high", "[I", true)
  | 7 => ("LeadFaultsModel", "isOn", "[Z", true)
  | 8 => ("LeadFaultsModel", "key", "I", false)
  | 9 => ("LeadFaultsModel", "grid", "I", false)
  | 10 => ("LeadFaultsModel", "repeats", "I", false)
  | 11 => ("LeadFaultsModel", "repeatFrom", "[I", true)
  | 12 => ("LeadFaultsModel", "repeatTo", "[I", true)
  | 13 => ("LeadFaultsModel", "exceptions", "I", false)
  | 14 => ("LeadFaultsModel", "exceptKind", "[I", true)
  | 15 => ("LeadFaultsModel", "exceptTime", "[I", true)
  | 16 => ("LeadFaultsModel", "moments", "I", false)
  | 17 => ("LeadFaultsModel", "moment", "[I", true)
  | 18 => ("LeadFaultsModel", "event", "[I", true)
  | 19 => ("LeadFaultsModel", "faults", "I", false)
  | 20 => ("LeadFaultsModel", "excepted", "I", false)
  | 21 => ("LeadFaultsModel", "fault", "[I", true)
  | _ => ("LeadFaultsModel", "faultTime", "[I", true)
def tyX7 : Nat → FieldType := fun k => match k with
  | 0 => .int
  | 1 => .array .int
  | 2 => .array .int
  | 3 => .array .int
  | 4 => .array .int
  | 5 => .array .int
  | 6 => .array .int
  | 7 => .array .boolean
  | 8 => .int
  | 9 => .int
  | 10 => .int
  | 11 => .array .int
  | 12 => .array .int
  | 13 => .int
  | 14 => .array .int
  | 15 => .array .int
  | 16 => .int
  | 17 => .array .int
  | 18 => .array .int
  | 19 => .int
  | 20 => .int
  | 21 => .array .int
  | _ => .array .int
abbrev cX6_init : ByteArray := prog_1_method_1_code
def yX6_init : MethodName := ⟨RX6, "<init>", "(I)V"⟩
abbrev cX4_init : ByteArray := prog_6_method_1_code
def yX4_init : MethodName := ⟨RX4, "<init>", "()V"⟩
abbrev cX5_init : ByteArray := prog_7_method_1_code
def yX5_init : MethodName := ⟨RX5, "<init>", "()V"⟩
abbrev cX1_init : ByteArray := prog_3_method_1_code
def yX1_init : MethodName := ⟨RX1, "<init>", "(I)V"⟩
abbrev cX3_init : ByteArray := prog_5_method_1_code
def yX3_init : MethodName := ⟨RX3, "<init>", "()V"⟩
abbrev cX2_init : ByteArray := prog_4_method_1_code
def yX2_init : MethodName := ⟨RX2, "<init>", "()V"⟩
abbrev cX0_init : ByteArray := prog_2_method_1_code
def yX0_init : MethodName := ⟨RX0, "<init>", "()V"⟩
abbrev cX6_clear : ByteArray := prog_1_method_2_code
def yX6_clear : MethodName := ⟨RX6, "clear", "()I"⟩
abbrev cX4_reset : ByteArray := prog_6_method_2_code
def yX4_reset : MethodName := ⟨RX4, "reset", "()V"⟩
abbrev cX2_reset : ByteArray := prog_4_method_2_code
def yX2_reset : MethodName := ⟨RX2, "reset", "()V"⟩
abbrev cJ7_fill : ByteArray := prog_13_method_103_code
def yJ7_fill : MethodName := ⟨RJ7, "fill", "([II)V"⟩
abbrev cX5_gather : ByteArray := prog_7_method_2_code
def yX5_gather : MethodName := ⟨RX5, "gather", "([LLeadFaults$Part;I)V"⟩
abbrev cX5_gatherGrid : ByteArray := prog_7_method_3_code
def yX5_gatherGrid : MethodName := ⟨RX5, "gatherGrid", "([LLeadFaults$Part;I)V"⟩
abbrev cX4_lastTime : ByteArray := prog_6_method_5_code
def yX4_lastTime : MethodName := ⟨RX4, "lastTime", "()I"⟩
abbrev cX5_gatherEvents : ByteArray := prog_7_method_4_code
def yX5_gatherEvents : MethodName := ⟨RX5, "gatherEvents", "([LLeadFaults$Part;)V"⟩
abbrev cX5_earliestHead : ByteArray := prog_7_method_5_code
def yX5_earliestHead : MethodName := ⟨RX5, "earliestHead", "([LLeadFaults$Part;)I"⟩
abbrev cX5_passHeads : ByteArray := prog_7_method_6_code
def yX5_passHeads : MethodName := ⟨RX5, "passHeads", "([LLeadFaults$Part;I)V"⟩
abbrev cX6_note : ByteArray := prog_1_method_3_code
def yX6_note : MethodName := ⟨RX6, "note", "(IIII)I"⟩
abbrev cX6_isVoice : ByteArray := prog_1_method_22_code
def yX6_isVoice : MethodName := ⟨RX6, "isVoice", "(I)Z"⟩
abbrev cX6_within : ByteArray := prog_1_method_26_code
def yX6_within : MethodName := ⟨RX6, "within", "(III)Z"⟩
abbrev cX6_isTime : ByteArray := prog_1_method_24_code
def yX6_isTime : MethodName := ⟨RX6, "isTime", "(I)Z"⟩
abbrev cX6_append : ByteArray := prog_1_method_21_code
def yX6_append : MethodName := ⟨RX6, "append", "(IIII)I"⟩
abbrev cX4_append : ByteArray := prog_6_method_3_code
def yX4_append : MethodName := ⟨RX4, "append", "(III)I"⟩
abbrev cX6_rest : ByteArray := prog_1_method_4_code
def yX6_rest : MethodName := ⟨RX6, "rest", "(II)I"⟩
abbrev cX6_take : ByteArray := prog_1_method_5_code
def yX6_take : MethodName := ⟨RX6, "take", "(I)I"⟩
abbrev cX4_dropLast : ByteArray := prog_6_method_4_code
def yX4_dropLast : MethodName := ⟨RX4, "dropLast", "()I"⟩
abbrev cX6_rule : ByteArray := prog_1_method_6_code
def yX6_rule : MethodName := ⟨RX6, "rule", "(II)I"⟩
abbrev cX6_isKind : ByteArray := prog_1_method_25_code
def yX6_isKind : MethodName := ⟨RX6, "isKind", "(I)Z"⟩
abbrev cX6_style : ByteArray := prog_1_method_7_code
def yX6_style : MethodName := ⟨RX6, "style", "(I)I"⟩
abbrev cJ6_bitCount : ByteArray := prog_10_method_49_code
def yJ6_bitCount : MethodName := ⟨RJ6, "bitCount", "(I)I"⟩
abbrev cX6_key : ByteArray := prog_1_method_8_code
def yX6_key : MethodName := ⟨RX6, "key", "(I)I"⟩
abbrev cX6_range : ByteArray := prog_1_method_9_code
def yX6_range : MethodName := ⟨RX6, "range", "(III)I"⟩
abbrev cX4_notesOutside : ByteArray := prog_6_method_9_code
def yX4_notesOutside : MethodName := ⟨RX4, "notesOutside", "()I"⟩
abbrev cX4_isNote : ByteArray := prog_6_method_6_code
def yX4_isNote : MethodName := ⟨RX4, "isNote", "(I)Z"⟩
abbrev cX4_heightOf : ByteArray := prog_6_method_7_code
def yX4_heightOf : MethodName := ⟨RX4, "heightOf", "(I)I"⟩
abbrev cX4_isOutside : ByteArray := prog_6_method_8_code
def yX4_isOutside : MethodName := ⟨RX4, "isOutside", "(I)Z"⟩
abbrev cX6_grid : ByteArray := prog_1_method_10_code
def yX6_grid : MethodName := ⟨RX6, "grid", "(I)I"⟩
abbrev cX6_repeat : ByteArray := prog_1_method_11_code
def yX6_repeat : MethodName := ⟨RX6, "repeat", "(II)I"⟩
abbrev cX1_append : ByteArray := prog_3_method_3_code
def yX1_append : MethodName := ⟨RX1, "append", "(II)I"⟩
abbrev cX6_except : ByteArray := prog_1_method_12_code
def yX6_except : MethodName := ⟨RX6, "except", "(II)I"⟩
abbrev cX1_holds : ByteArray := prog_3_method_2_code
def yX1_holds : MethodName := ⟨RX1, "holds", "(II)Z"⟩
abbrev cX6_judge : ByteArray := prog_1_method_13_code
def yX6_judge : MethodName := ⟨RX6, "judge", "()I"⟩
abbrev cX3_begin : ByteArray := prog_5_method_2_code
def yX3_begin : MethodName := ⟨RX3, "begin", "(II)V"⟩
abbrev cJ9_floorMod : ByteArray := prog_11_method_50_code
def yJ9_floorMod : MethodName := ⟨RJ9, "floorMod", "(II)I"⟩
abbrev cX3_sharpnessInKey : ByteArray := prog_5_method_3_code
def yX3_sharpnessInKey : MethodName := ⟨RX3, "sharpnessInKey", "(II)I"⟩
abbrev cX3_walk : ByteArray := prog_5_method_4_code
def yX3_walk : MethodName := ⟨RX3, "walk", "([LLeadFaults$Part;LLeadFaults$Timeline;)V"⟩
abbrev cX2_begin : ByteArray := prog_4_method_3_code
def yX2_begin : MethodName := ⟨RX2, "begin", "(LLeadFaults$Timeline;)V"⟩
abbrev cX0_hush : ByteArray := prog_2_method_2_code
def yX0_hush : MethodName := ⟨RX0, "hush", "()V"⟩
abbrev cX0_load : ByteArray := prog_2_method_3_code
def yX0_load : MethodName := ⟨RX0, "load", "([LLeadFaults$Part;I)V"⟩
abbrev cX4_lastNotLater : ByteArray := prog_6_method_10_code
def yX4_lastNotLater : MethodName := ⟨RX4, "lastNotLater", "(I)I"⟩
abbrev cX3_lookAtMoment : ByteArray := prog_5_method_6_code
def yX3_lookAtMoment : MethodName := ⟨RX3, "lookAtMoment", "([LLeadFaults$Part;)V"⟩
abbrev cX3_goes : ByteArray := prog_5_method_14_code
def yX3_goes : MethodName := ⟨RX3, "goes", "(I)Z"⟩
abbrev cX3_moves : ByteArray := prog_5_method_15_code
def yX3_moves : MethodName := ⟨RX3, "moves", "(I)Z"⟩
abbrev cX3_alone : ByteArray := prog_5_method_17_code
def yX3_alone : MethodName := ⟨RX3, "alone", "(IIZ)V"⟩
abbrev cX3_between : ByteArray := prog_5_method_18_code
def yX3_between : MethodName := ⟨RX3, "between", "(IIIZ)V"⟩
abbrev cX2_mark : ByteArray := prog_4_method_4_code
def yX2_mark : MethodName := ⟨RX2, "mark", "(IIII)V"⟩
abbrev cX3_lookAtInterval : ByteArray := prog_5_method_7_code
def yX3_lookAtInterval : MethodName := ⟨RX3, "lookAtInterval", "(II)V"⟩
abbrev cX0_heightUp : ByteArray := prog_2_method_7_code
def yX0_heightUp : MethodName := ⟨RX0, "heightUp", "(II)I"⟩
abbrev cX3_leads : ByteArray := prog_5_method_13_code
def yX3_leads : MethodName := ⟨RX3, "leads", "(LLeadFaults$Chord;I)Z"⟩
abbrev cX0_isNoteOf : ByteArray := prog_2_method_5_code
def yX0_isNoteOf : MethodName := ⟨RX0, "isNoteOf", "(III)Z"⟩
abbrev cX0_letter : ByteArray := prog_2_method_4_code
def yX0_letter : MethodName := ⟨RX0, "letter", "(I)I"⟩
abbrev cX3_lookAtPair : ByteArray := prog_5_method_8_code
def yX3_lookAtPair : MethodName := ⟨RX3, "lookAtPair", "()V"⟩
abbrev cX3_lookAtMove : ByteArray := prog_5_method_9_code
def yX3_lookAtMove : MethodName := ⟨RX3, "lookAtMove", "(I)V"⟩
abbrev cX3_isLeap : ByteArray := prog_5_method_10_code
def yX3_isLeap : MethodName := ⟨RX3, "isLeap", "(II)Z"⟩
abbrev cX0_stepsUp : ByteArray := prog_2_method_6_code
def yX0_stepsUp : MethodName := ⟨RX0, "stepsUp", "(II)I"⟩
abbrev cX3_lookAtTwo : ByteArray := prog_5_method_11_code
def yX3_lookAtTwo : MethodName := ⟨RX3, "lookAtTwo", "(II)V"⟩
abbrev cX3_way : ByteArray := prog_5_method_16_code
def yX3_way : MethodName := ⟨RX3, "way", "(I)I"⟩
abbrev cJ6_compare : ByteArray := prog_10_method_40_code
def yJ6_compare : MethodName := ⟨RJ6, "compare", "(II)I"⟩
abbrev cX0_quality : ByteArray := prog_2_method_8_code
def yX0_quality : MethodName := ⟨RX0, "quality", "(II)I"⟩
abbrev cX3_isCrossRelation : ByteArray := prog_5_method_12_code
def yX3_isCrossRelation : MethodName := ⟨RX3, "isCrossRelation", "(II)Z"⟩
abbrev cX3_goBack : ByteArray := prog_5_method_5_code
def yX3_goBack : MethodName := ⟨RX3, "goBack", "([LLeadFaults$Part;LLeadFaults$Timeline;II)V"⟩
abbrev cX5_firstFrom : ByteArray := prog_7_method_7_code
def yX5_firstFrom : MethodName := ⟨RX5, "firstFrom", "(I)I"⟩
abbrev cX5_lastBefore : ByteArray := prog_7_method_8_code
def yX5_lastBefore : MethodName := ⟨RX5, "lastBefore", "(I)I"⟩
abbrev cX2_leaveOut : ByteArray := prog_4_method_5_code
def yX2_leaveOut : MethodName := ⟨RX2, "leaveOut", "(II)V"⟩
abbrev cX2_sum : ByteArray := prog_4_method_6_code
def yX2_sum : MethodName := ⟨RX2, "sum", "()I"⟩
abbrev cX6_fault : ByteArray := prog_1_method_14_code
def yX6_fault : MethodName := ⟨RX6, "fault", "(II)I"⟩
abbrev cX2_tell : ByteArray := prog_4_method_7_code
def yX2_tell : MethodName := ⟨RX2, "tell", "(II)I"⟩
abbrev cX2_tellOfCell : ByteArray := prog_4_method_8_code
def yX2_tellOfCell : MethodName := ⟨RX2, "tellOfCell", "(III)I"⟩
abbrev cX2_bitAfter : ByteArray := prog_4_method_9_code
def yX2_bitAfter : MethodName := ⟨RX2, "bitAfter", "(II)I"⟩
abbrev cX6_count : ByteArray := prog_1_method_15_code
def yX6_count : MethodName := ⟨RX6, "count", "(I)I"⟩
abbrev cX6_moments : ByteArray := prog_1_method_16_code
def yX6_moments : MethodName := ⟨RX6, "moments", "()I"⟩
abbrev cX6_time : ByteArray := prog_1_method_17_code
def yX6_time : MethodName := ⟨RX6, "time", "(I)I"⟩
abbrev cX6_isMoment : ByteArray := prog_1_method_23_code
def yX6_isMoment : MethodName := ⟨RX6, "isMoment", "(I)Z"⟩
abbrev cX6_height : ByteArray := prog_1_method_18_code
def yX6_height : MethodName := ⟨RX6, "height", "(II)I"⟩
abbrev cX6_interval : ByteArray := prog_1_method_19_code
def yX6_interval : MethodName := ⟨RX6, "interval", "(III)I"⟩
abbrev cX6_event : ByteArray := prog_1_method_20_code
def yX6_event : MethodName := ⟨RX6, "event", "(III)I"⟩
abbrev cL_cell : ByteArray := method_2_code
def yL_cell : MethodName := ⟨RL, "cell", "([II)I"⟩
abbrev cX7_init : ByteArray := prog_9_method_1_code
def yX7_init : MethodName := ⟨RX7, "<init>", "(I)V"⟩
abbrev cX7_begin : ByteArray := prog_9_method_2_code
def yX7_begin : MethodName := ⟨RX7, "begin", "()V"⟩
abbrev cX7_clear : ByteArray := prog_9_method_3_code
def yX7_clear : MethodName := ⟨RX7, "clear", "()I"⟩
abbrev cX7_note : ByteArray := prog_9_method_7_code
def yX7_note : MethodName := ⟨RX7, "note", "(IIII)I"⟩
abbrev cX7_isVoice : ByteArray := prog_9_method_5_code
def yX7_isVoice : MethodName := ⟨RX7, "isVoice", "(I)Z"⟩
abbrev cX7_isIn : ByteArray := prog_9_method_4_code
def yX7_isIn : MethodName := ⟨RX7, "isIn", "(III)Z"⟩
abbrev cX7_add : ByteArray := prog_9_method_6_code
def yX7_add : MethodName := ⟨RX7, "add", "(IIII)I"⟩
abbrev cX7_rest : ByteArray := prog_9_method_8_code
def yX7_rest : MethodName := ⟨RX7, "rest", "(II)I"⟩
abbrev cX7_take : ByteArray := prog_9_method_9_code
def yX7_take : MethodName := ⟨RX7, "take", "(I)I"⟩
abbrev cX7_rule : ByteArray := prog_9_method_10_code
def yX7_rule : MethodName := ⟨RX7, "rule", "(II)I"⟩
abbrev cX7_style : ByteArray := prog_9_method_11_code
def yX7_style : MethodName := ⟨RX7, "style", "(I)I"⟩
abbrev cX7_key : ByteArray := prog_9_method_12_code
def yX7_key : MethodName := ⟨RX7, "key", "(I)I"⟩
abbrev cX7_range : ByteArray := prog_9_method_15_code
def yX7_range : MethodName := ⟨RX7, "range", "(III)I"⟩
abbrev cX7_heightOf : ByteArray := prog_9_method_14_code
def yX7_heightOf : MethodName := ⟨RX7, "heightOf", "(I)I"⟩
abbrev cX7_scale : ByteArray := prog_9_method_13_code
def yX7_scale : MethodName := ⟨RX7, "scale", "(I)I"⟩
abbrev cX7_grid : ByteArray := prog_9_method_17_code
def yX7_grid : MethodName := ⟨RX7, "grid", "(I)I"⟩
abbrev cX7_learn : ByteArray := prog_9_method_16_code
def yX7_learn : MethodName := ⟨RX7, "learn", "()V"⟩
abbrev cX7_repeat : ByteArray := prog_9_method_18_code
def yX7_repeat : MethodName := ⟨RX7, "repeat", "(II)I"⟩
abbrev cX7_except : ByteArray := prog_9_method_20_code
def yX7_except : MethodName := ⟨RX7, "except", "(II)I"⟩
abbrev cX7_isExcepted : ByteArray := prog_9_method_19_code
def yX7_isExcepted : MethodName := ⟨RX7, "isExcepted", "(II)Z"⟩
abbrev cX7_judge : ByteArray := prog_9_method_38_code
def yX7_judge : MethodName := ⟨RX7, "judge", "()I"⟩
abbrev cX7_isAbout : ByteArray := prog_9_method_36_code
def yX7_isAbout : MethodName := ⟨RX7, "isAbout", "(III)Z"⟩
abbrev cX7_isBroken : ByteArray := prog_9_method_37_code
def yX7_isBroken : MethodName := ⟨RX7, "isBroken", "(IIII)Z"⟩
abbrev cX7_isOfMoments : ByteArray := prog_9_method_35_code
def yX7_isOfMoments : MethodName := ⟨RX7, "isOfMoments", "(I)Z"⟩
abbrev cX7_isBrokenAt : ByteArray := prog_9_method_34_code
def yX7_isBrokenAt : MethodName := ⟨RX7, "isBrokenAt", "(IIII)Z"⟩
abbrev cX7_at : ByteArray := prog_9_method_21_code
def yX7_at : MethodName := ⟨RX7, "at", "(II)I"⟩
abbrev cX7_betweenHeights : ByteArray := prog_9_method_23_code
def yX7_betweenHeights : MethodName := ⟨RX7, "betweenHeights", "(III)I"⟩
abbrev cX7_isLeading : ByteArray := prog_9_method_25_code
def yX7_isLeading : MethodName := ⟨RX7, "isLeading", "(I)Z"⟩
abbrev cX7_modulo : ByteArray := prog_9_method_22_code
def yX7_modulo : MethodName := ⟨RX7, "modulo", "(III)I"⟩
abbrev cX7_isPairBroken : ByteArray := prog_9_method_32_code
def yX7_isPairBroken : MethodName := ⟨RX7, "isPairBroken", "(IIIII)Z"⟩
abbrev cX7_goAlike : ByteArray := prog_9_method_29_code
def yX7_goAlike : MethodName := ⟨RX7, "goAlike", "(IIII)Z"⟩
abbrev cX7_way : ByteArray := prog_9_method_28_code
def yX7_way : MethodName := ⟨RX7, "way", "(III)I"⟩
abbrev cX7_moves : ByteArray := prog_9_method_27_code
def yX7_moves : MethodName := ⟨RX7, "moves", "(III)Z"⟩
abbrev cX7_goes : ByteArray := prog_9_method_26_code
def yX7_goes : MethodName := ⟨RX7, "goes", "(III)Z"⟩
abbrev cX7_which : ByteArray := prog_9_method_24_code
def yX7_which : MethodName := ⟨RX7, "which", "(III)I"⟩
abbrev cX7_isPure : ByteArray := prog_9_method_30_code
def yX7_isPure : MethodName := ⟨RX7, "isPure", "(I)Z"⟩
abbrev cX7_leaps : ByteArray := prog_9_method_31_code
def yX7_leaps : MethodName := ⟨RX7, "leaps", "(III)Z"⟩
abbrev cX7_crosses : ByteArray := prog_9_method_33_code
def yX7_crosses : MethodName := ⟨RX7, "crosses", "(IIII)Z"⟩
abbrev cX7_fault : ByteArray := prog_9_method_39_code
def yX7_fault : MethodName := ⟨RX7, "fault", "(II)I"⟩
abbrev cX7_count : ByteArray := prog_9_method_40_code
def yX7_count : MethodName := ⟨RX7, "count", "(I)I"⟩
abbrev cX7_moments : ByteArray := prog_9_method_41_code
def yX7_moments : MethodName := ⟨RX7, "moments", "()I"⟩
abbrev cX7_time : ByteArray := prog_9_method_42_code
def yX7_time : MethodName := ⟨RX7, "time", "(I)I"⟩
abbrev cX7_height : ByteArray := prog_9_method_43_code
def yX7_height : MethodName := ⟨RX7, "height", "(II)I"⟩
abbrev cX7_interval : ByteArray := prog_9_method_44_code
def yX7_interval : MethodName := ⟨RX7, "interval", "(III)I"⟩
abbrev cX7_event : ByteArray := prog_9_method_45_code
def yX7_event : MethodName := ⟨RX7, "event", "(III)I"⟩
def h_cl : List vw_C := [(RX0, TX0, 4), (RX1, TX1, 3), (RX2, TX2, 6), (RX3, TX3, 8), (RX4, TX4, 6), (RX5, TX5, 3), (RX6, TX6, 9), (RX7, TX7, 23)]
def h_ft : Nat → List Bool := fun k => match k with
  | 0 => [true, true, true, true]
  | 1 => [true, true, false]
  | 2 => [true, true, false, true, false, false]
  | 3 => [true, true, true, false, false, false, false, false]
  | 4 => [true, true, true, false, false, false]
  | 5 => [true, false, true]
  | 6 => [true, true, true, true, true, true, false, false, false]
  | 7 => [false, true, true, true, true, true, true, true, false, false, false, true, true, false, true, true, false, true, true, false, false, true, true]
  | _ => []
def h_tys (cA : Nat → ClassId) : List (ClassId × FieldType) := [(cA 1, .int), (cA 2, .boolean), (cA (4 + 53), .object RX4)]
def h_t0 : List Int32 := [16383, 4077, 781, 1, 0]
def h_q0 : String × String × Nat × List Int32 := ("LeadFaults", "STYLE_RULES", 0, h_t0)
def h_t1 : List Int32 := [0, 2, 4, 5, 7, 9, 11]
def h_q1 : String × String × Nat × List Int32 := ("LeadFaults", "LETTER_HEIGHTS", 1, h_t1)
def h_t2 : List Int32 := [3, 0, 4, 1, 5, 2, 6]
def h_q2 : String × String × Nat × List Int32 := ("LeadFaults", "SHARPENED_LETTERS", 2, h_t2)
def h_t3 : List Int32 := [6, 2, 5, 1, 4, 0, 3]
def h_q3 : String × String × Nat × List Int32 := ("LeadFaults", "FLATTENED_LETTERS", 3, h_t3)
def h_t4 : List Int32 := [0, 1, 3, 5, 7, 8, 10]
def h_q4 : String × String × Nat × List Int32 := ("LeadFaults", "LEAST_HEIGHT_OF_STEPS", 4, h_t4)
def h_t5 : List Int32 := [0, 2, 4, 5, 7, 9, 11]
def h_q5 : String × String × Nat × List Int32 := ("LeadFaults", "MOST_HEIGHT_OF_STEPS", 5, h_t5)
def h_t6 : List Int32 := [0, 3, 3, 0, 0, 0, 3, 0, 0, 0, 3, 3]
def h_q6 : String × String × Nat × List Int32 := ("LeadFaults", "QUALITY_BY_HEIGHT", 6, h_t6)
def h_st : List (String × String × Nat × List Int32) := [h_q0, h_q1, h_q2, h_q3, h_q4, h_q5, h_q6]
theorem h_s0 : h_q0 ∈ h_st := List.mem_of_getElem? (i := 0) rfl
theorem h_s1 : h_q1 ∈ h_st := List.mem_of_getElem? (i := 1) rfl
theorem h_s2 : h_q2 ∈ h_st := List.mem_of_getElem? (i := 2) rfl
theorem h_s3 : h_q3 ∈ h_st := List.mem_of_getElem? (i := 3) rfl
theorem h_s4 : h_q4 ∈ h_st := List.mem_of_getElem? (i := 4) rfl
theorem h_s5 : h_q5 ∈ h_st := List.mem_of_getElem? (i := 5) rfl
theorem h_s6 : h_q6 ∈ h_st := List.mem_of_getElem? (i := 6) rfl
/-- words that stay: by goodWord, or links to a nest mate, or the array class of our own objects -/
def hp_ok : Cond → Bool
  | .fieldLinkNest .. => true
  | .methodLinkNest .. => true
  | .arrayOver (.object _) => true
  | w => goodWord w
def h_tb : List Cond := lw_tbl.filter hp_ok
theorem nmX0 : ∀ a, a < 4 → ∀ b, b < 4 → a ≠ b → (TX0 a).2.1 ≠ (TX0 b).2.1 := by decide +kernel
theorem tyX0_ok : ∀ k, k < 4 → parseFieldDescriptor (TX0 k).2.2.1 = some (tyX0 k) := by decide +kernel
theorem m1_156 : u_lay RX0 TX0 0 ∈ h_tb := List.mem_filter.mpr ⟨List.mem_append_right _ (List.mem_append_left _ (List.mem_of_getElem? (i := 156) rfl)), rfl⟩
theorem m1_158 : u_lay RX0 TX0 1 ∈ h_tb := List.mem_filter.mpr ⟨List.mem_append_right _ (List.mem_append_left _ (List.mem_of_getElem? (i := 158) rfl)), rfl⟩
theorem m1_160 : u_lay RX0 TX0 2 ∈ h_tb := List.mem_filter.mpr ⟨List.mem_append_right _ (List.mem_append_left _ (List.mem_of_getElem? (i := 160) rfl)), rfl⟩
theorem m1_162 : u_lay RX0 TX0 3 ∈ h_tb := List.mem_filter.mpr ⟨List.mem_append_right _ (List.mem_append_left _ (List.mem_of_getElem? (i := 162) rfl)), rfl⟩
theorem inX0 : ∀ w ∈ u_ws RX0 TX0 4, w ∈ h_tb := List.forall_mem_cons.mpr ⟨m1_156, List.forall_mem_cons.mpr ⟨m1_158, List.forall_mem_cons.mpr ⟨m1_160, List.forall_mem_cons.mpr ⟨m1_162, fun _ h => absurd h List.not_mem_nil⟩⟩⟩⟩
theorem nmX1 : ∀ a, a < 3 → ∀ b, b < 3 → a ≠ b → (TX1 a).2.1 ≠ (TX1 b).2.1 := by decide +kernel
theorem tyX1_ok : ∀ k, k < 3 → parseFieldDescriptor (TX1 k).2.2.1 = some (tyX1 k) := by decide +kernel
theorem m1_99 : u_lay RX1 TX1 0 ∈ h_tb := List.mem_filter.mpr ⟨List.mem_append_right _ (List.mem_append_left _ (List.mem_of_getElem? (i := 99) rfl)), rfl⟩
theorem m1_101 : u_lay RX1 TX1 1 ∈ h_tb := List.mem_filter.mpr ⟨List.mem_append_right _ (List.mem_append_left _ (List.mem_of_getElem? (i := 101) rfl)), rfl⟩
theorem m1_103 : u_lay RX1 TX1 2 ∈ h_tb := List.mem_filter.mpr ⟨List.mem_append_right _ (List.mem_append_left _ (List.mem_of_getElem? (i := 103) rfl)), rfl⟩
theorem inX1 : ∀ w ∈ u_ws RX1 TX1 3, w ∈ h_tb := List.forall_mem_cons.mpr ⟨m1_99, List.forall_mem_cons.mpr ⟨m1_101, List.forall_mem_cons.mpr ⟨m1_103, fun _ h => absurd h List.not_mem_nil⟩⟩⟩
theorem nmX2 : ∀ a, a < 6 → ∀ b, b < 6 → a ≠ b → (TX2 a).2.1 ≠ (TX2 b).2.1 := by decide +kernel
theorem tyX2_ok : ∀ k, k < 6 → parseFieldDescriptor (TX2 k).2.2.1 = some (tyX2 k) := by decide +kernel
theorem m1_127 : u_lay RX2 TX2 0 ∈ h_tb := List.mem_filter.mpr ⟨List.mem_append_right _ (List.mem_append_left _ (List.mem_of_getElem? (i := 127) rfl)), rfl⟩
theorem m1_129 : u_lay RX2 TX2 1 ∈ h_tb := List.mem_filter.mpr ⟨List.mem_append_right _ (List.mem_append_left _ (List.mem_of_getElem? (i := 129) rfl)), rfl⟩
theorem m1_131 : u_lay RX2 TX2 2 ∈ h_tb := List.mem_filter.mpr ⟨List.mem_append_right _ (List.mem_append_left _ (List.mem_of_getElem? (i := 131) rfl)), rfl⟩
theorem m1_133 : u_lay RX2 TX2 3 ∈ h_tb := List.mem_filter.mpr ⟨List.mem_append_right _ (List.mem_append_left _ (List.mem_of_getElem? (i := 133) rfl)), rfl⟩
theorem m1_135 : u_lay RX2 TX2 4 ∈ h_tb := List.mem_filter.mpr ⟨List.mem_append_right _ (List.mem_append_left _ (List.mem_of_getElem? (i := 135) rfl)), rfl⟩
theorem m1_137 : u_lay RX2 TX2 5 ∈ h_tb := List.mem_filter.mpr ⟨List.mem_append_right _ (List.mem_append_left _ (List.mem_of_getElem? (i := 137) rfl)), rfl⟩
theorem inX2 : ∀ w ∈ u_ws RX2 TX2 6, w ∈ h_tb := List.forall_mem_cons.mpr ⟨m1_127, List.forall_mem_cons.mpr ⟨m1_129, List.forall_mem_cons.mpr ⟨m1_131, List.forall_mem_cons.mpr ⟨m1_133, List.forall_mem_cons.mpr ⟨m1_135, List.forall_mem_cons.mpr ⟨m1_137, fun _ h => absurd h List.not_mem_nil⟩⟩⟩⟩⟩⟩
theorem nmX3 : ∀ a, a < 8 → ∀ b, b < 8 → a ≠ b → (TX3 a).2.1 ≠ (TX3 b).2.1 := by decide +kernel
theorem tyX3_ok : ∀ k, k < 8 → parseFieldDescriptor (TX3 k).2.2.1 = some (tyX3 k) := by decide +kernel
theorem m1_175 : u_lay RX3 TX3 0 ∈ h_tb := List.mem_filter.mpr ⟨List.mem_append_right _ (List.mem_append_left _ (List.mem_of_getElem? (i := 175) rfl)), rfl⟩
theorem m1_177 : u_lay RX3 TX3 1 ∈ h_tb := List.mem_filter.mpr ⟨List.mem_append_right _ (List.mem_append_left _ (List.mem_of_getElem? (i := 177) rfl)), rfl⟩
theorem m1_179 : u_lay RX3 TX3 2 ∈ h_tb := List.mem_filter.mpr ⟨List.mem_append_right _ (List.mem_append_left _ (List.mem_of_getElem? (i := 179) rfl)), rfl⟩
theorem m1_181 : u_lay RX3 TX3 3 ∈ h_tb := List.mem_filter.mpr ⟨List.mem_append_right _ (List.mem_append_left _ (List.mem_of_getElem? (i := 181) rfl)), rfl⟩
theorem m1_183 : u_lay RX3 TX3 4 ∈ h_tb := List.mem_filter.mpr ⟨List.mem_append_right _ (List.mem_append_left _ (List.mem_of_getElem? (i := 183) rfl)), rfl⟩
theorem m1_185 : u_lay RX3 TX3 5 ∈ h_tb := List.mem_filter.mpr ⟨List.mem_append_right _ (List.mem_append_left _ (List.mem_of_getElem? (i := 185) rfl)), rfl⟩
theorem m1_187 : u_lay RX3 TX3 6 ∈ h_tb := List.mem_filter.mpr ⟨List.mem_append_right _ (List.mem_append_left _ (List.mem_of_getElem? (i := 187) rfl)), rfl⟩
theorem m1_189 : u_lay RX3 TX3 7 ∈ h_tb := List.mem_filter.mpr ⟨List.mem_append_right _ (List.mem_append_left _ (List.mem_of_getElem? (i := 189) rfl)), rfl⟩
theorem inX3 : ∀ w ∈ u_ws RX3 TX3 8, w ∈ h_tb := List.forall_mem_cons.mpr ⟨m1_175, List.forall_mem_cons.mpr ⟨m1_177, List.forall_mem_cons.mpr ⟨m1_179, List.forall_mem_cons.mpr ⟨m1_181, List.forall_mem_cons.mpr ⟨m1_183, List.forall_mem_cons.mpr ⟨m1_185, List.forall_mem_cons.mpr ⟨m1_187, List.forall_mem_cons.mpr ⟨m1_189, fun _ h => absurd h List.not_mem_nil⟩⟩⟩⟩⟩⟩⟩⟩
theorem nmX4 : ∀ a, a < 6 → ∀ b, b < 6 → a ≠ b → (TX4 a).2.1 ≠ (TX4 b).2.1 := by decide +kernel
theorem tyX4_ok : ∀ k, k < 6 → parseFieldDescriptor (TX4 k).2.2.1 = some (tyX4 k) := by decide +kernel
theorem m1_50 : u_lay RX4 TX4 0 ∈ h_tb := List.mem_filter.mpr ⟨List.mem_append_right _ (List.mem_append_left _ (List.mem_of_getElem? (i := 50) rfl)), rfl⟩
theorem m1_52 : u_lay RX4 TX4 1 ∈ h_tb := List.mem_filter.mpr ⟨List.mem_append_right _ (List.mem_append_left _ (List.mem_of_getElem? (i := 52) rfl)), rfl⟩
theorem m1_54 : u_lay RX4 TX4 2 ∈ h_tb := List.mem_filter.mpr ⟨List.mem_append_right _ (List.mem_append_left _ (List.mem_of_getElem? (i := 54) rfl)), rfl⟩
theorem m1_56 : u_lay RX4 TX4 3 ∈ h_tb := List.mem_filter.mpr ⟨List.mem_append_right _ (List.mem_append_left _ (List.mem_of_getElem? (i := 56) rfl)), rfl⟩
theorem m1_58 : u_lay RX4 TX4 4 ∈ h_tb := List.mem_filter.mpr ⟨List.mem_append_right _ (List.mem_append_left _ (List.mem_of_getElem? (i := 58) rfl)), rfl⟩
theorem m1_60 : u_lay RX4 TX4 5 ∈ h_tb := List.mem_filter.mpr ⟨List.mem_append_right _ (List.mem_append_left _ (List.mem_of_getElem? (i := 60) rfl)), rfl⟩
theorem inX4 : ∀ w ∈ u_ws RX4 TX4 6, w ∈ h_tb := List.forall_mem_cons.mpr ⟨m1_50, List.forall_mem_cons.mpr ⟨m1_52, List.forall_mem_cons.mpr ⟨m1_54, List.forall_mem_cons.mpr ⟨m1_56, List.forall_mem_cons.mpr ⟨m1_58, List.forall_mem_cons.mpr ⟨m1_60, fun _ h => absurd h List.not_mem_nil⟩⟩⟩⟩⟩⟩
theorem nmX5 : ∀ a, a < 3 → ∀ b, b < 3 → a ≠ b → (TX5 a).2.1 ≠ (TX5 b).2.1 := by decide +kernel
theorem tyX5_ok : ∀ k, k < 3 → parseFieldDescriptor (TX5 k).2.2.1 = some (tyX5 k) := by decide +kernel
theorem m1_79 : u_lay RX5 TX5 0 ∈ h_tb := List.mem_filter.mpr ⟨List.mem_append_right _ (List.mem_append_left _ (List.mem_of_getElem? (i := 79) rfl)), rfl⟩
theorem m1_81 : u_lay RX5 TX5 1 ∈ h_tb := List.mem_filter.mpr ⟨List.mem_append_right _ (List.mem_append_left _ (List.mem_of_getElem? (i := 81) rfl)), rfl⟩
theorem m1_83 : u_lay RX5 TX5 2 ∈ h_tb := List.mem_filter.mpr ⟨List.mem_append_right _ (List.mem_append_left _ (List.mem_of_getElem? (i := 83) rfl)), rfl⟩
theorem inX5 : ∀ w ∈ u_ws RX5 TX5 3, w ∈ h_tb := List.forall_mem_cons.mpr ⟨m1_79, List.forall_mem_cons.mpr ⟨m1_81, List.forall_mem_cons.mpr ⟨m1_83, fun _ h => absurd h List.not_mem_nil⟩⟩⟩
theorem nmX6 : ∀ a, a < 9 → ∀ b, b < 9 → a ≠ b → (TX6 a).2.1 ≠ (TX6 b).2.1 := by decide +kernel
theorem tyX6_ok : ∀ k, k < 9 → parseFieldDescriptor (TX6 k).2.2.1 = some (tyX6 k) := by decide +kernel
theorem m1_205 : u_lay RX6 TX6 0 ∈ h_tb := List.mem_filter.mpr ⟨List.mem_append_right _ (List.mem_append_left _ (List.mem_of_getElem? (i := 205) rfl)), rfl⟩
theorem m1_207 : u_lay RX6 TX6 1 ∈ h_tb := List.mem_filter.mpr ⟨List.mem_append_right _ (List.mem_append_left _ (List.mem_of_getElem? (i := 207) rfl)), rfl⟩
theorem m1_209 : u_lay RX6 TX6 2 ∈ h_tb := List.mem_filter.mpr ⟨List.mem_append_right _ (List.mem_append_left _ (List.mem_of_getElem? (i := 209) rfl)), rfl⟩
theorem m1_211 : u_lay RX6 TX6 3 ∈ h_tb := List.mem_filter.mpr ⟨List.mem_append_right _ (List.mem_append_left _ (List.mem_of_getElem? (i := 211) rfl)), rfl⟩
theorem m1_213 : u_lay RX6 TX6 4 ∈ h_tb := List.mem_filter.mpr ⟨List.mem_append_right _ (List.mem_append_left _ (List.mem_of_getElem? (i := 213) rfl)), rfl⟩
theorem m1_215 : u_lay RX6 TX6 5 ∈ h_tb := List.mem_filter.mpr ⟨List.mem_append_right _ (List.mem_append_left _ (List.mem_of_getElem? (i := 215) rfl)), rfl⟩
theorem m1_217 : u_lay RX6 TX6 6 ∈ h_tb := List.mem_filter.mpr ⟨List.mem_append_right _ (List.mem_append_left _ (List.mem_of_getElem? (i := 217) rfl)), rfl⟩
theorem m1_219 : u_lay RX6 TX6 7 ∈ h_tb := List.mem_filter.mpr ⟨List.mem_append_right _ (List.mem_append_left _ (List.mem_of_getElem? (i := 219) rfl)), rfl⟩
theorem m1_221 : u_lay RX6 TX6 8 ∈ h_tb := List.mem_filter.mpr ⟨List.mem_append_right _ (List.mem_append_left _ (List.mem_of_getElem? (i := 221) rfl)), rfl⟩
theorem inX6 : ∀ w ∈ u_ws RX6 TX6 9, w ∈ h_tb := List.forall_mem_cons.mpr ⟨m1_205, List.forall_mem_cons.mpr ⟨m1_207, List.forall_mem_cons.mpr ⟨m1_209, List.forall_mem_cons.mpr ⟨m1_211, List.forall_mem_cons.mpr ⟨m1_213, List.forall_mem_cons.mpr ⟨m1_215, List.forall_mem_cons.mpr ⟨m1_217, List.forall_mem_cons.mpr ⟨m1_219, List.forall_mem_cons.mpr ⟨m1_221, fun _ h => absurd h List.not_mem_nil⟩⟩⟩⟩⟩⟩⟩⟩⟩
theorem nmX7 : ∀ a, a < 23 → ∀ b, b < 23 → a ≠ b → (TX7 a).2.1 ≠ (TX7 b).2.1 := by decide +kernel
theorem tyX7_ok : ∀ k, k < 23 → parseFieldDescriptor (TX7 k).2.2.1 = some (tyX7 k) := by decide +kernel
theorem m3_125 : u_lay RX7 TX7 0 ∈ h_tb := List.mem_filter.mpr ⟨List.mem_append_right _ (List.mem_append_right _ (List.mem_append_right _ (List.mem_append_left _ (List.mem_of_getElem? (i := 125) rfl)))), rfl⟩
theorem m3_127 : u_lay RX7 TX7 1 ∈ h_tb := List.mem_filter.mpr ⟨List.mem_append_right _ (List.mem_append_right _ (List.mem_append_right _ (List.mem_append_left _ (List.mem_of_getElem? (i := 127) rfl)))), rfl⟩
theorem m3_129 : u_lay RX7 TX7 2 ∈ h_tb := List.mem_filter.mpr ⟨List.mem_append_right _ (List.mem_append_right _ (List.mem_append_right _ (List.mem_append_left _ (List.mem_of_getElem? (i := 129) rfl)))), rfl⟩
theorem m3_131 : u_lay RX7 TX7 3 ∈ h_tb := List.mem_filter.mpr ⟨List.mem_append_right _ (List.mem_append_right _ (List.mem_append_right _ (List.mem_append_left _ (List.mem_of_getElem? (i := 131) rfl)))), rfl⟩
theorem m3_133 : u_lay RX7 TX7 4 ∈ h_tb := List.mem_filter.mpr ⟨List.mem_append_right _ (List.mem_append_right _ (List.mem_append_right _ (List.mem_append_left _ (List.mem_of_getElem? (i := 133) rfl)))), rfl⟩
theorem m3_135 : u_lay RX7 TX7 5 ∈ h_tb := List.mem_filter.mpr ⟨List.mem_append_right _ (List.mem_append_right _ (List.mem_append_right _ (List.mem_append_left _ (List.mem_of_getElem? (i := 135) rfl)))), rfl⟩
theorem m3_137 : u_lay RX7 TX7 6 ∈ h_tb := List.mem_filter.mpr ⟨List.mem_append_right _ (List.mem_append_right _ (List.mem_append_right _ (List.mem_append_left _ (List.mem_of_getElem? (i := 137) rfl)))), rfl⟩
theorem m3_139 : u_lay RX7 TX7 7 ∈ h_tb := List.mem_filter.mpr ⟨List.mem_append_right _ (List.mem_append_right _ (List.mem_append_right _ (List.mem_append_left _ (List.mem_of_getElem? (i := 139) rfl)))), rfl⟩
theorem m3_141 : u_lay RX7 TX7 8 ∈ h_tb := List.mem_filter.mpr ⟨List.mem_append_right _ (List.mem_append_right _ (List.mem_append_right _ (List.mem_append_left _ (List.mem_of_getElem? (i := 141) rfl)))), rfl⟩
theorem m3_143 : u_lay RX7 TX7 9 ∈ h_tb := List.mem_filter.mpr ⟨List.mem_append_right _ (List.mem_append_right _ (List.mem_append_right _ (List.mem_append_left _ (List.mem_of_getElem? (i := 143) rfl)))), rfl⟩
theorem m3_145 : u_lay RX7 TX7 10 ∈ h_tb := List.mem_filter.mpr ⟨List.mem_append_right _ (List.mem_append_right _ (List.mem_append_right _ (List.mem_append_left _ (List.mem_of_getElem? (i := 145) rfl)))), rfl⟩
theorem m3_147 : u_lay RX7 TX7 11 ∈ h_tb := List.mem_filter.mpr ⟨List.mem_append_right _ (List.mem_append_right _ (List.mem_append_right _ (List.mem_append_left _ (List.mem_of_getElem? (i := 147) rfl)))), rfl⟩
theorem m3_149 : u_lay RX7 TX7 12 ∈ h_tb := List.mem_filter.mpr ⟨List.mem_append_right _ (List.mem_append_right _ (List.mem_append_right _ (List.mem_append_left _ (List.mem_of_getElem? (i := 149) rfl)))), rfl⟩
theorem m3_151 : u_lay RX7 TX7 13 ∈ h_tb := List.mem_filter.mpr ⟨List.mem_append_right _ (List.mem_append_right _ (List.mem_append_right _ (List.mem_append_left _ (List.mem_of_getElem? (i := 151) rfl)))), rfl⟩
theorem m3_153 : u_lay RX7 TX7 14 ∈ h_tb := List.mem_filter.mpr ⟨List.mem_append_right _ (List.mem_append_right _ (List.mem_append_right _ (List.mem_append_left _ (List.mem_of_getElem? (i := 153) rfl)))), rfl⟩
theorem m3_155 : u_lay RX7 TX7 15 ∈ h_tb := List.mem_filter.mpr ⟨List.mem_append_right _ (List.mem_append_right _ (List.mem_append_right _ (List.mem_append_left _ (List.mem_of_getElem? (i := 155) rfl)))), rfl⟩
theorem m3_157 : u_lay RX7 TX7 16 ∈ h_tb := List.mem_filter.mpr ⟨List.mem_append_right _ (List.mem_append_right _ (List.mem_append_right _ (List.mem_append_left _ (List.mem_of_getElem? (i := 157) rfl)))), rfl⟩
theorem m3_159 : u_lay RX7 TX7 17 ∈ h_tb := List.mem_filter.mpr ⟨List.mem_append_right _ (List.mem_append_right _ (List.mem_append_right _ (List.mem_append_left _ (List.mem_of_getElem? (i := 159) rfl)))), rfl⟩
theorem m3_161 : u_lay RX7 TX7 18 ∈ h_tb := List.mem_filter.mpr ⟨List.mem_append_right _ (List.mem_append_right _ (List.mem_append_right _ (List.mem_append_left _ (List.mem_of_getElem? (i := 161) rfl)))), rfl⟩
theorem m3_163 : u_lay RX7 TX7 19 ∈ h_tb := List.mem_filter.mpr ⟨List.mem_append_right _ (List.mem_append_right _ (List.mem_append_right _ (List.mem_append_left _ (List.mem_of_getElem? (i := 163) rfl)))), rfl⟩
theorem m3_165 : u_lay RX7 TX7 20 ∈ h_tb := List.mem_filter.mpr ⟨List.mem_append_right _ (List.mem_append_right _ (List.mem_append_right _ (List.mem_append_left _ (List.mem_of_getElem? (i := 165) rfl)))), rfl⟩
theorem m3_167 : u_lay RX7 TX7 21 ∈ h_tb := List.mem_filter.mpr ⟨List.mem_append_right _ (List.mem_append_right _ (List.mem_append_right _ (List.mem_append_left _ (List.mem_of_getElem? (i := 167) rfl)))), rfl⟩
theorem m3_169 : u_lay RX7 TX7 22 ∈ h_tb := List.mem_filter.mpr ⟨List.mem_append_right _ (List.mem_append_right _ (List.mem_append_right _ (List.mem_append_left _ (List.mem_of_getElem? (i := 169) rfl)))), rfl⟩
theorem inX7 : ∀ w ∈ u_ws RX7 TX7 23, w ∈ h_tb := List.forall_mem_cons.mpr ⟨m3_125, List.forall_mem_cons.mpr ⟨m3_127, List.forall_mem_cons.mpr ⟨m3_129, List.forall_mem_cons.mpr ⟨m3_131, List.forall_mem_cons.mpr ⟨m3_133, List.forall_mem_cons.mpr ⟨m3_135, List.forall_mem_cons.mpr ⟨m3_137, List.forall_mem_cons.mpr ⟨m3_139, List.forall_mem_cons.mpr ⟨m3_141, List.forall_mem_cons.mpr ⟨m3_143, List.forall_mem_cons.mpr ⟨m3_145, List.forall_mem_cons.mpr ⟨m3_147, List.forall_mem_cons.mpr ⟨m3_149, List.forall_mem_cons.mpr ⟨m3_151, List.forall_mem_cons.mpr ⟨m3_153, List.forall_mem_cons.mpr ⟨m3_155, List.forall_mem_cons.mpr ⟨m3_157, List.forall_mem_cons.mpr ⟨m3_159, List.forall_mem_cons.mpr ⟨m3_161, List.forall_mem_cons.mpr ⟨m3_163, List.forall_mem_cons.mpr ⟨m3_165, List.forall_mem_cons.mpr ⟨m3_167, List.forall_mem_cons.mpr ⟨m3_169, fun _ h => absurd h List.not_mem_nil⟩⟩⟩⟩⟩⟩⟩⟩⟩⟩⟩⟩⟩⟩⟩⟩⟩⟩⟩⟩⟩⟩⟩
end
section
/-! A HEAP OF NUMBERS. A state of the two programs is four functions: the kind and the length of what lies at an address, its ints, its references, the next address. -/
abbrev hp_S : Type := (Nat → Nat × Nat) × (Nat → Nat → Int32) × (Nat → Nat → Option Nat) × Nat
/-- the launch's own numbers: classes and slots, array classes by kind, the first address that is ours, where the static tables lie -/
abbrev hp_G : Type := va_G × (Nat → ClassId) × Nat × (Nat → Nat)
def hp_set {α : Type} (f : Nat → Nat → α) (a k : Nat) (v : α) : Nat → Nat → α := va_up f a (va_up (f a) k v)
def hp_pI (z : hp_S) (a k : Nat) (v : Int32) : hp_S := (z.1, hp_set z.2.1 a k v, z.2.2.1, z.2.2.2)
def hp_pR (z : hp_S) (a k : Nat) (v : Option Nat) : hp_S := (z.1, z.2.1, hp_set z.2.2.1 a k v, z.2.2.2)
def hp_nw (z : hp_S) (kd n : Nat) : hp_S := (va_up z.1 z.2.2.2 (kd, n), va_up z.2.1 z.2.2.2 (fun _ => 0), va_up z.2.2.1 z.2.2.2 (fun _ => none), z.2.2.2 + 1)
/-- an object's fields: false an int, true a reference -/
def hp_fl : List Bool → Nat → (Nat → Int32) → (Nat → Option Nat) → List Value
  | [], _, _, _ => []
  | false :: ts, k, f, g => .int (f k) :: hp_fl ts (k + 1) f g
  | true :: ts, k, f, g => va_rf (g k) :: hp_fl ts (k + 1) f g
/-- kinds: 0 nothing, 1 int[], 2 boolean[], 3 + c an object of class c, 53 + c an array of such -/
def hp_E (G : hp_G) (z : hp_S) (a : Nat) : Option va_E :=
  if (z.1 a).1 = 0 then none
  else if (z.1 a).1 < 3 then some (.inl (G.2.1 (z.1 a).1, (z.1 a).2, .inl (z.2.1 a)))
  else if (z.1 a).1 < 53 then some (.inr ((z.1 a).1 - 3, hp_fl (h_ft ((z.1 a).1 - 3)) 0 (z.2.1 a) (z.2.2.1 a)))
  else some (.inl (G.2.1 (z.1 a).1, (z.1 a).2, .inr (.inr (.inr (.inr (z.2.2.1 a))))))
def hp_P (G : hp_G) (z : hp_S) (H : Heap) : Prop := (∀ (a : Nat) (x : va_E), hp_E G z a = some x → va_at G.1 h_cl (a, x) H ∧ G.2.2.1 ≤ a) ∧ H.size = z.2.2.2 ∧ G.2.2.1 ≤ H.size
abbrev hp_A (G : hp_G) : Nat → Prop := fun q => G.2.2.1 ≤ q
theorem hp_set_ne {α : Type} {f : Nat → Nat → α} {a k b : Nat} {v : α} (h : b ≠ a) : hp_set f a k v b = f b := by simp [hp_set, va_up, h]
theorem hp_set_eq {α : Type} {f : Nat → Nat → α} {a k : Nat} {v : α} : hp_set f a k v a = va_up (f a) k v := by simp [hp_set, va_up]
theorem hp_fl_congr : ∀ (ts : List Bool) (i : Nat) (f f' : Nat → Int32) (g g' : Nat → Option Nat), (∀ j, i ≤ j → f j = f' j) → (∀ j, i ≤ j → g j = g' j) → hp_fl ts i f g = hp_fl ts i f' g'
  | [], _, _, _, _, _, _, _ => rfl
  | false :: ts, i, f, f', g, g', h1, h2 => by
    show _ :: _ = _ :: _
    rw [h1 i (Nat.le_refl i), hp_fl_congr ts (i + 1) f f' g g' (fun j hj => h1 j (by omega)) (fun j hj => h2 j (by omega))]
  | true :: ts, i, f, f', g, g', h1, h2 => by
    show _ :: _ = _ :: _
    rw [h2 i (Nat.le_refl i), hp_fl_congr ts (i + 1) f f' g g' (fun j hj => h1 j (by omega)) (fun j hj => h2 j (by omega))]
theorem hp_fl_I : ∀ (ts : List Bool) (i k : Nat) (f : Nat → Int32) (g : Nat → Option Nat), ts[k]? = some false → (hp_fl ts i f g)[k]? = some (.int (f (i + k)))
  | [], _, _, _, _, h => by simp at h
  | false :: ts, i, 0, f, g, _ => rfl
  | true :: ts, i, 0, f, g, h => by simp at h
  | false :: ts, i, k + 1, f, g, h => by
    have e := hp_fl_I ts (i + 1) k f g (by simpa using h)
    rw [show i + 1 + k = i + (k + 1) by omega] at e
    exact e
  | true :: ts, i, k + 1, f, g, h => by
    have e := hp_fl_I ts (i + 1) k f g (by simpa using h)
    rw [show i + 1 + k = i + (k + 1) by omega] at e
    exact e
theorem hp_fl_R : ∀ (ts : List Bool) (i k : Nat) (f : Nat → Int32) (g : Nat → Option Nat), ts[k]? = some true → (hp_fl ts i f g)[k]? = some (va_rf (g (i + k)))
  | [], _, _, _, _, h => by simp at h
  | true :: ts, i, 0, f, g, _ => rfl
  | false :: ts, i, 0, f, g, h => by simp at h
  | false :: ts, i, k + 1, f, g, h => by
    have e := hp_fl_R ts (i + 1) k f g (by simpa using h)
    rw [show i + 1 + k = i + (k + 1) by omega] at e
    exact e
  | true :: ts, i, k + 1, f, g, h => by
    have e := hp_fl_R ts (i + 1) k f g (by simpa using h)
    rw [show i + 1 + k = i + (k + 1) by omega] at e
    exact e
theorem hp_fl_setI : ∀ (ts : List Bool) (i k : Nat) (f : Nat → Int32) (g : Nat → Option Nat) (v : Int32), ts[k]? = some false → (hp_fl ts i f g).set k (.int v) = hp_fl ts i (va_up f (i + k) v) g
  | [], _, _, _, _, _, h => by simp at h
  | true :: ts, i, 0, f, g, v, h => by simp at h
  | false :: ts, i, 0, f, g, v, _ => by
    show _ :: _ = _ :: _
    rw [hp_fl_congr ts (i + 1) f (va_up f (i + 0) v) g g (fun j hj => by simp [va_up]; omega) (fun _ _ => rfl)]
    simp [va_up]
  | false :: ts, i, k + 1, f, g, v, h => by
    have e := hp_fl_setI ts (i + 1) k f g v (by simpa using h)
    rw [show i + 1 + k = i + (k + 1) by omega] at e
    show _ :: _ = _ :: _
    rw [e]
    simp [va_up]
  | true :: ts, i, k + 1, f, g, v, h => by
    have e := hp_fl_setI ts (i + 1) k f g v (by simpa using h)
    rw [show i + 1 + k = i + (k + 1) by omega] at e
    show _ :: _ = _ :: _
    rw [e]
theorem hp_fl_setR : ∀ (ts : List Bool) (i k : Nat) (f : Nat → Int32) (g : Nat → Option Nat) (v : Option Nat), ts[k]? = some true → (hp_fl ts i f g).set k (va_rf v) = hp_fl ts i f (va_up g (i + k) v)
  | [], _, _, _, _, _, h => by simp at h
  | false :: ts, i, 0, f, g, v, h => by simp at h
  | true :: ts, i, 0, f, g, v, _ => by
    show _ :: _ = _ :: _
    rw [hp_fl_congr ts (i + 1) f f g (va_up g (i + 0) v) (fun _ _ => rfl) (fun j hj => by simp [va_up]; omega)]
    simp [va_up]
  | false :: ts, i, k + 1, f, g, v, h => by
    have e := hp_fl_setR ts (i + 1) k f g v (by simpa using h)
    rw [show i + 1 + k = i + (k + 1) by omega] at e
    show _ :: _ = _ :: _
    rw [e]
  | true :: ts, i, k + 1, f, g, v, h => by
    have e := hp_fl_setR ts (i + 1) k f g v (by simpa using h)
    rw [show i + 1 + k = i + (k + 1) by omega] at e
    show _ :: _ = _ :: _
    rw [e]
    simp [va_up]
theorem hp_fl_len : ∀ (ts : List Bool) (i : Nat) (f : Nat → Int32) (g : Nat → Option Nat), (hp_fl ts i f g).length = ts.length
  | [], _, _, _ => rfl
  | false :: ts, i, f, g => by show _ + 1 = _ + 1; rw [hp_fl_len ts (i + 1) f g]
  | true :: ts, i, f, g => by show _ + 1 = _ + 1; rw [hp_fl_len ts (i + 1) f g]
theorem hp_E_eq {G : hp_G} {z z' : hp_S} {a : Nat} (h1 : z'.1 a = z.1 a) (h2 : z'.2.1 a = z.2.1 a) (h3 : z'.2.2.1 a = z.2.2.1 a) : hp_E G z' a = hp_E G z a := by
  unfold hp_E
  rw [h1, h2, h3]
theorem hp_E_obj {G : hp_G} {z : hp_S} {a c : Nat} (hs : (z.1 a).1 = c + 3) (hc : c < 50) : hp_E G z a = some (.inr (c, hp_fl (h_ft c) 0 (z.2.1 a) (z.2.2.1 a))) := by
  unfold hp_E
  rw [hs, if_neg (by omega), if_neg (by omega), if_pos (by omega), show c + 3 - 3 = c by omega]
theorem hp_E_ai {G : hp_G} {z : hp_S} {a kd : Nat} (hs : (z.1 a).1 = kd) (h0 : 0 < kd) (h3 : kd < 3) : hp_E G z a = some (.inl (G.2.1 kd, (z.1 a).2, .inl (z.2.1 a))) := by
  unfold hp_E
  rw [hs, if_neg (by omega), if_pos h3]
theorem hp_E_ar {G : hp_G} {z : hp_S} {a c : Nat} (hs : (z.1 a).1 = c + 53) : hp_E G z a = some (.inl (G.2.1 (c + 53), (z.1 a).2, .inr (.inr (.inr (.inr (z.2.2.1 a)))))) := by
  unfold hp_E
  rw [hs, if_neg (by omega), if_neg (by omega), if_neg (by omega)]
/-- one cell has changed -/
theorem hp_P.step {G : hp_G} {z z' : hp_S} {H H' : Heap} {a : Nat} (h : hp_P G z H) (hz : H'.size = H.size) (ho : ∀ q : Nat, q ≠ a → H'[q]? = H[q]?) (hN : z'.2.2.2 = z.2.2.2) (hE : ∀ b, b ≠ a → hp_E G z' b = hp_E G z b) (ha : ∀ x, hp_E G z' a = some x → va_at G.1 h_cl (a, x) H' ∧ G.2.2.1 ≤ a) : hp_P G z' H' := by
  refine ⟨fun b x hx => ?_, by rw [hz, hN]; exact h.2.1, by rw [hz]; exact h.2.2⟩
  by_cases hb : b = a
  · subst hb
    exact ha x hx
  · rw [hE b hb] at hx
    exact ⟨(h.1 b x hx).1.kept (ho b hb), (h.1 b x hx).2⟩
/-- one cell more -/
theorem hp_P.push {G : hp_G} {z : hp_S} {H H' : Heap} {kd n : Nat} (h : hp_P G z H) (hz : H'.size = H.size + 1) (ho : ∀ q : Nat, q < H.size → H'[q]? = H[q]?) (ha : ∀ x, hp_E G (hp_nw z kd n) H.size = some x → va_at G.1 h_cl (H.size, x) H') : hp_P G (hp_nw z kd n) H' := by
  refine ⟨fun b x hx => ?_, by rw [hz, h.2.1]; rfl, by have := h.2.2; omega⟩
  by_cases hb : b = H.size
  · subst hb
    exact ⟨ha x hx, h.2.2⟩
  · have hb' : b ≠ z.2.2.2 := by rw [← h.2.1]; exact hb
    have e : hp_E G (hp_nw z kd n) b = hp_E G z b := hp_E_eq (by simp [hp_nw, va_up, hb']) (by simp [hp_nw, va_up, hb']) (by simp [hp_nw, va_up, hb'])
    rw [e] at hx
    exact ⟨(h.1 b x hx).1.kept (ho b (h.1 b x hx).1.lt), (h.1 b x hx).2⟩
theorem hp_E_pI_ne {G : hp_G} {z : hp_S} {a k b : Nat} {v : Int32} (h : b ≠ a) : hp_E G (hp_pI z a k v) b = hp_E G z b := hp_E_eq rfl (by simp [hp_pI, hp_set_ne h]) rfl
theorem hp_E_pR_ne {G : hp_G} {z : hp_S} {a k b : Nat} {v : Option Nat} (h : b ≠ a) : hp_E G (hp_pR z a k v) b = hp_E G z b := hp_E_eq rfl rfl (by simp [hp_pR, hp_set_ne h])
/-! THE OPERATIONS: what an instruction gives, or none -/
def ho_gi (c a k : Nat) (z : hp_S) : Option Int32 := if (z.1 a).1 = c + 3 then some (z.2.1 a k) else none
def ho_gr (c a k : Nat) (z : hp_S) : Option Nat := if (z.1 a).1 = c + 3 then z.2.2.1 a k else none
def ho_pi (c a k : Nat) (v : Int32) (z : hp_S) : Option hp_S := if (z.1 a).1 = c + 3 then some (hp_pI z a k v) else none
def ho_pr (c a k v : Nat) (z : hp_S) : Option hp_S := if (z.1 a).1 = c + 3 then some (hp_pR z a k (some v)) else none
def ho_li (kd a : Nat) (i : Int32) (z : hp_S) : Option Int32 := if (z.1 a).1 = kd ∧ ¬ (i < 0 ∨ (z.1 a).2 ≤ i.toNatClampNeg) then some (z.2.1 a i.toNatClampNeg) else none
def ho_si (a : Nat) (i v : Int32) (z : hp_S) : Option hp_S := if (z.1 a).1 = 1 ∧ ¬ (i < 0 ∨ (z.1 a).2 ≤ i.toNatClampNeg) then some (hp_pI z a i.toNatClampNeg v) else none
def ho_sz (a : Nat) (i v : Int32) (z : hp_S) : Option hp_S := if (z.1 a).1 = 2 ∧ ¬ (i < 0 ∨ (z.1 a).2 ≤ i.toNatClampNeg) then some (hp_pI z a i.toNatClampNeg (vp_nar .boolean v)) else none
def ho_lr (c a : Nat) (i : Int32) (z : hp_S) : Option Nat := if (z.1 a).1 = c + 53 ∧ ¬ (i < 0 ∨ (z.1 a).2 ≤ i.toNatClampNeg) then z.2.2.1 a i.toNatClampNeg else none
def ho_sr (c a : Nat) (i : Int32) (v : Nat) (z : hp_S) : Option hp_S := if (z.1 a).1 = c + 53 ∧ ¬ (i < 0 ∨ (z.1 a).2 ≤ i.toNatClampNeg) ∧ (z.1 v).1 = c + 3 then some (hp_pR z a i.toNatClampNeg (some v)) else none
def ho_ln (kd a : Nat) (z : hp_S) : Option Int32 := if (z.1 a).1 = kd then some (Int32.ofNat (z.1 a).2) else none
def ho_tl (t : List Int32) (i : Int32) : Option Int32 := if ¬ (i < 0 ∨ t.length ≤ i.toNatClampNeg) then some (t.getD i.toNatClampNeg 0) else none
def ho_dv (x y : Int32) : Option Int32 := if y = 0 then none else some (x / y)
def ho_rm (x y : Int32) : Option Int32 := if y = 0 then none else some (x - x / y * y)
end
section
/-! THE ROWS: an instruction, a row, over the heap of numbers -/
theorem hp_word {w : Cond} (ok : hp_ok w = true) {a a' : Array Value} {s U : State} (hW : s.WarmedH U.vm) (h : w.before a s = true) : w.before a' U = true := by
  unfold hp_ok at ok
  split at ok
  · exact va_Nw.use rfl (va_Nw.warmF hW (va_Nw.of rfl h))
  · exact va_Nw.use rfl (va_Nw.warmM hW (va_Nw.of rfl h))
  · exact va_AO.use (va_AO.moved hW.alike (va_AO.of h))
  · exact word_at hW (good_of_word ok) h
theorem h_tb_ok : ∀ w ∈ h_tb, hp_ok w = true := fun _ h => (List.mem_filter.mp h).2
def hp_wd (U : State) : Prop := ∀ w ∈ h_tb, w.before #[] U = true
theorem hp_use {s : State} (h : hp_wd s) {w : Cond} (hw : w ∈ h_tb) (args : Array Value) : w.before args s = true := hp_word (h_tb_ok w hw) (State.WarmedH.refl s) (h w hw)
def hp_T (G : hp_G) (U : State) (H : Heap) : Prop := ∀ q ∈ h_st, va_Z q.1 q.2.1 "[I" (.ref (G.2.2.2 q.2.2.1)) (hp_A G) U H ∧ va_T .int (G.2.2.2 q.2.2.1) q.2.2.2.length (fun j => .int (q.2.2.2.getD j 0)) (hp_A G) U H
/-- the world of both programs -/
def hp_W (G : hp_G) (z : hp_S) (U : State) : Prop := hp_wd U ∧ va_K G.1 h_cl (h_tys G.2.1) U ∧ hp_P G z U.heap ∧ hp_T G U U.heap
/-- what a walk has at hand -/
def hp_C (G : hp_G) (cc : ByteArray) (own : String) (nL : Nat) (p : Program) (s : State) (m : MethodId) (c : Code) : Prop := p.tables.exec = Jvm.exec ∧ c.code = cc ∧ s.vm.findClass own = some m.cls ∧ c.maxLocals = nL ∧ hp_wd s ∧ va_K G.1 h_cl (h_tys G.2.1) s ∧ hp_T G s s.heap
theorem hp_T.to {G : hp_G} {s U : State} {H0 H : Heap} (h : hp_T G s H0) (hvm : s.vm.Alike U.vm) (hq : ∀ a : Nat, a < H0.size → ¬ hp_A G a → H[a]? = H0[a]?) : hp_T G U H := fun q hq' => ⟨((h q hq').1.kept hq).moved hvm, ((h q hq').2.kept hq).moved hvm⟩
theorem hp_W.at {G : hp_G} {z : hp_S} {cc : ByteArray} {own : String} {nL : Nat} {p : Program} {s U : State} {m : MethodId} {c : Code} {H : Heap} {locs : List Loc} (X : hp_C G cc own nL p s m c) (hP : hp_P G z H) (hS : va_S (hp_A G) s.heap H locs) (hU : U.heap = H) (hW : s.WarmedH U.vm) : hp_W G z U := by
  obtain ⟨-, -, -, -, hwd, hK, hT⟩ := X
  subst hU
  exact ⟨fun w hw => hp_word (h_tb_ok w hw) hW (hwd w hw), va_K.moved hW.alike hK, hP, hT.to hW.alike hS.2.1⟩
theorem hp_blind {G : hp_G} {z : hp_S} {av : List Value} : FrameBlind (va_Pc av (hp_W G z)) := by
  intro a U g mk q
  obtain ⟨q0, q1, q2, q3, q4⟩ := q
  exact ⟨q0, fun w hw => hp_word (s := U) (U := U.calling g mk a) (h_tb_ok w hw) (State.WarmedH.refl U) (q1 w hw), va_K.moved (u := U) (U := U.calling g mk a) (Vm.Alike.refl U.vm) q2, q3, hp_T.to (s := U) (U := U.calling g mk a) q4 (Vm.Alike.refl U.vm) (fun _ _ _ => rfl)⟩
theorem hp_one {D : va_G} {cl : List vw_C} {q : Nat × va_E} {H : Heap} (h : va_at D cl q H) : va_P D cl [q] H := by
  intro k x hk
  match k, hk with
  | 0, hk =>
    cases hk
    exact h
/-- a class's table -/
def hp_L (ci : Nat) (C : String) (T : u_T) (N : Nat) (ty : Nat → FieldType) : Prop := h_cl[ci]? = some (C, T, N) ∧ ci < 50 ∧ (∀ w ∈ u_ws C T N, w ∈ h_tb) ∧ (∀ k, k < N → parseFieldDescriptor (T k).2.2.1 = some (ty k)) ∧ (∀ a, a < N → ∀ b, b < N → a ≠ b → (T a).2.1 ≠ (T b).2.1)
theorem hp_P.obj {G : hp_G} {z : hp_S} {H : Heap} {a ci : Nat} {C : String} {T : u_T} {N : Nat} {ty : Nat → FieldType} (hP : hp_P G z H) (L : hp_L ci C T N ty) (hs : (z.1 a).1 = ci + 3) : ∃ cell : Cell, H[a]? = some cell ∧ cell.cls = G.1.1 ci ∧ cell.vm = .none ∧ (∀ k, k < N → cell.slots[G.1.2 ci k]? = some (vp_V (hp_fl (h_ft ci) 0 (z.2.1 a) (z.2.2.1 a)) k)) ∧ G.2.2.1 ≤ a := by
  obtain ⟨⟨r, h1, cell, q1, q2, q3, q4⟩, h5⟩ := hP.1 a _ (hp_E_obj hs L.2.1)
  have hr : r = (C, T, N) := Option.some.inj (h1.symm.trans L.1)
  subst hr
  exact ⟨cell, q1, q2, q3, q4, h5⟩
theorem hp_P.putI {G : hp_G} {z : hp_S} {H H' : Heap} {a ci k : Nat} {C : String} {T : u_T} {N : Nat} {ty : Nat → FieldType} {v : Int32} {cell : Cell} (hP : hp_P G z H) (L : hp_L ci C T N ty) (hs : (z.1 a).1 = ci + 3) (hap : ∀ x y, x < N → y < N → x ≠ y → G.1.2 ci x ≠ G.1.2 ci y) (hk : k < N) (hft : (h_ft ci)[k]? = some false) (q1 : H[a]? = some cell) (e1 : H'[a]? = some (cell.setSlot (G.1.2 ci k) (.int v))) (e2 : H'.size = H.size) (e3 : ∀ q : Nat, q ≠ a → H'[q]? = H[q]?) : hp_P G (hp_pI z a k v) H' := by
  obtain ⟨cell', q1', q2, q3, q4, q5⟩ := hP.obj L hs
  cases q1.symm.trans q1'
  refine hP.step e2 e3 rfl (fun b hb => hp_E_pI_ne hb) (fun x hx => ?_)
  have he : hp_E G (hp_pI z a k v) a = some (.inr (ci, hp_fl (h_ft ci) 0 (hp_set z.2.1 a k v a) (z.2.2.1 a))) := hp_E_obj (z := hp_pI z a k v) hs L.2.1
  rw [he] at hx
  cases hx
  refine ⟨⟨_, L.1, t_OB.to (V := updV (vp_V (hp_fl (h_ft ci) 0 (z.2.1 a) (z.2.2.1 a))) k (.int v)) ⟨_, e1, q2, q3, t_set q4 hap hk _⟩ (fun j _ => ?_)⟩, q5⟩
  rw [vp_updV_set (by rw [hp_fl_len]; exact (List.getElem?_eq_some_iff.mp hft).1), hp_fl_setI _ _ _ _ _ _ hft, Nat.zero_add, hp_set_eq]
theorem hp_P.putR {G : hp_G} {z : hp_S} {H H' : Heap} {a ci k : Nat} {C : String} {T : u_T} {N : Nat} {ty : Nat → FieldType} {v : Option Nat} {cell : Cell} (hP : hp_P G z H) (L : hp_L ci C T N ty) (hs : (z.1 a).1 = ci + 3) (hap : ∀ x y, x < N → y < N → x ≠ y → G.1.2 ci x ≠ G.1.2 ci y) (hk : k < N) (hft : (h_ft ci)[k]? = some true) (q1 : H[a]? = some cell) (e1 : H'[a]? = some (cell.setSlot (G.1.2 ci k) (va_rf v))) (e2 : H'.size = H.size) (e3 : ∀ q : Nat, q ≠ a → H'[q]? = H[q]?) : hp_P G (hp_pR z a k v) H' := by
  obtain ⟨cell', q1', q2, q3, q4, q5⟩ := hP.obj L hs
  cases q1.symm.trans q1'
  refine hP.step e2 e3 rfl (fun b hb => hp_E_pR_ne hb) (fun x hx => ?_)
  have he : hp_E G (hp_pR z a k v) a = some (.inr (ci, hp_fl (h_ft ci) 0 (z.2.1 a) (hp_set z.2.2.1 a k v a))) := hp_E_obj (z := hp_pR z a k v) hs L.2.1
  rw [he] at hx
  cases hx
  refine ⟨⟨_, L.1, t_OB.to (V := updV (vp_V (hp_fl (h_ft ci) 0 (z.2.1 a) (z.2.2.1 a))) k (va_rf v)) ⟨_, e1, q2, q3, t_set q4 hap hk _⟩ (fun j _ => ?_)⟩, q5⟩
  rw [vp_updV_set (by rw [hp_fl_len]; exact (List.getElem?_eq_some_iff.mp hft).1), hp_fl_setR _ _ _ _ _ _ hft, Nat.zero_add, hp_set_eq]
/-- the places of a field: its class, its slot, the link by which own names it -/
def hp_F (own : String) (index k : Nat) (T : u_T) (N : Nat) : Prop := k < N ∧ Cond.fieldLink own index (T k).1 (T k).2.1 (T k).2.2.1 ∈ h_tb
def hp_FN (own : String) (index k : Nat) (T : u_T) (N : Nat) : Prop := k < N ∧ ∃ host : String, Cond.fieldLinkNest own index (T k).1 (T k).2.1 (T k).2.2.1 host ∈ h_tb
section HW
variable {p : Program} {l : Launch} {e : Env} {R : Room} {s : State} {m : MethodId} {args : Array Value} {below : List Frame} {meth : Method} {c : Code} {H : Heap} {locs : List Loc} {cells slots : Nat} {Q : State → Prop}
variable {cc : ByteArray} {pc : Nat} {ls : Array Slot} {rest : List Value} {G : hp_G} {z z1 : hp_S} {own C : String} {nL a ci k index N : Nat} {T : u_T} {ty : Nat → FieldType} {H0 : Heap}
theorem hw_gi (X : hp_C G cc own nL p s m c) (hP : hp_P G z H) (L : hp_L ci C T N ty) (f : hp_F own index k T N) (hft : (h_ft ci)[k]? = some false) {v : Int32} (q : ho_gi ci a k z = some v) (hdg : decode cc pc = .ok (.getfield index, 3)) (kk : W p l e R s m args below meth c H locs cells slots Q (F0 m (pc + 3) ls (.int v :: rest))) : W p l e R s m args below meth c H locs cells slots Q (F0 m pc ls (.ref a :: rest)) := by
  obtain ⟨hx, hb, hown, hml, hwd, hK, hT⟩ := X
  unfold ho_gi at q
  split at q
  · rename_i hs
    cases q
    exact va_get (ws := [(a, .inr (ci, hp_fl (h_ft ci) 0 (z.2.1 a) (z.2.2.1 a)))]) (Ts := h_tb) hx hb (fun w h => hp_use hwd h args) L.2.2.1 hown hK (hp_one (hP.1 a _ (hp_E_obj hs L.2.1)).1) 0 rfl L.1 k f.1 (hp_use hwd f.2 args) (fun _ h => h) (by have t := hp_fl_I (h_ft ci) 0 k (z.2.1 a) (z.2.2.1 a) hft; rwa [Nat.zero_add] at t) hdg kk
  · cases q
theorem hw_giN (X : hp_C G cc own nL p s m c) (hP : hp_P G z H) (L : hp_L ci C T N ty) (f : hp_FN own index k T N) (hft : (h_ft ci)[k]? = some false) {v : Int32} (q : ho_gi ci a k z = some v) (hdg : decode cc pc = .ok (.getfield index, 3)) (kk : W p l e R s m args below meth c H locs cells slots Q (F0 m (pc + 3) ls (.int v :: rest))) : W p l e R s m args below meth c H locs cells slots Q (F0 m pc ls (.ref a :: rest)) := by
  obtain ⟨hx, hb, hown, hml, hwd, hK, hT⟩ := X
  obtain ⟨f1, host, f2⟩ := f
  unfold ho_gi at q
  split at q
  · rename_i hs
    cases q
    exact va_getN (ws := [(a, .inr (ci, hp_fl (h_ft ci) 0 (z.2.1 a) (z.2.2.1 a)))]) (Ts := h_tb) hx hb (fun w h => hp_use hwd h args) L.2.2.1 hown hK (hp_one (hP.1 a _ (hp_E_obj hs L.2.1)).1) 0 rfl L.1 k f1 (hp_use hwd f2 args) (fun _ h => h) (by have t := hp_fl_I (h_ft ci) 0 k (z.2.1 a) (z.2.2.1 a) hft; rwa [Nat.zero_add] at t) hdg kk
  · cases q
theorem hw_gr (X : hp_C G cc own nL p s m c) (hP : hp_P G z H) (L : hp_L ci C T N ty) (f : hp_F own index k T N) (hft : (h_ft ci)[k]? = some true) {v : Nat} (q : ho_gr ci a k z = some v) (hdg : decode cc pc = .ok (.getfield index, 3)) (kk : W p l e R s m args below meth c H locs cells slots Q (F0 m (pc + 3) ls (.ref v :: rest))) : W p l e R s m args below meth c H locs cells slots Q (F0 m pc ls (.ref a :: rest)) := by
  obtain ⟨hx, hb, hown, hml, hwd, hK, hT⟩ := X
  unfold ho_gr at q
  split at q
  · rename_i hs
    exact va_get (v := .ref v) (ws := [(a, .inr (ci, hp_fl (h_ft ci) 0 (z.2.1 a) (z.2.2.1 a)))]) (Ts := h_tb) hx hb (fun w h => hp_use hwd h args) L.2.2.1 hown hK (hp_one (hP.1 a _ (hp_E_obj hs L.2.1)).1) 0 rfl L.1 k f.1 (hp_use hwd f.2 args) (fun _ h => h) (by have t := hp_fl_R (h_ft ci) 0 k (z.2.1 a) (z.2.2.1 a) hft; rw [Nat.zero_add, q] at t; exact t) hdg kk
  · cases q
theorem hw_grN (X : hp_C G cc own nL p s m c) (hP : hp_P G z H) (L : hp_L ci C T N ty) (f : hp_FN own index k T N) (hft : (h_ft ci)[k]? = some true) {v : Nat} (q : ho_gr ci a k z = some v) (hdg : decode cc pc = .ok (.getfield index, 3)) (kk : W p l e R s m args below meth c H locs cells slots Q (F0 m (pc + 3) ls (.ref v :: rest))) : W p l e R s m args below meth c H locs cells slots Q (F0 m pc ls (.ref a :: rest)) := by
  obtain ⟨hx, hb, hown, hml, hwd, hK, hT⟩ := X
  obtain ⟨f1, host, f2⟩ := f
  unfold ho_gr at q
  split at q
  · rename_i hs
    exact va_getN (v := .ref v) (ws := [(a, .inr (ci, hp_fl (h_ft ci) 0 (z.2.1 a) (z.2.2.1 a)))]) (Ts := h_tb) hx hb (fun w h => hp_use hwd h args) L.2.2.1 hown hK (hp_one (hP.1 a _ (hp_E_obj hs L.2.1)).1) 0 rfl L.1 k f1 (hp_use hwd f2 args) (fun _ h => h) (by have t := hp_fl_R (h_ft ci) 0 k (z.2.1 a) (z.2.2.1 a) hft; rw [Nat.zero_add, q] at t; exact t) hdg kk
  · cases q
theorem hp_apart (hwd : hp_wd s) (hK : va_K G.1 h_cl (h_tys G.2.1) s) (L : hp_L ci C T N ty) : ∀ x y, x < N → y < N → x ≠ y → G.1.2 ci x ≠ G.1.2 ci y :=
  va_apart (own := C) (args := #[]) hwd L.2.2.1 ty L.2.2.2.1 L.2.2.2.2 hK L.1
theorem hw_pi (X : hp_C G cc own nL p s m c) (hP : hp_P G z H) (hS : va_S (hp_A G) H0 H locs) (L : hp_L ci C T N ty) (f : hp_F own index k T N) (hft : (h_ft ci)[k]? = some false) (hfin : (T k).2.2.2 = false) (hty : ty k = .int) {v : Int32} (q : ho_pi ci a k v z = some z1) (hdg : decode cc pc = .ok (.putfield index, 3)) (kk : ∀ (H1 : Heap) (locs1 : List Loc), hp_P G z1 H1 → va_S (hp_A G) H0 H1 locs1 → W p l e R s m args below meth c H1 locs1 cells slots Q (F0 m (pc + 3) ls rest)) : W p l e R s m args below meth c H locs cells slots Q (F0 m pc ls (.int v :: .ref a :: rest)) := by
  obtain ⟨hx, hb, hown, hml, hwd, hK, hT⟩ := X
  unfold ho_pi at q
  split at q
  · rename_i hs
    cases q
    have hap := hp_apart hwd hK L
    obtain ⟨cell, q1, q2, q3, q4, q5⟩ := hP.obj L hs
    obtain ⟨hSl, hfc, kC, hkC, hkind⟩ := hK.1 ci _ L.1
    obtain ⟨cf, kf, fi, fd, hi, hsl⟩ := hSl k f.1
    have hts : ∀ w ∈ h_tb, w.before args s = true := fun w h => hp_use hwd h args
    have hlay := hts _ (L.2.2.1 _ (u_in_lay f.1))
    unfold u_lay at hlay
    rw [if_neg (by rw [hfin]; decide)] at hlay
    have hst := (u_facts hfc hkC (u_lays hts L.2.2.1 f.1) hi).1
    have h6 := u_store hfc hkC hkind hlay hi (L.2.2.2.1 k f.1) (v := .int v) (by rw [hty]; rfl) (by rw [hty]; rfl)
    refine W.putK hx hb (f := fd) ⟨hown, hp_use hwd f.2 args, ⟨_, _, _, hi⟩, hst⟩ (by rw [q2]; exact h6) q1 q3 (by rw [hsl]; exact k2_hasslot (q4 k f.1)) rfl rfl hdg fun H' e1 e2 e3 => ?_
    rw [hsl] at e1 ⊢
    exact kk H' _ (hP.putI L hs hap f.1 hft q1 e1 e2 e3) (hS.put e2 e3 q5)
  · cases q
theorem hw_piN (X : hp_C G cc own nL p s m c) (hP : hp_P G z H) (hS : va_S (hp_A G) H0 H locs) (L : hp_L ci C T N ty) (f : hp_FN own index k T N) (hft : (h_ft ci)[k]? = some false) (hfin : (T k).2.2.2 = false) (hty : ty k = .int) {v : Int32} (q : ho_pi ci a k v z = some z1) (hdg : decode cc pc = .ok (.putfield index, 3)) (kk : ∀ (H1 : Heap) (locs1 : List Loc), hp_P G z1 H1 → va_S (hp_A G) H0 H1 locs1 → W p l e R s m args below meth c H1 locs1 cells slots Q (F0 m (pc + 3) ls rest)) : W p l e R s m args below meth c H locs cells slots Q (F0 m pc ls (.int v :: .ref a :: rest)) := by
  obtain ⟨hx, hb, hown, hml, hwd, hK, hT⟩ := X
  obtain ⟨f1, host, f2⟩ := f
  unfold ho_pi at q
  split at q
  · rename_i hs
    cases q
    have hap := hp_apart hwd hK L
    obtain ⟨cell, q1, q2, q3, q4, q5⟩ := hP.obj L hs
    obtain ⟨hSl, hfc, kC, hkC, hkind⟩ := hK.1 ci _ L.1
    obtain ⟨cf, kf, fi, fd, hi, hsl⟩ := hSl k f1
    have hts : ∀ w ∈ h_tb, w.before args s = true := fun w h => hp_use hwd h args
    have hlay := hts _ (L.2.2.1 _ (u_in_lay f1))
    unfold u_lay at hlay
    rw [if_neg (by rw [hfin]; decide)] at hlay
    have hst := (u_facts hfc hkC (u_lays hts L.2.2.1 f1) hi).1
    have h6 := u_store hfc hkC hkind hlay hi (L.2.2.2.1 k f1) (v := .int v) (by rw [hty]; rfl) (by rw [hty]; rfl)
    refine va_WputK hx hb (f := fd) hown (hp_use hwd f2 args) hi hst (by rw [q2]; exact h6) q1 q3 (by rw [hsl]; exact k2_hasslot (q4 k f1)) rfl rfl hdg fun H' e1 e2 e3 => ?_
    rw [hsl] at e1 ⊢
    exact kk H' _ (hP.putI L hs hap f1 hft q1 e1 e2 e3) (hS.put e2 e3 q5)
  · cases q
theorem hw_pr (X : hp_C G cc own nL p s m c) (hP : hp_P G z H) (hS : va_S (hp_A G) H0 H locs) (L : hp_L ci C T N ty) (f : hp_F own index k T N) (hft : (h_ft ci)[k]? = some true) (hfin : (T k).2.2.2 = false) {v : Nat} (hn : narrow (ty k) (.ref v) = .ref v) (hfit : fits (ty k) (.ref v) = true) (q : ho_pr ci a k v z = some z1) (hdg : decode cc pc = .ok (.putfield index, 3)) (kk : ∀ (H1 : Heap) (locs1 : List Loc), hp_P G z1 H1 → va_S (hp_A G) H0 H1 locs1 → W p l e R s m args below meth c H1 locs1 cells slots Q (F0 m (pc + 3) ls rest)) : W p l e R s m args below meth c H locs cells slots Q (F0 m pc ls (.ref v :: .ref a :: rest)) := by
  obtain ⟨hx, hb, hown, hml, hwd, hK, hT⟩ := X
  unfold ho_pr at q
  split at q
  · rename_i hs
    cases q
    have hap := hp_apart hwd hK L
    obtain ⟨cell, q1, q2, q3, q4, q5⟩ := hP.obj L hs
    obtain ⟨hSl, hfc, kC, hkC, hkind⟩ := hK.1 ci _ L.1
    obtain ⟨cf, kf, fi, fd, hi, hsl⟩ := hSl k f.1
    have hts : ∀ w ∈ h_tb, w.before args s = true := fun w h => hp_use hwd h args
    have hlay := hts _ (L.2.2.1 _ (u_in_lay f.1))
    unfold u_lay at hlay
    rw [if_neg (by rw [hfin]; decide)] at hlay
    have hst := (u_facts hfc hkC (u_lays hts L.2.2.1 f.1) hi).1
    have h6 := u_store hfc hkC hkind hlay hi (L.2.2.2.1 k f.1) hn hfit
    refine W.putK hx hb (f := fd) ⟨hown, hp_use hwd f.2 args, ⟨_, _, _, hi⟩, hst⟩ (by rw [q2]; exact h6) q1 q3 (by rw [hsl]; exact k2_hasslot (q4 k f.1)) rfl rfl hdg fun H' e1 e2 e3 => ?_
    rw [hsl] at e1 ⊢
    exact kk H' _ (hP.putR (v := some v) L hs hap f.1 hft q1 e1 e2 e3) (hS.put e2 e3 q5)
  · cases q
/-- a final field, in its class's constructor -/
theorem hw_prF (X : hp_C G cc own nL p s m c) (hP : hp_P G z H) (hS : va_S (hp_A G) H0 H locs) (L : hp_L ci C T N ty) (f : hp_F own index k T N) (hft : (h_ft ci)[k]? = some true) (hfin : (T k).2.2.2 = true) (hin2 : meth.name = "<init>") (hdecl : (T k).1 = own) {v : Nat} (hn : narrow (ty k) (.ref v) = .ref v) (hfit : fits (ty k) (.ref v) = true) (q : ho_pr ci a k v z = some z1) (hdg : decode cc pc = .ok (.putfield index, 3)) (kk : ∀ (H1 : Heap) (locs1 : List Loc), hp_P G z1 H1 → va_S (hp_A G) H0 H1 locs1 → W p l e R s m args below meth c H1 locs1 cells slots Q (F0 m (pc + 3) ls rest)) : W p l e R s m args below meth c H locs cells slots Q (F0 m pc ls (.ref v :: .ref a :: rest)) := by
  obtain ⟨hx, hb, hown, hml, hwd, hK, hT⟩ := X
  unfold ho_pr at q
  split at q
  · rename_i hs
    cases q
    have hap := hp_apart hwd hK L
    obtain ⟨cell, q1, q2, q3, q4, q5⟩ := hP.obj L hs
    obtain ⟨hSl, hfc, kC, hkC, hkind⟩ := hK.1 ci _ L.1
    obtain ⟨cf, kf, fi, fd, hi, hsl⟩ := hSl k f.1
    have hts : ∀ w ∈ h_tb, w.before args s = true := fun w h => hp_use hwd h args
    have hlay := hts _ (L.2.2.1 _ (u_in_lay f.1))
    unfold u_lay at hlay
    rw [if_pos hfin] at hlay
    have hst := (u_facts hfc hkC (u_lays hts L.2.2.1 f.1) hi).1
    have hcf : m.cls = cf := by
      obtain ⟨_, _, c', _, _, _, -, -, hf', -, -, -, hown2, -⟩ := Cond.laysFinal_spec hlay
      have e1 : c' = cf := by have := hi.symm.trans hf'; simp at this; exact this.1.symm
      rw [hdecl] at hown2
      rw [← e1]; exact Option.some.inj (hown.symm.trans hown2)
    have h6 := u_fits hfc hkC hkind (Or.inr hlay) hi (L.2.2.2.1 k f.1) hn hfit
    refine W.putFinK hx hb hown (hp_use hwd f.2 args) hi hst hcf hin2 (by rw [q2]; exact h6) q1 q3 (by rw [hsl]; exact k2_hasslot (q4 k f.1)) rfl rfl hdg fun H' e1 e2 e3 => ?_
    rw [hsl] at e1 ⊢
    exact kk H' _ (hP.putR (v := some v) L hs hap f.1 hft q1 e1 e2 e3) (hS.put e2 e3 q5)
  · cases q
theorem hp_nz (x : Int32) : narrow .boolean (.int x) = .int (vp_nar .boolean x) := rfl
theorem hp_P.arrI {H' : Heap} {kd i : Nat} {x : Int32} (hP : hp_P G z H) (hs : (z.1 a).1 = kd) (h0 : 0 < kd) (h3 : kd < 3) (e1 : H'[a]? = some ((vp_cell (G.2.1 kd) ((z.1 a).2, .inl (z.2.1 a))).setSlot i (.int x))) (e2 : H'.size = H.size) (e3 : ∀ q : Nat, q ≠ a → H'[q]? = H[q]?) : hp_P G (hp_pI z a i x) H' := by
  refine hP.step e2 e3 rfl (fun b hb => hp_E_pI_ne hb) (fun y hy => ?_)
  have he : hp_E G (hp_pI z a i x) a = some (.inl (G.2.1 kd, (z.1 a).2, .inl (hp_set z.2.1 a i x a))) := hp_E_ai (z := hp_pI z a i x) hs h0 h3
  rw [he] at hy
  cases hy
  refine ⟨?_, (hP.1 a _ (hp_E_ai hs h0 h3)).2⟩
  show H'[a]? = some (vp_cell _ _)
  rw [e1, vp_cell_i, vp_cell_i, arrV_store, hp_set_eq]
  congr 2
  funext q
  by_cases hq : q = i
  · subst hq
    simp [updV, va_up]
  · simp [updV, va_up, hq]
theorem hp_P.arrR {H' : Heap} {i : Nat} {x : Option Nat} (hP : hp_P G z H) (hs : (z.1 a).1 = ci + 53) (e1 : H'[a]? = some ((vp_cell (G.2.1 (ci + 53)) ((z.1 a).2, .inr (.inr (.inr (.inr (z.2.2.1 a)))))).setSlot i (va_rf x))) (e2 : H'.size = H.size) (e3 : ∀ q : Nat, q ≠ a → H'[q]? = H[q]?) : hp_P G (hp_pR z a i x) H' := by
  refine hP.step e2 e3 rfl (fun b hb => hp_E_pR_ne hb) (fun y hy => ?_)
  have he : hp_E G (hp_pR z a i x) a = some (.inl (G.2.1 (ci + 53), (z.1 a).2, .inr (.inr (.inr (.inr (hp_set z.2.2.1 a i x a)))))) := hp_E_ar (z := hp_pR z a i x) hs
  rw [he] at hy
  cases hy
  refine ⟨?_, (hP.1 a _ (hp_E_ar hs)).2⟩
  show H'[a]? = some (vp_cell _ _)
  rw [e1, vp_cell_q, vp_cell_q, arrV_store, hp_set_eq]
  congr 2
  funext q
  by_cases hq : q = i
  · subst hq
    simp [updV, va_up]
  · simp [updV, va_up, hq]
theorem hw_li (X : hp_C G cc own nL p s m c) (hP : hp_P G z H) {i v : Int32} (q : ho_li 1 a i z = some v) (hdg : decode cc pc = .ok (.iaload, 1)) (kk : W p l e R s m args below meth c H locs cells slots Q (F0 m (pc + 1) ls (.int v :: rest))) : W p l e R s m args below meth c H locs cells slots Q (F0 m pc ls (.int i :: .ref a :: rest)) := by
  obtain ⟨hx, hb, hown, hml, hwd, hK, hT⟩ := X
  unfold ho_li at q
  split at q
  · rename_i hs
    cases q
    exact va_iald (ws := [(a, .inl (G.2.1 1, (z.1 a).2, .inl (z.2.1 a)))]) hx hb hK (hp_one (hP.1 a _ (hp_E_ai hs.1 (by decide) (by decide))).1) 0 0 rfl rfl hs.2 hdg kk
  · cases q
theorem hw_lz (X : hp_C G cc own nL p s m c) (hP : hp_P G z H) {i v : Int32} (q : ho_li 2 a i z = some v) (hdg : decode cc pc = .ok (.baload, 1)) (kk : W p l e R s m args below meth c H locs cells slots Q (F0 m (pc + 1) ls (.int v :: rest))) : W p l e R s m args below meth c H locs cells slots Q (F0 m pc ls (.int i :: .ref a :: rest)) := by
  obtain ⟨hx, hb, hown, hml, hwd, hK, hT⟩ := X
  unfold ho_li at q
  split at q
  · rename_i hs
    cases q
    exact va_zald (ws := [(a, .inl (G.2.1 2, (z.1 a).2, .inl (z.2.1 a)))]) hx hb hK (hp_one (hP.1 a _ (hp_E_ai hs.1 (by decide) (by decide))).1) 0 1 rfl rfl hs.2 hdg kk
  · cases q
theorem hw_lr (X : hp_C G cc own nL p s m c) (hP : hp_P G z H) {t0 : Nat} (ht : (h_tys G.2.1)[t0]? = some (G.2.1 (ci + 53), .object C)) {i : Int32} {v : Nat} (q : ho_lr ci a i z = some v) (hdg : decode cc pc = .ok (.aaload, 1)) (kk : W p l e R s m args below meth c H locs cells slots Q (F0 m (pc + 1) ls (.ref v :: rest))) : W p l e R s m args below meth c H locs cells slots Q (F0 m pc ls (.int i :: .ref a :: rest)) := by
  obtain ⟨hx, hb, hown, hml, hwd, hK, hT⟩ := X
  unfold ho_lr at q
  split at q
  · rename_i hs
    refine va_aldq (ws := [(a, .inl (G.2.1 (ci + 53), (z.1 a).2, .inr (.inr (.inr (.inr (z.2.2.1 a))))))]) hx hb hK (hp_one (hP.1 a _ (hp_E_ar hs.1)).1) 0 t0 rfl ht hs.2 hdg ?_
    rw [q]
    exact kk
  · cases q
theorem hw_si (X : hp_C G cc own nL p s m c) (hP : hp_P G z H) (hS : va_S (hp_A G) H0 H locs) {i v : Int32} (q : ho_si a i v z = some z1) (hdg : decode cc pc = .ok (.iastore, 1)) (kk : ∀ (H1 : Heap) (locs1 : List Loc), hp_P G z1 H1 → va_S (hp_A G) H0 H1 locs1 → W p l e R s m args below meth c H1 locs1 cells slots Q (F0 m (pc + 1) ls rest)) : W p l e R s m args below meth c H locs cells slots Q (F0 m pc ls (.int v :: .int i :: .ref a :: rest)) := by
  obtain ⟨hx, hb, hown, hml, hwd, hK, hT⟩ := X
  unfold ho_si at q
  split at q
  · rename_i hs
    cases q
    have hc := hP.1 a _ (hp_E_ai hs.1 (by decide) (by decide))
    refine W.iast hx hb hc.1 ((hK.2 0 _ rfl).1 (z.1 a).2 (fun j => .int (z.2.1 a j))) (fun q => by cases q) (by show ¬ (i < 0 ∨ (arrV _ _ _).slots.size ≤ _); rw [arrV_size]; exact hs.2) rfl rfl hdg fun H1 e1 e2 e3 => ?_
    exact kk H1 _ (hP.arrI hs.1 (by decide) (by decide) e1 e2 e3) (hS.put e2 e3 hc.2)
  · cases q
theorem hw_sz (X : hp_C G cc own nL p s m c) (hP : hp_P G z H) (hS : va_S (hp_A G) H0 H locs) {i v : Int32} (q : ho_sz a i v z = some z1) (hdg : decode cc pc = .ok (.bastore, 1)) (kk : ∀ (H1 : Heap) (locs1 : List Loc), hp_P G z1 H1 → va_S (hp_A G) H0 H1 locs1 → W p l e R s m args below meth c H1 locs1 cells slots Q (F0 m (pc + 1) ls rest)) : W p l e R s m args below meth c H locs cells slots Q (F0 m pc ls (.int v :: .int i :: .ref a :: rest)) := by
  obtain ⟨hx, hb, hown, hml, hwd, hK, hT⟩ := X
  unfold ho_sz at q
  split at q
  · rename_i hs
    cases q
    have hc := hP.1 a _ (hp_E_ai hs.1 (by decide) (by decide))
    refine W.zast hx hb hc.1 ((hK.2 1 _ rfl).1 (z.1 a).2 (fun j => .int (z.2.1 a j))) (fun q => by cases q) (by show ¬ (i < 0 ∨ (arrV _ _ _).slots.size ≤ _); rw [arrV_size]; exact hs.2) rfl rfl hdg fun H1 e1 e2 e3 => ?_
    exact kk H1 _ (hP.arrI hs.1 (by decide) (by decide) e1 e2 e3) (hS.put e2 e3 hc.2)
  · cases q
theorem hw_sr (X : hp_C G cc own nL p s m c) (hP : hp_P G z H) (hS : va_S (hp_A G) H0 H locs) (L : hp_L ci C T N ty) {t0 : Nat} (ht : (h_tys G.2.1)[t0]? = some (G.2.1 (ci + 53), .object C)) {i : Int32} {v : Nat} (q : ho_sr ci a i v z = some z1) (hdg : decode cc pc = .ok (.aastore, 1)) (kk : ∀ (H1 : Heap) (locs1 : List Loc), hp_P G z1 H1 → va_S (hp_A G) H0 H1 locs1 → W p l e R s m args below meth c H1 locs1 cells slots Q (F0 m (pc + 1) ls rest)) : W p l e R s m args below meth c H locs cells slots Q (F0 m pc ls (.ref v :: .int i :: .ref a :: rest)) := by
  obtain ⟨hx, hb, hown, hml, hwd, hK, hT⟩ := X
  unfold ho_sr at q
  split at q
  · rename_i hs
    obtain ⟨hs1, hs2, hs3⟩ := hs
    cases q
    have hc := hP.1 a _ (hp_E_ar hs1)
    have hlt : i.toNatClampNeg < (z.1 a).2 := Nat.not_le.mp fun q => hs2 (Or.inr q)
    have h0 : ¬ i < 0 := fun q => hs2 (Or.inl q)
    obtain ⟨cellV, g1, g2, g3, -, -⟩ := hP.obj L hs3
    have hcls := (hK.1 ci _ L.1).2
    obtain ⟨kA, comp, k1, k2, k3, -⟩ := (hK.2 t0 _ ht).2
    have hcomp : comp = G.1.1 ci := Option.some.inj (k3.symm.trans hcls.1)
    subst hcomp
    obtain ⟨kC, hkC, -⟩ := hcls.2
    refine W.aast hx hb hc.1 (fun q h => by cases h) (fun h => by cases h) k1 k2 rfl hkC ⟨h0, by show _ < (arrV _ _ _).slots.size; rw [arrV_size]; exact hlt⟩ g1 (fun q h => by rw [g3] at h; cases h) (by rw [g2]; exact hkC) (by rw [g2]; exact va_assign hcls) rfl rfl hdg fun H1 e1 e2 e3 => ?_
    exact kk H1 _ (hP.arrR (x := some v) hs1 e1 e2 e3) (hS.put e2 e3 hc.2)
  · cases q
theorem hw_ln (X : hp_C G cc own nL p s m c) (hP : hp_P G z H) {kd t0 : Nat} {fty : FieldType} (h0 : 0 < kd) (h3 : kd < 3) (ht : (h_tys G.2.1)[t0]? = some (G.2.1 kd, fty)) {v : Int32} (q : ho_ln kd a z = some v) (hdg : decode cc pc = .ok (.arraylength, 1)) (kk : W p l e R s m args below meth c H locs cells slots Q (F0 m (pc + 1) ls (.int v :: rest))) : W p l e R s m args below meth c H locs cells slots Q (F0 m pc ls (.ref a :: rest)) := by
  obtain ⟨hx, hb, hown, hml, hwd, hK, hT⟩ := X
  unfold ho_ln at q
  split at q
  · rename_i hs
    cases q
    exact va_alen (ws := [(a, .inl (G.2.1 kd, (z.1 a).2, .inl (z.2.1 a)))]) hx hb hK (hp_one (hP.1 a _ (hp_E_ai hs h0 h3)).1) 0 t0 rfl ht rfl hdg kk
  · cases q
theorem hw_lnr (X : hp_C G cc own nL p s m c) (hP : hp_P G z H) {t0 : Nat} {fty : FieldType} (ht : (h_tys G.2.1)[t0]? = some (G.2.1 (ci + 53), fty)) {v : Int32} (q : ho_ln (ci + 53) a z = some v) (hdg : decode cc pc = .ok (.arraylength, 1)) (kk : W p l e R s m args below meth c H locs cells slots Q (F0 m (pc + 1) ls (.int v :: rest))) : W p l e R s m args below meth c H locs cells slots Q (F0 m pc ls (.ref a :: rest)) := by
  obtain ⟨hx, hb, hown, hml, hwd, hK, hT⟩ := X
  unfold ho_ln at q
  split at q
  · rename_i hs
    cases q
    exact va_alen (ws := [(a, .inl (G.2.1 (ci + 53), (z.1 a).2, .inr (.inr (.inr (.inr (z.2.2.1 a))))))]) hx hb hK (hp_one (hP.1 a _ (hp_E_ar hs)).1) 0 t0 rfl ht rfl hdg kk
  · cases q
/-- a static table: getstatic, then a load -/
theorem hw_gs (X : hp_C G cc own nL p s m c) (hS : va_S (hp_A G) s.heap H locs) {q : String × String × Nat × List Int32} (hq : q ∈ h_st) (hlink : Cond.fieldLink own index q.1 q.2.1 "[I" ∈ h_tb) (hdg : decode cc pc = .ok (.getstatic index, 3)) (kk : W p l e R s m args below meth c H locs cells slots Q (F0 m (pc + 3) ls (.ref (G.2.2.2 q.2.2.1) :: rest))) : W p l e R s m args below meth c H locs cells slots Q (F0 m pc ls rest) := by
  obtain ⟨hx, hb, hown, hml, hwd, hK, hT⟩ := X
  exact va_gets hx hb (hT q hq).1 hS hown (hp_use hwd hlink args) (fun _ h => h) hdg kk
theorem hw_gsN {host : String} (X : hp_C G cc own nL p s m c) (hS : va_S (hp_A G) s.heap H locs) {q : String × String × Nat × List Int32} (hq : q ∈ h_st) (hlink : Cond.fieldLinkNest own index q.1 q.2.1 "[I" host ∈ h_tb) (hdg : decode cc pc = .ok (.getstatic index, 3)) (kk : W p l e R s m args below meth c H locs cells slots Q (F0 m (pc + 3) ls (.ref (G.2.2.2 q.2.2.1) :: rest))) : W p l e R s m args below meth c H locs cells slots Q (F0 m pc ls rest) := by
  obtain ⟨hx, hb, hown, hml, hwd, hK, hT⟩ := X
  exact va_getsN hx hb (hT q hq).1 hS hown (hp_use hwd hlink args) (fun _ h => h) hdg kk
theorem hw_tl (X : hp_C G cc own nL p s m c) (hS : va_S (hp_A G) s.heap H locs) {q : String × String × Nat × List Int32} (hq : q ∈ h_st) {i v : Int32} (hv : ho_tl q.2.2.2 i = some v) (hdg : decode cc pc = .ok (.iaload, 1)) (kk : W p l e R s m args below meth c H locs cells slots Q (F0 m (pc + 1) ls (.int v :: rest))) : W p l e R s m args below meth c H locs cells slots Q (F0 m pc ls (.int i :: .ref (G.2.2.2 q.2.2.1) :: rest)) := by
  obtain ⟨hx, hb, hown, hml, hwd, hK, hT⟩ := X
  unfold ho_tl at hv
  split at hv
  · rename_i hs
    cases hv
    exact va_ti hx hb (hT q hq).2 hS hs rfl hdg kk
  · cases hv
theorem hw_tn (X : hp_C G cc own nL p s m c) (hS : va_S (hp_A G) s.heap H locs) {q : String × String × Nat × List Int32} (hq : q ∈ h_st) {v : Int32} (hv : Int32.ofNat q.2.2.2.length = v) (hdg : decode cc pc = .ok (.arraylength, 1)) (kk : W p l e R s m args below meth c H locs cells slots Q (F0 m (pc + 1) ls (.int v :: rest))) : W p l e R s m args below meth c H locs cells slots Q (F0 m pc ls (.ref (G.2.2.2 q.2.2.1) :: rest)) := by
  obtain ⟨hx, hb, hown, hml, hwd, hK, hT⟩ := X
  exact va_tlen hx hb (hT q hq).2 hS hv hdg kk
theorem hw_dv (X : hp_C G cc own nL p s m c) {x y v : Int32} (q : ho_dv x y = some v) (hdg : decode cc pc = .ok (.idiv, 1)) (kk : W p l e R s m args below meth c H locs cells slots Q (F0 m (pc + 1) ls (.int v :: rest))) : W p l e R s m args below meth c H locs cells slots Q (F0 m pc ls (.int y :: .int x :: rest)) := by
  unfold ho_dv at q
  split at q
  · cases q
  · rename_i hs
    cases q
    exact lv_idiv X.1 X.2.1 hdg hs kk
theorem hw_rm (X : hp_C G cc own nL p s m c) {x y v : Int32} (q : ho_rm x y = some v) (hdg : decode cc pc = .ok (.irem, 1)) (kk : W p l e R s m args below meth c H locs cells slots Q (F0 m (pc + 1) ls (.int v :: rest))) : W p l e R s m args below meth c H locs cells slots Q (F0 m pc ls (.int y :: .int x :: rest)) := by
  unfold ho_rm at q
  split at q
  · cases q
  · rename_i hs
    cases q
    exact lv_irem X.1 X.2.1 hdg hs kk
end HW
end
section
/-! CONTRACTS over the heap of numbers: from a world z a method comes to a world z1, with an answer -/
def hp_Qi (G : hp_G) (r : Int32) (z1 : hp_S) : Array Value → State → Outcome → State → Prop := va_Qi (S := Unit) (fun r' _ => r' = r) (fun _ t => hp_W G z1 t) (hp_A G)
def hp_Qv (G : hp_G) (z1 : hp_S) : Array Value → State → Outcome → State → Prop := va_Qv (S := Unit) (fun _ => True) (fun _ t => hp_W G z1 t) (hp_A G)
abbrev hp_rm (fr lo mc ms : Nat) : Room := { frames := fr, cells := mc, slots := ms, locals := lo }
abbrev hp_M (l : Launch) (G : hp_G) (y : MethodName) (cc : ByteArray) (nL : Nat) (ret : Option FieldType) (fr lo mc ms : Nat) (As : List Value) (z : hp_S) (Qc : Array Value → State → Outcome → State → Prop) : Prop :=
  Met l y [.code y cc nL ret] (hp_rm fr lo mc ms) (va_Pc As (hp_W G z)) Qc mc ms (hp_A G)
theorem hp_M.of {l : Launch} {G : hp_G} {y : MethodName} {cc : ByteArray} {nL : Nat} {ret : Option FieldType} {fr lo mc ms : Nat} {As : List Value} {z : hp_S} {Qc : Array Value → State → Outcome → State → Prop} (hy : plainName y.cls = true) (hAs : (lg_sl As).length ≤ nL)
    (body : ∀ (p : Program) (e : Env) (s : State) (m : MethodId) (below : List Frame) (meth : Method) (c : Code), hp_C G cc y.cls nL p s m c → meth.sig.returnType = ret → meth.locks = false → meth.name = y.name → hp_P G z s.heap → va_S (hp_A G) s.heap s.heap [] → ∀ ls : Array Slot, lv_has ls nL (lv_args 0 As) → W p l e (hp_rm fr lo mc ms) s m As.toArray below meth c s.heap [] 0 0 (MQ below Qc As.toArray s mc ms (hp_A G)) (F0 m 0 ls [])) : hp_M l G y cc nL ret fr lo mc ms As z Qc := by
  refine Met.ofW (cc := cc) (maxL := nL) (ret := ret) hy rfl ?_
  intro p e s m args below meth c s₁ B hml hv
  obtain ⟨rfl, hwd, hK, hP, hT⟩ := hv
  rw [lg_entry_eq]
  exact body p e s m below meth c ⟨B.exec, B.bytes, findClass_of_methodNamed B.named, hml, hwd, hK, hT⟩ B.returns B.notSynchronized (name_of_methodNamed B.named B.method).1 hP va_S.rf _ (lv_entry As hAs)
section HC
variable {p : Program} {l : Launch} {e : Env} {R : Room} {s : State} {m : MethodId} {args : Array Value} {below : List Frame} {meth : Method} {c : Code} {H : Heap} {locs : List Loc} {cells slots : Nat} {Q : State → Prop}
variable {cc : ByteArray} {pc : Nat} {ls : Array Slot} {rest : List Value} {G : hp_G} {z z1 : hp_S} {own C : String} {nL a ci index N : Nat} {T : u_T} {ty : Nat → FieldType} {H0 : Heap}
theorem hw_iret (X : hp_C G cc own nL p s m c) (hP : hp_P G z H) (hS : va_S (hp_A G) s.heap H locs) (hr : meth.sig.returnType = some .int) (hlocks : meth.locks = false) {v r : Int32} (h : some (v, z) = some (r, z1)) (hdg : decode cc pc = .ok (.ireturn, 1)) : W p l e R s m args below meth c H locs cells slots (MQ below (hp_Qi G r z1) args s cells slots (hp_A G)) (F0 m pc ls [.int v]) := by
  cases h
  exact W.iret X.1 X.2.1 hr (fun t ht hW => ⟨⟨v, (), rfl, rfl, hp_W.at X hP hS ht hW⟩, hS.F ht⟩) hS.2.2 hdg hlocks
theorem hw_zret (X : hp_C G cc own nL p s m c) (hP : hp_P G z H) (hS : va_S (hp_A G) s.heap H locs) (hr : meth.sig.returnType = some .boolean) (hlocks : meth.locks = false) {v r : Int32} (h : (if vp_nar .boolean v = v then some (v, z) else none) = some (r, z1)) (hdg : decode cc pc = .ok (.ireturn, 1)) : W p l e R s m args below meth c H locs cells slots (MQ below (hp_Qi G r z1) args s cells slots (hp_A G)) (F0 m pc ls [.int v]) := by
  split at h
  · rename_i hc
    cases h
    exact W.zret X.1 X.2.1 hr (by rw [hp_nz, hc]) (fun t ht hW => ⟨⟨v, (), rfl, rfl, hp_W.at X hP hS ht hW⟩, hS.F ht⟩) hS.2.2 hdg hlocks
  · cases h
theorem hw_vret (X : hp_C G cc own nL p s m c) (hP : hp_P G z H) (hS : va_S (hp_A G) s.heap H locs) (hr : meth.sig.returnType = none) (hlocks : meth.locks = false) (h : some z = some z1) (hdg : decode cc pc = .ok (.return_, 1)) : W p l e R s m args below meth c H locs cells slots (MQ below (hp_Qv G z1) args s cells slots (hp_A G)) (F0 m pc ls []) := by
  cases h
  exact W.vret X.1 X.2.1 hr (fun t ht hW => ⟨⟨(), rfl, trivial, hp_W.at X hP hS ht hW⟩, hS.F ht⟩) hS.2.2 hdg hlocks
/-- what a call of an own method rests on in the tables -/
def hp_kB (own : String) (index : Nat) (y : MethodName) (bs : ByteArray) (mL : Nat) (ret : Option FieldType) (n : Nat) : Prop :=
  (Cond.code y bs mL ret ∈ h_tb ∧ Cond.initialized y.cls ∈ h_tb ∧ (Cond.methodLink own index y ∈ h_tb ∨ ∃ host : String, Cond.methodLinkNest own index y host ∈ h_tb)) ∧ y.cls ≠ "java/lang/invoke/MethodHandle" ∧ y.cls ≠ "java/lang/invoke/VarHandle" ∧ (parseMethodDescriptor y.desc).map (fun d => d.parameters.length) = some n
theorem hp_cB {y : MethodName} {bs : ByteArray} {mL fr lo mc ms n : Nat} {ret : Option FieldType} (hwd : hp_wd s) (k : hp_kB own index y bs mL ret n) (hl : Cond.methodLink own index y ∈ h_tb) (hR : fr + 1 ≤ R.frames ∧ 8 + (mL + 11) + lo ≤ R.locals) : CallB R s args own index y bs mL ret [.code y bs mL ret] (hp_rm fr lo mc ms) mc ms n := by
  obtain ⟨⟨k1, k2, -⟩, k4, k5, k6⟩ := k
  refine ⟨rfl, rfl, hR.1, hR.2, fun w hw a' U hW => ?_, List.mem_cons_self, hp_use hwd k1 args, hp_use hwd k2 args, ⟨k4, k5⟩, fun sig h => ?_, hp_use hwd hl args⟩
  · rw [List.mem_singleton.mp hw]
    exact hp_word (h_tb_ok _ k1) hW (hwd _ k1)
  · rw [h] at k6
    exact (Option.some.inj k6).symm
theorem hp_cN {y : MethodName} {bs : ByteArray} {mL fr lo mc ms n : Nat} {ret : Option FieldType} {host : String} (hwd : hp_wd s) (k : hp_kB own index y bs mL ret n) (hl : Cond.methodLinkNest own index y host ∈ h_tb) (hR : fr + 1 ≤ R.frames ∧ 8 + (mL + 11) + lo ≤ R.locals) : va_CN R s args own index y host bs mL ret [.code y bs mL ret] (hp_rm fr lo mc ms) mc ms n := by
  obtain ⟨⟨k1, k2, -⟩, k4, k5, k6⟩ := k
  refine ⟨⟨rfl, rfl, hR.1, hR.2, fun w hw a' U hW => ?_, List.mem_cons_self⟩, hp_use hwd k1 args, hp_use hwd k2 args, ⟨k4, k5⟩, fun sig h => ?_, hp_use hwd hl args⟩
  · rw [List.mem_singleton.mp hw]
    exact hp_word (h_tb_ok _ k1) hW (hwd _ k1)
  · rw [h] at k6
    exact (Option.some.inj k6).symm
variable {y : MethodName} {bs : ByteArray} {mL fr lo mc ms n : Nat} {ret : Option FieldType} {As : List Value} {Qc : Array Value → State → Outcome → State → Prop}
theorem hp_runV (X : hp_C G cc own nL p s m c) (hP : hp_P G z H) (hS : va_S (hp_A G) s.heap H locs) (hls : ls.size = nL) (L : hp_L ci C T N ty) (hs : (z.1 a).1 = ci + 3) (k : hp_kB own index y bs mL ret n) (k2 : Cond.instanceMethod y ∈ h_tb ∧ Cond.selects C y y ∈ h_tb) (hM : hp_M l G y bs mL ret fr lo mc ms (.ref a :: As) z Qc) (hn : As.length = n) (hrest : (rest.map fun v => v.category).sum ≤ 8) (hR : (fr + 1 ≤ R.frames ∧ 8 + (mL + 11) + lo ≤ R.locals) ∧ cells + mc ≤ R.cells ∧ slots + ms ≤ R.slots) (hdg : decode cc pc = .ok (.invokevirtual index, 3)) :
    va_Run p l e R s m args below meth c H locs cells slots mc ms (F0 m pc ls (As.reverse ++ .ref a :: rest)) rest (Qc (Value.ref a :: As).toArray) (hp_A G) := by
  obtain ⟨hx, hb, hown, hml, hwd, hK, hT⟩ := id X
  obtain ⟨cell, q1, q2, q3, -, -⟩ := hP.obj L hs
  have hpre : PreV s H C a (va_Pc (.ref a :: As) (hp_W G z)) As := ⟨hp_blind, ⟨cell, q1, by rw [q3]; rfl, by rw [q2]; exact (hK.1 ci _ L.1).2.1⟩, fun U hU hW => ⟨rfl, hp_W.at X hP hS hU hW⟩⟩
  have hts : ∀ w ∈ h_tb, w.before args s = true := fun w h => hp_use hwd h args
  rcases k.1.2.2 with hl | ⟨host, hl⟩
  · exact va_runV (Ts := h_tb) ⟨hx, hb, hml, hown, hts⟩ hM ⟨hp_cB hwd k hl hR.1, hts _ k2.1, hts _ k2.2⟩ hpre rfl hn hls rfl (lv_room hrest) hdg hR.2
  · exact va_runVN (Ts := h_tb) ⟨hx, hb, hml, hown, hts⟩ hM ⟨hp_cN hwd k hl hR.1, hts _ k2.1, hts _ k2.2⟩ hpre rfl hn hls rfl (lv_room hrest) hdg hR.2
theorem hp_runS (X : hp_C G cc own nL p s m c) (hP : hp_P G z H) (hS : va_S (hp_A G) s.heap H locs) (hls : ls.size = nL) (k : hp_kB own index y bs mL ret n) (k2 : Cond.static y ∈ h_tb) (hM : hp_M l G y bs mL ret fr lo mc ms As z Qc) (hn : As.length = n) (hrest : (rest.map fun v => v.category).sum ≤ 8) (hR : (fr + 1 ≤ R.frames ∧ 8 + (mL + 11) + lo ≤ R.locals) ∧ cells + mc ≤ R.cells ∧ slots + ms ≤ R.slots) (hdg : decode cc pc = .ok (.invokestatic index, 3)) :
    va_Run p l e R s m args below meth c H locs cells slots mc ms (F0 m pc ls (As.reverse ++ rest)) rest (Qc As.toArray) (hp_A G) := by
  obtain ⟨hx, hb, hown, hml, hwd, hK, hT⟩ := id X
  have hpre : PreS s H (va_Pc As (hp_W G z)) As := ⟨hp_blind, fun U hU hW => ⟨rfl, hp_W.at X hP hS hU hW⟩⟩
  have hts : ∀ w ∈ h_tb, w.before args s = true := fun w h => hp_use hwd h args
  rcases k.1.2.2 with hl | ⟨host, hl⟩
  · exact va_runS (Ts := h_tb) ⟨hx, hb, hml, hown, hts⟩ hM ⟨hp_cB hwd k hl hR.1, hts _ k2⟩ hpre rfl hn hls rfl (lv_room hrest) hdg hR.2
  · exact va_runSN (Ts := h_tb) ⟨hx, hb, hml, hown, hts⟩ hM ⟨hp_cN hwd k hl hR.1, hts _ k2, trivial⟩ hpre rfl hn hls rfl (lv_room hrest) hdg hR.2
theorem hp_runI (X : hp_C G cc own nL p s m c) (hP : hp_P G z H) (hS : va_S (hp_A G) s.heap H locs) (hls : ls.size = nL) (k : hp_kB own index y bs mL none n) (k2 : Cond.instanceMethod y ∈ h_tb) (hy1 : y.name = "<init>") (hM : hp_M l G y bs mL none fr lo mc ms (.ref a :: As) z Qc) (hn : As.length = n) (hrest : (rest.map fun v => v.category).sum ≤ 8) (hR : (fr + 1 ≤ R.frames ∧ 8 + (mL + 11) + lo ≤ R.locals) ∧ cells + mc ≤ R.cells ∧ slots + ms ≤ R.slots) (hdg : decode cc pc = .ok (.invokespecial index, 3)) :
    va_Run p l e R s m args below meth c H locs cells slots mc ms (F0 m pc ls (As.reverse ++ .ref a :: rest)) rest (Qc (Value.ref a :: As).toArray) (hp_A G) := by
  obtain ⟨hx, hb, hown, hml, hwd, hK, hT⟩ := id X
  have hpre : PreS s H (va_Pc (.ref a :: As) (hp_W G z)) (.ref a :: As) := ⟨hp_blind, fun U hU hW => ⟨rfl, hp_W.at X hP hS hU hW⟩⟩
  have hts : ∀ w ∈ h_tb, w.before args s = true := fun w h => hp_use hwd h args
  rcases k.1.2.2 with hl | ⟨host, hl⟩
  · exact va_runI (Ts := h_tb) ⟨hx, hb, hml, hown, hts⟩ hM ⟨hp_cB hwd k hl hR.1, hy1, hts _ k2⟩ hpre rfl hn hls rfl (lv_room hrest) hdg hR.2
  · exact va_runIN (Ts := h_tb) ⟨hx, hb, hml, hown, hts⟩ hM ⟨hp_cN hwd k hl hR.1, hy1, hts _ k2⟩ hpre rfl hn hls rfl (lv_room hrest) hdg hR.2
variable {st0 : List Value} {aa : Array Value}
/-- behind a call that answers an int -/
theorem hw_ci (hS : va_S (hp_A G) s.heap H locs) {r : Int32} (hr : va_Run p l e R s m args below meth c H locs cells slots mc ms (F0 m pc ls st0) rest (hp_Qi G r z1 aa) (hp_A G)) (kk : ∀ (H1 : Heap) (locs1 : List Loc), hp_P G z1 H1 → va_S (hp_A G) s.heap H1 locs1 → W p l e R s m args below meth c H1 locs1 (cells + mc) (slots + ms) Q (F0 m (pc + 3) ls (.int r :: rest))) : W p l e R s m args below meth c H locs cells slots Q (F0 m pc ls st0) := by
  refine va_calli (S := Unit) hr hS (fun q _ h => h) (fun q h => h) (fun r2 u t H1 locs1 ht hvm hw hB hz1 hk1 hS1 => ?_)
  subst hw
  subst ht
  exact kk _ _ hB.2.2.1 hS1
/-- behind a call that answers nothing -/
theorem hw_cv (hS : va_S (hp_A G) s.heap H locs) (hr : va_Run p l e R s m args below meth c H locs cells slots mc ms (F0 m pc ls st0) rest (hp_Qv G z1 aa) (hp_A G)) (kk : ∀ (H1 : Heap) (locs1 : List Loc), hp_P G z1 H1 → va_S (hp_A G) s.heap H1 locs1 → W p l e R s m args below meth c H1 locs1 (cells + mc) (slots + ms) Q (F0 m (pc + 3) ls rest)) : W p l e R s m args below meth c H locs cells slots Q (F0 m pc ls st0) := by
  refine va_callv (S := Unit) hr hS (fun q _ h => h) (fun q h => h) (fun u t H1 locs1 ht hvm hw hB hz1 hk1 hS1 => ?_)
  subst ht
  exact kk _ _ hB.2.2.1 hS1
/-- new cells -/
theorem hp_S.push {H1 : Heap} (hS : va_S (hp_A G) H0 H locs) (z1 : H1.size = H.size + 1) (o1 : ∀ q : Nat, q < H.size → H1[q]? = H[q]?) : va_S (hp_A G) H0 H1 locs := ⟨Nat.le_trans hS.1 (by omega), fun x h1 h2 => (o1 x (Nat.lt_of_lt_of_le h1 hS.1)).trans (hS.2.1 x h1 h2), hS.2.2⟩
theorem hw_new (X : hp_C G cc own nL p s m c) (hP : hp_P G z H) (hS : va_S (hp_A G) H0 H locs) (L : hp_L ci C T N ty) (k : Cond.classLink own index C ∈ h_tb ∧ Cond.instantiable C N ∈ h_tb ∧ Cond.initialized C ∈ h_tb) (hd : ∀ j, j < N → defaultValue (ty j) = vp_V (hp_fl (h_ft ci) 0 (fun _ => 0) (fun _ => none)) j) (hcells : cells + 1 ≤ R.cells) (hslots : slots + N ≤ R.slots) (hdg : decode cc pc = .ok (.new index, 3)) (kk : ∀ H1 : Heap, hp_P G (hp_nw z (ci + 3) 0) H1 → va_S (hp_A G) H0 H1 locs → W p l e R s m args below meth c H1 locs (cells + 1) (slots + N) Q (F0 m (pc + 3) ls (.ref z.2.2.2 :: rest))) : W p l e R s m args below meth c H locs cells slots Q (F0 m pc ls rest) := by
  obtain ⟨hx, hb, hown, hml, hwd, hK, hT⟩ := X
  have hKn := hK.1 ci _ L.1
  have hts : ∀ w ∈ h_tb, w.before args s = true := fun w h => hp_use hwd h args
  refine W.newcK hx hb hown (hts _ k.1) (hts _ k.2.1) (hts _ k.2.2) rfl hdg hcells hslots hKn.2.1 hP.2.1 fun H1 kC hkC e1 z1 o1 => ?_
  rw [← hP.2.1] at e1 z1 o1 ⊢
  have hP1 : hp_P G (hp_nw z (ci + 3) 0) H1 := hP.push z1 o1 (fun x hx => by
    have e0 : ((hp_nw z (ci + 3) 0).1 H.size).1 = ci + 3 := by rw [hP.2.1]; simp [hp_nw, va_up]
    rw [hp_E_obj e0 L.2.1] at hx
    cases hx
    refine ⟨_, L.1, (u_born ty hts L.2.2.1 hKn hkC e1 L.2.2.2.1).to (fun j hj => ?_)⟩
    rw [hd j hj]
    congr 2
    · rw [hP.2.1]; simp [hp_nw, va_up]
    · rw [hP.2.1]; simp [hp_nw, va_up])
  have t := kk H1 hP1 (hp_S.push hS z1 o1)
  rw [← hP.2.1] at t
  exact t
theorem hw_naI (X : hp_C G cc own nL p s m c) (hP : hp_P G z H) (hS : va_S (hp_A G) H0 H locs) (k : Cond.arrayClass .int ∈ h_tb) {v : Int32} {V : Nat} (hn : ¬ v < 0) (hN : v.toNatClampNeg = V) (hbytes : V * componentBytes .int ≤ 536870912) (hcells : cells + 1 ≤ R.cells) (hslots : slots + V ≤ R.slots) (hdg : decode cc pc = .ok (.newarray .int, 2)) (kk : ∀ H1 : Heap, hp_P G (hp_nw z 1 V) H1 → va_S (hp_A G) H0 H1 locs → W p l e R s m args below meth c H1 locs (cells + 1) (slots + V) Q (F0 m (pc + 2) ls (.ref z.2.2.2 :: rest))) : W p l e R s m args below meth c H locs cells slots Q (F0 m pc ls (.int v :: rest)) := by
  obtain ⟨hx, hb, hown, hml, hwd, hK, hT⟩ := X
  refine va_newaK (atype := .int) hx hb (hp_use hwd k args) rfl hdg rfl hn hN hbytes hcells hslots hP.2.1 fun H1 cA e1 z1 o1 hAr hNm => ?_
  have hcA : cA = G.2.1 1 := Option.some.inj (hNm.symm.trans (hK.2 0 _ rfl).2)
  subst hcA
  rw [← hP.2.1] at e1 z1 o1 ⊢
  have hP1 : hp_P G (hp_nw z 1 V) H1 := hP.push z1 o1 (fun x hx => by
    have e0 : ((hp_nw z 1 V).1 H.size).1 = 1 := by rw [hP.2.1]; simp [hp_nw, va_up]
    rw [hp_E_ai e0 (by decide) (by decide)] at hx
    cases hx
    show H1[H.size]? = some (vp_cell _ _)
    rw [e1, vp_cell_i, hP.2.1]
    simp [hp_nw, va_up]
    rfl)
  have t := kk H1 hP1 (hp_S.push hS z1 o1)
  rw [← hP.2.1] at t
  exact t
theorem hw_naZ (X : hp_C G cc own nL p s m c) (hP : hp_P G z H) (hS : va_S (hp_A G) H0 H locs) (k : Cond.arrayClass .boolean ∈ h_tb) {v : Int32} {V : Nat} (hn : ¬ v < 0) (hN : v.toNatClampNeg = V) (hbytes : V * componentBytes .boolean ≤ 536870912) (hcells : cells + 1 ≤ R.cells) (hslots : slots + V ≤ R.slots) (hdg : decode cc pc = .ok (.newarray .boolean, 2)) (kk : ∀ H1 : Heap, hp_P G (hp_nw z 2 V) H1 → va_S (hp_A G) H0 H1 locs → W p l e R s m args below meth c H1 locs (cells + 1) (slots + V) Q (F0 m (pc + 2) ls (.ref z.2.2.2 :: rest))) : W p l e R s m args below meth c H locs cells slots Q (F0 m pc ls (.int v :: rest)) := by
  obtain ⟨hx, hb, hown, hml, hwd, hK, hT⟩ := X
  refine va_newaK (atype := .boolean) hx hb (hp_use hwd k args) rfl hdg rfl hn hN hbytes hcells hslots hP.2.1 fun H1 cA e1 z1 o1 hAr hNm => ?_
  have hcA : cA = G.2.1 2 := Option.some.inj (hNm.symm.trans (hK.2 1 _ rfl).2)
  subst hcA
  rw [← hP.2.1] at e1 z1 o1 ⊢
  have hP1 : hp_P G (hp_nw z 2 V) H1 := hP.push z1 o1 (fun x hx => by
    have e0 : ((hp_nw z 2 V).1 H.size).1 = 2 := by rw [hP.2.1]; simp [hp_nw, va_up]
    rw [hp_E_ai e0 (by decide) (by decide)] at hx
    cases hx
    show H1[H.size]? = some (vp_cell _ _)
    rw [e1, vp_cell_i, hP.2.1]
    simp [hp_nw, va_up]
    rfl)
  have t := kk H1 hP1 (hp_S.push hS z1 o1)
  rw [← hP.2.1] at t
  exact t
theorem hw_nr (X : hp_C G cc own nL p s m c) (hP : hp_P G z H) (hS : va_S (hp_A G) H0 H locs) {t0 : Nat} (ht : (h_tys G.2.1)[t0]? = some (G.2.1 (ci + 53), .object C)) (k : Cond.classLink own index C ∈ h_tb ∧ Cond.arrayOver (.object C) ∈ h_tb) {v : Int32} {V : Nat} (hn : ¬ v < 0) (hN : v.toNatClampNeg = V) (hbytes : V * 4 ≤ 536870912) (hcells : cells + 1 ≤ R.cells) (hslots : slots + V ≤ R.slots) (hdg : decode cc pc = .ok (.anewarray index, 3)) (kk : ∀ H1 : Heap, hp_P G (hp_nw z (ci + 53) V) H1 → va_S (hp_A G) H0 H1 locs → W p l e R s m args below meth c H1 locs (cells + 1) (slots + V) Q (F0 m (pc + 3) ls (.ref z.2.2.2 :: rest))) : W p l e R s m args below meth c H locs cells slots Q (F0 m pc ls (.int v :: rest)) := by
  obtain ⟨hx, hb, hown, hml, hwd, hK, hT⟩ := X
  subst hN
  refine W.anew hx hb hown (hp_use hwd k.1 args) (hp_use hwd k.2 args) rfl hdg rfl hn hbytes hcells hslots fun cA kA comp f1 f2 f3 f4 => ?_
  have hcA : cA = G.2.1 (ci + 53) := by
    obtain ⟨kA', comp', k1, k2, k3, k4⟩ := (hK.2 t0 _ ht).2
    exact Option.some.inj (f1.symm.trans k4)
  subst hcA
  generalize hH1 : H.push ({ cls := G.2.1 (ci + 53), slots := Array.replicate v.toNatClampNeg .null, vm := .none } : Cell) = H1
  have z1 : H1.size = H.size + 1 := by rw [← hH1, Array.size_push]
  have e1 : H1[H.size]? = some (arrV (G.2.1 (ci + 53)) v.toNatClampNeg (fun _ => .null)) := by rw [← hH1, Array.getElem?_push_size, ← arrV_new]
  have o1 : ∀ q : Nat, q < H.size → H1[q]? = H[q]? := fun q hq => by rw [← hH1, Array.getElem?_push, if_neg (Nat.ne_of_lt hq)]
  have hP1 : hp_P G (hp_nw z (ci + 53) v.toNatClampNeg) H1 := hP.push z1 o1 (fun x hx => by
    have e0 : ((hp_nw z (ci + 53) v.toNatClampNeg).1 H.size).1 = ci + 53 := by rw [hP.2.1]; simp [hp_nw, va_up]
    rw [hp_E_ar e0] at hx
    cases hx
    show H1[H.size]? = some (vp_cell _ _)
    rw [e1, vp_cell_q, hP.2.1]
    simp [hp_nw, va_up]
    rfl)
  have t := kk H1 hP1 (hp_S.push hS z1 o1)
  rw [← hP.2.1] at t
  exact t
end HC
end
section
/-! HELPERS of the printed walks -/
theorem ho_ip {α : Type} {c : Prop} [Decidable c] {A B : Option α} {r : Option α} (hc : c) (h : (if c then A else B) = r) : A = r := by rw [if_pos hc] at h; exact h
theorem ho_in {α : Type} {c : Prop} [Decidable c] {A B : Option α} {r : Option α} (hc : ¬ c) (h : (if c then A else B) = r) : B = r := by rw [if_neg hc] at h; exact h
theorem ho_an {α : Type} {c : Prop} [Decidable c] {A : Option α} {r : α} (h : (if c then A else none) = some r) : c ∧ A = some r := by
  split at h
  · exact ⟨‹c›, h⟩
  · cases h
theorem ho_bd {α β : Type} {x : Option α} {f : α → Option β} {r : β} (h : x.bind f = some r) : ∃ a, x = some a ∧ f a = some r := Option.bind_eq_some_iff.mp h
def ho_id (x : Int32) : Option Int32 := some x
def ho_nw (kd : Nat) (z : hp_S) : Option (Nat × hp_S) := some (z.2.2.2, hp_nw z kd 0)
def ho_na (kd lim : Nat) (v : Int32) (z : hp_S) : Option (Nat × hp_S) := if v < 0 ∨ lim < v.toNatClampNeg then none else some (z.2.2.2, hp_nw z kd v.toNatClampNeg)
def ho_is (c a : Nat) (z : hp_S) : Option Unit := if (z.1 a).1 = c + 3 then some () else none
theorem ho_is_s {c a : Nat} {z : hp_S} {u : Unit} (h : ho_is c a z = some u) : (z.1 a).1 = c + 3 := by
  unfold ho_is at h
  split at h
  · assumption
  · cases h
theorem ho_ne {x : Int32} (k : Int32) {n : Int} (hk : k.toInt = n) (h : ¬ x = k) : x.toInt ≠ n := fun q => h (Int32.toInt_inj.mp (q.trans hk.symm))
section HN
variable {p : Program} {l : Launch} {e : Env} {R : Room} {s : State} {m : MethodId} {args : Array Value} {below : List Frame} {meth : Method} {c : Code} {H : Heap} {locs : List Loc} {cells slots : Nat} {Q : State → Prop}
variable {cc : ByteArray} {pc : Nat} {ls : Array Slot} {rest : List Value} {G : hp_G} {z z1 : hp_S} {own C : String} {nL a ci index N : Nat} {T : u_T} {ty : Nat → FieldType} {H0 : Heap}
theorem hw_id {x v : Int32} (q : ho_id x = some v) (kk : W p l e R s m args below meth c H locs cells slots Q (F0 m pc ls (.int v :: rest))) : W p l e R s m args below meth c H locs cells slots Q (F0 m pc ls (.int x :: rest)) := by
  cases q
  exact kk
theorem hw_nw (X : hp_C G cc own nL p s m c) (hP : hp_P G z H) (hS : va_S (hp_A G) H0 H locs) (L : hp_L ci C T N ty) (k : Cond.classLink own index C ∈ h_tb ∧ Cond.instantiable C N ∈ h_tb ∧ Cond.initialized C ∈ h_tb) (hd : ∀ j, j < N → defaultValue (ty j) = vp_V (hp_fl (h_ft ci) 0 (fun _ => 0) (fun _ => none)) j) (hcells : cells + 1 ≤ R.cells) (hslots : slots + N ≤ R.slots) (q : ho_nw (ci + 3) z = some (a, z1)) (hdg : decode cc pc = .ok (.new index, 3)) (kk : ∀ H1 : Heap, hp_P G z1 H1 → va_S (hp_A G) H0 H1 locs → W p l e R s m args below meth c H1 locs (cells + 1) (slots + N) Q (F0 m (pc + 3) ls (.ref a :: rest))) : W p l e R s m args below meth c H locs cells slots Q (F0 m pc ls rest) := by
  cases q
  exact hw_new X hP hS L k hd hcells hslots hdg kk
theorem hw_nI (X : hp_C G cc own nL p s m c) (hP : hp_P G z H) (hS : va_S (hp_A G) H0 H locs) (k : Cond.arrayClass .int ∈ h_tb) {v : Int32} {lim : Nat} (hbytes : lim ≤ 100000) (hcells : cells + 1 ≤ R.cells) (hslots : slots + lim ≤ R.slots) (q : ho_na 1 lim v z = some (a, z1)) (hdg : decode cc pc = .ok (.newarray .int, 2)) (kk : ∀ H1 : Heap, hp_P G z1 H1 → va_S (hp_A G) H0 H1 locs → W p l e R s m args below meth c H1 locs (cells + 1) (slots + lim) Q (F0 m (pc + 2) ls (.ref a :: rest))) : W p l e R s m args below meth c H locs cells slots Q (F0 m pc ls (.int v :: rest)) := by
  unfold ho_na at q
  split at q
  · cases q
  · rename_i hc
    cases q
    have h1 : ¬ v < 0 := fun h => hc (Or.inl h)
    have h2 : v.toNatClampNeg ≤ lim := Nat.not_lt.mp fun h => hc (Or.inr h)
    exact hw_naI X hP hS k h1 rfl (by show _ * 4 ≤ _; omega) hcells (by omega) hdg (fun H1 g1 g2 => W.widen (Nat.le_refl _) (by omega) (kk H1 g1 g2))
theorem hw_nZ (X : hp_C G cc own nL p s m c) (hP : hp_P G z H) (hS : va_S (hp_A G) H0 H locs) (k : Cond.arrayClass .boolean ∈ h_tb) {v : Int32} {lim : Nat} (hbytes : lim ≤ 100000) (hcells : cells + 1 ≤ R.cells) (hslots : slots + lim ≤ R.slots) (q : ho_na 2 lim v z = some (a, z1)) (hdg : decode cc pc = .ok (.newarray .boolean, 2)) (kk : ∀ H1 : Heap, hp_P G z1 H1 → va_S (hp_A G) H0 H1 locs → W p l e R s m args below meth c H1 locs (cells + 1) (slots + lim) Q (F0 m (pc + 2) ls (.ref a :: rest))) : W p l e R s m args below meth c H locs cells slots Q (F0 m pc ls (.int v :: rest)) := by
  unfold ho_na at q
  split at q
  · cases q
  · rename_i hc
    cases q
    have h1 : ¬ v < 0 := fun h => hc (Or.inl h)
    have h2 : v.toNatClampNeg ≤ lim := Nat.not_lt.mp fun h => hc (Or.inr h)
    exact hw_naZ X hP hS k h1 rfl (by show _ * 1 ≤ _; omega) hcells (by omega) hdg (fun H1 g1 g2 => W.widen (Nat.le_refl _) (by omega) (kk H1 g1 g2))
theorem hw_nA (X : hp_C G cc own nL p s m c) (hP : hp_P G z H) (hS : va_S (hp_A G) H0 H locs) {t0 : Nat} (ht : (h_tys G.2.1)[t0]? = some (G.2.1 (ci + 53), .object C)) (k : Cond.classLink own index C ∈ h_tb ∧ Cond.arrayOver (.object C) ∈ h_tb) {v : Int32} {lim : Nat} (hbytes : lim ≤ 100000) (hcells : cells + 1 ≤ R.cells) (hslots : slots + lim ≤ R.slots) (q : ho_na (ci + 53) lim v z = some (a, z1)) (hdg : decode cc pc = .ok (.anewarray index, 3)) (kk : ∀ H1 : Heap, hp_P G z1 H1 → va_S (hp_A G) H0 H1 locs → W p l e R s m args below meth c H1 locs (cells + 1) (slots + lim) Q (F0 m (pc + 3) ls (.ref a :: rest))) : W p l e R s m args below meth c H locs cells slots Q (F0 m pc ls (.int v :: rest)) := by
  unfold ho_na at q
  split at q
  · cases q
  · rename_i hc
    cases q
    have h1 : ¬ v < 0 := fun h => hc (Or.inl h)
    have h2 : v.toNatClampNeg ≤ lim := Nat.not_lt.mp fun h => hc (Or.inr h)
    exact hw_nr X hP hS ht k h1 rfl (by omega) hcells (by omega) hdg (fun H1 g1 g2 => W.widen (Nat.le_refl _) (by omega) (kk H1 g1 g2))
end HN
end
section
/-! System.arraycopy of ints, over the heap of numbers -/
def ho_cp (a0 : Nat) (sp : Int32) (a1 : Nat) (dp n : Int32) (z : hp_S) : Option hp_S :=
  if (z.1 a0).1 = 1 ∧ (z.1 a1).1 = 1 ∧ ¬ sp < 0 ∧ ¬ dp < 0 ∧ ¬ n < 0 ∧ sp.toNatClampNeg + n.toNatClampNeg ≤ (z.1 a0).2 ∧ dp.toNatClampNeg + n.toNatClampNeg ≤ (z.1 a1).2 then
    some (z.1, va_up z.2.1 a1 (va_cpy (z.2.1 a0) (z.2.1 a1) sp.toNatClampNeg dp.toNatClampNeg n.toNatClampNeg), z.2.2.1, z.2.2.2) else none
theorem hp_nn (v : Int32) (h : ¬ v < 0) : v.toInt = (v.toNatClampNeg : Int) := by
  have h0 : (0 : Int) ≤ v.toInt := by
    have := Int32.not_lt.mp h
    simpa using Int32.le_iff_toInt_le.mp this
  show v.toInt = ((v.toInt.toNat : Nat) : Int)
  omega
section HCP
variable {p : Program} {l : Launch} {e : Env} {R : Room} {s : State} {m : MethodId} {args : Array Value} {below : List Frame} {meth : Method} {c : Code} {H : Heap} {locs : List Loc} {cells slots : Nat} {Q : State → Prop}
variable {cc : ByteArray} {pc : Nat} {ls : Array Slot} {rest : List Value} {G : hp_G} {z z1 : hp_S} {own C : String} {nL a0 a1 index : Nat} {H0 : Heap}
theorem hw_cp (X : hp_C G cc own nL p s m c) (hP : hp_P G z H) (hS : va_S (hp_A G) H0 H locs) (hls : ls.size = nL) (k : Cond.methodLink own index arraycopyName ∈ h_tb ∧ Cond.native arraycopyName ∈ h_tb ∧ Cond.static arraycopyName ∈ h_tb ∧ Cond.initialized "java/lang/System" ∈ h_tb) (hframes : 1 ≤ R.frames) (hlocals : (rest.map fun v => v.category).sum + (nativeFrameWords "java/lang/System" "arraycopy" 5 + 11) ≤ R.locals) {sp dp n : Int32} (q : ho_cp a0 sp a1 dp n z = some z1) (hdg : decode cc pc = .ok (.invokestatic index, 3)) (kk : ∀ (H1 : Heap) (locs1 : List Loc), hp_P G z1 H1 → va_S (hp_A G) H0 H1 locs1 → W p l e R s m args below meth c H1 locs1 cells slots Q (F0 m (pc + 3) ls rest)) : W p l e R s m args below meth c H locs cells slots Q (F0 m pc ls (.int n :: .int dp :: .ref a1 :: .int sp :: .ref a0 :: rest)) := by
  obtain ⟨hx, hb, hown, hml, hwd, hK, hT0⟩ := X
  unfold ho_cp at q
  split at q
  · rename_i hs
    obtain ⟨s0, s1, h1, h2, h3, h4, h5⟩ := hs
    cases q
    intro T hT X
    have hc0 := (hP.1 a0 _ (hp_E_ai s0 (by decide) (by decide))).1
    have hc1 := (hP.1 a1 _ (hp_E_ai s1 (by decide) (by decide))).1
    have hba := (hP.1 a1 _ (hp_E_ai s1 (by decide) (by decide))).2
    have hc0 : H[a0]? = some (vp_cell (G.2.1 1) ((z.1 a0).2, .inl (z.2.1 a0))) := hc0
    have hc1 : H[a1]? = some (vp_cell (G.2.1 1) ((z.1 a1).2, .inl (z.2.1 a1))) := hc1
    obtain ⟨-, k0, hk0, cm0, hkk0⟩ := (hK.2 0 (G.2.1 1, .int) rfl).1 (z.1 a0).2 (fun j => .int (z.2.1 a0 j))
    obtain ⟨-, k1, hk1, cm1, hkk1⟩ := (hK.2 0 (G.2.1 1, .int) rfl).1 (z.1 a1).2 (fun j => .int (z.2.1 a1 j))
    obtain ⟨vm', X', step⟩ := X.arraycopy hx hown (hp_use hwd k.1 args) (hp_use hwd k.2.1 args) (hp_use hwd k.2.2.1 args) (hp_use hwd k.2.2.2 args) (src := a0) (dst := a1) (cs := vp_cell (G.2.1 1) ((z.1 a0).2, .inl (z.2.1 a0))) (cd := vp_cell (G.2.1 1) ((z.1 a1).2, .inl (z.2.1 a1))) (srcPos := sp) (destPos := dp) (n := n) (by rw [hT]; exact hc0) (by rw [hT]; exact hc1)
      (fun _ h => by cases h) (fun _ h => by cases h) (fun h => by cases h) (fun h => by cases h) hk0 hk1 hkk0 hkk1 (show ((refKind FieldType.int != refKind FieldType.int) || (!refKind FieldType.int && FieldType.int != FieldType.int)) = false by decide) h1 h2 h3
      (by rw [hp_nn sp h1, hp_nn n h3]; show ¬ _ > ((arrV (G.2.1 1) (z.1 a0).2 (fun j => .int (z.2.1 a0 j))).slots.size : Int); rw [arrV_size]; omega)
      (by rw [hp_nn dp h2, hp_nn n h3]; show ¬ _ > ((arrV (G.2.1 1) (z.1 a1).2 (fun j => .int (z.2.1 a1 j))).slots.size : Int); rw [arrV_size]; omega)
      (fun vm₁ _ i hi => by
        have e0 : (vp_cell (G.2.1 1) ((z.1 a0).2, .inl (z.2.1 a0))).slots.getD (sp.toNatClampNeg + i) .null = .int (z.2.1 a0 (sp.toNatClampNeg + i)) := by
          show (arrV (G.2.1 1) (z.1 a0).2 (fun j => .int (z.2.1 a0 j))).slots.getD _ _ = _
          rw [Array.getD_eq_getD_getElem?, arrV_read _ _ (by omega)]
          rfl
        refine ⟨?_, ?_⟩
        · rw [e0]
          rfl
        · rw [e0]
          exact trivial)
      (g := F0 m pc ls (.int n :: .int dp :: .ref a1 :: .int sp :: .ref a0 :: rest)) rfl (by rw [hml]; exact hls) (rest := rest) rfl (by rw [hb]; exact hdg) hframes (by show 2 * 0 + _ + _ ≤ _; omega)
    have e1 : copied (vp_cell (G.2.1 1) ((z.1 a0).2, .inl (z.2.1 a0))) (vp_cell (G.2.1 1) ((z.1 a1).2, .inl (z.2.1 a1))) sp dp n = vp_cell (G.2.1 1) ((z.1 a1).2, .inl (va_cpy (z.2.1 a0) (z.2.1 a1) sp.toNatClampNeg dp.toNatClampNeg n.toNatClampNeg)) := va_copied (fun z => .int z) _ _ _ _ h4
    rw [e1] at X' step
    have hl : a1 < H.size := (Array.getElem?_eq_some_iff.mp hc1).1
    generalize hcell : vp_cell (G.2.1 1) ((z.1 a1).2, .inl (va_cpy (z.2.1 a0) (z.2.1 a1) sp.toNatClampNeg dp.toNatClampNeg n.toNatClampNeg)) = cell at X' step
    have hheap : ((T.setVm vm').setCell a1 cell).heap = H.setIfInBounds a1 cell := by rw [← hT]; rfl
    have e2 : (H.setIfInBounds a1 cell).size = H.size := by simp
    have e3 : ∀ q : Nat, q ≠ a1 → (H.setIfInBounds a1 cell)[q]? = H[q]? := fun q hq => by simp [Array.getElem?_setIfInBounds, Ne.symm hq]
    have e4 : (H.setIfInBounds a1 cell)[a1]? = some cell := by simp [Array.getElem?_setIfInBounds, hl]
    obtain ⟨t, a, b⟩ := kk (H.setIfInBounds a1 cell) _ (hP.step e2 e3 rfl (fun b hb => hp_E_eq rfl (by simp [va_up, hb]) rfl) (fun x hx => by
        rw [hp_E_ai (z := (z.1, va_up z.2.1 a1 (va_cpy (z.2.1 a0) (z.2.1 a1) sp.toNatClampNeg dp.toNatClampNeg n.toNatClampNeg), z.2.2.1, z.2.2.2)) s1 (by decide) (by decide)] at hx
        cases hx
        refine ⟨?_, hba⟩
        show (H.setIfInBounds a1 cell)[a1]? = some (vp_cell _ _)
        rw [e4, ← hcell]
        simp [va_up]))
      ⟨by rw [e2]; exact hS.1, fun q g1 g2 => by
        rw [e3 q (fun e => g2 (by rw [e]; exact hba))]
        exact hS.2.1 q g1 g2, fun q hq => by
        rcases List.mem_append.mp hq with h | h
        · exact hS.2.2 q h
        · obtain ⟨z, -, hz⟩ := List.mem_map.mp h
          rw [← hz]
          exact hba⟩ _ hheap X'
    exact ⟨t, step t a, b⟩
  · cases q
end HCP
end
section
theorem m1_43 : Cond.fieldLink RX4 28 "LeadFaults$Part" "size" "I" ∈ h_tb := List.mem_filter.mpr ⟨List.mem_append_right _ (List.mem_append_left _ (List.mem_of_getElem? (i := 43) rfl)), rfl⟩
theorem m1_46 : Cond.fieldLink RX4 21 "LeadFaults$Part" "low" "I" ∈ h_tb := List.mem_filter.mpr ⟨List.mem_append_right _ (List.mem_append_left _ (List.mem_of_getElem? (i := 46) rfl)), rfl⟩
theorem m1_48 : Cond.fieldLink RX4 25 "LeadFaults$Part" "high" "I" ∈ h_tb := List.mem_filter.mpr ⟨List.mem_append_right _ (List.mem_append_left _ (List.mem_of_getElem? (i := 48) rfl)), rfl⟩
theorem m1_34 : Cond.fieldLink RX4 9 "LeadFaults$Part" "times" "[I" ∈ h_tb := List.mem_filter.mpr ⟨List.mem_append_right _ (List.mem_append_left _ (List.mem_of_getElem? (i := 34) rfl)), rfl⟩
theorem m1_196 : Cond.fieldLink RX6 20 "LeadFaults" "parts" "[LLeadFaults$Part;" ∈ h_tb := List.mem_filter.mpr ⟨List.mem_append_right _ (List.mem_append_left _ (List.mem_of_getElem? (i := 196) rfl)), rfl⟩
theorem m2_34 : Cond.methodLink RX6 97 yX6_within ∈ h_tb := List.mem_filter.mpr ⟨List.mem_append_right _ (List.mem_append_right _ (List.mem_append_left _ (List.mem_of_getElem? (i := 34) rfl))), rfl⟩
theorem m2_36 : Cond.code yX6_within cX6_within 3 (some .boolean) ∈ h_tb := List.mem_filter.mpr ⟨List.mem_append_right _ (List.mem_append_right _ (List.mem_append_left _ (List.mem_of_getElem? (i := 36) rfl))), rfl⟩
theorem m1_1 : Cond.initialized RX6 ∈ h_tb := List.mem_filter.mpr ⟨List.mem_append_right _ (List.mem_append_left _ (List.mem_of_getElem? (i := 1) rfl)), rfl⟩
theorem m2_35 : Cond.static yX6_within ∈ h_tb := List.mem_filter.mpr ⟨List.mem_append_right _ (List.mem_append_right _ (List.mem_append_left _ (List.mem_of_getElem? (i := 35) rfl))), rfl⟩
theorem m2_48 : Cond.methodLink RX4 31 yX4_lastTime ∈ h_tb := List.mem_filter.mpr ⟨List.mem_append_right _ (List.mem_append_right _ (List.mem_append_left _ (List.mem_of_getElem? (i := 48) rfl))), rfl⟩
theorem m2_10 : Cond.code yX4_lastTime cX4_lastTime 1 (some .int) ∈ h_tb := List.mem_filter.mpr ⟨List.mem_append_right _ (List.mem_append_right _ (List.mem_append_left _ (List.mem_of_getElem? (i := 10) rfl))), rfl⟩
theorem m1_3 : Cond.initialized RX4 ∈ h_tb := List.mem_filter.mpr ⟨List.mem_append_right _ (List.mem_append_left _ (List.mem_of_getElem? (i := 3) rfl)), rfl⟩
theorem m2_8 : Cond.instanceMethod yX4_lastTime ∈ h_tb := List.mem_filter.mpr ⟨List.mem_append_right _ (List.mem_append_right _ (List.mem_append_left _ (List.mem_of_getElem? (i := 8) rfl))), rfl⟩
theorem m2_9 : Cond.selects RX4 yX4_lastTime yX4_lastTime ∈ h_tb := List.mem_filter.mpr ⟨List.mem_append_right _ (List.mem_append_right _ (List.mem_append_left _ (List.mem_of_getElem? (i := 9) rfl))), rfl⟩
theorem m1_37 : Cond.fieldLink RX4 15 "LeadFaults$Part" "steps" "[I" ∈ h_tb := List.mem_filter.mpr ⟨List.mem_append_right _ (List.mem_append_left _ (List.mem_of_getElem? (i := 37) rfl)), rfl⟩
theorem m1_40 : Cond.fieldLink RX4 18 "LeadFaults$Part" "sharps" "[I" ∈ h_tb := List.mem_filter.mpr ⟨List.mem_append_right _ (List.mem_append_left _ (List.mem_of_getElem? (i := 40) rfl)), rfl⟩
theorem m1_97 : Cond.fieldLink RX1 24 "LeadFaults$Entries" "size" "I" ∈ h_tb := List.mem_filter.mpr ⟨List.mem_append_right _ (List.mem_append_left _ (List.mem_of_getElem? (i := 97) rfl)), rfl⟩
theorem m1_93 : Cond.fieldLink RX1 15 "LeadFaults$Entries" "firsts" "[I" ∈ h_tb := List.mem_filter.mpr ⟨List.mem_append_right _ (List.mem_append_left _ (List.mem_of_getElem? (i := 93) rfl)), rfl⟩
theorem m1_95 : Cond.fieldLink RX1 21 "LeadFaults$Entries" "seconds" "[I" ∈ h_tb := List.mem_filter.mpr ⟨List.mem_append_right _ (List.mem_append_left _ (List.mem_of_getElem? (i := 95) rfl)), rfl⟩
theorem LX0 : hp_L 0 RX0 TX0 4 tyX0 := ⟨rfl, by decide, inX0, tyX0_ok, nmX0⟩
theorem LX1 : hp_L 1 RX1 TX1 3 tyX1 := ⟨rfl, by decide, inX1, tyX1_ok, nmX1⟩
theorem LX2 : hp_L 2 RX2 TX2 6 tyX2 := ⟨rfl, by decide, inX2, tyX2_ok, nmX2⟩
theorem LX3 : hp_L 3 RX3 TX3 8 tyX3 := ⟨rfl, by decide, inX3, tyX3_ok, nmX3⟩
theorem LX4 : hp_L 4 RX4 TX4 6 tyX4 := ⟨rfl, by decide, inX4, tyX4_ok, nmX4⟩
theorem LX5 : hp_L 5 RX5 TX5 3 tyX5 := ⟨rfl, by decide, inX5, tyX5_ok, nmX5⟩
theorem LX6 : hp_L 6 RX6 TX6 9 tyX6 := ⟨rfl, by decide, inX6, tyX6_ok, nmX6⟩
theorem LX7 : hp_L 7 RX7 TX7 23 tyX7 := ⟨rfl, by decide, inX7, tyX7_ok, nmX7⟩
theorem fX4_28 : hp_F RX4 28 3 TX4 6 := ⟨by decide, m1_43⟩
theorem fX4_21 : hp_F RX4 21 4 TX4 6 := ⟨by decide, m1_46⟩
theorem fX4_25 : hp_F RX4 25 5 TX4 6 := ⟨by decide, m1_48⟩
theorem fX4_9 : hp_F RX4 9 0 TX4 6 := ⟨by decide, m1_34⟩
theorem fX6_20 : hp_F RX6 20 0 TX6 9 := ⟨by decide, m1_196⟩
theorem kX6_97 : hp_kB RX6 97 yX6_within cX6_within 3 (some .boolean) 3 := ⟨⟨m2_36, m1_1, Or.inl m2_34⟩, by decide +kernel, by decide +kernel, by decide +kernel⟩
theorem kX4_31 : hp_kB RX4 31 yX4_lastTime cX4_lastTime 1 (some .int) 0 := ⟨⟨m2_10, m1_3, Or.inl m2_48⟩, by decide +kernel, by decide +kernel, by decide +kernel⟩
theorem fX4_15 : hp_F RX4 15 1 TX4 6 := ⟨by decide, m1_37⟩
theorem fX4_18 : hp_F RX4 18 2 TX4 6 := ⟨by decide, m1_40⟩
theorem fX1_24 : hp_F RX1 24 2 TX1 3 := ⟨by decide, m1_97⟩
theorem fX1_15 : hp_F RX1 15 0 TX1 3 := ⟨by decide, m1_93⟩
theorem fX1_21 : hp_F RX1 21 1 TX1 3 := ⟨by decide, m1_95⟩
end
section
theorem dX4_reset_0 : decode cX4_reset 0 = .ok (.aload_n 0, 1) := by decide +kernel
theorem dX4_reset_1 : decode cX4_reset 1 = .ok (.iconst 0, 1) := by decide +kernel
theorem dX4_reset_2 : decode cX4_reset 2 = .ok (.putfield 28, 3) := by decide +kernel
theorem dX4_reset_5 : decode cX4_reset 5 = .ok (.aload_n 0, 1) := by decide +kernel
theorem dX4_reset_6 : decode cX4_reset 6 = .ok (.iconst 0, 1) := by decide +kernel
theorem dX4_reset_7 : decode cX4_reset 7 = .ok (.putfield 21, 3) := by decide +kernel
theorem dX4_reset_10 : decode cX4_reset 10 = .ok (.aload_n 0, 1) := by decide +kernel
theorem dX4_reset_11 : decode cX4_reset 11 = .ok (.bipush 96, 2) := by decide +kernel
theorem dX4_reset_13 : decode cX4_reset 13 = .ok (.putfield 25, 3) := by decide +kernel
theorem dX4_reset_16 : decode cX4_reset 16 = .ok (.return_, 1) := by decide +kernel
theorem dJ7_fill_0 : decode cJ7_fill 0 = .ok (.iconst 0, 1) := by decide +kernel
theorem dJ7_fill_1 : decode cJ7_fill 1 = .ok (.istore_n 2, 1) := by decide +kernel
theorem dJ7_fill_2 : decode cJ7_fill 2 = .ok (.aload_n 0, 1) := by decide +kernel
theorem dJ7_fill_3 : decode cJ7_fill 3 = .ok (.arraylength, 1) := by decide +kernel
theorem dJ7_fill_4 : decode cJ7_fill 4 = .ok (.istore_n 3, 1) := by decide +kernel
theorem dJ7_fill_5 : decode cJ7_fill 5 = .ok (.iload_n 2, 1) := by decide +kernel
theorem dJ7_fill_6 : decode cJ7_fill 6 = .ok (.iload_n 3, 1) := by decide +kernel
theorem dJ7_fill_7 : decode cJ7_fill 7 = .ok (.if_icmp .ge 13, 3) := by decide +kernel
theorem dJ7_fill_10 : decode cJ7_fill 10 = .ok (.aload_n 0, 1) := by decide +kernel
theorem dJ7_fill_11 : decode cJ7_fill 11 = .ok (.iload_n 2, 1) := by decide +kernel
theorem dJ7_fill_12 : decode cJ7_fill 12 = .ok (.iload_n 1, 1) := by decide +kernel
theorem dJ7_fill_13 : decode cJ7_fill 13 = .ok (.iastore, 1) := by decide +kernel
theorem dJ7_fill_14 : decode cJ7_fill 14 = .ok (.iinc 2 1, 3) := by decide +kernel
theorem dJ7_fill_17 : decode cJ7_fill 17 = .ok (.goto (-12), 3) := by decide +kernel
theorem dJ7_fill_20 : decode cJ7_fill 20 = .ok (.return_, 1) := by decide +kernel
theorem dX4_lastTime_0 : decode cX4_lastTime 0 = .ok (.aload_n 0, 1) := by decide +kernel
theorem dX4_lastTime_1 : decode cX4_lastTime 1 = .ok (.getfield 28, 3) := by decide +kernel
theorem dX4_lastTime_4 : decode cX4_lastTime 4 = .ok (.ifCond .le 17, 3) := by decide +kernel
theorem dX4_lastTime_7 : decode cX4_lastTime 7 = .ok (.aload_n 0, 1) := by decide +kernel
theorem dX4_lastTime_8 : decode cX4_lastTime 8 = .ok (.getfield 9, 3) := by decide +kernel
theorem dX4_lastTime_11 : decode cX4_lastTime 11 = .ok (.aload_n 0, 1) := by decide +kernel
theorem dX4_lastTime_12 : decode cX4_lastTime 12 = .ok (.getfield 28, 3) := by decide +kernel
theorem dX4_lastTime_15 : decode cX4_lastTime 15 = .ok (.iconst 1, 1) := by decide +kernel
theorem dX4_lastTime_16 : decode cX4_lastTime 16 = .ok (.isub, 1) := by decide +kernel
theorem dX4_lastTime_17 : decode cX4_lastTime 17 = .ok (.iaload, 1) := by decide +kernel
theorem dX4_lastTime_18 : decode cX4_lastTime 18 = .ok (.goto 4, 3) := by decide +kernel
theorem dX4_lastTime_21 : decode cX4_lastTime 21 = .ok (.iconst (-1), 1) := by decide +kernel
theorem dX4_lastTime_22 : decode cX4_lastTime 22 = .ok (.ireturn, 1) := by decide +kernel
theorem dX6_within_0 : decode cX6_within 0 = .ok (.iload_n 0, 1) := by decide +kernel
theorem dX6_within_1 : decode cX6_within 1 = .ok (.iload_n 1, 1) := by decide +kernel
theorem dX6_within_2 : decode cX6_within 2 = .ok (.if_icmp .lt 12, 3) := by decide +kernel
theorem dX6_within_5 : decode cX6_within 5 = .ok (.iload_n 0, 1) := by decide +kernel
theorem dX6_within_6 : decode cX6_within 6 = .ok (.iload_n 2, 1) := by decide +kernel
theorem dX6_within_7 : decode cX6_within 7 = .ok (.if_icmp .gt 7, 3) := by decide +kernel
theorem dX6_within_10 : decode cX6_within 10 = .ok (.iconst 1, 1) := by decide +kernel
theorem dX6_within_11 : decode cX6_within 11 = .ok (.goto 4, 3) := by decide +kernel
theorem dX6_within_14 : decode cX6_within 14 = .ok (.iconst 0, 1) := by decide +kernel
theorem dX6_within_15 : decode cX6_within 15 = .ok (.ireturn, 1) := by decide +kernel
theorem dX6_isVoice_0 : decode cX6_isVoice 0 = .ok (.iload_n 1, 1) := by decide +kernel
theorem dX6_isVoice_1 : decode cX6_isVoice 1 = .ok (.iconst 0, 1) := by decide +kernel
theorem dX6_isVoice_2 : decode cX6_isVoice 2 = .ok (.aload_n 0, 1) := by decide +kernel
theorem dX6_isVoice_3 : decode cX6_isVoice 3 = .ok (.getfield 20, 3) := by decide +kernel
theorem dX6_isVoice_6 : decode cX6_isVoice 6 = .ok (.arraylength, 1) := by decide +kernel
theorem dX6_isVoice_7 : decode cX6_isVoice 7 = .ok (.iconst 1, 1) := by decide +kernel
theorem dX6_isVoice_8 : decode cX6_isVoice 8 = .ok (.isub, 1) := by decide +kernel
theorem dX6_isVoice_9 : decode cX6_isVoice 9 = .ok (.invokestatic 97, 3) := by decide +kernel
theorem dX6_isVoice_12 : decode cX6_isVoice 12 = .ok (.ireturn, 1) := by decide +kernel
theorem dX4_append_0 : decode cX4_append 0 = .ok (.iload_n 1, 1) := by decide +kernel
theorem dX4_append_1 : decode cX4_append 1 = .ok (.aload_n 0, 1) := by decide +kernel
theorem dX4_append_2 : decode cX4_append 2 = .ok (.invokevirtual 31, 3) := by decide +kernel
theorem dX4_append_5 : decode cX4_append 5 = .ok (.if_icmp .gt 6, 3) := by decide +kernel
theorem dX4_append_8 : decode cX4_append 8 = .ok (.bipush (-4), 2) := by decide +kernel
theorem dX4_append_10 : decode cX4_append 10 = .ok (.ireturn, 1) := by decide +kernel
theorem dX4_append_11 : decode cX4_append 11 = .ok (.aload_n 0, 1) := by decide +kernel
theorem dX4_append_12 : decode cX4_append 12 = .ok (.getfield 28, 3) := by decide +kernel
theorem dX4_append_15 : decode cX4_append 15 = .ok (.bipush 24, 2) := by decide +kernel
theorem dX4_append_17 : decode cX4_append 17 = .ok (.if_icmp .lt 6, 3) := by decide +kernel
theorem dX4_append_20 : decode cX4_append 20 = .ok (.bipush (-3), 2) := by decide +kernel
theorem dX4_append_22 : decode cX4_append 22 = .ok (.ireturn, 1) := by decide +kernel
theorem dX4_append_23 : decode cX4_append 23 = .ok (.aload_n 0, 1) := by decide +kernel
theorem dX4_append_24 : decode cX4_append 24 = .ok (.getfield 9, 3) := by decide +kernel
theorem dX4_append_27 : decode cX4_append 27 = .ok (.aload_n 0, 1) := by decide +kernel
theorem dX4_append_28 : decode cX4_append 28 = .ok (.getfield 28, 3) := by decide +kernel
theorem dX4_append_31 : decode cX4_append 31 = .ok (.iload_n 1, 1) := by decide +kernel
theorem dX4_append_32 : decode cX4_append 32 = .ok (.iastore, 1) := by decide +kernel
theorem dX4_append_33 : decode cX4_append 33 = .ok (.aload_n 0, 1) := by decide +kernel
theorem dX4_append_34 : decode cX4_append 34 = .ok (.getfield 15, 3) := by decide +kernel
theorem dX4_append_37 : decode cX4_append 37 = .ok (.aload_n 0, 1) := by decide +kernel
theorem dX4_append_38 : decode cX4_append 38 = .ok (.getfield 28, 3) := by decide +kernel
theorem dX4_append_41 : decode cX4_append 41 = .ok (.iload_n 2, 1) := by decide +kernel
theorem dX4_append_42 : decode cX4_append 42 = .ok (.iastore, 1) := by decide +kernel
theorem dX4_append_43 : decode cX4_append 43 = .ok (.aload_n 0, 1) := by decide +kernel
theorem dX4_append_44 : decode cX4_append 44 = .ok (.getfield 18, 3) := by decide +kernel
theorem dX4_append_47 : decode cX4_append 47 = .ok (.aload_n 0, 1) := by decide +kernel
theorem dX4_append_48 : decode cX4_append 48 = .ok (.getfield 28, 3) := by decide +kernel
theorem dX4_append_51 : decode cX4_append 51 = .ok (.iload_n 3, 1) := by decide +kernel
theorem dX4_append_52 : decode cX4_append 52 = .ok (.iastore, 1) := by decide +kernel
theorem dX4_append_53 : decode cX4_append 53 = .ok (.aload_n 0, 1) := by decide +kernel
theorem dX4_append_54 : decode cX4_append 54 = .ok (.dup, 1) := by decide +kernel
theorem dX4_append_55 : decode cX4_append 55 = .ok (.getfield 28, 3) := by decide +kernel
theorem dX4_append_58 : decode cX4_append 58 = .ok (.iconst 1, 1) := by decide +kernel
theorem dX4_append_59 : decode cX4_append 59 = .ok (.iadd, 1) := by decide +kernel
theorem dX4_append_60 : decode cX4_append 60 = .ok (.putfield 28, 3) := by decide +kernel
theorem dX4_append_63 : decode cX4_append 63 = .ok (.aload_n 0, 1) := by decide +kernel
theorem dX4_append_64 : decode cX4_append 64 = .ok (.getfield 28, 3) := by decide +kernel
theorem dX4_append_67 : decode cX4_append 67 = .ok (.ireturn, 1) := by decide +kernel
theorem dX1_holds_0 : decode cX1_holds 0 = .ok (.iconst 0, 1) := by decide +kernel
theorem dX1_holds_1 : decode cX1_holds 1 = .ok (.istore_n 3, 1) := by decide +kernel
theorem dX1_holds_2 : decode cX1_holds 2 = .ok (.iload_n 3, 1) := by decide +kernel
theorem dX1_holds_3 : decode cX1_holds 3 = .ok (.aload_n 0, 1) := by decide +kernel
theorem dX1_holds_4 : decode cX1_holds 4 = .ok (.getfield 24, 3) := by decide +kernel
theorem dX1_holds_7 : decode cX1_holds 7 = .ok (.if_icmp .ge 31, 3) := by decide +kernel
theorem dX1_holds_10 : decode cX1_holds 10 = .ok (.aload_n 0, 1) := by decide +kernel
theorem dX1_holds_11 : decode cX1_holds 11 = .ok (.getfield 15, 3) := by decide +kernel
theorem dX1_holds_14 : decode cX1_holds 14 = .ok (.iload_n 3, 1) := by decide +kernel
theorem dX1_holds_15 : decode cX1_holds 15 = .ok (.iaload, 1) := by decide +kernel
theorem dX1_holds_16 : decode cX1_holds 16 = .ok (.iload_n 1, 1) := by decide +kernel
theorem dX1_holds_17 : decode cX1_holds 17 = .ok (.if_icmp .ne 15, 3) := by decide +kernel
theorem dX1_holds_20 : decode cX1_holds 20 = .ok (.aload_n 0, 1) := by decide +kernel
theorem dX1_holds_21 : decode cX1_holds 21 = .ok (.getfield 21, 3) := by decide +kernel
theorem dX1_holds_24 : decode cX1_holds 24 = .ok (.iload_n 3, 1) := by decide +kernel
theorem dX1_holds_25 : decode cX1_holds 25 = .ok (.iaload, 1) := by decide +kernel
theorem dX1_holds_26 : decode cX1_holds 26 = .ok (.iload_n 2, 1) := by decide +kernel
theorem dX1_holds_27 : decode cX1_holds 27 = .ok (.if_icmp .ne 5, 3) := by decide +kernel
theorem dX1_holds_30 : decode cX1_holds 30 = .ok (.iconst 1, 1) := by decide +kernel
theorem dX1_holds_31 : decode cX1_holds 31 = .ok (.ireturn, 1) := by decide +kernel
theorem dX1_holds_32 : decode cX1_holds 32 = .ok (.iinc 3 1, 3) := by decide +kernel
theorem dX1_holds_35 : decode cX1_holds 35 = .ok (.goto (-33), 3) := by decide +kernel
theorem dX1_holds_38 : decode cX1_holds 38 = .ok (.iconst 0, 1) := by decide +kernel
theorem dX1_holds_39 : decode cX1_holds 39 = .ok (.ireturn, 1) := by decide +kernel
end
section
def f_X4_reset (fu : Nat) (a0 : Nat) (z : hp_S) : Option hp_S :=
  (ho_pi 4 a0 3 0 z).bind fun z =>
  (ho_pi 4 a0 4 0 z).bind fun z =>
  (ho_pi 4 a0 5 96 z).bind fun z =>
  some z
set_option maxHeartbeats 4000000 in
set_option maxRecDepth 100000 in
theorem c_X4_reset (l : Launch) (G : hp_G) (fu : Nat) (a0 : Nat) (z zq : hp_S) (h : f_X4_reset fu a0 z = some zq) : hp_M l G yX4_reset cX4_reset 1 none 0 0 0 0 [.ref a0] z (hp_Qv G zq) := by
  refine hp_M.of (by decide) (Nat.le_of_ble_eq_true rfl) ?_
  intro p e s m below meth c X hr hlocks hnm hP hS ls hl
  have X : hp_C G cX4_reset RX4 1 p s m c := X
  have hl : lv_has ls 1 [(0, .ref a0)] := hl
  have hx := X.1
  have hb := X.2.1
  unfold f_X4_reset at h
  refine lv_aload_n hx hb dX4_reset_0 rfl (lv_at hl 0 rfl) ?_
  refine lv_iconst (v := 0) hx hb dX4_reset_1 (by decide) ?_
  obtain ⟨z, q, h⟩ := ho_bd h
  refine hw_pi X hP hS LX4 fX4_28 rfl rfl rfl q dX4_reset_2 (fun H locs hP hS => ?_)
  refine lv_aload_n hx hb dX4_reset_5 rfl (lv_at hl 0 rfl) ?_
  refine lv_iconst (v := 0) hx hb dX4_reset_6 (by decide) ?_
  obtain ⟨z, q, h⟩ := ho_bd h
  refine hw_pi X hP hS LX4 fX4_21 rfl rfl rfl q dX4_reset_7 (fun H locs hP hS => ?_)
  refine lv_aload_n hx hb dX4_reset_10 rfl (lv_at hl 0 rfl) ?_
  refine lv_bipush (v := 96) hx hb dX4_reset_11 (by decide) ?_
  obtain ⟨z, q, h⟩ := ho_bd h
  refine hw_pi X hP hS LX4 fX4_25 rfl rfl rfl q dX4_reset_13 (fun H locs hP hS => ?_)
  exact hw_vret X hP hS hr hlocks h dX4_reset_16
def f_J7_fill_B20 (fu : Nat) (a0 : Nat) (x1 : Int32) (z : hp_S) : Option hp_S :=
  some z
def f_J7_fill_L5 (fu : Nat) (a0 : Nat) (x1 : Int32) (kk : hp_S → Option hp_S) : Nat → Int32 → Int32 → hp_S → Option hp_S
  | 0, _, _, _ => none
  | n + 1, w2, w3, z =>
    if w3 ≤ w2 then (
      kk  z
    ) else (
      (ho_si a0 w2 x1 z).bind fun z =>
      (ho_id (w2 + 1)).bind fun v2 =>
      (f_J7_fill_L5 fu a0 x1 kk n) v2 w3 z
    )
def f_J7_fill (fu : Nat) (a0 : Nat) (x1 : Int32) (z : hp_S) : Option hp_S :=
  (ho_ln 1 a0 z).bind fun v1 =>
  f_J7_fill_L5 fu a0 x1 (f_J7_fill_B20 fu a0 x1) fu 0 v1 z
set_option maxHeartbeats 4000000 in
set_option maxRecDepth 100000 in
theorem c_J7_fill (l : Launch) (G : hp_G) (fu : Nat) (a0 : Nat) (x1 : Int32) (z zq : hp_S) (h : f_J7_fill fu a0 x1 z = some zq) : hp_M l G yJ7_fill cJ7_fill 4 none 0 0 0 0 [.ref a0, .int x1] z (hp_Qv G zq) := by
  refine hp_M.of (by decide) (Nat.le_of_ble_eq_true rfl) ?_
  intro p e s m below meth c X hr hlocks hnm hP hS ls hl
  have X : hp_C G cJ7_fill RJ7 4 p s m c := X
  have hl : lv_has ls 4 [(0, .ref a0), (1, .int x1)] := hl
  have hx := X.1
  have hb := X.2.1
  have B20 : ∀ (z : hp_S) (H : Heap) (locs : List Loc) (ls : Array Slot), f_J7_fill_B20 fu a0 x1 z = some zq → hp_P G z H → va_S (hp_A G) s.heap H locs → lv_has ls 4 [(0, .ref a0), (1, .int x1)] → W p l e (hp_rm 0 0 0 0) s m [.ref a0, .int x1].toArray below meth c H locs 0 0 (MQ below (hp_Qv G zq) [.ref a0, .int x1].toArray s 0 0 (hp_A G)) (F0 m 20 ls []) := by
    intro z H locs ls h hP hS hl
    unfold f_J7_fill_B20 at h
    exact hw_vret X hP hS hr hlocks h dJ7_fill_20
  have L5 : ∀ (n5 : Nat) (w2 : Int32) (w3 : Int32) (z : hp_S) (H : Heap) (locs : List Loc) (ls : Array Slot), f_J7_fill_L5 fu a0 x1 (f_J7_fill_B20 fu a0 x1) n5 w2 w3 z = some zq → hp_P G z H → va_S (hp_A G) s.heap H locs → lv_has ls 4 [(0, .ref a0), (1, .int x1), (2, .int w2), (3, .int w3)] → W p l e (hp_rm 0 0 0 0) s m [.ref a0, .int x1].toArray below meth c H locs 0 0 (MQ below (hp_Qv G zq) [.ref a0, .int x1].toArray s 0 0 (hp_A G)) (F0 m 5 ls []) := by
    intro n5
    induction n5 with
    | zero =>
      intro w2 w3 z H locs ls h
      exact nomatch (h : (none : Option hp_S) = some zq)
    | succ n5 ih5 =>
      intro w2 w3 z H locs ls h hP hS hl
      rw [f_J7_fill_L5] at h
      refine lv_iload_n hx hb dJ7_fill_5 rfl (lv_at hl 2 rfl) ?_
      refine lv_iload_n hx hb dJ7_fill_6 rfl (lv_at hl 3 rfl) ?_
      refine lv_icmp_ge (tgt := 20) hx hb dJ7_fill_7 (by decide) (fun hc => ?_) (fun hc => ?_)
      · replace h := ho_ip hc h
        exact B20 z _ _ _ h hP hS (lv_sub hl [0, 1] rfl)
      · replace h := ho_in hc h
        refine lv_aload_n hx hb dJ7_fill_10 rfl (lv_at hl 0 rfl) ?_
        refine lv_iload_n hx hb dJ7_fill_11 rfl (lv_at hl 2 rfl) ?_
        refine lv_iload_n hx hb dJ7_fill_12 rfl (lv_at hl 1 rfl) ?_
        obtain ⟨z, q, h⟩ := ho_bd h
        refine hw_si X hP hS q dJ7_fill_13 (fun H locs hP hS => ?_)
        obtain ⟨v2, q, h⟩ := ho_bd h
        refine lv_iinc (v := v2) (lv' := [(2, .int v2), (0, .ref a0), (1, .int x1), (3, .int w3)]) hx hb dJ7_fill_14 hl (k := 2) rfl (Option.some.inj q) (by decide) rfl (fun ls hl => ?_)
        refine lv_goto (tgt := 5) hx hb dJ7_fill_17 (by decide) ?_
        exact ih5 v2 w3 z _ _ _ h hP hS (lv_sub hl [1, 2, 0, 3] rfl)
  unfold f_J7_fill at h
  refine lv_iconst (v := 0) hx hb dJ7_fill_0 (by decide) ?_
  refine lv_istore_n (lv' := [(2, .int 0), (0, .ref a0), (1, .int x1)]) hx hb dJ7_fill_1 rfl hl (by decide) rfl (fun ls hl => ?_)
  refine lv_aload_n hx hb dJ7_fill_2 rfl (lv_at hl 1 rfl) ?_
  obtain ⟨v1, q, h⟩ := ho_bd h
  refine hw_ln (t0 := 0) X hP (by decide) (by decide) rfl q dJ7_fill_3 ?_
  refine lv_istore_n (lv' := [(3, .int v1), (2, .int 0), (0, .ref a0), (1, .int x1)]) hx hb dJ7_fill_4 rfl hl (by decide) rfl (fun ls hl => ?_)
  exact L5 fu 0 v1 z _ _ _ h hP hS (lv_sub hl [2, 3, 1, 0] rfl)
def f_X4_lastTime_B22 (fu : Nat) (a0 : Nat) (s0 : Int32) (z : hp_S) : Option (Int32 × hp_S) :=
  some (s0, z)
def f_X4_lastTime (fu : Nat) (a0 : Nat) (z : hp_S) : Option (Int32 × hp_S) :=
  (ho_gi 4 a0 3 z).bind fun v1 =>
  if v1 ≤ 0 then (
    f_X4_lastTime_B22 fu a0 (-1) z
  ) else (
    (ho_gr 4 a0 0 z).bind fun r2 =>
    (ho_gi 4 a0 3 z).bind fun v3 =>
    (ho_li 1 r2 (v3 - 1) z).bind fun v4 =>
    f_X4_lastTime_B22 fu a0 v4 z
  )
set_option maxHeartbeats 4000000 in
set_option maxRecDepth 100000 in
theorem c_X4_lastTime (l : Launch) (G : hp_G) (fu : Nat) (a0 : Nat) (z : hp_S) (rq : Int32) (zq : hp_S) (h : f_X4_lastTime fu a0 z = some (rq, zq)) : hp_M l G yX4_lastTime cX4_lastTime 1 (some .int) 0 0 0 0 [.ref a0] z (hp_Qi G rq zq) := by
  refine hp_M.of (by decide) (Nat.le_of_ble_eq_true rfl) ?_
  intro p e s m below meth c X hr hlocks hnm hP hS ls hl
  have X : hp_C G cX4_lastTime RX4 1 p s m c := X
  have hl : lv_has ls 1 [(0, .ref a0)] := hl
  have hx := X.1
  have hb := X.2.1
  have B22 : ∀ (s0 : Int32) (z : hp_S) (H : Heap) (locs : List Loc) (ls : Array Slot), f_X4_lastTime_B22 fu a0 s0 z = some (rq, zq) → hp_P G z H → va_S (hp_A G) s.heap H locs → lv_has ls 1 [(0, .ref a0)] → W p l e (hp_rm 0 0 0 0) s m [.ref a0].toArray below meth c H locs 0 0 (MQ below (hp_Qi G rq zq) [.ref a0].toArray s 0 0 (hp_A G)) (F0 m 22 ls [.int s0]) := by
    intro s0 z H locs ls h hP hS hl
    unfold f_X4_lastTime_B22 at h
    exact hw_iret X hP hS hr hlocks h dX4_lastTime_22
  unfold f_X4_lastTime at h
  refine lv_aload_n hx hb dX4_lastTime_0 rfl (lv_at hl 0 rfl) ?_
  obtain ⟨v1, q, h⟩ := ho_bd h
  refine hw_gi X hP LX4 fX4_28 rfl q dX4_lastTime_1 ?_
  refine lv_if_le (tgt := 21) hx hb dX4_lastTime_4 (by decide) (fun hc => ?_) (fun hc => ?_)
  · replace h := ho_ip hc h
    refine lv_iconst (v := (-1)) hx hb dX4_lastTime_21 (by decide) ?_
    exact B22 (-1) z _ _ _ h hP hS (lv_sub hl [0] rfl)
  · replace h := ho_in hc h
    refine lv_aload_n hx hb dX4_lastTime_7 rfl (lv_at hl 0 rfl) ?_
    obtain ⟨r2, q, h⟩ := ho_bd h
    refine hw_gr X hP LX4 fX4_9 rfl q dX4_lastTime_8 ?_
    refine lv_aload_n hx hb dX4_lastTime_11 rfl (lv_at hl 0 rfl) ?_
    obtain ⟨v3, q, h⟩ := ho_bd h
    refine hw_gi X hP LX4 fX4_28 rfl q dX4_lastTime_12 ?_
    refine lv_iconst (v := 1) hx hb dX4_lastTime_15 (by decide) ?_
    refine lv_isub hx hb dX4_lastTime_16 ?_
    obtain ⟨v4, q, h⟩ := ho_bd h
    refine hw_li X hP q dX4_lastTime_17 ?_
    refine lv_goto (tgt := 22) hx hb dX4_lastTime_18 (by decide) ?_
    exact B22 v4 z _ _ _ h hP hS (lv_sub hl [0] rfl)
def f_X6_within_B15 (fu : Nat) (x0 : Int32) (x1 : Int32) (x2 : Int32) (s0 : Int32) (z : hp_S) : Option (Int32 × hp_S) :=
  if vp_nar .boolean s0 = s0 then some (s0, z) else none
def f_X6_within_B14 (fu : Nat) (x0 : Int32) (x1 : Int32) (x2 : Int32) (z : hp_S) : Option (Int32 × hp_S) :=
  f_X6_within_B15 fu x0 x1 x2 0 z
def f_X6_within (fu : Nat) (x0 : Int32) (x1 : Int32) (x2 : Int32) (z : hp_S) : Option (Int32 × hp_S) :=
  if x0 < x1 then (
    f_X6_within_B14 fu x0 x1 x2  z
  ) else (
    if x2 < x0 then (
      f_X6_within_B14 fu x0 x1 x2  z
    ) else (
      f_X6_within_B15 fu x0 x1 x2 1 z
    )
  )
set_option maxHeartbeats 4000000 in
set_option maxRecDepth 100000 in
theorem c_X6_within (l : Launch) (G : hp_G) (fu : Nat) (x0 : Int32) (x1 : Int32) (x2 : Int32) (z : hp_S) (rq : Int32) (zq : hp_S) (h : f_X6_within fu x0 x1 x2 z = some (rq, zq)) : hp_M l G yX6_within cX6_within 3 (some .boolean) 0 0 0 0 [.int x0, .int x1, .int x2] z (hp_Qi G rq zq) := by
  refine hp_M.of (by decide) (Nat.le_of_ble_eq_true rfl) ?_
  intro p e s m below meth c X hr hlocks hnm hP hS ls hl
  have X : hp_C G cX6_within RX6 3 p s m c := X
  have hl : lv_has ls 3 [(0, .int x0), (1, .int x1), (2, .int x2)] := hl
  have hx := X.1
  have hb := X.2.1
  have B15 : ∀ (s0 : Int32) (z : hp_S) (H : Heap) (locs : List Loc) (ls : Array Slot), f_X6_within_B15 fu x0 x1 x2 s0 z = some (rq, zq) → hp_P G z H → va_S (hp_A G) s.heap H locs → lv_has ls 3 [(0, .int x0), (1, .int x1), (2, .int x2)] → W p l e (hp_rm 0 0 0 0) s m [.int x0, .int x1, .int x2].toArray below meth c H locs 0 0 (MQ below (hp_Qi G rq zq) [.int x0, .int x1, .int x2].toArray s 0 0 (hp_A G)) (F0 m 15 ls [.int s0]) := by
    intro s0 z H locs ls h hP hS hl
    unfold f_X6_within_B15 at h
    exact hw_zret X hP hS hr hlocks h dX6_within_15
  have B14 : ∀ (z : hp_S) (H : Heap) (locs : List Loc) (ls : Array Slot), f_X6_within_B14 fu x0 x1 x2 z = some (rq, zq) → hp_P G z H → va_S (hp_A G) s.heap H locs → lv_has ls 3 [(0, .int x0), (1, .int x1), (2, .int x2)] → W p l e (hp_rm 0 0 0 0) s m [.int x0, .int x1, .int x2].toArray below meth c H locs 0 0 (MQ below (hp_Qi G rq zq) [.int x0, .int x1, .int x2].toArray s 0 0 (hp_A G)) (F0 m 14 ls []) := by
    intro z H locs ls h hP hS hl
    unfold f_X6_within_B14 at h
    refine lv_iconst (v := 0) hx hb dX6_within_14 (by decide) ?_
    exact B15 0 z _ _ _ h hP hS (lv_sub hl [0, 1, 2] rfl)
  unfold f_X6_within at h
  refine lv_iload_n hx hb dX6_within_0 rfl (lv_at hl 0 rfl) ?_
  refine lv_iload_n hx hb dX6_within_1 rfl (lv_at hl 1 rfl) ?_
  refine lv_icmp_lt (tgt := 14) hx hb dX6_within_2 (by decide) (fun hc => ?_) (fun hc => ?_)
  · replace h := ho_ip hc h
    exact B14 z _ _ _ h hP hS (lv_sub hl [0, 1, 2] rfl)
  · replace h := ho_in hc h
    refine lv_iload_n hx hb dX6_within_5 rfl (lv_at hl 0 rfl) ?_
    refine lv_iload_n hx hb dX6_within_6 rfl (lv_at hl 2 rfl) ?_
    refine lv_icmp_gt (tgt := 14) hx hb dX6_within_7 (by decide) (fun hc => ?_) (fun hc => ?_)
    · replace h := ho_ip hc h
      exact B14 z _ _ _ h hP hS (lv_sub hl [0, 1, 2] rfl)
    · replace h := ho_in hc h
      refine lv_iconst (v := 1) hx hb dX6_within_10 (by decide) ?_
      refine lv_goto (tgt := 15) hx hb dX6_within_11 (by decide) ?_
      exact B15 1 z _ _ _ h hP hS (lv_sub hl [0, 1, 2] rfl)
def f_X6_isVoice (fu : Nat) (a0 : Nat) (x1 : Int32) (z : hp_S) : Option (Int32 × hp_S) :=
  (ho_gr 6 a0 0 z).bind fun r1 =>
  (ho_ln (4 + 53) r1 z).bind fun v2 =>
  (f_X6_within fu x1 0 (v2 - 1) z).bind fun ⟨v3, z⟩ =>
  if vp_nar .boolean v3 = v3 then some (v3, z) else none
set_option maxHeartbeats 4000000 in
set_option maxRecDepth 100000 in
theorem c_X6_isVoice (l : Launch) (G : hp_G) (fu : Nat) (a0 : Nat) (x1 : Int32) (z : hp_S) (rq : Int32) (zq : hp_S) (h : f_X6_isVoice fu a0 x1 z = some (rq, zq)) : hp_M l G yX6_isVoice cX6_isVoice 2 (some .boolean) 1 22 0 0 [.ref a0, .int x1] z (hp_Qi G rq zq) := by
  refine hp_M.of (by decide) (Nat.le_of_ble_eq_true rfl) ?_
  intro p e s m below meth c X hr hlocks hnm hP hS ls hl
  have X : hp_C G cX6_isVoice RX6 2 p s m c := X
  have hl : lv_has ls 2 [(0, .ref a0), (1, .int x1)] := hl
  have hx := X.1
  have hb := X.2.1
  unfold f_X6_isVoice at h
  refine lv_iload_n hx hb dX6_isVoice_0 rfl (lv_at hl 1 rfl) ?_
  refine lv_iconst (v := 0) hx hb dX6_isVoice_1 (by decide) ?_
  refine lv_aload_n hx hb dX6_isVoice_2 rfl (lv_at hl 0 rfl) ?_
  obtain ⟨r1, q, h⟩ := ho_bd h
  refine hw_gr X hP LX6 fX6_20 rfl q dX6_isVoice_3 ?_
  obtain ⟨v2, q, h⟩ := ho_bd h
  refine hw_lnr (t0 := 2) X hP rfl q dX6_isVoice_6 ?_
  refine lv_iconst (v := 1) hx hb dX6_isVoice_7 (by decide) ?_
  refine lv_isub hx hb dX6_isVoice_8 ?_
  obtain ⟨⟨v3, z⟩, q, h⟩ := ho_bd h
  refine hw_ci hS (hp_runS (As := [.int x1, .int 0, .int (v2 - 1)]) (rest := []) X hP hS hl.1 kX6_97 m2_35 (c_X6_within l G fu x1 0 (v2 - 1) _ _ _ q) rfl (Nat.le_of_ble_eq_true rfl) ⟨⟨Nat.le_of_ble_eq_true rfl, Nat.le_of_ble_eq_true rfl⟩, Nat.le_of_ble_eq_true rfl, Nat.le_of_ble_eq_true rfl⟩ dX6_isVoice_9) (fun H locs hP hS => ?_)
  exact hw_zret X hP hS hr hlocks h dX6_isVoice_12
def f_X4_append (fu : Nat) (a0 : Nat) (x1 : Int32) (x2 : Int32) (x3 : Int32) (z : hp_S) : Option (Int32 × hp_S) :=
  (ho_is 4 a0 z).bind fun _ =>
  (f_X4_lastTime fu a0 z).bind fun ⟨v1, z⟩ =>
  if v1 < x1 then (
    (ho_gi 4 a0 3 z).bind fun v2 =>
    if v2 < 24 then (
      (ho_gr 4 a0 0 z).bind fun r3 =>
      (ho_gi 4 a0 3 z).bind fun v4 =>
      (ho_si r3 v4 x1 z).bind fun z =>
      (ho_gr 4 a0 1 z).bind fun r5 =>
      (ho_gi 4 a0 3 z).bind fun v6 =>
      (ho_si r5 v6 x2 z).bind fun z =>
      (ho_gr 4 a0 2 z).bind fun r7 =>
      (ho_gi 4 a0 3 z).bind fun v8 =>
      (ho_si r7 v8 x3 z).bind fun z =>
      (ho_gi 4 a0 3 z).bind fun v9 =>
      (ho_pi 4 a0 3 (v9 + 1) z).bind fun z =>
      (ho_gi 4 a0 3 z).bind fun v10 =>
      some (v10, z)
    ) else (
      some ((-3), z)
    )
  ) else (
    some ((-4), z)
  )
set_option maxHeartbeats 4000000 in
set_option maxRecDepth 100000 in
theorem c_X4_append (l : Launch) (G : hp_G) (fu : Nat) (a0 : Nat) (x1 : Int32) (x2 : Int32) (x3 : Int32) (z : hp_S) (rq : Int32) (zq : hp_S) (h : f_X4_append fu a0 x1 x2 x3 z = some (rq, zq)) : hp_M l G yX4_append cX4_append 4 (some .int) 1 20 0 0 [.ref a0, .int x1, .int x2, .int x3] z (hp_Qi G rq zq) := by
  refine hp_M.of (by decide) (Nat.le_of_ble_eq_true rfl) ?_
  intro p e s m below meth c X hr hlocks hnm hP hS ls hl
  have X : hp_C G cX4_append RX4 4 p s m c := X
  have hl : lv_has ls 4 [(0, .ref a0), (1, .int x1), (2, .int x2), (3, .int x3)] := hl
  have hx := X.1
  have hb := X.2.1
  unfold f_X4_append at h
  refine lv_iload_n hx hb dX4_append_0 rfl (lv_at hl 1 rfl) ?_
  refine lv_aload_n hx hb dX4_append_1 rfl (lv_at hl 0 rfl) ?_
  obtain ⟨_, hs, h⟩ := ho_bd h
  obtain ⟨⟨v1, z⟩, q, h⟩ := ho_bd h
  refine hw_ci hS (hp_runV (As := []) (rest := [.int x1]) X hP hS hl.1 LX4 (ho_is_s hs) kX4_31 ⟨m2_8, m2_9⟩ (c_X4_lastTime l G fu a0 _ _ _ q) rfl (Nat.le_of_ble_eq_true rfl) ⟨⟨Nat.le_of_ble_eq_true rfl, Nat.le_of_ble_eq_true rfl⟩, Nat.le_of_ble_eq_true rfl, Nat.le_of_ble_eq_true rfl⟩ dX4_append_2) (fun H locs hP hS => ?_)
  refine lv_icmp_gt (tgt := 11) hx hb dX4_append_5 (by decide) (fun hc => ?_) (fun hc => ?_)
  · replace h := ho_ip hc h
    refine lv_aload_n hx hb dX4_append_11 rfl (lv_at hl 0 rfl) ?_
    obtain ⟨v2, q, h⟩ := ho_bd h
    refine hw_gi X hP LX4 fX4_28 rfl q dX4_append_12 ?_
    refine lv_bipush (v := 24) hx hb dX4_append_15 (by decide) ?_
    refine lv_icmp_lt (tgt := 23) hx hb dX4_append_17 (by decide) (fun hc => ?_) (fun hc => ?_)
    · replace h := ho_ip hc h
      refine lv_aload_n hx hb dX4_append_23 rfl (lv_at hl 0 rfl) ?_
      obtain ⟨r3, q, h⟩ := ho_bd h
      refine hw_gr X hP LX4 fX4_9 rfl q dX4_append_24 ?_
      refine lv_aload_n hx hb dX4_append_27 rfl (lv_at hl 0 rfl) ?_
      obtain ⟨v4, q, h⟩ := ho_bd h
      refine hw_gi X hP LX4 fX4_28 rfl q dX4_append_28 ?_
      refine lv_iload_n hx hb dX4_append_31 rfl (lv_at hl 1 rfl) ?_
      obtain ⟨z, q, h⟩ := ho_bd h
      refine hw_si X hP hS q dX4_append_32 (fun H locs hP hS => ?_)
      refine lv_aload_n hx hb dX4_append_33 rfl (lv_at hl 0 rfl) ?_
      obtain ⟨r5, q, h⟩ := ho_bd h
      refine hw_gr X hP LX4 fX4_15 rfl q dX4_append_34 ?_
      refine lv_aload_n hx hb dX4_append_37 rfl (lv_at hl 0 rfl) ?_
      obtain ⟨v6, q, h⟩ := ho_bd h
      refine hw_gi X hP LX4 fX4_28 rfl q dX4_append_38 ?_
      refine lv_iload_n hx hb dX4_append_41 rfl (lv_at hl 2 rfl) ?_
      obtain ⟨z, q, h⟩ := ho_bd h
      refine hw_si X hP hS q dX4_append_42 (fun H locs hP hS => ?_)
      refine lv_aload_n hx hb dX4_append_43 rfl (lv_at hl 0 rfl) ?_
      obtain ⟨r7, q, h⟩ := ho_bd h
      refine hw_gr X hP LX4 fX4_18 rfl q dX4_append_44 ?_
      refine lv_aload_n hx hb dX4_append_47 rfl (lv_at hl 0 rfl) ?_
      obtain ⟨v8, q, h⟩ := ho_bd h
      refine hw_gi X hP LX4 fX4_28 rfl q dX4_append_48 ?_
      refine lv_iload_n hx hb dX4_append_51 rfl (lv_at hl 3 rfl) ?_
      obtain ⟨z, q, h⟩ := ho_bd h
      refine hw_si X hP hS q dX4_append_52 (fun H locs hP hS => ?_)
      refine lv_aload_n hx hb dX4_append_53 rfl (lv_at hl 0 rfl) ?_
      refine lv_dup hx hb dX4_append_54 rfl ?_
      obtain ⟨v9, q, h⟩ := ho_bd h
      refine hw_gi X hP LX4 fX4_28 rfl q dX4_append_55 ?_
      refine lv_iconst (v := 1) hx hb dX4_append_58 (by decide) ?_
      refine lv_iadd hx hb dX4_append_59 ?_
      obtain ⟨z, q, h⟩ := ho_bd h
      refine hw_pi X hP hS LX4 fX4_28 rfl rfl rfl q dX4_append_60 (fun H locs hP hS => ?_)
      refine lv_aload_n hx hb dX4_append_63 rfl (lv_at hl 0 rfl) ?_
      obtain ⟨v10, q, h⟩ := ho_bd h
      refine hw_gi X hP LX4 fX4_28 rfl q dX4_append_64 ?_
      exact hw_iret X hP hS hr hlocks h dX4_append_67
    · replace h := ho_in hc h
      refine lv_bipush (v := (-3)) hx hb dX4_append_20 (by decide) ?_
      exact hw_iret X hP hS hr hlocks h dX4_append_22
  · replace h := ho_in hc h
    refine lv_bipush (v := (-4)) hx hb dX4_append_8 (by decide) ?_
    exact hw_iret X hP hS hr hlocks h dX4_append_10
def f_X1_holds_B38 (fu : Nat) (a0 : Nat) (x1 : Int32) (x2 : Int32) (z : hp_S) : Option (Int32 × hp_S) :=
  if vp_nar .boolean 0 = 0 then some (0, z) else none
def f_X1_holds_B32 (fu : Nat) (a0 : Nat) (x1 : Int32) (x2 : Int32) (ag : Int32 → hp_S → Option (Int32 × hp_S)) (kk : hp_S → Option (Int32 × hp_S)) (w3 : Int32) (z : hp_S) : Option (Int32 × hp_S) :=
  (ho_id (w3 + 1)).bind fun v4 =>
  ag v4 z
def f_X1_holds_L2 (fu : Nat) (a0 : Nat) (x1 : Int32) (x2 : Int32) (kk : hp_S → Option (Int32 × hp_S)) : Nat → Int32 → hp_S → Option (Int32 × hp_S)
  | 0, _, _ => none
  | n + 1, w3, z =>
    (ho_gi 1 a0 2 z).bind fun v1 =>
    if v1 ≤ w3 then (
      kk  z
    ) else (
      (ho_gr 1 a0 0 z).bind fun r2 =>
      (ho_li 1 r2 w3 z).bind fun v3 =>
      if v3 = x1 then (
        (ho_gr 1 a0 1 z).bind fun r5 =>
        (ho_li 1 r5 w3 z).bind fun v6 =>
        if v6 = x2 then (
          if vp_nar .boolean 1 = 1 then some (1, z) else none
        ) else (
          f_X1_holds_B32 fu a0 x1 x2 (f_X1_holds_L2 fu a0 x1 x2 kk n) kk w3 z
        )
      ) else (
        f_X1_holds_B32 fu a0 x1 x2 (f_X1_holds_L2 fu a0 x1 x2 kk n) kk w3 z
      )
    )
def f_X1_holds (fu : Nat) (a0 : Nat) (x1 : Int32) (x2 : Int32) (z : hp_S) : Option (Int32 × hp_S) :=
  f_X1_holds_L2 fu a0 x1 x2 (f_X1_holds_B38 fu a0 x1 x2) fu 0 z
set_option maxHeartbeats 4000000 in
set_option maxRecDepth 100000 in
theorem c_X1_holds (l : Launch) (G : hp_G) (fu : Nat) (a0 : Nat) (x1 : Int32) (x2 : Int32) (z : hp_S) (rq : Int32) (zq : hp_S) (h : f_X1_holds fu a0 x1 x2 z = some (rq, zq)) : hp_M l G yX1_holds cX1_holds 4 (some .boolean) 0 0 0 0 [.ref a0, .int x1, .int x2] z (hp_Qi G rq zq) := by
  refine hp_M.of (by decide) (Nat.le_of_ble_eq_true rfl) ?_
  intro p e s m below meth c X hr hlocks hnm hP hS ls hl
  have X : hp_C G cX1_holds RX1 4 p s m c := X
  have hl : lv_has ls 4 [(0, .ref a0), (1, .int x1), (2, .int x2)] := hl
  have hx := X.1
  have hb := X.2.1
  have B38 : ∀ (z : hp_S) (H : Heap) (locs : List Loc) (ls : Array Slot), f_X1_holds_B38 fu a0 x1 x2 z = some (rq, zq) → hp_P G z H → va_S (hp_A G) s.heap H locs → lv_has ls 4 [(0, .ref a0), (1, .int x1), (2, .int x2)] → W p l e (hp_rm 0 0 0 0) s m [.ref a0, .int x1, .int x2].toArray below meth c H locs 0 0 (MQ below (hp_Qi G rq zq) [.ref a0, .int x1, .int x2].toArray s 0 0 (hp_A G)) (F0 m 38 ls []) := by
    intro z H locs ls h hP hS hl
    unfold f_X1_holds_B38 at h
    refine lv_iconst (v := 0) hx hb dX1_holds_38 (by decide) ?_
    exact hw_zret X hP hS hr hlocks h dX1_holds_39
  have L2 : ∀ (n2 : Nat) (w3 : Int32) (z : hp_S) (H : Heap) (locs : List Loc) (ls : Array Slot), f_X1_holds_L2 fu a0 x1 x2 (f_X1_holds_B38 fu a0 x1 x2) n2 w3 z = some (rq, zq) → hp_P G z H → va_S (hp_A G) s.heap H locs → lv_has ls 4 [(0, .ref a0), (1, .int x1), (2, .int x2), (3, .int w3)] → W p l e (hp_rm 0 0 0 0) s m [.ref a0, .int x1, .int x2].toArray below meth c H locs 0 0 (MQ below (hp_Qi G rq zq) [.ref a0, .int x1, .int x2].toArray s 0 0 (hp_A G)) (F0 m 2 ls []) := by
    intro n2
    induction n2 with
    | zero =>
      intro w3 z H locs ls h
      exact nomatch (h : (none : Option (Int32 × hp_S)) = some (rq, zq))
    | succ n2 ih2 =>
      have B32 : ∀ (w3 : Int32) (z : hp_S) (H : Heap) (locs : List Loc) (ls : Array Slot), f_X1_holds_B32 fu a0 x1 x2 (f_X1_holds_L2 fu a0 x1 x2 (f_X1_holds_B38 fu a0 x1 x2) n2) (f_X1_holds_B38 fu a0 x1 x2) w3 z = some (rq, zq) → hp_P G z H → va_S (hp_A G) s.heap H locs → lv_has ls 4 [(0, .ref a0), (1, .int x1), (2, .int x2), (3, .int w3)] → W p l e (hp_rm 0 0 0 0) s m [.ref a0, .int x1, .int x2].toArray below meth c H locs 0 0 (MQ below (hp_Qi G rq zq) [.ref a0, .int x1, .int x2].toArray s 0 0 (hp_A G)) (F0 m 32 ls []) := by
        intro w3 z H locs ls h hP hS hl
        unfold f_X1_holds_B32 at h
        obtain ⟨v4, q, h⟩ := ho_bd h
        refine lv_iinc (v := v4) (lv' := [(3, .int v4), (0, .ref a0), (1, .int x1), (2, .int x2)]) hx hb dX1_holds_32 hl (k := 3) rfl (Option.some.inj q) (by decide) rfl (fun ls hl => ?_)
        refine lv_goto (tgt := 2) hx hb dX1_holds_35 (by decide) ?_
        exact ih2 v4 z _ _ _ h hP hS (lv_sub hl [1, 2, 3, 0] rfl)
      intro w3 z H locs ls h hP hS hl
      rw [f_X1_holds_L2] at h
      refine lv_iload_n hx hb dX1_holds_2 rfl (lv_at hl 3 rfl) ?_
      refine lv_aload_n hx hb dX1_holds_3 rfl (lv_at hl 0 rfl) ?_
      obtain ⟨v1, q, h⟩ := ho_bd h
      refine hw_gi X hP LX1 fX1_24 rfl q dX1_holds_4 ?_
      refine lv_icmp_ge (tgt := 38) hx hb dX1_holds_7 (by decide) (fun hc => ?_) (fun hc => ?_)
      · replace h := ho_ip hc h
        exact B38 z _ _ _ h hP hS (lv_sub hl [0, 1, 2] rfl)
      · replace h := ho_in hc h
        refine lv_aload_n hx hb dX1_holds_10 rfl (lv_at hl 0 rfl) ?_
        obtain ⟨r2, q, h⟩ := ho_bd h
        refine hw_gr X hP LX1 fX1_15 rfl q dX1_holds_11 ?_
        refine lv_iload_n hx hb dX1_holds_14 rfl (lv_at hl 3 rfl) ?_
        obtain ⟨v3, q, h⟩ := ho_bd h
        refine hw_li X hP q dX1_holds_15 ?_
        refine lv_iload_n hx hb dX1_holds_16 rfl (lv_at hl 1 rfl) ?_
        refine lv_icmp_ne (tgt := 32) hx hb dX1_holds_17 (by decide) (fun hc => ?_) (fun hc => ?_)
        · replace h := ho_in hc h
          exact B32 w3 z _ _ _ h hP hS (lv_sub hl [0, 1, 2, 3] rfl)
        · replace h := ho_ip hc h
          refine lv_aload_n hx hb dX1_holds_20 rfl (lv_at hl 0 rfl) ?_
          obtain ⟨r5, q, h⟩ := ho_bd h
          refine hw_gr X hP LX1 fX1_21 rfl q dX1_holds_21 ?_
          refine lv_iload_n hx hb dX1_holds_24 rfl (lv_at hl 3 rfl) ?_
          obtain ⟨v6, q, h⟩ := ho_bd h
          refine hw_li X hP q dX1_holds_25 ?_
          refine lv_iload_n hx hb dX1_holds_26 rfl (lv_at hl 2 rfl) ?_
          refine lv_icmp_ne (tgt := 32) hx hb dX1_holds_27 (by decide) (fun hc => ?_) (fun hc => ?_)
          · replace h := ho_in hc h
            exact B32 w3 z _ _ _ h hP hS (lv_sub hl [0, 1, 2, 3] rfl)
          · replace h := ho_ip hc h
            refine lv_iconst (v := 1) hx hb dX1_holds_30 (by decide) ?_
            exact hw_zret X hP hS hr hlocks h dX1_holds_31
  unfold f_X1_holds at h
  refine lv_iconst (v := 0) hx hb dX1_holds_0 (by decide) ?_
  refine lv_istore_n (lv' := [(3, .int 0), (0, .ref a0), (1, .int x1), (2, .int x2)]) hx hb dX1_holds_1 rfl hl (by decide) rfl (fun ls hl => ?_)
  exact L2 fu 0 z _ _ _ h hP hS (lv_sub hl [1, 2, 3, 0] rfl)
end
