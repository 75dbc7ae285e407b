section
-- ===== PART A: goes FIRST, ahead of the names: the tables' words, and 'selects' of the private methods out of them =====
/-- a private method of a class that the tables say can be made, by its rows of tables_1 -/
def lw_okq (q : MethodName × Nat) : Prop := (q.1.cls ≠ "java/lang/invoke/MethodHandle" ∧ q.1.cls ≠ "java/lang/invoke/VarHandle") ∧ Cond.instantiable q.1.cls q.2 ∈ tables_1 ∧ Cond.privateMethod q.1 ∈ tables_1 ∧ Cond.instanceMethod q.1 ∈ tables_1
theorem lw_p0 : lw_okq (⟨"RootAlgebra$Reader", "readTarget", "()V"⟩, 7) := ⟨⟨by decide +kernel, by decide +kernel⟩, List.mem_of_getElem? (i := 119) (by decide +kernel), List.mem_of_getElem? (i := 526) (by decide +kernel), List.mem_of_getElem? (i := 527) (by decide +kernel)⟩
theorem lw_p1 : lw_okq (⟨"RootAlgebra$Reader", "next", "()I"⟩, 7) := ⟨⟨by decide +kernel, by decide +kernel⟩, List.mem_of_getElem? (i := 119) (by decide +kernel), List.mem_of_getElem? (i := 530) (by decide +kernel), List.mem_of_getElem? (i := 531) (by decide +kernel)⟩
theorem lw_p2 : lw_okq (⟨"RootAlgebra$Reader", "sum", "(I)Z"⟩, 7) := ⟨⟨by decide +kernel, by decide +kernel⟩, List.mem_of_getElem? (i := 119) (by decide +kernel), List.mem_of_getElem? (i := 534) (by decide +kernel), List.mem_of_getElem? (i := 535) (by decide +kernel)⟩
theorem lw_p3 : lw_okq (⟨"RootAlgebra$Reader", "product", "(I)Z"⟩, 7) := ⟨⟨by decide +kernel, by decide +kernel⟩, List.mem_of_getElem? (i := 119) (by decide +kernel), List.mem_of_getElem? (i := 538) (by decide +kernel), List.mem_of_getElem? (i := 539) (by decide +kernel)⟩
theorem lw_p4 : lw_okq (⟨"RootAlgebra$Reader", "factor", "(I)Z"⟩, 7) := ⟨⟨by decide +kernel, by decide +kernel⟩, List.mem_of_getElem? (i := 119) (by decide +kernel), List.mem_of_getElem? (i := 542) (by decide +kernel), List.mem_of_getElem? (i := 543) (by decide +kernel)⟩
theorem lw_p5 : lw_okq (⟨"RootAlgebra$Reader", "number", "()Z"⟩, 7) := ⟨⟨by decide +kernel, by decide +kernel⟩, List.mem_of_getElem? (i := 119) (by decide +kernel), List.mem_of_getElem? (i := 546) (by decide +kernel), List.mem_of_getElem? (i := 547) (by decide +kernel)⟩
theorem lw_p6 : lw_okq (⟨"RootAlgebra$Reader", "emit", "(I)V"⟩, 7) := ⟨⟨by decide +kernel, by decide +kernel⟩, List.mem_of_getElem? (i := 119) (by decide +kernel), List.mem_of_getElem? (i := 550) (by decide +kernel), List.mem_of_getElem? (i := 551) (by decide +kernel)⟩
theorem lw_p7 : lw_okq (⟨"RootAlgebra$Reader", "bracket", "(I)Z"⟩, 7) := ⟨⟨by decide +kernel, by decide +kernel⟩, List.mem_of_getElem? (i := 119) (by decide +kernel), List.mem_of_getElem? (i := 554) (by decide +kernel), List.mem_of_getElem? (i := 555) (by decide +kernel)⟩
theorem lw_p8 : lw_okq (⟨"RootAlgebra$Reader", "rootOfOrder", "(I)Z"⟩, 7) := ⟨⟨by decide +kernel, by decide +kernel⟩, List.mem_of_getElem? (i := 119) (by decide +kernel), List.mem_of_getElem? (i := 558) (by decide +kernel), List.mem_of_getElem? (i := 559) (by decide +kernel)⟩
theorem lw_p9 : lw_okq (⟨"RootAlgebra$Reader", "rootOfPolynomial", "(I)Z"⟩, 7) := ⟨⟨by decide +kernel, by decide +kernel⟩, List.mem_of_getElem? (i := 119) (by decide +kernel), List.mem_of_getElem? (i := 562) (by decide +kernel), List.mem_of_getElem? (i := 563) (by decide +kernel)⟩
theorem lw_p10 : lw_okq (⟨"RootAlgebra$Desk", "pushSlot", "()LRootAlgebra$Value;"⟩, 12) := ⟨⟨by decide +kernel, by decide +kernel⟩, List.mem_of_getElem? (i := 151) (by decide +kernel), List.mem_of_getElem? (i := 574) (by decide +kernel), List.mem_of_getElem? (i := 575) (by decide +kernel)⟩
theorem lw_p11 : lw_okq (⟨"RootAlgebra$Desk", "topSlot", "()LRootAlgebra$Value;"⟩, 12) := ⟨⟨by decide +kernel, by decide +kernel⟩, List.mem_of_getElem? (i := 151) (by decide +kernel), List.mem_of_getElem? (i := 579) (by decide +kernel), List.mem_of_getElem? (i := 580) (by decide +kernel)⟩
theorem lw_p12 : lw_okq (⟨"RootAlgebra$Desk", "recall", "(LRootAlgebra$Value;)I"⟩, 12) := ⟨⟨by decide +kernel, by decide +kernel⟩, List.mem_of_getElem? (i := 151) (by decide +kernel), List.mem_of_getElem? (i := 590) (by decide +kernel), List.mem_of_getElem? (i := 591) (by decide +kernel)⟩
theorem lw_p13 : lw_okq (⟨"RootAlgebra$Big", "trim", "()V"⟩, 3) := ⟨⟨by decide +kernel, by decide +kernel⟩, List.mem_of_getElem? (i := 32) (by decide +kernel), List.mem_of_getElem? (i := 607) (by decide +kernel), List.mem_of_getElem? (i := 608) (by decide +kernel)⟩
theorem lw_p14 : lw_okq (⟨"RootAlgebra$Big", "widen", "(I)I"⟩, 3) := ⟨⟨by decide +kernel, by decide +kernel⟩, List.mem_of_getElem? (i := 32) (by decide +kernel), List.mem_of_getElem? (i := 620) (by decide +kernel), List.mem_of_getElem? (i := 621) (by decide +kernel)⟩
theorem lw_p15 : lw_okq (⟨"RootAlgebra$Big", "complement", "()V"⟩, 3) := ⟨⟨by decide +kernel, by decide +kernel⟩, List.mem_of_getElem? (i := 32) (by decide +kernel), List.mem_of_getElem? (i := 625) (by decide +kernel), List.mem_of_getElem? (i := 626) (by decide +kernel)⟩
def lw_privs_1 : List (MethodName × Nat) := [(⟨"RootAlgebra$Reader", "readTarget", "()V"⟩, 7), (⟨"RootAlgebra$Reader", "next", "()I"⟩, 7), (⟨"RootAlgebra$Reader", "sum", "(I)Z"⟩, 7), (⟨"RootAlgebra$Reader", "product", "(I)Z"⟩, 7), (⟨"RootAlgebra$Reader", "factor", "(I)Z"⟩, 7), (⟨"RootAlgebra$Reader", "number", "()Z"⟩, 7), (⟨"RootAlgebra$Reader", "emit", "(I)V"⟩, 7), (⟨"RootAlgebra$Reader", "bracket", "(I)Z"⟩, 7), (⟨"RootAlgebra$Reader", "rootOfOrder", "(I)Z"⟩, 7), (⟨"RootAlgebra$Reader", "rootOfPolynomial", "(I)Z"⟩, 7), (⟨"RootAlgebra$Desk", "pushSlot", "()LRootAlgebra$Value;"⟩, 12), (⟨"RootAlgebra$Desk", "topSlot", "()LRootAlgebra$Value;"⟩, 12), (⟨"RootAlgebra$Desk", "recall", "(LRootAlgebra$Value;)I"⟩, 12), (⟨"RootAlgebra$Big", "trim", "()V"⟩, 3), (⟨"RootAlgebra$Big", "widen", "(I)I"⟩, 3), (⟨"RootAlgebra$Big", "complement", "()V"⟩, 3)]
theorem lw_r1 : ∀ q ∈ lw_privs_1, lw_okq q := List.forall_mem_cons.mpr ⟨lw_p0, List.forall_mem_cons.mpr ⟨lw_p1, List.forall_mem_cons.mpr ⟨lw_p2, List.forall_mem_cons.mpr ⟨lw_p3, List.forall_mem_cons.mpr ⟨lw_p4, List.forall_mem_cons.mpr ⟨lw_p5, List.forall_mem_cons.mpr ⟨lw_p6, List.forall_mem_cons.mpr ⟨lw_p7, List.forall_mem_cons.mpr ⟨lw_p8, List.forall_mem_cons.mpr ⟨lw_p9, List.forall_mem_cons.mpr ⟨lw_p10, List.forall_mem_cons.mpr ⟨lw_p11, List.forall_mem_cons.mpr ⟨lw_p12, List.forall_mem_cons.mpr ⟨lw_p13, List.forall_mem_cons.mpr ⟨lw_p14, List.forall_mem_cons.mpr ⟨lw_p15, fun _ h => absurd h List.not_mem_nil⟩⟩⟩⟩⟩⟩⟩⟩⟩⟩⟩⟩⟩⟩⟩⟩
theorem lw_p16 : lw_okq (⟨"RootAlgebra$Desk", "rootOfOrder", "(LRootAlgebra$Value;I)I"⟩, 12) := ⟨⟨by decide +kernel, by decide +kernel⟩, List.mem_of_getElem? (i := 151) (by decide +kernel), List.mem_of_getElem? (i := 633) (by decide +kernel), List.mem_of_getElem? (i := 634) (by decide +kernel)⟩
theorem lw_p17 : lw_okq (⟨"RootAlgebra$Desk", "rootOfPolynomial", "([II)I"⟩, 12) := ⟨⟨by decide +kernel, by decide +kernel⟩, List.mem_of_getElem? (i := 151) (by decide +kernel), List.mem_of_getElem? (i := 650) (by decide +kernel), List.mem_of_getElem? (i := 651) (by decide +kernel)⟩
theorem lw_p18 : lw_okq (⟨"RootAlgebra$Gauge", "approximate", "(LRootAlgebra$Value;ILRootAlgebra$Big;)V"⟩, 17) := ⟨⟨by decide +kernel, by decide +kernel⟩, List.mem_of_getElem? (i := 381) (by decide +kernel), List.mem_of_getElem? (i := 666) (by decide +kernel), List.mem_of_getElem? (i := 667) (by decide +kernel)⟩
theorem lw_p19 : lw_okq (⟨"RootAlgebra$Big", "fartherBelow", "()V"⟩, 3) := ⟨⟨by decide +kernel, by decide +kernel⟩, List.mem_of_getElem? (i := 32) (by decide +kernel), List.mem_of_getElem? (i := 683) (by decide +kernel), List.mem_of_getElem? (i := 684) (by decide +kernel)⟩
theorem lw_p20 : lw_okq (⟨"RootAlgebra$Big", "hasBitBelow", "(I)Z"⟩, 3) := ⟨⟨by decide +kernel, by decide +kernel⟩, List.mem_of_getElem? (i := 32) (by decide +kernel), List.mem_of_getElem? (i := 692) (by decide +kernel), List.mem_of_getElem? (i := 693) (by decide +kernel)⟩
theorem lw_p21 : lw_okq (⟨"RootAlgebra$Gauge", "evaluate", "(LRootAlgebra$Value;LRootAlgebra$Big;ILRootAlgebra$Big;)V"⟩, 17) := ⟨⟨by decide +kernel, by decide +kernel⟩, List.mem_of_getElem? (i := 381) (by decide +kernel), List.mem_of_getElem? (i := 696) (by decide +kernel), List.mem_of_getElem? (i := 697) (by decide +kernel)⟩
theorem lw_p22 : lw_okq (⟨"RootAlgebra$Gauge", "narrow", "(LRootAlgebra$Value;LRootAlgebra$Big;II)Z"⟩, 17) := ⟨⟨by decide +kernel, by decide +kernel⟩, List.mem_of_getElem? (i := 381) (by decide +kernel), List.mem_of_getElem? (i := 710) (by decide +kernel), List.mem_of_getElem? (i := 711) (by decide +kernel)⟩
theorem lw_p23 : lw_okq (⟨"RootAlgebra$Desk", "operate", "(ILRootAlgebra$Value;LRootAlgebra$Value;)I"⟩, 12) := ⟨⟨by decide +kernel, by decide +kernel⟩, List.mem_of_getElem? (i := 151) (by decide +kernel), List.mem_of_getElem? (i := 738) (by decide +kernel), List.mem_of_getElem? (i := 739) (by decide +kernel)⟩
theorem lw_p24 : lw_okq (⟨"RootAlgebra$Desk", "findAgain", "(LRootAlgebra$Value;)V"⟩, 12) := ⟨⟨by decide +kernel, by decide +kernel⟩, List.mem_of_getElem? (i := 151) (by decide +kernel), List.mem_of_getElem? (i := 746) (by decide +kernel), List.mem_of_getElem? (i := 747) (by decide +kernel)⟩
theorem lw_p25 : lw_okq (⟨"RootAlgebra$Isolator", "start", "(LRootAlgebra$Poly;)V"⟩, 11) := ⟨⟨by decide +kernel, by decide +kernel⟩, List.mem_of_getElem? (i := 327) (by decide +kernel), List.mem_of_getElem? (i := 758) (by decide +kernel), List.mem_of_getElem? (i := 759) (by decide +kernel)⟩
theorem lw_p26 : lw_okq (⟨"RootAlgebra$Isolator", "bound", "(LRootAlgebra$Poly;)I"⟩, 11) := ⟨⟨by decide +kernel, by decide +kernel⟩, List.mem_of_getElem? (i := 327) (by decide +kernel), List.mem_of_getElem? (i := 762) (by decide +kernel), List.mem_of_getElem? (i := 763) (by decide +kernel)⟩
theorem lw_p27 : lw_okq (⟨"RootAlgebra$Isolator", "hasChange", "()Z"⟩, 11) := ⟨⟨by decide +kernel, by decide +kernel⟩, List.mem_of_getElem? (i := 327) (by decide +kernel), List.mem_of_getElem? (i := 778) (by decide +kernel), List.mem_of_getElem? (i := 779) (by decide +kernel)⟩
theorem lw_p28 : lw_okq (⟨"RootAlgebra$Isolator", "changesInside", "()I"⟩, 11) := ⟨⟨by decide +kernel, by decide +kernel⟩, List.mem_of_getElem? (i := 327) (by decide +kernel), List.mem_of_getElem? (i := 782) (by decide +kernel), List.mem_of_getElem? (i := 783) (by decide +kernel)⟩
theorem lw_p29 : lw_okq (⟨"RootAlgebra$Isolator", "split", "()V"⟩, 11) := ⟨⟨by decide +kernel, by decide +kernel⟩, List.mem_of_getElem? (i := 327) (by decide +kernel), List.mem_of_getElem? (i := 786) (by decide +kernel), List.mem_of_getElem? (i := 787) (by decide +kernel)⟩
theorem lw_p30 : lw_okq (⟨"RootAlgebra$Isolator", "record", "(Z)V"⟩, 11) := ⟨⟨by decide +kernel, by decide +kernel⟩, List.mem_of_getElem? (i := 327) (by decide +kernel), List.mem_of_getElem? (i := 790) (by decide +kernel), List.mem_of_getElem? (i := 791) (by decide +kernel)⟩
theorem lw_p31 : lw_okq (⟨"RootAlgebra$Isolator", "advance", "()Z"⟩, 11) := ⟨⟨by decide +kernel, by decide +kernel⟩, List.mem_of_getElem? (i := 327) (by decide +kernel), List.mem_of_getElem? (i := 794) (by decide +kernel), List.mem_of_getElem? (i := 795) (by decide +kernel)⟩
def lw_privs_2 : List (MethodName × Nat) := [(⟨"RootAlgebra$Desk", "rootOfOrder", "(LRootAlgebra$Value;I)I"⟩, 12), (⟨"RootAlgebra$Desk", "rootOfPolynomial", "([II)I"⟩, 12), (⟨"RootAlgebra$Gauge", "approximate", "(LRootAlgebra$Value;ILRootAlgebra$Big;)V"⟩, 17), (⟨"RootAlgebra$Big", "fartherBelow", "()V"⟩, 3), (⟨"RootAlgebra$Big", "hasBitBelow", "(I)Z"⟩, 3), (⟨"RootAlgebra$Gauge", "evaluate", "(LRootAlgebra$Value;LRootAlgebra$Big;ILRootAlgebra$Big;)V"⟩, 17), (⟨"RootAlgebra$Gauge", "narrow", "(LRootAlgebra$Value;LRootAlgebra$Big;II)Z"⟩, 17), (⟨"RootAlgebra$Desk", "operate", "(ILRootAlgebra$Value;LRootAlgebra$Value;)I"⟩, 12), (⟨"RootAlgebra$Desk", "findAgain", "(LRootAlgebra$Value;)V"⟩, 12), (⟨"RootAlgebra$Isolator", "start", "(LRootAlgebra$Poly;)V"⟩, 11), (⟨"RootAlgebra$Isolator", "bound", "(LRootAlgebra$Poly;)I"⟩, 11), (⟨"RootAlgebra$Isolator", "hasChange", "()Z"⟩, 11), (⟨"RootAlgebra$Isolator", "changesInside", "()I"⟩, 11), (⟨"RootAlgebra$Isolator", "split", "()V"⟩, 11), (⟨"RootAlgebra$Isolator", "record", "(Z)V"⟩, 11), (⟨"RootAlgebra$Isolator", "advance", "()Z"⟩, 11)]
theorem lw_r2 : ∀ q ∈ lw_privs_2, lw_okq q := List.forall_mem_cons.mpr ⟨lw_p16, List.forall_mem_cons.mpr ⟨lw_p17, List.forall_mem_cons.mpr ⟨lw_p18, List.forall_mem_cons.mpr ⟨lw_p19, List.forall_mem_cons.mpr ⟨lw_p20, List.forall_mem_cons.mpr ⟨lw_p21, List.forall_mem_cons.mpr ⟨lw_p22, List.forall_mem_cons.mpr ⟨lw_p23, List.forall_mem_cons.mpr ⟨lw_p24, List.forall_mem_cons.mpr ⟨lw_p25, List.forall_mem_cons.mpr ⟨lw_p26, List.forall_mem_cons.mpr ⟨lw_p27, List.forall_mem_cons.mpr ⟨lw_p28, List.forall_mem_cons.mpr ⟨lw_p29, List.forall_mem_cons.mpr ⟨lw_p30, List.forall_mem_cons.mpr ⟨lw_p31, fun _ h => absurd h List.not_mem_nil⟩⟩⟩⟩⟩⟩⟩⟩⟩⟩⟩⟩⟩⟩⟩⟩
theorem lw_p32 : lw_okq (⟨"RootAlgebra$Desk", "joinFractions", "(LRootAlgebra$Value;LRootAlgebra$Value;Z)I"⟩, 12) := ⟨⟨by decide +kernel, by decide +kernel⟩, List.mem_of_getElem? (i := 151) (by decide +kernel), List.mem_of_getElem? (i := 808) (by decide +kernel), List.mem_of_getElem? (i := 809) (by decide +kernel)⟩
theorem lw_p33 : lw_okq (⟨"RootAlgebra$Sums", "powerSums", "(LRootAlgebra$Value;I[LRootAlgebra$Big;)V"⟩, 4) := ⟨⟨by decide +kernel, by decide +kernel⟩, List.mem_of_getElem? (i := 185) (by decide +kernel), List.mem_of_getElem? (i := 827) (by decide +kernel), List.mem_of_getElem? (i := 828) (by decide +kernel)⟩
theorem lw_p34 : lw_okq (⟨"RootAlgebra$Sums", "joinSums", "(III)V"⟩, 4) := ⟨⟨by decide +kernel, by decide +kernel⟩, List.mem_of_getElem? (i := 185) (by decide +kernel), List.mem_of_getElem? (i := 841) (by decide +kernel), List.mem_of_getElem? (i := 842) (by decide +kernel)⟩
theorem lw_p35 : lw_okq (⟨"RootAlgebra$Sums", "fromPowerSums", "(ILRootAlgebra$Poly;)V"⟩, 4) := ⟨⟨by decide +kernel, by decide +kernel⟩, List.mem_of_getElem? (i := 185) (by decide +kernel), List.mem_of_getElem? (i := 845) (by decide +kernel), List.mem_of_getElem? (i := 846) (by decide +kernel)⟩
theorem lw_p36 : lw_okq (⟨"RootAlgebra$Sums", "unscale", "(LRootAlgebra$Big;IIII)V"⟩, 4) := ⟨⟨by decide +kernel, by decide +kernel⟩, List.mem_of_getElem? (i := 185) (by decide +kernel), List.mem_of_getElem? (i := 850) (by decide +kernel), List.mem_of_getElem? (i := 851) (by decide +kernel)⟩
theorem lw_p37 : lw_okq (⟨"RootAlgebra$Factors", "loadMonic", "(LRootAlgebra$Poly;)Z"⟩, 20) := ⟨⟨by decide +kernel, by decide +kernel⟩, List.mem_of_getElem? (i := 206) (by decide +kernel), List.mem_of_getElem? (i := 868) (by decide +kernel), List.mem_of_getElem? (i := 869) (by decide +kernel)⟩
theorem lw_p38 : lw_okq (⟨"RootAlgebra$Padic", "divide", "([JI[JIJ)V"⟩, 3) := ⟨⟨by decide +kernel, by decide +kernel⟩, List.mem_of_getElem? (i := 244) (by decide +kernel), List.mem_of_getElem? (i := 891) (by decide +kernel), List.mem_of_getElem? (i := 892) (by decide +kernel)⟩
theorem lw_p39 : lw_okq (⟨"RootAlgebra$Factors", "reconstruct", "([JILRootAlgebra$Value;)Z"⟩, 20) := ⟨⟨by decide +kernel, by decide +kernel⟩, List.mem_of_getElem? (i := 206) (by decide +kernel), List.mem_of_getElem? (i := 895) (by decide +kernel), List.mem_of_getElem? (i := 896) (by decide +kernel)⟩
theorem lw_p40 : lw_okq (⟨"RootAlgebra$Poly", "divides", "(LRootAlgebra$Value;LRootAlgebra$Poly;)Z"⟩, 2) := ⟨⟨by decide +kernel, by decide +kernel⟩, List.mem_of_getElem? (i := 159) (by decide +kernel), List.mem_of_getElem? (i := 921) (by decide +kernel), List.mem_of_getElem? (i := 922) (by decide +kernel)⟩
theorem lw_p41 : lw_okq (⟨"RootAlgebra$Factors", "loadResidues", "(LRootAlgebra$Poly;I)I"⟩, 20) := ⟨⟨by decide +kernel, by decide +kernel⟩, List.mem_of_getElem? (i := 206) (by decide +kernel), List.mem_of_getElem? (i := 936) (by decide +kernel), List.mem_of_getElem? (i := 937) (by decide +kernel)⟩
theorem lw_p42 : lw_okq (⟨"RootAlgebra$Field", "degreeOf", "([JI)I"⟩, 7) := ⟨⟨by decide +kernel, by decide +kernel⟩, List.mem_of_getElem? (i := 212) (by decide +kernel), List.mem_of_getElem? (i := 948) (by decide +kernel), List.mem_of_getElem? (i := 949) (by decide +kernel)⟩
theorem lw_p43 : lw_okq (⟨"RootAlgebra$Field", "addShifted", "([J[JJII)V"⟩, 7) := ⟨⟨by decide +kernel, by decide +kernel⟩, List.mem_of_getElem? (i := 212) (by decide +kernel), List.mem_of_getElem? (i := 953) (by decide +kernel), List.mem_of_getElem? (i := 954) (by decide +kernel)⟩
theorem lw_p44 : lw_okq (⟨"RootAlgebra$Field", "swapRows", "()V"⟩, 7) := ⟨⟨by decide +kernel, by decide +kernel⟩, List.mem_of_getElem? (i := 212) (by decide +kernel), List.mem_of_getElem? (i := 957) (by decide +kernel), List.mem_of_getElem? (i := 958) (by decide +kernel)⟩
theorem lw_p45 : lw_okq (⟨"RootAlgebra$Factors", "startGathering", "(LRootAlgebra$Poly;LRootAlgebra$Poly;)V"⟩, 20) := ⟨⟨by decide +kernel, by decide +kernel⟩, List.mem_of_getElem? (i := 206) (by decide +kernel), List.mem_of_getElem? (i := 967) (by decide +kernel), List.mem_of_getElem? (i := 968) (by decide +kernel)⟩
theorem lw_p46 : lw_okq (⟨"RootAlgebra$Factors", "gather", "(ILRootAlgebra$Poly;LRootAlgebra$Poly;)V"⟩, 20) := ⟨⟨by decide +kernel, by decide +kernel⟩, List.mem_of_getElem? (i := 206) (by decide +kernel), List.mem_of_getElem? (i := 973) (by decide +kernel), List.mem_of_getElem? (i := 974) (by decide +kernel)⟩
theorem lw_p47 : lw_okq (⟨"RootAlgebra$Factors", "gatherOne", "(LRootAlgebra$Big;JJ)V"⟩, 20) := ⟨⟨by decide +kernel, by decide +kernel⟩, List.mem_of_getElem? (i := 206) (by decide +kernel), List.mem_of_getElem? (i := 977) (by decide +kernel), List.mem_of_getElem? (i := 978) (by decide +kernel)⟩
def lw_privs_3 : List (MethodName × Nat) := [(⟨"RootAlgebra$Desk", "joinFractions", "(LRootAlgebra$Value;LRootAlgebra$Value;Z)I"⟩, 12), (⟨"RootAlgebra$Sums", "powerSums", "(LRootAlgebra$Value;I[LRootAlgebra$Big;)V"⟩, 4), (⟨"RootAlgebra$Sums", "joinSums", "(III)V"⟩, 4), (⟨"RootAlgebra$Sums", "fromPowerSums", "(ILRootAlgebra$Poly;)V"⟩, 4), (⟨"RootAlgebra$Sums", "unscale", "(LRootAlgebra$Big;IIII)V"⟩, 4), (⟨"RootAlgebra$Factors", "loadMonic", "(LRootAlgebra$Poly;)Z"⟩, 20), (⟨"RootAlgebra$Padic", "divide", "([JI[JIJ)V"⟩, 3), (⟨"RootAlgebra$Factors", "reconstruct", "([JILRootAlgebra$Value;)Z"⟩, 20), (⟨"RootAlgebra$Poly", "divides", "(LRootAlgebra$Value;LRootAlgebra$Poly;)Z"⟩, 2), (⟨"RootAlgebra$Factors", "loadResidues", "(LRootAlgebra$Poly;I)I"⟩, 20), (⟨"RootAlgebra$Field", "degreeOf", "([JI)I"⟩, 7), (⟨"RootAlgebra$Field", "addShifted", "([J[JJII)V"⟩, 7), (⟨"RootAlgebra$Field", "swapRows", "()V"⟩, 7), (⟨"RootAlgebra$Factors", "startGathering", "(LRootAlgebra$Poly;LRootAlgebra$Poly;)V"⟩, 20), (⟨"RootAlgebra$Factors", "gather", "(ILRootAlgebra$Poly;LRootAlgebra$Poly;)V"⟩, 20), (⟨"RootAlgebra$Factors", "gatherOne", "(LRootAlgebra$Big;JJ)V"⟩, 20)]
theorem lw_r3 : ∀ q ∈ lw_privs_3, lw_okq q := List.forall_mem_cons.mpr ⟨lw_p32, List.forall_mem_cons.mpr ⟨lw_p33, List.forall_mem_cons.mpr ⟨lw_p34, List.forall_mem_cons.mpr ⟨lw_p35, List.forall_mem_cons.mpr ⟨lw_p36, List.forall_mem_cons.mpr ⟨lw_p37, List.forall_mem_cons.mpr ⟨lw_p38, List.forall_mem_cons.mpr ⟨lw_p39, List.forall_mem_cons.mpr ⟨lw_p40, List.forall_mem_cons.mpr ⟨lw_p41, List.forall_mem_cons.mpr ⟨lw_p42, List.forall_mem_cons.mpr ⟨lw_p43, List.forall_mem_cons.mpr ⟨lw_p44, List.forall_mem_cons.mpr ⟨lw_p45, List.forall_mem_cons.mpr ⟨lw_p46, List.forall_mem_cons.mpr ⟨lw_p47, fun _ h => absurd h List.not_mem_nil⟩⟩⟩⟩⟩⟩⟩⟩⟩⟩⟩⟩⟩⟩⟩⟩
theorem lw_p48 : lw_okq (⟨"RootAlgebra$Factors", "countParts", "()V"⟩, 20) := ⟨⟨by decide +kernel, by decide +kernel⟩, List.mem_of_getElem? (i := 206) (by decide +kernel), List.mem_of_getElem? (i := 1014) (by decide +kernel), List.mem_of_getElem? (i := 1015) (by decide +kernel)⟩
theorem lw_p49 : lw_okq (⟨"RootAlgebra$Factors", "solve", "()V"⟩, 20) := ⟨⟨by decide +kernel, by decide +kernel⟩, List.mem_of_getElem? (i := 206) (by decide +kernel), List.mem_of_getElem? (i := 1040) (by decide +kernel), List.mem_of_getElem? (i := 1041) (by decide +kernel)⟩
theorem lw_p50 : lw_okq (⟨"RootAlgebra$Factors", "eliminate", "(III)V"⟩, 20) := ⟨⟨by decide +kernel, by decide +kernel⟩, List.mem_of_getElem? (i := 206) (by decide +kernel), List.mem_of_getElem? (i := 1044) (by decide +kernel), List.mem_of_getElem? (i := 1045) (by decide +kernel)⟩
theorem lw_p51 : lw_okq (⟨"RootAlgebra$Factors", "split", "()V"⟩, 20) := ⟨⟨by decide +kernel, by decide +kernel⟩, List.mem_of_getElem? (i := 206) (by decide +kernel), List.mem_of_getElem? (i := 1052) (by decide +kernel), List.mem_of_getElem? (i := 1053) (by decide +kernel)⟩
theorem lw_p52 : lw_okq (⟨"RootAlgebra$Factors", "splits", "(II)Z"⟩, 20) := ⟨⟨by decide +kernel, by decide +kernel⟩, List.mem_of_getElem? (i := 206) (by decide +kernel), List.mem_of_getElem? (i := 1056) (by decide +kernel), List.mem_of_getElem? (i := 1057) (by decide +kernel)⟩
theorem lw_p53 : lw_okq (⟨"RootAlgebra$Factors", "lift", "()V"⟩, 20) := ⟨⟨by decide +kernel, by decide +kernel⟩, List.mem_of_getElem? (i := 206) (by decide +kernel), List.mem_of_getElem? (i := 1064) (by decide +kernel), List.mem_of_getElem? (i := 1065) (by decide +kernel)⟩
theorem lw_p54 : lw_okq (⟨"RootAlgebra$Factors", "startLift", "(II)V"⟩, 20) := ⟨⟨by decide +kernel, by decide +kernel⟩, List.mem_of_getElem? (i := 206) (by decide +kernel), List.mem_of_getElem? (i := 1068) (by decide +kernel), List.mem_of_getElem? (i := 1069) (by decide +kernel)⟩
theorem lw_p55 : lw_okq (⟨"RootAlgebra$Factors", "multiplyParts", "(II)I"⟩, 20) := ⟨⟨by decide +kernel, by decide +kernel⟩, List.mem_of_getElem? (i := 206) (by decide +kernel), List.mem_of_getElem? (i := 1073) (by decide +kernel), List.mem_of_getElem? (i := 1074) (by decide +kernel)⟩
theorem lw_p56 : lw_okq (⟨"RootAlgebra$Padic", "addProduct", "([JI[JI[JII)V"⟩, 3) := ⟨⟨by decide +kernel, by decide +kernel⟩, List.mem_of_getElem? (i := 244) (by decide +kernel), List.mem_of_getElem? (i := 1081) (by decide +kernel), List.mem_of_getElem? (i := 1082) (by decide +kernel)⟩
theorem lw_p57 : lw_okq (⟨"RootAlgebra$Factors", "correct", "(III)V"⟩, 20) := ⟨⟨by decide +kernel, by decide +kernel⟩, List.mem_of_getElem? (i := 206) (by decide +kernel), List.mem_of_getElem? (i := 1085) (by decide +kernel), List.mem_of_getElem? (i := 1086) (by decide +kernel)⟩
theorem lw_p58 : lw_okq (⟨"RootAlgebra$Factors", "degreeOf", "(I)I"⟩, 20) := ⟨⟨by decide +kernel, by decide +kernel⟩, List.mem_of_getElem? (i := 206) (by decide +kernel), List.mem_of_getElem? (i := 1099) (by decide +kernel), List.mem_of_getElem? (i := 1100) (by decide +kernel)⟩
theorem lw_p59 : lw_okq (⟨"RootAlgebra$Factors", "isLikely", "(I)Z"⟩, 20) := ⟨⟨by decide +kernel, by decide +kernel⟩, List.mem_of_getElem? (i := 206) (by decide +kernel), List.mem_of_getElem? (i := 1103) (by decide +kernel), List.mem_of_getElem? (i := 1104) (by decide +kernel)⟩
theorem lw_p60 : lw_okq (⟨"RootAlgebra$Gauge", "misses", "(LRootAlgebra$Poly;)Z"⟩, 17) := ⟨⟨by decide +kernel, by decide +kernel⟩, List.mem_of_getElem? (i := 381) (by decide +kernel), List.mem_of_getElem? (i := 1115) (by decide +kernel), List.mem_of_getElem? (i := 1116) (by decide +kernel)⟩
theorem lw_p61 : lw_okq (⟨"RootAlgebra$Gauge", "touches", "(LRootAlgebra$Big;I)Z"⟩, 17) := ⟨⟨by decide +kernel, by decide +kernel⟩, List.mem_of_getElem? (i := 381) (by decide +kernel), List.mem_of_getElem? (i := 1133) (by decide +kernel), List.mem_of_getElem? (i := 1134) (by decide +kernel)⟩
theorem lw_p62 : lw_okq (⟨"java/lang/Throwable", "fillInStackTrace", "(I)Ljava/lang/Throwable;"⟩, 6) := ⟨⟨by decide +kernel, by decide +kernel⟩, List.mem_of_getElem? (i := 1189) (by decide +kernel), List.mem_of_getElem? (i := 1187) (by decide +kernel), List.mem_of_getElem? (i := 1188) (by decide +kernel)⟩
theorem lw_p63 : lw_okq (⟨"RootAlgebra", "namesWithValue", "()I"⟩, 11) := ⟨⟨by decide +kernel, by decide +kernel⟩, List.mem_of_getElem? (i := 24) (by decide +kernel), List.mem_of_getElem? (i := 1236) (by decide +kernel), List.mem_of_getElem? (i := 1237) (by decide +kernel)⟩
def lw_privs_4 : List (MethodName × Nat) := [(⟨"RootAlgebra$Factors", "countParts", "()V"⟩, 20), (⟨"RootAlgebra$Factors", "solve", "()V"⟩, 20), (⟨"RootAlgebra$Factors", "eliminate", "(III)V"⟩, 20), (⟨"RootAlgebra$Factors", "split", "()V"⟩, 20), (⟨"RootAlgebra$Factors", "splits", "(II)Z"⟩, 20), (⟨"RootAlgebra$Factors", "lift", "()V"⟩, 20), (⟨"RootAlgebra$Factors", "startLift", "(II)V"⟩, 20), (⟨"RootAlgebra$Factors", "multiplyParts", "(II)I"⟩, 20), (⟨"RootAlgebra$Padic", "addProduct", "([JI[JI[JII)V"⟩, 3), (⟨"RootAlgebra$Factors", "correct", "(III)V"⟩, 20), (⟨"RootAlgebra$Factors", "degreeOf", "(I)I"⟩, 20), (⟨"RootAlgebra$Factors", "isLikely", "(I)Z"⟩, 20), (⟨"RootAlgebra$Gauge", "misses", "(LRootAlgebra$Poly;)Z"⟩, 17), (⟨"RootAlgebra$Gauge", "touches", "(LRootAlgebra$Big;I)Z"⟩, 17), (⟨"java/lang/Throwable", "fillInStackTrace", "(I)Ljava/lang/Throwable;"⟩, 6), (⟨"RootAlgebra", "namesWithValue", "()I"⟩, 11)]
theorem lw_r4 : ∀ q ∈ lw_privs_4, lw_okq q := List.forall_mem_cons.mpr ⟨lw_p48, List.forall_mem_cons.mpr ⟨lw_p49, List.forall_mem_cons.mpr ⟨lw_p50, List.forall_mem_cons.mpr ⟨lw_p51, List.forall_mem_cons.mpr ⟨lw_p52, List.forall_mem_cons.mpr ⟨lw_p53, List.forall_mem_cons.mpr ⟨lw_p54, List.forall_mem_cons.mpr ⟨lw_p55, List.forall_mem_cons.mpr ⟨lw_p56, List.forall_mem_cons.mpr ⟨lw_p57, List.forall_mem_cons.mpr ⟨lw_p58, List.forall_mem_cons.mpr ⟨lw_p59, List.forall_mem_cons.mpr ⟨lw_p60, List.forall_mem_cons.mpr ⟨lw_p61, List.forall_mem_cons.mpr ⟨lw_p62, List.forall_mem_cons.mpr ⟨lw_p63, fun _ h => absurd h List.not_mem_nil⟩⟩⟩⟩⟩⟩⟩⟩⟩⟩⟩⟩⟩⟩⟩⟩
theorem lw_p64 : lw_okq (⟨"RootAlgebra", "isName", "(I)Z"⟩, 11) := ⟨⟨by decide +kernel, by decide +kernel⟩, List.mem_of_getElem? (i := 24) (by decide +kernel), List.mem_of_getElem? (i := 1247) (by decide +kernel), List.mem_of_getElem? (i := 1248) (by decide +kernel)⟩
theorem lw_p65 : lw_okq (⟨"RootAlgebra$Gauge", "timesTen", "(LRootAlgebra$Big;I)V"⟩, 17) := ⟨⟨by decide +kernel, by decide +kernel⟩, List.mem_of_getElem? (i := 381) (by decide +kernel), List.mem_of_getElem? (i := 1307) (by decide +kernel), List.mem_of_getElem? (i := 1308) (by decide +kernel)⟩
theorem lw_p66 : lw_okq (⟨"RootAlgebra", "putRest", "()V"⟩, 11) := ⟨⟨by decide +kernel, by decide +kernel⟩, List.mem_of_getElem? (i := 24) (by decide +kernel), List.mem_of_getElem? (i := 1313) (by decide +kernel), List.mem_of_getElem? (i := 1314) (by decide +kernel)⟩
theorem lw_p67 : lw_okq (⟨"RootAlgebra", "put", "(I)V"⟩, 11) := ⟨⟨by decide +kernel, by decide +kernel⟩, List.mem_of_getElem? (i := 24) (by decide +kernel), List.mem_of_getElem? (i := 1317) (by decide +kernel), List.mem_of_getElem? (i := 1318) (by decide +kernel)⟩
theorem lw_p68 : lw_okq (⟨"RootAlgebraModel", "number", "(IJ)V"⟩, 65) := ⟨⟨by decide +kernel, by decide +kernel⟩, List.mem_of_getElem? (i := 1345) (by decide +kernel), List.mem_of_getElem? (i := 1352) (by decide +kernel), List.mem_of_getElem? (i := 1353) (by decide +kernel)⟩
theorem lw_p69 : lw_okq (⟨"RootAlgebraModel", "seats", "()V"⟩, 65) := ⟨⟨by decide +kernel, by decide +kernel⟩, List.mem_of_getElem? (i := 1345) (by decide +kernel), List.mem_of_getElem? (i := 1356) (by decide +kernel), List.mem_of_getElem? (i := 1357) (by decide +kernel)⟩
theorem lw_p70 : lw_okq (⟨"RootAlgebraModel", "isLine", "()Z"⟩, 65) := ⟨⟨by decide +kernel, by decide +kernel⟩, List.mem_of_getElem? (i := 1345) (by decide +kernel), List.mem_of_getElem? (i := 1564) (by decide +kernel), List.mem_of_getElem? (i := 1565) (by decide +kernel)⟩
theorem lw_p71 : lw_okq (⟨"RootAlgebraModel", "peek", "()I"⟩, 65) := ⟨⟨by decide +kernel, by decide +kernel⟩, List.mem_of_getElem? (i := 1345) (by decide +kernel), List.mem_of_getElem? (i := 1568) (by decide +kernel), List.mem_of_getElem? (i := 1569) (by decide +kernel)⟩
theorem lw_p72 : lw_okq (⟨"RootAlgebraModel", "opens", "(I)Z"⟩, 65) := ⟨⟨by decide +kernel, by decide +kernel⟩, List.mem_of_getElem? (i := 1345) (by decide +kernel), List.mem_of_getElem? (i := 1577) (by decide +kernel), List.mem_of_getElem? (i := 1578) (by decide +kernel)⟩
theorem lw_p73 : lw_okq (⟨"RootAlgebraModel", "reads", "()J"⟩, 65) := ⟨⟨by decide +kernel, by decide +kernel⟩, List.mem_of_getElem? (i := 1345) (by decide +kernel), List.mem_of_getElem? (i := 1583) (by decide +kernel), List.mem_of_getElem? (i := 1584) (by decide +kernel)⟩
theorem lw_p74 : lw_okq (⟨"RootAlgebraModel", "notes", "(IJ)V"⟩, 65) := ⟨⟨by decide +kernel, by decide +kernel⟩, List.mem_of_getElem? (i := 1345) (by decide +kernel), List.mem_of_getElem? (i := 1589) (by decide +kernel), List.mem_of_getElem? (i := 1590) (by decide +kernel)⟩
theorem lw_p75 : lw_okq (⟨"RootAlgebraModel", "bracket", "(IJ)Z"⟩, 65) := ⟨⟨by decide +kernel, by decide +kernel⟩, List.mem_of_getElem? (i := 1345) (by decide +kernel), List.mem_of_getElem? (i := 1595) (by decide +kernel), List.mem_of_getElem? (i := 1596) (by decide +kernel)⟩
theorem lw_p76 : lw_okq (⟨"RootAlgebraModel", "polynomial", "()Z"⟩, 65) := ⟨⟨by decide +kernel, by decide +kernel⟩, List.mem_of_getElem? (i := 1345) (by decide +kernel), List.mem_of_getElem? (i := 1599) (by decide +kernel), List.mem_of_getElem? (i := 1600) (by decide +kernel)⟩
theorem lw_p77 : lw_okq (⟨"RootAlgebraModel", "goes", "(I)I"⟩, 65) := ⟨⟨by decide +kernel, by decide +kernel⟩, List.mem_of_getElem? (i := 1345) (by decide +kernel), List.mem_of_getElem? (i := 1605) (by decide +kernel), List.mem_of_getElem? (i := 1606) (by decide +kernel)⟩
theorem lw_p78 : lw_okq (⟨"RootAlgebraModel", "same", "(II)V"⟩, 65) := ⟨⟨by decide +kernel, by decide +kernel⟩, List.mem_of_getElem? (i := 1345) (by decide +kernel), List.mem_of_getElem? (i := 1609) (by decide +kernel), List.mem_of_getElem? (i := 1610) (by decide +kernel)⟩
theorem lw_p79 : lw_okq (⟨"RootAlgebraModel", "picks", "(II)I"⟩, 65) := ⟨⟨by decide +kernel, by decide +kernel⟩, List.mem_of_getElem? (i := 1345) (by decide +kernel), List.mem_of_getElem? (i := 1613) (by decide +kernel), List.mem_of_getElem? (i := 1614) (by decide +kernel)⟩
def lw_privs_5 : List (MethodName × Nat) := [(⟨"RootAlgebra", "isName", "(I)Z"⟩, 11), (⟨"RootAlgebra$Gauge", "timesTen", "(LRootAlgebra$Big;I)V"⟩, 17), (⟨"RootAlgebra", "putRest", "()V"⟩, 11), (⟨"RootAlgebra", "put", "(I)V"⟩, 11), (⟨"RootAlgebraModel", "number", "(IJ)V"⟩, 65), (⟨"RootAlgebraModel", "seats", "()V"⟩, 65), (⟨"RootAlgebraModel", "isLine", "()Z"⟩, 65), (⟨"RootAlgebraModel", "peek", "()I"⟩, 65), (⟨"RootAlgebraModel", "opens", "(I)Z"⟩, 65), (⟨"RootAlgebraModel", "reads", "()J"⟩, 65), (⟨"RootAlgebraModel", "notes", "(IJ)V"⟩, 65), (⟨"RootAlgebraModel", "bracket", "(IJ)Z"⟩, 65), (⟨"RootAlgebraModel", "polynomial", "()Z"⟩, 65), (⟨"RootAlgebraModel", "goes", "(I)I"⟩, 65), (⟨"RootAlgebraModel", "same", "(II)V"⟩, 65), (⟨"RootAlgebraModel", "picks", "(II)I"⟩, 65)]
theorem lw_r5 : ∀ q ∈ lw_privs_5, lw_okq q := List.forall_mem_cons.mpr ⟨lw_p64, List.forall_mem_cons.mpr ⟨lw_p65, List.forall_mem_cons.mpr ⟨lw_p66, List.forall_mem_cons.mpr ⟨lw_p67, List.forall_mem_cons.mpr ⟨lw_p68, List.forall_mem_cons.mpr ⟨lw_p69, List.forall_mem_cons.mpr ⟨lw_p70, List.forall_mem_cons.mpr ⟨lw_p71, List.forall_mem_cons.mpr ⟨lw_p72, List.forall_mem_cons.mpr ⟨lw_p73, List.forall_mem_cons.mpr ⟨lw_p74, List.forall_mem_cons.mpr ⟨lw_p75, List.forall_mem_cons.mpr ⟨lw_p76, List.forall_mem_cons.mpr ⟨lw_p77, List.forall_mem_cons.mpr ⟨lw_p78, List.forall_mem_cons.mpr ⟨lw_p79, fun _ h => absurd h List.not_mem_nil⟩⟩⟩⟩⟩⟩⟩⟩⟩⟩⟩⟩⟩⟩⟩⟩
theorem lw_p80 : lw_okq (⟨"RootAlgebraModel", "put", "(IJ)V"⟩, 65) := ⟨⟨by decide +kernel, by decide +kernel⟩, List.mem_of_getElem? (i := 1345) (by decide +kernel), List.mem_of_getElem? (i := 1620) (by decide +kernel), List.mem_of_getElem? (i := 1621) (by decide +kernel)⟩
theorem lw_p81 : lw_okq (⟨"RootAlgebraModel", "fix", "(I)V"⟩, 65) := ⟨⟨by decide +kernel, by decide +kernel⟩, List.mem_of_getElem? (i := 1345) (by decide +kernel), List.mem_of_getElem? (i := 1625) (by decide +kernel), List.mem_of_getElem? (i := 1626) (by decide +kernel)⟩
theorem lw_p82 : lw_okq (⟨"RootAlgebraModel", "sturm", "()V"⟩, 65) := ⟨⟨by decide +kernel, by decide +kernel⟩, List.mem_of_getElem? (i := 1345) (by decide +kernel), List.mem_of_getElem? (i := 1629) (by decide +kernel), List.mem_of_getElem? (i := 1630) (by decide +kernel)⟩
theorem lw_p83 : lw_okq (⟨"RootAlgebraModel", "multiplied", "(III)V"⟩, 65) := ⟨⟨by decide +kernel, by decide +kernel⟩, List.mem_of_getElem? (i := 1345) (by decide +kernel), List.mem_of_getElem? (i := 1633) (by decide +kernel), List.mem_of_getElem? (i := 1634) (by decide +kernel)⟩
theorem lw_p84 : lw_okq (⟨"RootAlgebraModel", "lands", "(III)V"⟩, 65) := ⟨⟨by decide +kernel, by decide +kernel⟩, List.mem_of_getElem? (i := 1345) (by decide +kernel), List.mem_of_getElem? (i := 1637) (by decide +kernel), List.mem_of_getElem? (i := 1638) (by decide +kernel)⟩
theorem lw_p85 : lw_okq (⟨"RootAlgebraModel", "reduced", "(II)V"⟩, 65) := ⟨⟨by decide +kernel, by decide +kernel⟩, List.mem_of_getElem? (i := 1345) (by decide +kernel), List.mem_of_getElem? (i := 1641) (by decide +kernel), List.mem_of_getElem? (i := 1642) (by decide +kernel)⟩
theorem lw_p86 : lw_okq (⟨"RootAlgebraModel", "shared", "(III)V"⟩, 65) := ⟨⟨by decide +kernel, by decide +kernel⟩, List.mem_of_getElem? (i := 1345) (by decide +kernel), List.mem_of_getElem? (i := 1645) (by decide +kernel), List.mem_of_getElem? (i := 1646) (by decide +kernel)⟩
theorem lw_p87 : lw_okq (⟨"RootAlgebraModel", "move", "(II)V"⟩, 65) := ⟨⟨by decide +kernel, by decide +kernel⟩, List.mem_of_getElem? (i := 1345) (by decide +kernel), List.mem_of_getElem? (i := 1649) (by decide +kernel), List.mem_of_getElem? (i := 1650) (by decide +kernel)⟩
theorem lw_p88 : lw_okq (⟨"RootAlgebraModel", "divided", "(IIII)V"⟩, 65) := ⟨⟨by decide +kernel, by decide +kernel⟩, List.mem_of_getElem? (i := 1345) (by decide +kernel), List.mem_of_getElem? (i := 1653) (by decide +kernel), List.mem_of_getElem? (i := 1654) (by decide +kernel)⟩
theorem lw_p89 : lw_okq (⟨"RootAlgebraModel", "digit", "(II)J"⟩, 65) := ⟨⟨by decide +kernel, by decide +kernel⟩, List.mem_of_getElem? (i := 1345) (by decide +kernel), List.mem_of_getElem? (i := 1658) (by decide +kernel), List.mem_of_getElem? (i := 1659) (by decide +kernel)⟩
theorem lw_p90 : lw_okq (⟨"RootAlgebraModel", "join", "(IIII)V"⟩, 65) := ⟨⟨by decide +kernel, by decide +kernel⟩, List.mem_of_getElem? (i := 1345) (by decide +kernel), List.mem_of_getElem? (i := 1662) (by decide +kernel), List.mem_of_getElem? (i := 1663) (by decide +kernel)⟩
theorem lw_p91 : lw_okq (⟨"RootAlgebraModel", "compareSizes", "(II)I"⟩, 65) := ⟨⟨by decide +kernel, by decide +kernel⟩, List.mem_of_getElem? (i := 1345) (by decide +kernel), List.mem_of_getElem? (i := 1666) (by decide +kernel), List.mem_of_getElem? (i := 1667) (by decide +kernel)⟩
theorem lw_p92 : lw_okq (⟨"RootAlgebraModel", "remains", "(IIII)I"⟩, 65) := ⟨⟨by decide +kernel, by decide +kernel⟩, List.mem_of_getElem? (i := 1345) (by decide +kernel), List.mem_of_getElem? (i := 1670) (by decide +kernel), List.mem_of_getElem? (i := 1671) (by decide +kernel)⟩
theorem lw_p93 : lw_okq (⟨"RootAlgebraModel", "allRoots", "()I"⟩, 65) := ⟨⟨by decide +kernel, by decide +kernel⟩, List.mem_of_getElem? (i := 1345) (by decide +kernel), List.mem_of_getElem? (i := 1674) (by decide +kernel), List.mem_of_getElem? (i := 1675) (by decide +kernel)⟩
theorem lw_p94 : lw_okq (⟨"RootAlgebraModel", "once", "()V"⟩, 65) := ⟨⟨by decide +kernel, by decide +kernel⟩, List.mem_of_getElem? (i := 1345) (by decide +kernel), List.mem_of_getElem? (i := 1678) (by decide +kernel), List.mem_of_getElem? (i := 1679) (by decide +kernel)⟩
theorem lw_p95 : lw_okq (⟨"RootAlgebraModel", "small", "([JIJ)V"⟩, 65) := ⟨⟨by decide +kernel, by decide +kernel⟩, List.mem_of_getElem? (i := 1345) (by decide +kernel), List.mem_of_getElem? (i := 1685) (by decide +kernel), List.mem_of_getElem? (i := 1686) (by decide +kernel)⟩
def lw_privs_6 : List (MethodName × Nat) := [(⟨"RootAlgebraModel", "put", "(IJ)V"⟩, 65), (⟨"RootAlgebraModel", "fix", "(I)V"⟩, 65), (⟨"RootAlgebraModel", "sturm", "()V"⟩, 65), (⟨"RootAlgebraModel", "multiplied", "(III)V"⟩, 65), (⟨"RootAlgebraModel", "lands", "(III)V"⟩, 65), (⟨"RootAlgebraModel", "reduced", "(II)V"⟩, 65), (⟨"RootAlgebraModel", "shared", "(III)V"⟩, 65), (⟨"RootAlgebraModel", "move", "(II)V"⟩, 65), (⟨"RootAlgebraModel", "divided", "(IIII)V"⟩, 65), (⟨"RootAlgebraModel", "digit", "(II)J"⟩, 65), (⟨"RootAlgebraModel", "join", "(IIII)V"⟩, 65), (⟨"RootAlgebraModel", "compareSizes", "(II)I"⟩, 65), (⟨"RootAlgebraModel", "remains", "(IIII)I"⟩, 65), (⟨"RootAlgebraModel", "allRoots", "()I"⟩, 65), (⟨"RootAlgebraModel", "once", "()V"⟩, 65), (⟨"RootAlgebraModel", "small", "([JIJ)V"⟩, 65)]
theorem lw_r6 : ∀ q ∈ lw_privs_6, lw_okq q := List.forall_mem_cons.mpr ⟨lw_p80, List.forall_mem_cons.mpr ⟨lw_p81, List.forall_mem_cons.mpr ⟨lw_p82, List.forall_mem_cons.mpr ⟨lw_p83, List.forall_mem_cons.mpr ⟨lw_p84, List.forall_mem_cons.mpr ⟨lw_p85, List.forall_mem_cons.mpr ⟨lw_p86, List.forall_mem_cons.mpr ⟨lw_p87, List.forall_mem_cons.mpr ⟨lw_p88, List.forall_mem_cons.mpr ⟨lw_p89, List.forall_mem_cons.mpr ⟨lw_p90, List.forall_mem_cons.mpr ⟨lw_p91, List.forall_mem_cons.mpr ⟨lw_p92, List.forall_mem_cons.mpr ⟨lw_p93, List.forall_mem_cons.mpr ⟨lw_p94, List.forall_mem_cons.mpr ⟨lw_p95, fun _ h => absurd h List.not_mem_nil⟩⟩⟩⟩⟩⟩⟩⟩⟩⟩⟩⟩⟩⟩⟩⟩
theorem lw_p96 : lw_okq (⟨"RootAlgebraModel", "subtract", "([JI[JI[JI)V"⟩, 65) := ⟨⟨by decide +kernel, by decide +kernel⟩, List.mem_of_getElem? (i := 1345) (by decide +kernel), List.mem_of_getElem? (i := 1689) (by decide +kernel), List.mem_of_getElem? (i := 1690) (by decide +kernel)⟩
theorem lw_p97 : lw_okq (⟨"RootAlgebraModel", "carry", "()V"⟩, 65) := ⟨⟨by decide +kernel, by decide +kernel⟩, List.mem_of_getElem? (i := 1345) (by decide +kernel), List.mem_of_getElem? (i := 1693) (by decide +kernel), List.mem_of_getElem? (i := 1694) (by decide +kernel)⟩
theorem lw_p98 : lw_okq (⟨"RootAlgebraModel", "fold", "([JI)V"⟩, 65) := ⟨⟨by decide +kernel, by decide +kernel⟩, List.mem_of_getElem? (i := 1345) (by decide +kernel), List.mem_of_getElem? (i := 1697) (by decide +kernel), List.mem_of_getElem? (i := 1698) (by decide +kernel)⟩
theorem lw_p99 : lw_okq (⟨"RootAlgebraModel", "monic", "(I)V"⟩, 65) := ⟨⟨by decide +kernel, by decide +kernel⟩, List.mem_of_getElem? (i := 1345) (by decide +kernel), List.mem_of_getElem? (i := 1701) (by decide +kernel), List.mem_of_getElem? (i := 1702) (by decide +kernel)⟩
theorem lw_p100 : lw_okq (⟨"RootAlgebraModel", "invert", "([JI[JI)V"⟩, 65) := ⟨⟨by decide +kernel, by decide +kernel⟩, List.mem_of_getElem? (i := 1345) (by decide +kernel), List.mem_of_getElem? (i := 1705) (by decide +kernel), List.mem_of_getElem? (i := 1706) (by decide +kernel)⟩
theorem lw_p101 : lw_okq (⟨"RootAlgebraModel", "multiply", "([JI[JI[JI)V"⟩, 65) := ⟨⟨by decide +kernel, by decide +kernel⟩, List.mem_of_getElem? (i := 1345) (by decide +kernel), List.mem_of_getElem? (i := 1709) (by decide +kernel), List.mem_of_getElem? (i := 1710) (by decide +kernel)⟩
theorem lw_p102 : lw_okq (⟨"RootAlgebraModel", "follows", "(II)V"⟩, 65) := ⟨⟨by decide +kernel, by decide +kernel⟩, List.mem_of_getElem? (i := 1345) (by decide +kernel), List.mem_of_getElem? (i := 1716) (by decide +kernel), List.mem_of_getElem? (i := 1717) (by decide +kernel)⟩
theorem lw_p103 : lw_okq (⟨"RootAlgebraModel", "bits", "(I)I"⟩, 65) := ⟨⟨by decide +kernel, by decide +kernel⟩, List.mem_of_getElem? (i := 1345) (by decide +kernel), List.mem_of_getElem? (i := 1722) (by decide +kernel), List.mem_of_getElem? (i := 1723) (by decide +kernel)⟩
theorem lw_p104 : lw_okq (⟨"RootAlgebraModel", "below", "(II)I"⟩, 65) := ⟨⟨by decide +kernel, by decide +kernel⟩, List.mem_of_getElem? (i := 1345) (by decide +kernel), List.mem_of_getElem? (i := 1726) (by decide +kernel), List.mem_of_getElem? (i := 1727) (by decide +kernel)⟩
theorem lw_p105 : lw_okq (⟨"RootAlgebraModel", "notAbove", "(II)I"⟩, 65) := ⟨⟨by decide +kernel, by decide +kernel⟩, List.mem_of_getElem? (i := 1345) (by decide +kernel), List.mem_of_getElem? (i := 1730) (by decide +kernel), List.mem_of_getElem? (i := 1731) (by decide +kernel)⟩
theorem lw_p106 : lw_okq (⟨"RootAlgebraModel", "signAt", "(IIII)I"⟩, 65) := ⟨⟨by decide +kernel, by decide +kernel⟩, List.mem_of_getElem? (i := 1345) (by decide +kernel), List.mem_of_getElem? (i := 1734) (by decide +kernel), List.mem_of_getElem? (i := 1735) (by decide +kernel)⟩
theorem lw_p107 : lw_okq (⟨"RootAlgebraModel", "raised", "(III)V"⟩, 65) := ⟨⟨by decide +kernel, by decide +kernel⟩, List.mem_of_getElem? (i := 1345) (by decide +kernel), List.mem_of_getElem? (i := 1738) (by decide +kernel), List.mem_of_getElem? (i := 1739) (by decide +kernel)⟩
theorem lw_p108 : lw_okq (⟨"RootAlgebraModel", "lowered", "(III)V"⟩, 65) := ⟨⟨by decide +kernel, by decide +kernel⟩, List.mem_of_getElem? (i := 1345) (by decide +kernel), List.mem_of_getElem? (i := 1742) (by decide +kernel), List.mem_of_getElem? (i := 1743) (by decide +kernel)⟩
theorem lw_p109 : lw_okq (⟨"RootAlgebraModel", "seeks", "()Z"⟩, 65) := ⟨⟨by decide +kernel, by decide +kernel⟩, List.mem_of_getElem? (i := 1345) (by decide +kernel), List.mem_of_getElem? (i := 1746) (by decide +kernel), List.mem_of_getElem? (i := 1747) (by decide +kernel)⟩
theorem lw_p110 : lw_okq (⟨"RootAlgebraModel", "takesApart", "()V"⟩, 65) := ⟨⟨by decide +kernel, by decide +kernel⟩, List.mem_of_getElem? (i := 1345) (by decide +kernel), List.mem_of_getElem? (i := 1750) (by decide +kernel), List.mem_of_getElem? (i := 1751) (by decide +kernel)⟩
theorem lw_p111 : lw_okq (⟨"RootAlgebraModel", "copy", "(II)V"⟩, 65) := ⟨⟨by decide +kernel, by decide +kernel⟩, List.mem_of_getElem? (i := 1345) (by decide +kernel), List.mem_of_getElem? (i := 1754) (by decide +kernel), List.mem_of_getElem? (i := 1755) (by decide +kernel)⟩
def lw_privs_7 : List (MethodName × Nat) := [(⟨"RootAlgebraModel", "subtract", "([JI[JI[JI)V"⟩, 65), (⟨"RootAlgebraModel", "carry", "()V"⟩, 65), (⟨"RootAlgebraModel", "fold", "([JI)V"⟩, 65), (⟨"RootAlgebraModel", "monic", "(I)V"⟩, 65), (⟨"RootAlgebraModel", "invert", "([JI[JI)V"⟩, 65), (⟨"RootAlgebraModel", "multiply", "([JI[JI[JI)V"⟩, 65), (⟨"RootAlgebraModel", "follows", "(II)V"⟩, 65), (⟨"RootAlgebraModel", "bits", "(I)I"⟩, 65), (⟨"RootAlgebraModel", "below", "(II)I"⟩, 65), (⟨"RootAlgebraModel", "notAbove", "(II)I"⟩, 65), (⟨"RootAlgebraModel", "signAt", "(IIII)I"⟩, 65), (⟨"RootAlgebraModel", "raised", "(III)V"⟩, 65), (⟨"RootAlgebraModel", "lowered", "(III)V"⟩, 65), (⟨"RootAlgebraModel", "seeks", "()Z"⟩, 65), (⟨"RootAlgebraModel", "takesApart", "()V"⟩, 65), (⟨"RootAlgebraModel", "copy", "(II)V"⟩, 65)]
theorem lw_r7 : ∀ q ∈ lw_privs_7, lw_okq q := List.forall_mem_cons.mpr ⟨lw_p96, List.forall_mem_cons.mpr ⟨lw_p97, List.forall_mem_cons.mpr ⟨lw_p98, List.forall_mem_cons.mpr ⟨lw_p99, List.forall_mem_cons.mpr ⟨lw_p100, List.forall_mem_cons.mpr ⟨lw_p101, List.forall_mem_cons.mpr ⟨lw_p102, List.forall_mem_cons.mpr ⟨lw_p103, List.forall_mem_cons.mpr ⟨lw_p104, List.forall_mem_cons.mpr ⟨lw_p105, List.forall_mem_cons.mpr ⟨lw_p106, List.forall_mem_cons.mpr ⟨lw_p107, List.forall_mem_cons.mpr ⟨lw_p108, List.forall_mem_cons.mpr ⟨lw_p109, List.forall_mem_cons.mpr ⟨lw_p110, List.forall_mem_cons.mpr ⟨lw_p111, fun _ h => absurd h List.not_mem_nil⟩⟩⟩⟩⟩⟩⟩⟩⟩⟩⟩⟩⟩⟩⟩⟩
theorem lw_p112 : lw_okq (⟨"RootAlgebraModel", "derive", "(II)V"⟩, 65) := ⟨⟨by decide +kernel, by decide +kernel⟩, List.mem_of_getElem? (i := 1345) (by decide +kernel), List.mem_of_getElem? (i := 1758) (by decide +kernel), List.mem_of_getElem? (i := 1759) (by decide +kernel)⟩
theorem lw_p113 : lw_okq (⟨"RootAlgebraModel", "trim", "(II)V"⟩, 65) := ⟨⟨by decide +kernel, by decide +kernel⟩, List.mem_of_getElem? (i := 1345) (by decide +kernel), List.mem_of_getElem? (i := 1762) (by decide +kernel), List.mem_of_getElem? (i := 1763) (by decide +kernel)⟩
theorem lw_p114 : lw_okq (⟨"RootAlgebraModel", "isZero", "([JI)Z"⟩, 65) := ⟨⟨by decide +kernel, by decide +kernel⟩, List.mem_of_getElem? (i := 1345) (by decide +kernel), List.mem_of_getElem? (i := 1766) (by decide +kernel), List.mem_of_getElem? (i := 1767) (by decide +kernel)⟩
theorem lw_p115 : lw_okq (⟨"RootAlgebraModel", "meets", "(III)V"⟩, 65) := ⟨⟨by decide +kernel, by decide +kernel⟩, List.mem_of_getElem? (i := 1345) (by decide +kernel), List.mem_of_getElem? (i := 1770) (by decide +kernel), List.mem_of_getElem? (i := 1771) (by decide +kernel)⟩
theorem lw_p116 : lw_okq (⟨"RootAlgebraModel", "reduce", "(II)V"⟩, 65) := ⟨⟨by decide +kernel, by decide +kernel⟩, List.mem_of_getElem? (i := 1345) (by decide +kernel), List.mem_of_getElem? (i := 1774) (by decide +kernel), List.mem_of_getElem? (i := 1775) (by decide +kernel)⟩
theorem lw_p117 : lw_okq (⟨"RootAlgebraModel", "quotient", "(III)V"⟩, 65) := ⟨⟨by decide +kernel, by decide +kernel⟩, List.mem_of_getElem? (i := 1345) (by decide +kernel), List.mem_of_getElem? (i := 1778) (by decide +kernel), List.mem_of_getElem? (i := 1779) (by decide +kernel)⟩
theorem lw_p118 : lw_okq (⟨"RootAlgebraModel", "splitsAll", "()V"⟩, 65) := ⟨⟨by decide +kernel, by decide +kernel⟩, List.mem_of_getElem? (i := 1345) (by decide +kernel), List.mem_of_getElem? (i := 1782) (by decide +kernel), List.mem_of_getElem? (i := 1783) (by decide +kernel)⟩
theorem lw_p119 : lw_okq (⟨"RootAlgebraModel", "frobenius", "(I)V"⟩, 65) := ⟨⟨by decide +kernel, by decide +kernel⟩, List.mem_of_getElem? (i := 1345) (by decide +kernel), List.mem_of_getElem? (i := 1786) (by decide +kernel), List.mem_of_getElem? (i := 1787) (by decide +kernel)⟩
theorem lw_p120 : lw_okq (⟨"RootAlgebraModel", "ones", "(IIII)V"⟩, 65) := ⟨⟨by decide +kernel, by decide +kernel⟩, List.mem_of_getElem? (i := 1345) (by decide +kernel), List.mem_of_getElem? (i := 1790) (by decide +kernel), List.mem_of_getElem? (i := 1791) (by decide +kernel)⟩
theorem lw_p121 : lw_okq (⟨"RootAlgebraModel", "productModulo", "(IIII)V"⟩, 65) := ⟨⟨by decide +kernel, by decide +kernel⟩, List.mem_of_getElem? (i := 1345) (by decide +kernel), List.mem_of_getElem? (i := 1794) (by decide +kernel), List.mem_of_getElem? (i := 1795) (by decide +kernel)⟩
theorem lw_p122 : lw_okq (⟨"RootAlgebraModel", "product", "(III)V"⟩, 65) := ⟨⟨by decide +kernel, by decide +kernel⟩, List.mem_of_getElem? (i := 1345) (by decide +kernel), List.mem_of_getElem? (i := 1798) (by decide +kernel), List.mem_of_getElem? (i := 1799) (by decide +kernel)⟩
theorem lw_p123 : lw_okq (⟨"RootAlgebraModel", "add", "([JI[JI[JI)V"⟩, 65) := ⟨⟨by decide +kernel, by decide +kernel⟩, List.mem_of_getElem? (i := 1345) (by decide +kernel), List.mem_of_getElem? (i := 1802) (by decide +kernel), List.mem_of_getElem? (i := 1803) (by decide +kernel)⟩
theorem lw_p124 : lw_okq (⟨"RootAlgebraModel", "less", "(II)V"⟩, 65) := ⟨⟨by decide +kernel, by decide +kernel⟩, List.mem_of_getElem? (i := 1345) (by decide +kernel), List.mem_of_getElem? (i := 1806) (by decide +kernel), List.mem_of_getElem? (i := 1807) (by decide +kernel)⟩
theorem lw_p125 : lw_okq (⟨"RootAlgebraModel", "splits", "(II)V"⟩, 65) := ⟨⟨by decide +kernel, by decide +kernel⟩, List.mem_of_getElem? (i := 1345) (by decide +kernel), List.mem_of_getElem? (i := 1810) (by decide +kernel), List.mem_of_getElem? (i := 1811) (by decide +kernel)⟩
theorem lw_p126 : lw_okq (⟨"RootAlgebraModel", "tries", "(II)V"⟩, 65) := ⟨⟨by decide +kernel, by decide +kernel⟩, List.mem_of_getElem? (i := 1345) (by decide +kernel), List.mem_of_getElem? (i := 1814) (by decide +kernel), List.mem_of_getElem? (i := 1815) (by decide +kernel)⟩
theorem lw_p127 : lw_okq (⟨"RootAlgebraModel", "draws", "()J"⟩, 65) := ⟨⟨by decide +kernel, by decide +kernel⟩, List.mem_of_getElem? (i := 1345) (by decide +kernel), List.mem_of_getElem? (i := 1818) (by decide +kernel), List.mem_of_getElem? (i := 1819) (by decide +kernel)⟩
def lw_privs_8 : List (MethodName × Nat) := [(⟨"RootAlgebraModel", "derive", "(II)V"⟩, 65), (⟨"RootAlgebraModel", "trim", "(II)V"⟩, 65), (⟨"RootAlgebraModel", "isZero", "([JI)Z"⟩, 65), (⟨"RootAlgebraModel", "meets", "(III)V"⟩, 65), (⟨"RootAlgebraModel", "reduce", "(II)V"⟩, 65), (⟨"RootAlgebraModel", "quotient", "(III)V"⟩, 65), (⟨"RootAlgebraModel", "splitsAll", "()V"⟩, 65), (⟨"RootAlgebraModel", "frobenius", "(I)V"⟩, 65), (⟨"RootAlgebraModel", "ones", "(IIII)V"⟩, 65), (⟨"RootAlgebraModel", "productModulo", "(IIII)V"⟩, 65), (⟨"RootAlgebraModel", "product", "(III)V"⟩, 65), (⟨"RootAlgebraModel", "add", "([JI[JI[JI)V"⟩, 65), (⟨"RootAlgebraModel", "less", "(II)V"⟩, 65), (⟨"RootAlgebraModel", "splits", "(II)V"⟩, 65), (⟨"RootAlgebraModel", "tries", "(II)V"⟩, 65), (⟨"RootAlgebraModel", "draws", "()J"⟩, 65)]
theorem lw_r8 : ∀ q ∈ lw_privs_8, lw_okq q := List.forall_mem_cons.mpr ⟨lw_p112, List.forall_mem_cons.mpr ⟨lw_p113, List.forall_mem_cons.mpr ⟨lw_p114, List.forall_mem_cons.mpr ⟨lw_p115, List.forall_mem_cons.mpr ⟨lw_p116, List.forall_mem_cons.mpr ⟨lw_p117, List.forall_mem_cons.mpr ⟨lw_p118, List.forall_mem_cons.mpr ⟨lw_p119, List.forall_mem_cons.mpr ⟨lw_p120, List.forall_mem_cons.mpr ⟨lw_p121, List.forall_mem_cons.mpr ⟨lw_p122, List.forall_mem_cons.mpr ⟨lw_p123, List.forall_mem_cons.mpr ⟨lw_p124, List.forall_mem_cons.mpr ⟨lw_p125, List.forall_mem_cons.mpr ⟨lw_p126, List.forall_mem_cons.mpr ⟨lw_p127, fun _ h => absurd h List.not_mem_nil⟩⟩⟩⟩⟩⟩⟩⟩⟩⟩⟩⟩⟩⟩⟩⟩
theorem lw_p128 : lw_okq (⟨"RootAlgebraModel", "compose", "(IIII)V"⟩, 65) := ⟨⟨by decide +kernel, by decide +kernel⟩, List.mem_of_getElem? (i := 1345) (by decide +kernel), List.mem_of_getElem? (i := 1824) (by decide +kernel), List.mem_of_getElem? (i := 1825) (by decide +kernel)⟩
theorem lw_p129 : lw_okq (⟨"RootAlgebraModel", "counts", "(I)V"⟩, 65) := ⟨⟨by decide +kernel, by decide +kernel⟩, List.mem_of_getElem? (i := 1345) (by decide +kernel), List.mem_of_getElem? (i := 1828) (by decide +kernel), List.mem_of_getElem? (i := 1829) (by decide +kernel)⟩
theorem lw_p130 : lw_okq (⟨"RootAlgebraModel", "isIt", "()Z"⟩, 65) := ⟨⟨by decide +kernel, by decide +kernel⟩, List.mem_of_getElem? (i := 1345) (by decide +kernel), List.mem_of_getElem? (i := 1832) (by decide +kernel), List.mem_of_getElem? (i := 1833) (by decide +kernel)⟩
theorem lw_p131 : lw_okq (⟨"RootAlgebraModel", "isWhole", "()Z"⟩, 65) := ⟨⟨by decide +kernel, by decide +kernel⟩, List.mem_of_getElem? (i := 1345) (by decide +kernel), List.mem_of_getElem? (i := 1836) (by decide +kernel), List.mem_of_getElem? (i := 1837) (by decide +kernel)⟩
theorem lw_p132 : lw_okq (⟨"RootAlgebraModel", "below38", "([JI)J"⟩, 65) := ⟨⟨by decide +kernel, by decide +kernel⟩, List.mem_of_getElem? (i := 1345) (by decide +kernel), List.mem_of_getElem? (i := 1840) (by decide +kernel), List.mem_of_getElem? (i := 1841) (by decide +kernel)⟩
theorem lw_p133 : lw_okq (⟨"RootAlgebraModel", "lift", "(I[JI)V"⟩, 65) := ⟨⟨by decide +kernel, by decide +kernel⟩, List.mem_of_getElem? (i := 1345) (by decide +kernel), List.mem_of_getElem? (i := 1844) (by decide +kernel), List.mem_of_getElem? (i := 1845) (by decide +kernel)⟩
theorem lw_p134 : lw_okq (⟨"RootAlgebraModel", "valueOf", "(I)J"⟩, 65) := ⟨⟨by decide +kernel, by decide +kernel⟩, List.mem_of_getElem? (i := 1345) (by decide +kernel), List.mem_of_getElem? (i := 1848) (by decide +kernel), List.mem_of_getElem? (i := 1849) (by decide +kernel)⟩
theorem lw_p135 : lw_okq (⟨"RootAlgebraModel", "least", "([JI)J"⟩, 65) := ⟨⟨by decide +kernel, by decide +kernel⟩, List.mem_of_getElem? (i := 1345) (by decide +kernel), List.mem_of_getElem? (i := 1853) (by decide +kernel), List.mem_of_getElem? (i := 1854) (by decide +kernel)⟩
theorem lw_p136 : lw_okq (⟨"RootAlgebraModel", "vanishes", "()Z"⟩, 65) := ⟨⟨by decide +kernel, by decide +kernel⟩, List.mem_of_getElem? (i := 1345) (by decide +kernel), List.mem_of_getElem? (i := 1857) (by decide +kernel), List.mem_of_getElem? (i := 1858) (by decide +kernel)⟩
theorem lw_p137 : lw_okq (⟨"RootAlgebraModel", "begins", "()I"⟩, 65) := ⟨⟨by decide +kernel, by decide +kernel⟩, List.mem_of_getElem? (i := 1345) (by decide +kernel), List.mem_of_getElem? (i := 1861) (by decide +kernel), List.mem_of_getElem? (i := 1862) (by decide +kernel)⟩
theorem lw_p138 : lw_okq (⟨"RootAlgebraModel", "brackets", "(I)V"⟩, 65) := ⟨⟨by decide +kernel, by decide +kernel⟩, List.mem_of_getElem? (i := 1345) (by decide +kernel), List.mem_of_getElem? (i := 1865) (by decide +kernel), List.mem_of_getElem? (i := 1866) (by decide +kernel)⟩
theorem lw_p139 : lw_okq (⟨"RootAlgebraModel", "rootBrackets", "(I)V"⟩, 65) := ⟨⟨by decide +kernel, by decide +kernel⟩, List.mem_of_getElem? (i := 1345) (by decide +kernel), List.mem_of_getElem? (i := 1869) (by decide +kernel), List.mem_of_getElem? (i := 1870) (by decide +kernel)⟩
theorem lw_p140 : lw_okq (⟨"RootAlgebraModel", "refines", "(II)V"⟩, 65) := ⟨⟨by decide +kernel, by decide +kernel⟩, List.mem_of_getElem? (i := 1345) (by decide +kernel), List.mem_of_getElem? (i := 1873) (by decide +kernel), List.mem_of_getElem? (i := 1874) (by decide +kernel)⟩
theorem lw_p141 : lw_okq (⟨"RootAlgebraModel", "guesses", "(III)Z"⟩, 65) := ⟨⟨by decide +kernel, by decide +kernel⟩, List.mem_of_getElem? (i := 1345) (by decide +kernel), List.mem_of_getElem? (i := 1877) (by decide +kernel), List.mem_of_getElem? (i := 1878) (by decide +kernel)⟩
theorem lw_p142 : lw_okq (⟨"RootAlgebraModel", "order", "(II)I"⟩, 65) := ⟨⟨by decide +kernel, by decide +kernel⟩, List.mem_of_getElem? (i := 1345) (by decide +kernel), List.mem_of_getElem? (i := 1881) (by decide +kernel), List.mem_of_getElem? (i := 1882) (by decide +kernel)⟩
theorem lw_p143 : lw_okq (⟨"RootAlgebraModel", "halves", "(II)V"⟩, 65) := ⟨⟨by decide +kernel, by decide +kernel⟩, List.mem_of_getElem? (i := 1345) (by decide +kernel), List.mem_of_getElem? (i := 1885) (by decide +kernel), List.mem_of_getElem? (i := 1886) (by decide +kernel)⟩
def lw_privs_9 : List (MethodName × Nat) := [(⟨"RootAlgebraModel", "compose", "(IIII)V"⟩, 65), (⟨"RootAlgebraModel", "counts", "(I)V"⟩, 65), (⟨"RootAlgebraModel", "isIt", "()Z"⟩, 65), (⟨"RootAlgebraModel", "isWhole", "()Z"⟩, 65), (⟨"RootAlgebraModel", "below38", "([JI)J"⟩, 65), (⟨"RootAlgebraModel", "lift", "(I[JI)V"⟩, 65), (⟨"RootAlgebraModel", "valueOf", "(I)J"⟩, 65), (⟨"RootAlgebraModel", "least", "([JI)J"⟩, 65), (⟨"RootAlgebraModel", "vanishes", "()Z"⟩, 65), (⟨"RootAlgebraModel", "begins", "()I"⟩, 65), (⟨"RootAlgebraModel", "brackets", "(I)V"⟩, 65), (⟨"RootAlgebraModel", "rootBrackets", "(I)V"⟩, 65), (⟨"RootAlgebraModel", "refines", "(II)V"⟩, 65), (⟨"RootAlgebraModel", "guesses", "(III)Z"⟩, 65), (⟨"RootAlgebraModel", "order", "(II)I"⟩, 65), (⟨"RootAlgebraModel", "halves", "(II)V"⟩, 65)]
theorem lw_r9 : ∀ q ∈ lw_privs_9, lw_okq q := List.forall_mem_cons.mpr ⟨lw_p128, List.forall_mem_cons.mpr ⟨lw_p129, List.forall_mem_cons.mpr ⟨lw_p130, List.forall_mem_cons.mpr ⟨lw_p131, List.forall_mem_cons.mpr ⟨lw_p132, List.forall_mem_cons.mpr ⟨lw_p133, List.forall_mem_cons.mpr ⟨lw_p134, List.forall_mem_cons.mpr ⟨lw_p135, List.forall_mem_cons.mpr ⟨lw_p136, List.forall_mem_cons.mpr ⟨lw_p137, List.forall_mem_cons.mpr ⟨lw_p138, List.forall_mem_cons.mpr ⟨lw_p139, List.forall_mem_cons.mpr ⟨lw_p140, List.forall_mem_cons.mpr ⟨lw_p141, List.forall_mem_cons.mpr ⟨lw_p142, List.forall_mem_cons.mpr ⟨lw_p143, fun _ h => absurd h List.not_mem_nil⟩⟩⟩⟩⟩⟩⟩⟩⟩⟩⟩⟩⟩⟩⟩⟩
theorem lw_p144 : lw_okq (⟨"RootAlgebraModel", "newton", "()V"⟩, 65) := ⟨⟨by decide +kernel, by decide +kernel⟩, List.mem_of_getElem? (i := 1345) (by decide +kernel), List.mem_of_getElem? (i := 1889) (by decide +kernel), List.mem_of_getElem? (i := 1890) (by decide +kernel)⟩
theorem lw_p145 : lw_okq (⟨"RootAlgebraModel", "looks", "(II)I"⟩, 65) := ⟨⟨by decide +kernel, by decide +kernel⟩, List.mem_of_getElem? (i := 1345) (by decide +kernel), List.mem_of_getElem? (i := 1893) (by decide +kernel), List.mem_of_getElem? (i := 1894) (by decide +kernel)⟩
theorem lw_p146 : lw_okq (⟨"RootAlgebraModel", "isSmall", "()Z"⟩, 65) := ⟨⟨by decide +kernel, by decide +kernel⟩, List.mem_of_getElem? (i := 1345) (by decide +kernel), List.mem_of_getElem? (i := 1897) (by decide +kernel), List.mem_of_getElem? (i := 1898) (by decide +kernel)⟩
theorem lw_p147 : lw_okq (⟨"RootAlgebraModel", "found", "(I)V"⟩, 65) := ⟨⟨by decide +kernel, by decide +kernel⟩, List.mem_of_getElem? (i := 1345) (by decide +kernel), List.mem_of_getElem? (i := 1903) (by decide +kernel), List.mem_of_getElem? (i := 1904) (by decide +kernel)⟩
theorem lw_p148 : lw_okq (⟨"RootAlgebraModel", "rows", "(I)V"⟩, 65) := ⟨⟨by decide +kernel, by decide +kernel⟩, List.mem_of_getElem? (i := 1345) (by decide +kernel), List.mem_of_getElem? (i := 1907) (by decide +kernel), List.mem_of_getElem? (i := 1908) (by decide +kernel)⟩
theorem lw_p149 : lw_okq (⟨"RootAlgebraModel", "waitsFor", "(IJ)V"⟩, 65) := ⟨⟨by decide +kernel, by decide +kernel⟩, List.mem_of_getElem? (i := 1345) (by decide +kernel), List.mem_of_getElem? (i := 1911) (by decide +kernel), List.mem_of_getElem? (i := 1912) (by decide +kernel)⟩
theorem lw_p150 : lw_okq (⟨"RootAlgebraModel", "settles", "(I)I"⟩, 65) := ⟨⟨by decide +kernel, by decide +kernel⟩, List.mem_of_getElem? (i := 1345) (by decide +kernel), List.mem_of_getElem? (i := 1915) (by decide +kernel), List.mem_of_getElem? (i := 1916) (by decide +kernel)⟩
theorem lw_p151 : lw_okq (⟨"RootAlgebraModel", "works", "()I"⟩, 65) := ⟨⟨by decide +kernel, by decide +kernel⟩, List.mem_of_getElem? (i := 1345) (by decide +kernel), List.mem_of_getElem? (i := 1922) (by decide +kernel), List.mem_of_getElem? (i := 1923) (by decide +kernel)⟩
theorem lw_p152 : lw_okq (⟨"RootAlgebraModel", "turn", "(I)V"⟩, 65) := ⟨⟨by decide +kernel, by decide +kernel⟩, List.mem_of_getElem? (i := 1345) (by decide +kernel), List.mem_of_getElem? (i := 1926) (by decide +kernel), List.mem_of_getElem? (i := 1927) (by decide +kernel)⟩
theorem lw_p153 : lw_okq (⟨"RootAlgebraModel", "against", "(II)I"⟩, 65) := ⟨⟨by decide +kernel, by decide +kernel⟩, List.mem_of_getElem? (i := 1345) (by decide +kernel), List.mem_of_getElem? (i := 1930) (by decide +kernel), List.mem_of_getElem? (i := 1931) (by decide +kernel)⟩
theorem lw_p154 : lw_okq (⟨"RootAlgebraModel", "follow", "(II)V"⟩, 65) := ⟨⟨by decide +kernel, by decide +kernel⟩, List.mem_of_getElem? (i := 1345) (by decide +kernel), List.mem_of_getElem? (i := 1934) (by decide +kernel), List.mem_of_getElem? (i := 1935) (by decide +kernel)⟩
theorem lw_p155 : lw_okq (⟨"RootAlgebraModel", "combines", "(III)I"⟩, 65) := ⟨⟨by decide +kernel, by decide +kernel⟩, List.mem_of_getElem? (i := 1345) (by decide +kernel), List.mem_of_getElem? (i := 1938) (by decide +kernel), List.mem_of_getElem? (i := 1939) (by decide +kernel)⟩
theorem lw_p156 : lw_okq (⟨"RootAlgebraModel", "isNought", "(I)Z"⟩, 65) := ⟨⟨by decide +kernel, by decide +kernel⟩, List.mem_of_getElem? (i := 1345) (by decide +kernel), List.mem_of_getElem? (i := 1942) (by decide +kernel), List.mem_of_getElem? (i := 1943) (by decide +kernel)⟩
theorem lw_p157 : lw_okq (⟨"RootAlgebraModel", "fills", "(Z)V"⟩, 65) := ⟨⟨by decide +kernel, by decide +kernel⟩, List.mem_of_getElem? (i := 1345) (by decide +kernel), List.mem_of_getElem? (i := 1946) (by decide +kernel), List.mem_of_getElem? (i := 1947) (by decide +kernel)⟩
theorem lw_p158 : lw_okq (⟨"RootAlgebraModel", "image", "([JIII)V"⟩, 65) := ⟨⟨by decide +kernel, by decide +kernel⟩, List.mem_of_getElem? (i := 1345) (by decide +kernel), List.mem_of_getElem? (i := 1950) (by decide +kernel), List.mem_of_getElem? (i := 1951) (by decide +kernel)⟩
theorem lw_p159 : lw_okq (⟨"RootAlgebraModel", "share", "([JII)V"⟩, 65) := ⟨⟨by decide +kernel, by decide +kernel⟩, List.mem_of_getElem? (i := 1345) (by decide +kernel), List.mem_of_getElem? (i := 1954) (by decide +kernel), List.mem_of_getElem? (i := 1955) (by decide +kernel)⟩
def lw_privs_10 : List (MethodName × Nat) := [(⟨"RootAlgebraModel", "newton", "()V"⟩, 65), (⟨"RootAlgebraModel", "looks", "(II)I"⟩, 65), (⟨"RootAlgebraModel", "isSmall", "()Z"⟩, 65), (⟨"RootAlgebraModel", "found", "(I)V"⟩, 65), (⟨"RootAlgebraModel", "rows", "(I)V"⟩, 65), (⟨"RootAlgebraModel", "waitsFor", "(IJ)V"⟩, 65), (⟨"RootAlgebraModel", "settles", "(I)I"⟩, 65), (⟨"RootAlgebraModel", "works", "()I"⟩, 65), (⟨"RootAlgebraModel", "turn", "(I)V"⟩, 65), (⟨"RootAlgebraModel", "against", "(II)I"⟩, 65), (⟨"RootAlgebraModel", "follow", "(II)V"⟩, 65), (⟨"RootAlgebraModel", "combines", "(III)I"⟩, 65), (⟨"RootAlgebraModel", "isNought", "(I)Z"⟩, 65), (⟨"RootAlgebraModel", "fills", "(Z)V"⟩, 65), (⟨"RootAlgebraModel", "image", "([JIII)V"⟩, 65), (⟨"RootAlgebraModel", "share", "([JII)V"⟩, 65)]
theorem lw_r10 : ∀ q ∈ lw_privs_10, lw_okq q := List.forall_mem_cons.mpr ⟨lw_p144, List.forall_mem_cons.mpr ⟨lw_p145, List.forall_mem_cons.mpr ⟨lw_p146, List.forall_mem_cons.mpr ⟨lw_p147, List.forall_mem_cons.mpr ⟨lw_p148, List.forall_mem_cons.mpr ⟨lw_p149, List.forall_mem_cons.mpr ⟨lw_p150, List.forall_mem_cons.mpr ⟨lw_p151, List.forall_mem_cons.mpr ⟨lw_p152, List.forall_mem_cons.mpr ⟨lw_p153, List.forall_mem_cons.mpr ⟨lw_p154, List.forall_mem_cons.mpr ⟨lw_p155, List.forall_mem_cons.mpr ⟨lw_p156, List.forall_mem_cons.mpr ⟨lw_p157, List.forall_mem_cons.mpr ⟨lw_p158, List.forall_mem_cons.mpr ⟨lw_p159, fun _ h => absurd h List.not_mem_nil⟩⟩⟩⟩⟩⟩⟩⟩⟩⟩⟩⟩⟩⟩⟩⟩
theorem lw_p160 : lw_okq (⟨"RootAlgebraModel", "adds", "(II[JI)V"⟩, 65) := ⟨⟨by decide +kernel, by decide +kernel⟩, List.mem_of_getElem? (i := 1345) (by decide +kernel), List.mem_of_getElem? (i := 1958) (by decide +kernel), List.mem_of_getElem? (i := 1959) (by decide +kernel)⟩
theorem lw_p161 : lw_okq (⟨"RootAlgebraModel", "whole", "(I)V"⟩, 65) := ⟨⟨by decide +kernel, by decide +kernel⟩, List.mem_of_getElem? (i := 1345) (by decide +kernel), List.mem_of_getElem? (i := 1965) (by decide +kernel), List.mem_of_getElem? (i := 1966) (by decide +kernel)⟩
theorem lw_p162 : lw_okq (⟨"RootAlgebraModel", "size", "(I)J"⟩, 65) := ⟨⟨by decide +kernel, by decide +kernel⟩, List.mem_of_getElem? (i := 1345) (by decide +kernel), List.mem_of_getElem? (i := 1969) (by decide +kernel), List.mem_of_getElem? (i := 1970) (by decide +kernel)⟩
theorem lw_p163 : lw_okq (⟨"RootAlgebraModel", "rooted", "(II)I"⟩, 65) := ⟨⟨by decide +kernel, by decide +kernel⟩, List.mem_of_getElem? (i := 1345) (by decide +kernel), List.mem_of_getElem? (i := 1973) (by decide +kernel), List.mem_of_getElem? (i := 1974) (by decide +kernel)⟩
theorem lw_p164 : lw_okq (⟨"RootAlgebraModel", "fails", "(ZI)Z"⟩, 65) := ⟨⟨by decide +kernel, by decide +kernel⟩, List.mem_of_getElem? (i := 1345) (by decide +kernel), List.mem_of_getElem? (i := 1982) (by decide +kernel), List.mem_of_getElem? (i := 1983) (by decide +kernel)⟩
theorem lw_p165 : lw_okq (⟨"RootAlgebraModel", "bars", "(I)Z"⟩, 65) := ⟨⟨by decide +kernel, by decide +kernel⟩, List.mem_of_getElem? (i := 1345) (by decide +kernel), List.mem_of_getElem? (i := 2004) (by decide +kernel), List.mem_of_getElem? (i := 2005) (by decide +kernel)⟩
theorem lw_p166 : lw_okq (⟨"RootAlgebraModel", "tens", "(II)V"⟩, 65) := ⟨⟨by decide +kernel, by decide +kernel⟩, List.mem_of_getElem? (i := 1345) (by decide +kernel), List.mem_of_getElem? (i := 2025) (by decide +kernel), List.mem_of_getElem? (i := 2026) (by decide +kernel)⟩
theorem lw_p167 : lw_okq (⟨"RootAlgebraModel", "says", "()V"⟩, 65) := ⟨⟨by decide +kernel, by decide +kernel⟩, List.mem_of_getElem? (i := 1345) (by decide +kernel), List.mem_of_getElem? (i := 2029) (by decide +kernel), List.mem_of_getElem? (i := 2030) (by decide +kernel)⟩
theorem lw_p168 : lw_okq (⟨"RootAlgebraModel", "letter", "(I)V"⟩, 65) := ⟨⟨by decide +kernel, by decide +kernel⟩, List.mem_of_getElem? (i := 1345) (by decide +kernel), List.mem_of_getElem? (i := 2033) (by decide +kernel), List.mem_of_getElem? (i := 2034) (by decide +kernel)⟩
def lw_privs_11 : List (MethodName × Nat) := [(⟨"RootAlgebraModel", "adds", "(II[JI)V"⟩, 65), (⟨"RootAlgebraModel", "whole", "(I)V"⟩, 65), (⟨"RootAlgebraModel", "size", "(I)J"⟩, 65), (⟨"RootAlgebraModel", "rooted", "(II)I"⟩, 65), (⟨"RootAlgebraModel", "fails", "(ZI)Z"⟩, 65), (⟨"RootAlgebraModel", "bars", "(I)Z"⟩, 65), (⟨"RootAlgebraModel", "tens", "(II)V"⟩, 65), (⟨"RootAlgebraModel", "says", "()V"⟩, 65), (⟨"RootAlgebraModel", "letter", "(I)V"⟩, 65)]
theorem lw_r11 : ∀ q ∈ lw_privs_11, lw_okq q := List.forall_mem_cons.mpr ⟨lw_p160, List.forall_mem_cons.mpr ⟨lw_p161, List.forall_mem_cons.mpr ⟨lw_p162, List.forall_mem_cons.mpr ⟨lw_p163, List.forall_mem_cons.mpr ⟨lw_p164, List.forall_mem_cons.mpr ⟨lw_p165, List.forall_mem_cons.mpr ⟨lw_p166, List.forall_mem_cons.mpr ⟨lw_p167, List.forall_mem_cons.mpr ⟨lw_p168, fun _ h => absurd h List.not_mem_nil⟩⟩⟩⟩⟩⟩⟩⟩⟩
def lw_privs : List (MethodName × Nat) := lw_privs_1 ++ (lw_privs_2 ++ (lw_privs_3 ++ (lw_privs_4 ++ (lw_privs_5 ++ (lw_privs_6 ++ (lw_privs_7 ++ (lw_privs_8 ++ (lw_privs_9 ++ (lw_privs_10 ++ (lw_privs_11))))))))))
def lw_tbl : List Cond := k2_sels lw_privs ++ tables_1
theorem lw_privs_ok : ∀ q ∈ lw_privs, lw_okq q := by
  show ∀ q ∈ lw_privs_1 ++ (lw_privs_2 ++ (lw_privs_3 ++ (lw_privs_4 ++ (lw_privs_5 ++ (lw_privs_6 ++ (lw_privs_7 ++ (lw_privs_8 ++ (lw_privs_9 ++ (lw_privs_10 ++ (lw_privs_11)))))))))), lw_okq q
  exact List.forall_mem_append.mpr ⟨lw_r1, List.forall_mem_append.mpr ⟨lw_r2, List.forall_mem_append.mpr ⟨lw_r3, List.forall_mem_append.mpr ⟨lw_r4, List.forall_mem_append.mpr ⟨lw_r5, List.forall_mem_append.mpr ⟨lw_r6, List.forall_mem_append.mpr ⟨lw_r7, List.forall_mem_append.mpr ⟨lw_r8, List.forall_mem_append.mpr ⟨lw_r9, List.forall_mem_append.mpr ⟨lw_r10, lw_r11⟩⟩⟩⟩⟩⟩⟩⟩⟩⟩
end
section
/-! names: classes and methods; laid by program -/
def zT_RA : u_T := fun k => match k with
  | 0 => ("RootAlgebra", "tape", "[B", true)
  | 1 => ("RootAlgebra", "text", "[B", true)
  | 2 => ("RootAlgebra", "digits", "[B", true)
  | 3 => ("RootAlgebra", "rest", "LRootAlgebra$Big;", true)
  | 4 => ("RootAlgebra", "values", "[LRootAlgebra$Value;", true)
  | 5 => ("RootAlgebra", "reader", "LRootAlgebra$Reader;", true)
  | 6 => ("RootAlgebra", "desk", "LRootAlgebra$Desk;", true)
  | 7 => ("RootAlgebra", "fed", "I", false)
  | 8 => ("RootAlgebra", "written", "I", false)
  | 9 => ("RootAlgebra", "place", "I", false)
  | _ => ("RootAlgebra", "done", "I", false)
def zt_RA : Nat → FieldType := fun k => match k with
  | 0 => .array (.byte)
  | 1 => .array (.byte)
  | 2 => .array (.byte)
  | 3 => .object "RootAlgebra$Big"
  | 4 => .array (.object "RootAlgebra$Value")
  | 5 => .object "RootAlgebra$Reader"
  | 6 => .object "RootAlgebra$Desk"
  | 7 => .int
  | 8 => .int
  | 9 => .int
  | _ => .int
def zT_Big : u_T := fun k => match k with
  | 0 => ("RootAlgebra$Big", "words", "[I", true)
  | 1 => ("RootAlgebra$Big", "size", "I", false)
  | _ => ("RootAlgebra$Big", "sign", "I", false)
def zt_Big : Nat → FieldType := fun k => match k with
  | 0 => .array (.int)
  | 1 => .int
  | _ => .int
def zT_Desk : u_T := fun k => match k with
  | 0 => ("RootAlgebra$Desk", "stack", "[LRootAlgebra$Value;", true)
  | 1 => ("RootAlgebra$Desk", "found", "LRootAlgebra$Value;", true)
  | 2 => ("RootAlgebra$Desk", "poly", "LRootAlgebra$Poly;", true)
  | 3 => ("RootAlgebra$Desk", "candidate", "LRootAlgebra$Poly;", true)
  | 4 => ("RootAlgebra$Desk", "work", "LRootAlgebra$Poly;", true)
  | 5 => ("RootAlgebra$Desk", "sums", "LRootAlgebra$Sums;", true)
  | 6 => ("RootAlgebra$Desk", "factors", "LRootAlgebra$Factors;", true)
  | 7 => ("RootAlgebra$Desk", "isolator", "LRootAlgebra$Isolator;", true)
  | 8 => ("RootAlgebra$Desk", "gauge", "LRootAlgebra$Gauge;", true)
  | 9 => ("RootAlgebra$Desk", "top", "I", false)
  | 10 => ("RootAlgebra$Desk", "number", "I", false)
  | _ => ("RootAlgebra$Desk", "at", "I", false)
def zt_Desk : Nat → FieldType := fun k => match k with
  | 0 => .array (.object "RootAlgebra$Value")
  | 1 => .object "RootAlgebra$Value"
  | 2 => .object "RootAlgebra$Poly"
  | 3 => .object "RootAlgebra$Poly"
  | 4 => .object "RootAlgebra$Poly"
  | 5 => .object "RootAlgebra$Sums"
  | 6 => .object "RootAlgebra$Factors"
  | 7 => .object "RootAlgebra$Isolator"
  | 8 => .object "RootAlgebra$Gauge"
  | 9 => .int
  | 10 => .int
  | _ => .int
def zT_Factors : u_T := fun k => match k with
  | 0 => ("RootAlgebra$Factors", "field", "LRootAlgebra$Field;", true)
  | 1 => ("RootAlgebra$Factors", "padic", "LRootAlgebra$Padic;", true)
  | 2 => ("RootAlgebra$Factors", "modulus", "LRootAlgebra$Big;", true)
  | 3 => ("RootAlgebra$Factors", "whole", "[J", true)
  | 4 => ("RootAlgebra$Factors", "spare", "[J", true)
  | 5 => ("RootAlgebra$Factors", "base", "[J", true)
  | 6 => ("RootAlgebra$Factors", "row", "[J", true)
  | 7 => ("RootAlgebra$Factors", "mix", "[J", true)
  | 8 => ("RootAlgebra$Factors", "error", "[J", true)
  | 9 => ("RootAlgebra$Factors", "matrix", "[[J", true)
  | 10 => ("RootAlgebra$Factors", "basis", "[[J", true)
  | 11 => ("RootAlgebra$Factors", "pieces", "[[J", true)
  | 12 => ("RootAlgebra$Factors", "inverses", "[[J", true)
  | 13 => ("RootAlgebra$Factors", "lifts", "[[J", true)
  | 14 => ("RootAlgebra$Factors", "product", "[J", true)
  | 15 => ("RootAlgebra$Factors", "sizes", "[I", true)
  | 16 => ("RootAlgebra$Factors", "degree", "I", false)
  | 17 => ("RootAlgebra$Factors", "parts", "I", false)
  | 18 => ("RootAlgebra$Factors", "alive", "I", false)
  | _ => ("RootAlgebra$Factors", "mask", "I", false)
def zt_Factors : Nat → FieldType := fun k => match k with
  | 0 => .object "RootAlgebra$Field"
  | 1 => .object "RootAlgebra$Padic"
  | 2 => .object "RootAlgebra$Big"
  | 3 => .array (.long)
  | 4 => .array (.long)
  | 5 => .array (.long)
  | 6 => .array (.long)
  | 7 => .array (.long)
  | 8 => .array (.long)
  | 9 => .array (.array (.long))
  | 10 => .array (.array (.long))
  | 11 => .array (.array (.long))
  | 12 => .array (.array (.long))
  | 13 => .array (.array (.long))
  | 14 => .array (.long)
  | 15 => .array (.int)
  | 16 => .int
  | 17 => .int
  | 18 => .int
  | _ => .int
def zT_Field : u_T := fun k => match k with
  | 0 => ("RootAlgebra$Field", "p", "I", false)
  | 1 => ("RootAlgebra$Field", "product", "[J", true)
  | 2 => ("RootAlgebra$Field", "power", "[J", true)
  | 3 => ("RootAlgebra$Field", "common", "[J", false)
  | 4 => ("RootAlgebra$Field", "spareCommon", "[J", false)
  | 5 => ("RootAlgebra$Field", "cofactor", "[J", false)
  | _ => ("RootAlgebra$Field", "spareCofactor", "[J", false)
def zt_Field : Nat → FieldType := fun k => match k with
  | 0 => .int
  | 1 => .array (.long)
  | 2 => .array (.long)
  | 3 => .array (.long)
  | 4 => .array (.long)
  | 5 => .array (.long)
  | _ => .array (.long)
def zT_Gauge : u_T := fun k => match k with
  | 0 => ("RootAlgebra$Gauge", "left", "LRootAlgebra$Big;", true)
  | 1 => ("RootAlgebra$Gauge", "right", "LRootAlgebra$Big;", true)
  | 2 => ("RootAlgebra$Gauge", "here", "LRootAlgebra$Big;", true)
  | 3 => ("RootAlgebra$Gauge", "beside", "LRootAlgebra$Big;", true)
  | 4 => ("RootAlgebra$Gauge", "at", "LRootAlgebra$Big;", true)
  | 5 => ("RootAlgebra$Gauge", "point", "LRootAlgebra$Big;", true)
  | 6 => ("RootAlgebra$Gauge", "term", "LRootAlgebra$Big;", true)
  | 7 => ("RootAlgebra$Gauge", "spare", "LRootAlgebra$Big;", true)
  | 8 => ("RootAlgebra$Gauge", "mid", "LRootAlgebra$Big;", true)
  | 9 => ("RootAlgebra$Gauge", "one", "LRootAlgebra$Big;", true)
  | 10 => ("RootAlgebra$Gauge", "other", "LRootAlgebra$Big;", true)
  | 11 => ("RootAlgebra$Gauge", "x", "LRootAlgebra$Value;", false)
  | 12 => ("RootAlgebra$Gauge", "y", "LRootAlgebra$Value;", false)
  | 13 => ("RootAlgebra$Gauge", "times", "Z", false)
  | 14 => ("RootAlgebra$Gauge", "fixed", "Z", false)
  | 15 => ("RootAlgebra$Gauge", "bits", "I", false)
  | _ => ("RootAlgebra$Gauge", "spread", "I", false)
def zt_Gauge : Nat → FieldType := fun k => match k with
  | 0 => .object "RootAlgebra$Big"
  | 1 => .object "RootAlgebra$Big"
  | 2 => .object "RootAlgebra$Big"
  | 3 => .object "RootAlgebra$Big"
  | 4 => .object "RootAlgebra$Big"
  | 5 => .object "RootAlgebra$Big"
  | 6 => .object "RootAlgebra$Big"
  | 7 => .object "RootAlgebra$Big"
  | 8 => .object "RootAlgebra$Big"
  | 9 => .object "RootAlgebra$Big"
  | 10 => .object "RootAlgebra$Big"
  | 11 => .object "RootAlgebra$Value"
  | 12 => .object "RootAlgebra$Value"
  | 13 => .boolean
  | 14 => .boolean
  | 15 => .int
  | _ => .int
def zT_Isolator : u_T := fun k => match k with
  | 0 => ("RootAlgebra$Isolator", "f", "[LRootAlgebra$Big;", true)
  | 1 => ("RootAlgebra$Isolator", "g", "[LRootAlgebra$Big;", true)
  | 2 => ("RootAlgebra$Isolator", "cell", "LRootAlgebra$Big;", true)
  | 3 => ("RootAlgebra$Isolator", "low", "[LRootAlgebra$Big;", true)
  | 4 => ("RootAlgebra$Isolator", "scale", "[I", true)
  | 5 => ("RootAlgebra$Isolator", "exact", "[Z", true)
  | 6 => ("RootAlgebra$Isolator", "degree", "I", false)
  | 7 => ("RootAlgebra$Isolator", "first", "I", false)
  | 8 => ("RootAlgebra$Isolator", "depth", "I", false)
  | 9 => ("RootAlgebra$Isolator", "count", "I", false)
  | _ => ("RootAlgebra$Isolator", "negatives", "I", false)
def zt_Isolator : Nat → FieldType := fun k => match k with
  | 0 => .array (.object "RootAlgebra$Big")
  | 1 => .array (.object "RootAlgebra$Big")
  | 2 => .object "RootAlgebra$Big"
  | 3 => .array (.object "RootAlgebra$Big")
  | 4 => .array (.int)
  | 5 => .array (.boolean)
  | 6 => .int
  | 7 => .int
  | 8 => .int
  | 9 => .int
  | _ => .int
def zT_Padic : u_T := fun k => match k with
  | 0 => ("RootAlgebra$Padic", "p", "I", false)
  | 1 => ("RootAlgebra$Padic", "modulus", "J", false)
  | _ => ("RootAlgebra$Padic", "rest", "LRootAlgebra$Big;", true)
def zt_Padic : Nat → FieldType := fun k => match k with
  | 0 => .int
  | 1 => .long
  | _ => .object "RootAlgebra$Big"
def zT_Poly : u_T := fun k => match k with
  | 0 => ("RootAlgebra$Poly", "c", "[LRootAlgebra$Big;", true)
  | _ => ("RootAlgebra$Poly", "degree", "I", false)
def zt_Poly : Nat → FieldType := fun k => match k with
  | 0 => .array (.object "RootAlgebra$Big")
  | _ => .int
def zT_Reader : u_T := fun k => match k with
  | 0 => ("RootAlgebra$Reader", "code", "[I", true)
  | 1 => ("RootAlgebra$Reader", "tape", "[B", true)
  | 2 => ("RootAlgebra$Reader", "length", "I", false)
  | 3 => ("RootAlgebra$Reader", "value", "I", false)
  | 4 => ("RootAlgebra$Reader", "at", "I", false)
  | 5 => ("RootAlgebra$Reader", "size", "I", false)
  | _ => ("RootAlgebra$Reader", "target", "I", false)
def zt_Reader : Nat → FieldType := fun k => match k with
  | 0 => .array (.int)
  | 1 => .array (.byte)
  | 2 => .int
  | 3 => .int
  | 4 => .int
  | 5 => .int
  | _ => .int
def zT_Sums : u_T := fun k => match k with
  | 0 => ("RootAlgebra$Sums", "left", "[LRootAlgebra$Big;", true)
  | 1 => ("RootAlgebra$Sums", "right", "[LRootAlgebra$Big;", true)
  | 2 => ("RootAlgebra$Sums", "both", "[LRootAlgebra$Big;", true)
  | _ => ("RootAlgebra$Sums", "term", "LRootAlgebra$Big;", true)
def zt_Sums : Nat → FieldType := fun k => match k with
  | 0 => .array (.object "RootAlgebra$Big")
  | 1 => .array (.object "RootAlgebra$Big")
  | 2 => .array (.object "RootAlgebra$Big")
  | _ => .object "RootAlgebra$Big"
def zT_Value : u_T := fun k => match k with
  | 0 => ("RootAlgebra$Value", "c", "[I", true)
  | 1 => ("RootAlgebra$Value", "low", "LRootAlgebra$Big;", true)
  | 2 => ("RootAlgebra$Value", "degree", "I", false)
  | 3 => ("RootAlgebra$Value", "index", "I", false)
  | 4 => ("RootAlgebra$Value", "roots", "I", false)
  | 5 => ("RootAlgebra$Value", "negatives", "I", false)
  | _ => ("RootAlgebra$Value", "scale", "I", false)
def zt_Value : Nat → FieldType := fun k => match k with
  | 0 => .array (.int)
  | 1 => .object "RootAlgebra$Big"
  | 2 => .int
  | 3 => .int
  | 4 => .int
  | 5 => .int
  | _ => .int
def zT_Md : u_T := fun k => match k with
  | 0 => ("RootAlgebraModel", "thrown", "I", false)
  | 1 => ("RootAlgebraModel", "tape", "[I", true)
  | 2 => ("RootAlgebraModel", "taped", "I", false)
  | 3 => ("RootAlgebraModel", "text", "[I", true)
  | 4 => ("RootAlgebraModel", "written", "I", false)
  | 5 => ("RootAlgebraModel", "place", "I", false)
  | 6 => ("RootAlgebraModel", "done", "I", false)
  | 7 => ("RootAlgebraModel", "has", "[Z", true)
  | 8 => ("RootAlgebraModel", "valueDegree", "[I", true)
  | 9 => ("RootAlgebraModel", "valueC", "[J", true)
  | 10 => ("RootAlgebraModel", "valueIndex", "[I", true)
  | 11 => ("RootAlgebraModel", "valueRoots", "[I", true)
  | 12 => ("RootAlgebraModel", "d", "[J", true)
  | 13 => ("RootAlgebraModel", "size", "[I", true)
  | 14 => ("RootAlgebraModel", "sgn", "[I", true)
  | 15 => ("RootAlgebraModel", "hold", "[J", true)
  | 16 => ("RootAlgebraModel", "divisor", "[J", true)
  | 17 => ("RootAlgebraModel", "dividend", "[J", true)
  | 18 => ("RootAlgebraModel", "rowDegree", "[I", true)
  | 19 => ("RootAlgebraModel", "rowsMade", "I", false)
  | 20 => ("RootAlgebraModel", "baseOf", "[I", true)
  | 21 => ("RootAlgebraModel", "degreeOf", "[I", true)
  | 22 => ("RootAlgebraModel", "cell", "[I", true)
  | 23 => ("RootAlgebraModel", "fine", "[I", true)
  | 24 => ("RootAlgebraModel", "w", "[J", true)
  | 25 => ("RootAlgebraModel", "t", "[J", true)
  | 26 => ("RootAlgebraModel", "u", "[J", true)
  | 27 => ("RootAlgebraModel", "zero", "[J", true)
  | 28 => ("RootAlgebraModel", "cells", "[J", true)
  | 29 => ("RootAlgebraModel", "deg", "[I", true)
  | 30 => ("RootAlgebraModel", "chance", "J", false)
  | 31 => ("RootAlgebraModel", "many", "I", false)
  | 32 => ("RootAlgebraModel", "times", "[I", true)
  | 33 => ("RootAlgebraModel", "taken", "[I", true)
  | 34 => ("RootAlgebraModel", "unit", "[J", true)
  | 35 => ("RootAlgebraModel", "matrix", "[J", true)
  | 36 => ("RootAlgebraModel", "power", "[J", true)
  | 37 => ("RootAlgebraModel", "next", "[J", true)
  | 38 => ("RootAlgebraModel", "one", "[J", true)
  | 39 => ("RootAlgebraModel", "factor", "[J", true)
  | 40 => ("RootAlgebraModel", "pa", "[J", true)
  | 41 => ("RootAlgebraModel", "pb", "[J", true)
  | 42 => ("RootAlgebraModel", "da", "I", false)
  | 43 => ("RootAlgebraModel", "db", "I", false)
  | 44 => ("RootAlgebraModel", "candidate", "[J", true)
  | 45 => ("RootAlgebraModel", "candidateDegree", "I", false)
  | 46 => ("RootAlgebraModel", "what", "I", false)
  | 47 => ("RootAlgebraModel", "rootOrder", "I", false)
  | 48 => ("RootAlgebraModel", "bound", "I", false)
  | 49 => ("RootAlgebraModel", "measure", "I", false)
  | 50 => ("RootAlgebraModel", "need", "I", false)
  | 51 => ("RootAlgebraModel", "given", "[J", true)
  | 52 => ("RootAlgebraModel", "signs", "I", false)
  | 53 => ("RootAlgebraModel", "sign", "[I", true)
  | 54 => ("RootAlgebraModel", "brings", "[J", true)
  | 55 => ("RootAlgebraModel", "coefficients", "I", false)
  | 56 => ("RootAlgebraModel", "coefficient", "[J", true)
  | 57 => ("RootAlgebraModel", "coefficientMany", "[I", true)
  | 58 => ("RootAlgebraModel", "target", "I", false)
  | 59 => ("RootAlgebraModel", "at", "I", false)
  | 60 => ("RootAlgebraModel", "open", "I", false)
  | 61 => ("RootAlgebraModel", "values", "I", false)
  | 62 => ("RootAlgebraModel", "waits", "I", false)
  | 63 => ("RootAlgebraModel", "waiting", "[I", true)
  | _ => ("RootAlgebraModel", "waitingWith", "[J", true)
def zt_Md : Nat → FieldType := fun k => match k with
  | 0 => .int
  | 1 => .array (.int)
  | 2 => .int
  | 3 => .array (.int)
  | 4 => .int
  | 5 => .int
  | 6 => .int
  | 7 => .array (.boolean)
  | 8 => .array (.int)
  | 9 => .array (.long)
  | 10 => .array (.int)
  | 11 => .array (.int)
  | 12 => .array (.long)
  | 13 => .array (.int)
  | 14 => .array (.int)
  | 15 => .array (.long)
  | 16 => .array (.long)
  | 17 => .array (.long)
  | 18 => .array (.int)
  | 19 => .int
  | 20 => .array (.int)
  | 21 => .array (.int)
  | 22 => .array (.int)
  | 23 => .array (.int)
  | 24 => .array (.long)
  | 25 => .array (.long)
  | 26 => .array (.long)
  | 27 => .array (.long)
  | 28 => .array (.long)
  | 29 => .array (.int)
  | 30 => .long
  | 31 => .int
  | 32 => .array (.int)
  | 33 => .array (.int)
  | 34 => .array (.long)
  | 35 => .array (.long)
  | 36 => .array (.long)
  | 37 => .array (.long)
  | 38 => .array (.long)
  | 39 => .array (.long)
  | 40 => .array (.long)
  | 41 => .array (.long)
  | 42 => .int
  | 43 => .int
  | 44 => .array (.long)
  | 45 => .int
  | 46 => .int
  | 47 => .int
  | 48 => .int
  | 49 => .int
  | 50 => .int
  | 51 => .array (.long)
  | 52 => .int
  | 53 => .array (.int)
  | 54 => .array (.long)
  | 55 => .int
  | 56 => .array (.long)
  | 57 => .array (.int)
  | 58 => .int
  | 59 => .int
  | 60 => .int
  | 61 => .int
  | 62 => .int
  | 63 => .array (.int)
  | _ => .array (.long)
abbrev zCl : List vw_C := [("RootAlgebra", zT_RA, 11), ("RootAlgebra$Big", zT_Big, 3), ("RootAlgebra$Desk", zT_Desk, 12), ("RootAlgebra$Factors", zT_Factors, 20), ("RootAlgebra$Field", zT_Field, 7), ("RootAlgebra$Gauge", zT_Gauge, 17), ("RootAlgebra$Isolator", zT_Isolator, 11), ("RootAlgebra$Padic", zT_Padic, 3), ("RootAlgebra$Poly", zT_Poly, 2), ("RootAlgebra$Reader", zT_Reader, 7), ("RootAlgebra$Sums", zT_Sums, 4), ("RootAlgebra$Value", zT_Value, 7), ("RootAlgebraModel", zT_Md, 65)]
abbrev b_Big_divide : ByteArray := prog_2_method_13_code
def y_Big_divide : MethodName := ⟨"RootAlgebra$Big", "divide", "(I)I"⟩
abbrev b_Big_divideDown : ByteArray := prog_2_method_15_code
def y_Big_divideDown : MethodName := ⟨"RootAlgebra$Big", "divideDown", "(I)V"⟩
abbrev b_Big_init : ByteArray := prog_2_method_1_code
def y_Big_init : MethodName := ⟨"RootAlgebra$Big", "<init>", "(I)V"⟩
abbrev b_Big_scale : ByteArray := prog_2_method_12_code
def y_Big_scale : MethodName := ⟨"RootAlgebra$Big", "scale", "(I)V"⟩
abbrev b_Big_set : ByteArray := prog_2_method_3_code
def y_Big_set : MethodName := ⟨"RootAlgebra$Big", "set", "(LRootAlgebra$Big;)V"⟩
abbrev b_Big_setLong : ByteArray := prog_2_method_2_code
def y_Big_setLong : MethodName := ⟨"RootAlgebra$Big", "setLong", "(J)V"⟩
abbrev b_Big_trim : ByteArray := prog_2_method_23_code
def y_Big_trim : MethodName := ⟨"RootAlgebra$Big", "trim", "()V"⟩
abbrev b_Desk_init : ByteArray := prog_3_method_1_code
def y_Desk_init : MethodName := ⟨"RootAlgebra$Desk", "<init>", "()V"⟩
abbrev b_Factors_init : ByteArray := prog_4_method_1_code
def y_Factors_init : MethodName := ⟨"RootAlgebra$Factors", "<init>", "()V"⟩
abbrev b_Field_init : ByteArray := prog_5_method_1_code
def y_Field_init : MethodName := ⟨"RootAlgebra$Field", "<init>", "()V"⟩
abbrev b_Gauge_init : ByteArray := prog_6_method_1_code
def y_Gauge_init : MethodName := ⟨"RootAlgebra$Gauge", "<init>", "()V"⟩
abbrev b_Gauge_order : ByteArray := prog_6_method_5_code
def y_Gauge_order : MethodName := ⟨"RootAlgebra$Gauge", "order", "(LRootAlgebra$Value;LRootAlgebra$Value;)I"⟩
abbrev b_Gauge_timesTen : ByteArray := prog_6_method_7_code
def y_Gauge_timesTen : MethodName := ⟨"RootAlgebra$Gauge", "timesTen", "(LRootAlgebra$Big;I)V"⟩
abbrev b_Gauge_wholePart : ByteArray := prog_6_method_6_code
def y_Gauge_wholePart : MethodName := ⟨"RootAlgebra$Gauge", "wholePart", "(LRootAlgebra$Value;I)LRootAlgebra$Big;"⟩
abbrev b_Integer_compare : ByteArray := prog_18_method_40_code
def y_Integer_compare : MethodName := ⟨"java/lang/Integer", "compare", "(II)I"⟩
abbrev b_Isolator_init : ByteArray := prog_7_method_1_code
def y_Isolator_init : MethodName := ⟨"RootAlgebra$Isolator", "<init>", "()V"⟩
abbrev b_Md_against : ByteArray := prog_14_method_90_code
def y_Md_against : MethodName := ⟨"RootAlgebraModel", "against", "(II)I"⟩
abbrev b_Md_bars : ByteArray := prog_14_method_110_code
def y_Md_bars : MethodName := ⟨"RootAlgebraModel", "bars", "(I)Z"⟩
abbrev b_Md_coefficient : ByteArray := prog_14_method_112_code
def y_Md_coefficient : MethodName := ⟨"RootAlgebraModel", "coefficient", "(II)I"⟩
abbrev b_Md_compare : ByteArray := prog_14_method_115_code
def y_Md_compare : MethodName := ⟨"RootAlgebraModel", "compare", "(II)I"⟩
abbrev b_Md_degree : ByteArray := prog_14_method_111_code
def y_Md_degree : MethodName := ⟨"RootAlgebraModel", "degree", "(I)I"⟩
abbrev b_Md_digit : ByteArray := prog_14_method_12_code
def y_Md_digit : MethodName := ⟨"RootAlgebraModel", "digit", "(II)J"⟩
abbrev b_Md_divided : ByteArray := prog_14_method_21_code
def y_Md_divided : MethodName := ⟨"RootAlgebraModel", "divided", "(IIII)V"⟩
abbrev b_Md_drop : ByteArray := prog_14_method_122_code
def y_Md_drop : MethodName := ⟨"RootAlgebraModel", "drop", "(I)Z"⟩
abbrev b_Md_fails : ByteArray := prog_14_method_3_code
def y_Md_fails : MethodName := ⟨"RootAlgebraModel", "fails", "(ZI)Z"⟩
abbrev b_Md_feed : ByteArray := prog_14_method_107_code
def y_Md_feed : MethodName := ⟨"RootAlgebraModel", "feed", "(IJ)I"⟩
abbrev b_Md_fix : ByteArray := prog_14_method_9_code
def y_Md_fix : MethodName := ⟨"RootAlgebraModel", "fix", "(I)V"⟩
abbrev b_Md_floor : ByteArray := prog_14_method_117_code
def y_Md_floor : MethodName := ⟨"RootAlgebraModel", "floor", "(II)I"⟩
abbrev b_Md_in : ByteArray := prog_14_method_4_code
def y_Md_in : MethodName := ⟨"RootAlgebraModel", "in", "(JJJ)Z"⟩
abbrev b_Md_index : ByteArray := prog_14_method_113_code
def y_Md_index : MethodName := ⟨"RootAlgebraModel", "index", "(I)I"⟩
abbrev b_Md_init : ByteArray := prog_14_method_1_code
def y_Md_init : MethodName := ⟨"RootAlgebraModel", "<init>", "()V"⟩
abbrev b_Md_isLine : ByteArray := prog_14_method_97_code
def y_Md_isLine : MethodName := ⟨"RootAlgebraModel", "isLine", "()Z"⟩
abbrev b_Md_isName : ByteArray := prog_14_method_109_code
def y_Md_isName : MethodName := ⟨"RootAlgebraModel", "isName", "(I)Z"⟩
abbrev b_Md_lands : ByteArray := prog_14_method_17_code
def y_Md_lands : MethodName := ⟨"RootAlgebraModel", "lands", "(III)V"⟩
abbrev b_Md_letter : ByteArray := prog_14_method_119_code
def y_Md_letter : MethodName := ⟨"RootAlgebraModel", "letter", "(I)V"⟩
abbrev b_Md_line : ByteArray := prog_14_method_106_code
def y_Md_line : MethodName := ⟨"RootAlgebraModel", "line", "()I"⟩
abbrev b_Md_look : ByteArray := prog_14_method_108_code
def y_Md_look : MethodName := ⟨"RootAlgebraModel", "look", "(I)I"⟩
abbrev b_Md_multiplied : ByteArray := prog_14_method_18_code
def y_Md_multiplied : MethodName := ⟨"RootAlgebraModel", "multiplied", "(III)V"⟩
abbrev b_Md_number : ByteArray := prog_14_method_5_code
def y_Md_number : MethodName := ⟨"RootAlgebraModel", "number", "(IJ)V"⟩
abbrev b_Md_opens : ByteArray := prog_14_method_98_code
def y_Md_opens : MethodName := ⟨"RootAlgebraModel", "opens", "(I)Z"⟩
abbrev b_Md_out : ByteArray := prog_14_method_121_code
def y_Md_out : MethodName := ⟨"RootAlgebraModel", "out", "(I)J"⟩
abbrev b_Md_peek : ByteArray := prog_14_method_94_code
def y_Md_peek : MethodName := ⟨"RootAlgebraModel", "peek", "()I"⟩
abbrev b_Md_put : ByteArray := prog_14_method_10_code
def y_Md_put : MethodName := ⟨"RootAlgebraModel", "put", "(IJ)V"⟩
abbrev b_Md_roots : ByteArray := prog_14_method_114_code
def y_Md_roots : MethodName := ⟨"RootAlgebraModel", "roots", "(I)I"⟩
abbrev b_Md_says : ByteArray := prog_14_method_118_code
def y_Md_says : MethodName := ⟨"RootAlgebraModel", "says", "()V"⟩
abbrev b_Md_seats : ByteArray := prog_14_method_30_code
def y_Md_seats : MethodName := ⟨"RootAlgebraModel", "seats", "()V"⟩
abbrev b_Md_thrown : ByteArray := prog_14_method_2_code
def y_Md_thrown : MethodName := ⟨"RootAlgebraModel", "thrown", "()I"⟩
abbrev b_Md_write : ByteArray := prog_14_method_120_code
def y_Md_write : MethodName := ⟨"RootAlgebraModel", "write", "(I)I"⟩
abbrev b_Padic_init : ByteArray := prog_8_method_1_code
def y_Padic_init : MethodName := ⟨"RootAlgebra$Padic", "<init>", "()V"⟩
abbrev b_Poly_init : ByteArray := prog_9_method_1_code
def y_Poly_init : MethodName := ⟨"RootAlgebra$Poly", "<init>", "()V"⟩
abbrev b_RA_coefficient : ByteArray := prog_1_method_6_code
def y_RA_coefficient : MethodName := ⟨"RootAlgebra", "coefficient", "(II)I"⟩
abbrev b_RA_compare : ByteArray := prog_1_method_9_code
def y_RA_compare : MethodName := ⟨"RootAlgebra", "compare", "(II)I"⟩
abbrev b_RA_degree : ByteArray := prog_1_method_5_code
def y_RA_degree : MethodName := ⟨"RootAlgebra", "degree", "(I)I"⟩
abbrev b_RA_drop : ByteArray := prog_1_method_13_code
def y_RA_drop : MethodName := ⟨"RootAlgebra", "drop", "(I)Z"⟩
abbrev b_RA_feed : ByteArray := prog_1_method_2_code
def y_RA_feed : MethodName := ⟨"RootAlgebra", "feed", "(IJ)I"⟩
abbrev b_RA_floor : ByteArray := prog_1_method_10_code
def y_RA_floor : MethodName := ⟨"RootAlgebra", "floor", "(II)I"⟩
abbrev b_RA_index : ByteArray := prog_1_method_7_code
def y_RA_index : MethodName := ⟨"RootAlgebra", "index", "(I)I"⟩
abbrev b_RA_init : ByteArray := prog_1_method_1_code
def y_RA_init : MethodName := ⟨"RootAlgebra", "<init>", "()V"⟩
abbrev b_RA_isName : ByteArray := prog_1_method_14_code
def y_RA_isName : MethodName := ⟨"RootAlgebra", "isName", "(I)Z"⟩
abbrev b_RA_line : ByteArray := prog_1_method_3_code
def y_RA_line : MethodName := ⟨"RootAlgebra", "line", "()I"⟩
abbrev b_RA_look : ByteArray := prog_1_method_4_code
def y_RA_look : MethodName := ⟨"RootAlgebra", "look", "(I)I"⟩
abbrev b_RA_namesWithValue : ByteArray := prog_1_method_15_code
def y_RA_namesWithValue : MethodName := ⟨"RootAlgebra", "namesWithValue", "()I"⟩
abbrev b_RA_put : ByteArray := prog_1_method_16_code
def y_RA_put : MethodName := ⟨"RootAlgebra", "put", "(I)V"⟩
abbrev b_RA_putRest : ByteArray := prog_1_method_17_code
def y_RA_putRest : MethodName := ⟨"RootAlgebra", "putRest", "()V"⟩
abbrev b_RA_roots : ByteArray := prog_1_method_8_code
def y_RA_roots : MethodName := ⟨"RootAlgebra", "roots", "(I)I"⟩
abbrev b_RA_write : ByteArray := prog_1_method_11_code
def y_RA_write : MethodName := ⟨"RootAlgebra", "write", "(I)I"⟩
abbrev b_Reader_factor : ByteArray := prog_10_method_8_code
def y_Reader_factor : MethodName := ⟨"RootAlgebra$Reader", "factor", "(I)Z"⟩
abbrev b_Reader_init : ByteArray := prog_10_method_1_code
def y_Reader_init : MethodName := ⟨"RootAlgebra$Reader", "<init>", "([B)V"⟩
abbrev b_Reader_next : ByteArray := prog_10_method_4_code
def y_Reader_next : MethodName := ⟨"RootAlgebra$Reader", "next", "()I"⟩
abbrev b_Reader_product : ByteArray := prog_10_method_7_code
def y_Reader_product : MethodName := ⟨"RootAlgebra$Reader", "product", "(I)Z"⟩
abbrev b_Reader_readTarget : ByteArray := prog_10_method_3_code
def y_Reader_readTarget : MethodName := ⟨"RootAlgebra$Reader", "readTarget", "()V"⟩
abbrev b_Reader_reads : ByteArray := prog_10_method_2_code
def y_Reader_reads : MethodName := ⟨"RootAlgebra$Reader", "reads", "(I)Z"⟩
abbrev b_Reader_sum : ByteArray := prog_10_method_6_code
def y_Reader_sum : MethodName := ⟨"RootAlgebra$Reader", "sum", "(I)Z"⟩
abbrev b_Sums_init : ByteArray := prog_11_method_1_code
def y_Sums_init : MethodName := ⟨"RootAlgebra$Sums", "<init>", "()V"⟩
abbrev b_Value_finishFraction : ByteArray := prog_12_method_3_code
def y_Value_finishFraction : MethodName := ⟨"RootAlgebra$Value", "finishFraction", "()V"⟩
abbrev b_Value_hasPolynomialOf : ByteArray := prog_12_method_9_code
def y_Value_hasPolynomialOf : MethodName := ⟨"RootAlgebra$Value", "hasPolynomialOf", "(LRootAlgebra$Value;)Z"⟩
abbrev b_Value_init : ByteArray := prog_12_method_1_code
def y_Value_init : MethodName := ⟨"RootAlgebra$Value", "<init>", "()V"⟩
abbrev b_Value_setFraction : ByteArray := prog_12_method_2_code
def y_Value_setFraction : MethodName := ⟨"RootAlgebra$Value", "setFraction", "(II)V"⟩
end
section
/-! own rows: the two statics of Throwable that a throw reads -/
def zTh : String := "java/lang/Throwable"
def zS (n d : String) (A : Nat → Prop) (U : State) (H : Heap) : Prop := ∃ (c : ClassId) (k : Class) (i : Nat) (f : Field) (x : Nat) (cell : Cell) (v : Value), U.vm.findClass zTh = some c ∧ U.fieldFound? zTh n d = some (c, k, i, f) ∧ f.isStatic = true ∧ k.statics = some x ∧ H[x]? = some cell ∧ cell.vm.isStatics = true ∧ cell.cls = c ∧ f.slot < cell.slots.size ∧ k.staticTypes[f.slot]? = some f.type ∧ cell.slots[f.slot]? = some v ∧ v.isRef = true ∧ ¬ A x
theorem zS.moved {n d : String} {A : Nat → Prop} {u U : State} {H : Heap} (hvm : u.vm.Alike U.vm) (h : zS n d A u H) : zS n d A U H := by
  obtain ⟨c, k, i, f, x, cell, v, h1, h2, h3, h4, h5, h6, h7, h8, h9, h10⟩ := h
  obtain ⟨k', hi', he⟩ := State.fieldFound?_setVm hvm h2
  exact ⟨c, k', i, f, x, cell, v, by rw [hvm.findClass]; exact h1, hi', h3, by rw [he]; exact h4, h5, h6, h7, h8, by rw [he]; exact h9, h10⟩
theorem zS.kept {n d : String} {A : Nat → Prop} {U : State} {H H1 : Heap} (h : zS n d A U H) (hq : ∀ a : Nat, a < H.size → ¬ A a → H1[a]? = H[a]?) : zS n d A U H1 := by
  obtain ⟨c, k, i, f, x, cell, v, h1, h2, h3, h4, h5, h6, h7, h8, h9, h10, h11, h12⟩ := h
  exact ⟨c, k, i, f, x, cell, v, h1, h2, h3, h4, by rw [hq x (Array.getElem?_eq_some_iff.mp h5).1 h12]; exact h5, h6, h7, h8, h9, h10, h11, h12⟩
theorem zS.narrow {n d : String} {A B : Nat → Prop} {U : State} {H : Heap} (h : zS n d A U H) (hAB : ∀ q, B q → A q) : zS n d B U H := by
  obtain ⟨c, k, i, f, x, cell, v, h1, h2, h3, h4, h5, h6, h7, h8, h9, h10, h11, h12⟩ := h
  exact ⟨c, k, i, f, x, cell, v, h1, h2, h3, h4, h5, h6, h7, h8, h9, h10, h11, fun z => h12 (hAB x z)⟩
theorem zS.lays {n d : String} {A : Nat → Prop} {s : State} {args : Array Value} (h : zS n d A s s.heap) : (Cond.laysStatic zTh n d).before args s = true := by
  obtain ⟨c, k, i, f, x, cell, v, h1, h2, h3, h4, h5, h6, h7, h8, h9, -⟩ := h
  show (Cond.laysStatic zTh n d).holds args s none s [] = true
  exact Cond.laysStatic_of h1 h2 h3 h4 h5 h6 h7 h8 h9
theorem zS.refs {n d : String} {A : Nat → Prop} {s : State} {args : Array Value} (h : zS n d A s s.heap) : (Cond.isRef (.static zTh n d)).before args s = true := by
  obtain ⟨c, k, i, f, x, cell, v, h1, h2, h3, h4, h5, h6, h7, h8, h9, h10, h11, -⟩ := h
  have he : (Term.static zTh n d).eval args s none [] s = some v := by
    simp [Term.eval, State.fieldNamed?, h2, h3, h4, h5, h6, h10]
  simp only [Cond.before, Cond.holds, Cond.value, he]
  cases v <;> simp_all [Value.isRef]
theorem zS.of {n d : String} {A : Nat → Prop} {s : State} {args : Array Value} (hl : (Cond.laysStatic zTh n d).before args s = true) (hr : (Cond.isRef (.static zTh n d)).before args s = true) (hA : ∀ a : Nat, a < s.heap.size → ¬ A a) : zS n d A s s.heap := by
  obtain ⟨c, k, i, f, x, cell, h1, h2, h3, h4, h5, h6, h7, h8, h9⟩ := Cond.laysStatic_spec hl
  simp only [Cond.before, Cond.holds, Cond.value] at hr
  cases he : (Term.static zTh n d).eval args s none [] s with
  | none => simp [he] at hr
  | some v =>
    obtain ⟨-, x', cell', g1, g2, -, g3⟩ := Term.static_spec h2 he
    cases h4.symm.trans g1
    cases h5.symm.trans g2
    refine ⟨c, k, i, f, x, cell, v, h1, h2, h3, h4, h5, h6, h7, h8, h9, g3, ?_, hA x (Array.getElem?_eq_some_iff.mp h5).1⟩
    rw [he] at hr
    cases v <;> simp_all [Value.isRef]
end
section
/-! own rows: one list of words for every method, one picture of a method's surroundings (kE), one of its world (kW); the kit's rows said over them -/
def wA : List Cond := lw_tbl.filter goodWord
theorem wA_in {w : Cond} (h : w ∈ lw_tbl) (hg : goodWord w = true) : w ∈ wA := List.mem_filter.mpr ⟨h, hg⟩
theorem wA_good : ∀ w ∈ wA, goodWord w = true := fun _ h => (List.mem_filter.mp h).2
theorem wA_sub : ∀ w ∈ wA, w ∈ lw_tbl := fun _ h => (List.mem_filter.mp h).1
theorem wA_GI {c0 : Cond} (h : c0 ∈ wA) : GoodIn wA (c0 :: wA) := fun w hw => by
  rcases List.mem_cons.mp hw with rfl | hw
  · exact ⟨h, good_of_word (wA_good _ h)⟩
  · exact ⟨hw, good_of_word (wA_good _ hw)⟩
abbrev kT (a : Nat → ClassId) : List (ClassId × FieldType) := [(a 0, .int), (a 1, .long), (a 2, .byte), (a 3, .boolean), (a 4, .object "RootAlgebra$Big"), (a 5, .object "RootAlgebra$Value")]
/-- arrays of rows of longs can be made -/
def kJJ (U : State) : Prop := ∃ (comp cA : ClassId) (kA : Class), U.vm.findClass "[J" = some comp ∧ U.vm.classes[cA]? = some kA ∧ kA.kind = .array comp (.array .long) ∧ U.vm.findClass "[[J" = some cA
theorem kJJ.moved {u U : State} (hvm : u.vm.Alike U.vm) (h : kJJ u) : kJJ U := by
  obtain ⟨comp, cA, kA, h1, h2, h3, h4⟩ := h
  obtain ⟨k', hk', he⟩ := hvm.2.2 _ _ h2
  exact ⟨comp, cA, k', by rw [hvm.findClass]; exact h1, hk', by rw [he]; exact h3, by rw [hvm.findClass]; exact h4⟩
/-- which handlers take which exceptions -/
def kCT (E T : String) (U : State) : Prop := va_Nw (.castable E T) U
theorem kCT.moved {E T : String} {u U : State} (hvm : u.vm.Alike U.vm) (h : kCT E T u) : kCT E T U := va_tabs rfl (rfl : (u.setVm U.vm).vm = U.vm) (by rw [Cond.castable_setVm hvm]; exact h)
def kHs (U : State) : Prop := kCT "java/lang/IllegalArgumentException" "java/lang/IllegalArgumentException" U ∧ kCT "java/lang/IllegalStateException" "java/lang/IllegalStateException" U ∧ kCT "java/util/NoSuchElementException" "java/util/NoSuchElementException" U ∧ va_Nc "java/lang/IllegalStateException" "java/lang/IllegalArgumentException" U ∧ va_Nc "java/util/NoSuchElementException" "java/lang/IllegalArgumentException" U
theorem kHs.moved {u U : State} (hvm : u.vm.Alike U.vm) (h : kHs u) : kHs U := ⟨h.1.moved hvm, h.2.1.moved hvm, h.2.2.1.moved hvm, h.2.2.2.1.moved hvm, h.2.2.2.2.moved hvm⟩
def kK (D : va_G) (a : Nat → ClassId) (U : State) : Prop := va_K D zCl (kT a) U ∧ va_AO "RootAlgebra$Big" U ∧ va_AO "RootAlgebra$Value" U ∧ kJJ U ∧ kHs U
theorem kK.moved {D : va_G} {a : Nat → ClassId} {u U : State} (h : u.vm.Alike U.vm) (k : kK D a u) : kK D a U := ⟨va_K.moved h k.1, va_AO.moved h k.2.1, va_AO.moved h k.2.2.1, k.2.2.2.1.moved h, k.2.2.2.2.moved h⟩
/-- the two statics of Throwable that a throw reads; their class's cell isn't ours -/
def kZ (A : Nat → Prop) (U : State) (H : Heap) : Prop := zS "UNASSIGNED_STACK" "[Ljava/lang/StackTraceElement;" A U H ∧ zS "SUPPRESSED_SENTINEL" "Ljava/util/List;" A U H
theorem kZ.moved {A : Nat → Prop} {u U : State} {H : Heap} (hvm : u.vm.Alike U.vm) (h : kZ A u H) : kZ A U H := ⟨h.1.moved hvm, h.2.moved hvm⟩
theorem kZ.kept {A : Nat → Prop} {U : State} {H H1 : Heap} (h : kZ A U H) (hq : ∀ a : Nat, a < H.size → ¬ A a → H1[a]? = H[a]?) : kZ A U H1 := ⟨h.1.kept hq, h.2.kept hq⟩
theorem kZ.narrow {A B : Nat → Prop} {U : State} {H : Heap} (h : kZ A U H) (hAB : ∀ q, B q → A q) : kZ B U H := ⟨h.1.narrow hAB, h.2.narrow hAB⟩
def kE (p : Program) (m : MethodId) (c : Code) (cc : ByteArray) (nL : Nat) (s : State) (args : Array Value) (own : String) (D : va_G) (a : Nat → ClassId) (A : Nat → Prop) : Prop :=
  CallFix p m c cc nL s args wA own ∧ kK D a s ∧ (∀ q : Nat, s.heap.size ≤ q → A q) ∧ kZ A s s.heap
def kW (D : va_G) (A : Nat → Prop) (s : State) (ws : va_W) (H : Heap) (locs : List Loc) : Prop := va_P D zCl ws H ∧ va_D A ws ∧ va_S A s.heap H locs
def kP (D : va_G) (a : Nat → ClassId) (ws : va_W) (sz : Nat) : State → Prop := fun U => U.heap.size = sz ∧ va_P D zCl ws U.heap ∧ kK D a U ∧ va_D (fun _ => True) ws ∧ kZ (va_A ws sz) U U.heap
def kB (D : va_G) (a : Nat → ClassId) (A : Nat → Prop) : va_W → State → Prop := fun ws t => va_P D zCl ws t.heap ∧ kK D a t ∧ va_D A ws
theorem kP_blind {av : List Value} {D : va_G} {a : Nat → ClassId} {ws : va_W} {sz : Nat} : FrameBlind (va_Pc av (kP D a ws sz)) := fun _ U g mk q => ⟨q.1, q.2.1, q.2.2.1, kK.moved (u := U) (U := U.calling g mk _) (Vm.Alike.refl U.vm) q.2.2.2.1, q.2.2.2.2.1, kZ.moved (u := U) (U := U.calling g mk _) (Vm.Alike.refl U.vm) q.2.2.2.2.2⟩
theorem kRA_inj {U : State} {c1 c2 : ClassId} {ty : FieldType} (h1 : va_RA U c1 ty) (h2 : va_RA U c2 ty) : c1 = c2 := by
  cases ty with
  | object C =>
    obtain ⟨_, _, _, _, _, e1⟩ := h1
    obtain ⟨_, _, _, _, _, e2⟩ := h2
    exact Option.some.inj (e1.symm.trans e2)
  | _ =>
    have e1 : U.vm.findClass _ = some c1 := h1
    have e2 : U.vm.findClass _ = some c2 := h2
    exact Option.some.inj (e1.symm.trans e2)
/-! worlds: fewer cells, in any order -/
theorem kW_sub {D : va_G} {A : Nat → Prop} {s : State} {ws ws' : va_W} {H : Heap} {locs : List Loc} (w : kW D A s ws H locs) (is : List Nat) (hn : va_nd is = true) (hs : is.map (fun i => ws[i]?) = ws'.map some) : kW D A s ws' H locs :=
  ⟨fun k q hk => by obtain ⟨i, _, hi⟩ := va_in_of is hs hk; exact w.1 i q hi, w.2.1.sub is hn hs, w.2.2⟩
theorem kW_drop {D : va_G} {A : Nat → Prop} {s : State} {ws x : va_W} {H : Heap} {locs : List Loc} (w : kW D A s (ws ++ x) H locs) : kW D A s ws H locs := by
  have key : ∀ (k : Nat) (q : Nat × va_E), ws[k]? = some q → (ws ++ x)[k]? = some q := fun k q hk => by
    rw [List.getElem?_append_left (List.getElem?_eq_some_iff.mp hk).1]; exact hk
  exact ⟨fun k q hk => w.1 k q (key k q hk), ⟨fun i j p q hi hj => w.2.1.1 i j p q (key i p hi) (key j q hj), fun k q hk => w.2.1.2 k q (key k q hk)⟩, w.2.2⟩
/-- what is known of a class of ours -/
def kCl (ci : Nat) (C : String) (T : u_T) (N : Nat) (ty : Nat → FieldType) : Prop := zCl[ci]? = some (C, T, N) ∧ (∀ w ∈ u_ws C T N, w ∈ wA) ∧ (∀ k, k < N → parseFieldDescriptor (T k).2.2.1 = some (ty k)) ∧ ∀ a, a < N → ∀ b, b < N → a ≠ b → (T a).2.1 ≠ (T b).2.1
section KX
variable {p : Program} {l : Launch} {e : Env} {R : Room} {s : State} {m : MethodId} {args : Array Value} {below : List Frame} {meth : Method} {c : Code} {H : Heap} {locs : List Loc} {cells slots : Nat} {Q : State → Prop}
variable {cc : ByteArray} {pc : Nat} {ls : Array Slot} {rest : List Value} {D : va_G} {a : Nat → ClassId} {A : Nat → Prop} {nL : Nat} {own : String} {ws : va_W}
/-! numbers -/
theorem kx_iadd (hx : p.tables.exec = Jvm.exec) (hb : c.code = cc) {x y v : Int32} (hdg : decode cc pc = .ok (.iadd, 1)) (hv : x + y = v) (k : W p l e R s m args below meth c H locs cells slots Q (F0 m (pc + 1) ls (.int v :: rest))) : W p l e R s m args below meth c H locs cells slots Q (F0 m pc ls (.int y :: .int x :: rest)) := by subst hv; exact lv_iadd hx hb hdg k
theorem kx_isub (hx : p.tables.exec = Jvm.exec) (hb : c.code = cc) {x y v : Int32} (hdg : decode cc pc = .ok (.isub, 1)) (hv : x - y = v) (k : W p l e R s m args below meth c H locs cells slots Q (F0 m (pc + 1) ls (.int v :: rest))) : W p l e R s m args below meth c H locs cells slots Q (F0 m pc ls (.int y :: .int x :: rest)) := by subst hv; exact lv_isub hx hb hdg k
theorem kx_imul (hx : p.tables.exec = Jvm.exec) (hb : c.code = cc) {x y v : Int32} (hdg : decode cc pc = .ok (.imul, 1)) (hv : x * y = v) (k : W p l e R s m args below meth c H locs cells slots Q (F0 m (pc + 1) ls (.int v :: rest))) : W p l e R s m args below meth c H locs cells slots Q (F0 m pc ls (.int y :: .int x :: rest)) := by subst hv; exact lv_imul hx hb hdg k
theorem kx_iand (hx : p.tables.exec = Jvm.exec) (hb : c.code = cc) {x y v : Int32} (hdg : decode cc pc = .ok (.iand, 1)) (hv : x &&& y = v) (k : W p l e R s m args below meth c H locs cells slots Q (F0 m (pc + 1) ls (.int v :: rest))) : W p l e R s m args below meth c H locs cells slots Q (F0 m pc ls (.int y :: .int x :: rest)) := by subst hv; exact lv_iand hx hb hdg k
theorem kx_idiv (hx : p.tables.exec = Jvm.exec) (hb : c.code = cc) {x y v : Int32} (hdg : decode cc pc = .ok (.idiv, 1)) (hne : ¬ y = 0) (hv : x / y = v) (k : W p l e R s m args below meth c H locs cells slots Q (F0 m (pc + 1) ls (.int v :: rest))) : W p l e R s m args below meth c H locs cells slots Q (F0 m pc ls (.int y :: .int x :: rest)) := by subst hv; exact lv_idiv hx hb hdg hne k
theorem kx_irem (hx : p.tables.exec = Jvm.exec) (hb : c.code = cc) {x y v : Int32} (hdg : decode cc pc = .ok (.irem, 1)) (hne : ¬ y = 0) (hv : x - x / y * y = v) (k : W p l e R s m args below meth c H locs cells slots Q (F0 m (pc + 1) ls (.int v :: rest))) : W p l e R s m args below meth c H locs cells slots Q (F0 m pc ls (.int y :: .int x :: rest)) := by subst hv; exact lv_irem hx hb hdg hne k
theorem kx_ineg (hx : p.tables.exec = Jvm.exec) (hb : c.code = cc) {x v : Int32} (hdg : decode cc pc = .ok (.ineg, 1)) (hv : -x = v) (k : W p l e R s m args below meth c H locs cells slots Q (F0 m (pc + 1) ls (.int v :: rest))) : W p l e R s m args below meth c H locs cells slots Q (F0 m pc ls (.int x :: rest)) := by subst hv; exact lv_ineg hx hb hdg k
theorem kx_ladd (hx : p.tables.exec = Jvm.exec) (hb : c.code = cc) {x y v : Int64} (hdg : decode cc pc = .ok (.ladd, 1)) (hv : x + y = v) (k : W p l e R s m args below meth c H locs cells slots Q (F0 m (pc + 1) ls (.long v :: rest))) : W p l e R s m args below meth c H locs cells slots Q (F0 m pc ls (.long y :: .long x :: rest)) := by subst hv; exact lv_ladd hx hb hdg k
theorem kx_lsub (hx : p.tables.exec = Jvm.exec) (hb : c.code = cc) {x y v : Int64} (hdg : decode cc pc = .ok (.lsub, 1)) (hv : x - y = v) (k : W p l e R s m args below meth c H locs cells slots Q (F0 m (pc + 1) ls (.long v :: rest))) : W p l e R s m args below meth c H locs cells slots Q (F0 m pc ls (.long y :: .long x :: rest)) := by subst hv; exact lv_lsub hx hb hdg k
theorem kx_lmul (hx : p.tables.exec = Jvm.exec) (hb : c.code = cc) {x y v : Int64} (hdg : decode cc pc = .ok (.lmul, 1)) (hv : x * y = v) (k : W p l e R s m args below meth c H locs cells slots Q (F0 m (pc + 1) ls (.long v :: rest))) : W p l e R s m args below meth c H locs cells slots Q (F0 m pc ls (.long y :: .long x :: rest)) := by subst hv; exact lv_lmul hx hb hdg k
theorem kx_land (hx : p.tables.exec = Jvm.exec) (hb : c.code = cc) {x y v : Int64} (hdg : decode cc pc = .ok (.land, 1)) (hv : x &&& y = v) (k : W p l e R s m args below meth c H locs cells slots Q (F0 m (pc + 1) ls (.long v :: rest))) : W p l e R s m args below meth c H locs cells slots Q (F0 m pc ls (.long y :: .long x :: rest)) := by subst hv; exact lv_land hx hb hdg k
theorem kx_lor (hx : p.tables.exec = Jvm.exec) (hb : c.code = cc) {x y v : Int64} (hdg : decode cc pc = .ok (.lor, 1)) (hv : x ||| y = v) (k : W p l e R s m args below meth c H locs cells slots Q (F0 m (pc + 1) ls (.long v :: rest))) : W p l e R s m args below meth c H locs cells slots Q (F0 m pc ls (.long y :: .long x :: rest)) := by subst hv; exact lv_lor hx hb hdg k
theorem kx_ldiv (hx : p.tables.exec = Jvm.exec) (hb : c.code = cc) {x y v : Int64} (hdg : decode cc pc = .ok (.ldiv, 1)) (hne : ¬ y = 0) (hv : x / y = v) (k : W p l e R s m args below meth c H locs cells slots Q (F0 m (pc + 1) ls (.long v :: rest))) : W p l e R s m args below meth c H locs cells slots Q (F0 m pc ls (.long y :: .long x :: rest)) := by subst hv; exact lv_ldiv hx hb hdg hne k
theorem kx_lrem (hx : p.tables.exec = Jvm.exec) (hb : c.code = cc) {x y v : Int64} (hdg : decode cc pc = .ok (.lrem, 1)) (hne : ¬ y = 0) (hv : x - x / y * y = v) (k : W p l e R s m args below meth c H locs cells slots Q (F0 m (pc + 1) ls (.long v :: rest))) : W p l e R s m args below meth c H locs cells slots Q (F0 m pc ls (.long y :: .long x :: rest)) := by subst hv; exact lv_lrem hx hb hdg hne k
theorem kx_lneg (hx : p.tables.exec = Jvm.exec) (hb : c.code = cc) {x v : Int64} (hdg : decode cc pc = .ok (.lneg, 1)) (hv : -x = v) (k : W p l e R s m args below meth c H locs cells slots Q (F0 m (pc + 1) ls (.long v :: rest))) : W p l e R s m args below meth c H locs cells slots Q (F0 m pc ls (.long x :: rest)) := by subst hv; exact lv_lneg hx hb hdg k
theorem kx_ishl (hx : p.tables.exec = Jvm.exec) (hb : c.code = cc) {x y v : Int32} (hdg : decode cc pc = .ok (.ishl, 1)) (hv : x <<< (y &&& 31) = v) (k : W p l e R s m args below meth c H locs cells slots Q (F0 m (pc + 1) ls (.int v :: rest))) : W p l e R s m args below meth c H locs cells slots Q (F0 m pc ls (.int y :: .int x :: rest)) := by subst hv; exact lv_ishl hx hb hdg k
theorem kx_ishr (hx : p.tables.exec = Jvm.exec) (hb : c.code = cc) {x y v : Int32} (hdg : decode cc pc = .ok (.ishr, 1)) (hv : x >>> (y &&& 31) = v) (k : W p l e R s m args below meth c H locs cells slots Q (F0 m (pc + 1) ls (.int v :: rest))) : W p l e R s m args below meth c H locs cells slots Q (F0 m pc ls (.int y :: .int x :: rest)) := by subst hv; exact lv_ishr hx hb hdg k
theorem kx_lcmp (hx : p.tables.exec = Jvm.exec) (hb : c.code = cc) {x y : Int64} {v : Int32} (hdg : decode cc pc = .ok (.lcmp, 1)) (hv : lg_cmp x y = v) (k : W p l e R s m args below meth c H locs cells slots Q (F0 m (pc + 1) ls (.int v :: rest))) : W p l e R s m args below meth c H locs cells slots Q (F0 m pc ls (.long y :: .long x :: rest)) := by subst hv; exact W.lcmp hx hb hdg k
/-! fields -/
theorem kx_get (E : kE p m c cc nL s args own D a A) (w : kW D A s ws H locs) {ci : Nat} {C : String} {T : u_T} {N : Nat} {ty : Nat → FieldType} (F : kCl ci C T N ty) (q0 : Nat) {x : Nat} {fs : List Value} (he : ws[q0]? = some (x, .inr (ci, fs))) (k : Nat) (hk : k < N) {index : Nat} (hl : Cond.fieldLink own index (T k).1 (T k).2.1 (T k).2.2.1 ∈ wA) {v : Value} (hv : fs[k]? = some v) (hdg : decode cc pc = .ok (.getfield index, 3))
    (kk : W p l e R s m args below meth c H locs cells slots Q (F0 m (pc + 3) ls (v :: rest))) : W p l e R s m args below meth c H locs cells slots Q (F0 m pc ls (.ref x :: rest)) :=
  va_get E.1.1 E.1.2.1 E.1.2.2.2.2 F.2.1 E.1.2.2.2.1 E.2.1.1 w.1 q0 he F.1 k hk (E.1.2.2.2.2 _ hl) (fun _ h => h) hv hdg kk
theorem kx_put (E : kE p m c cc nL s args own D a A) (w : kW D A s ws H locs) {ci : Nat} {C : String} {T : u_T} {N : Nat} {ty : Nat → FieldType} (F : kCl ci C T N ty) (q0 : Nat) {x : Nat} {fs : List Value} (he : ws[q0]? = some (x, .inr (ci, fs))) (k : Nat) (hk : k < N) {index : Nat} (hl : Cond.fieldLink own index (T k).1 (T k).2.1 (T k).2.2.1 ∈ wA) (hfin : (T k).2.2.2 = false) {v : Value} (hn : narrow (ty k) v = v) (hfit : fits (ty k) v = true) (hlen : k < fs.length) (hdg : decode cc pc = .ok (.putfield index, 3)) {ws' : va_W} (hws : ws.set q0 (x, .inr (ci, fs.set k v)) = ws')
    (kk : ∀ (H1 : Heap) (locs1 : List Loc), kW D A s ws' H1 locs1 → W p l e R s m args below meth c H1 locs1 cells slots Q (F0 m (pc + 3) ls rest)) : W p l e R s m args below meth c H locs cells slots Q (F0 m pc ls (v :: .ref x :: rest)) := by
  subst hws
  exact va_put E.1.1 E.1.2.1 E.1.2.2.2.2 F.2.1 ty F.2.2.1 F.2.2.2 E.1.2.2.2.1 E.2.1.1 w.1 w.2.1 w.2.2 q0 he F.1 k hk (E.1.2.2.2.2 _ hl) (fun _ h => h) hfin (F.2.2.1 k hk) hn hfit hlen hdg (fun H1 l1 hP hD hS => kk H1 l1 ⟨hP, hD, hS⟩)
theorem kx_putF (E : kE p m c cc nL s args own D a A) (w : kW D A s ws H locs) {ci : Nat} {C : String} {T : u_T} {N : Nat} {ty : Nat → FieldType} (F : kCl ci C T N ty) (hin2 : meth.name = "<init>") (q0 : Nat) {x : Nat} {fs : List Value} (he : ws[q0]? = some (x, .inr (ci, fs))) (k : Nat) (hk : k < N) {index : Nat} (hl : Cond.fieldLink own index (T k).1 (T k).2.1 (T k).2.2.1 ∈ wA) (hfin : (T k).2.2.2 = true) (hdecl : (T k).1 = own) {v : Value} (hn : narrow (ty k) v = v) (hfit : fits (ty k) v = true) (hlen : k < fs.length) (hdg : decode cc pc = .ok (.putfield index, 3)) {ws' : va_W} (hws : ws.set q0 (x, .inr (ci, fs.set k v)) = ws')
    (kk : ∀ (H1 : Heap) (locs1 : List Loc), kW D A s ws' H1 locs1 → W p l e R s m args below meth c H1 locs1 cells slots Q (F0 m (pc + 3) ls rest)) : W p l e R s m args below meth c H locs cells slots Q (F0 m pc ls (v :: .ref x :: rest)) := by
  subst hws
  exact va_putF E.1.1 E.1.2.1 E.1.2.2.2.2 F.2.1 ty F.2.2.1 F.2.2.2 E.1.2.2.2.1 E.2.1.1 w.1 w.2.1 w.2.2 q0 he F.1 k hk (E.1.2.2.2.2 _ hl) (fun _ h => h) hfin hin2 hdecl (F.2.2.1 k hk) hn hfit hlen hdg (fun H1 l1 hP hD hS => kk H1 l1 ⟨hP, hD, hS⟩)
/-! making -/
theorem kx_new (E : kE p m c cc nL s args own D a A) (w : kW D A s ws H locs) {ci : Nat} {C : String} {T : u_T} {N : Nat} {ty : Nat → FieldType} (F : kCl ci C T N ty) {index : Nat} (hcl : Cond.classLink own index C ∈ wA) (hinst : Cond.instantiable C N ∈ wA) (hini : Cond.initialized C ∈ wA) {fs : List Value} (hfs : ∀ j, j < N → defaultValue (ty j) = vp_V fs j) (hcells : cells + 1 ≤ R.cells) (hslots : slots + N ≤ R.slots) (hdg : decode cc pc = .ok (.new index, 3))
    (kk : ∀ (q : Nat) (H1 : Heap), kW D A s (ws ++ [(q, .inr (ci, fs))]) H1 locs → W p l e R s m args below meth c H1 locs (cells + 1) (slots + N) Q (F0 m (pc + 3) ls (.ref q :: rest))) : W p l e R s m args below meth c H locs cells slots Q (F0 m pc ls rest) :=
  va_new E.1.1 E.1.2.1 E.1.2.2.2.2 F.2.1 ty F.2.2.1 E.1.2.2.2.1 (E.1.2.2.2.2 _ hcl) (E.1.2.2.2.2 _ hinst) (E.1.2.2.2.2 _ hini) E.2.1.1 w.1 w.2.1 w.2.2 E.2.2.1 F.1 hfs hcells hslots hdg (fun q H1 hP hD hS => kk q H1 ⟨hP, hD, hS⟩)
theorem kx_newa (E : kE p m c cc nL s args own D a A) (w : kW D A s ws H locs) {atype : ArrayType} {ty : FieldType} (hty : newarray.typeOf atype = ty) (harr : Cond.arrayClass (newarray.typeOf atype) ∈ wA) (t0 : Nat) {cA : ClassId} (ht : (kT a)[t0]? = some (cA, ty)) {n : Int32} {N' : Nat} {a0 : vp_A} (ha : ∀ cA : ClassId, vp_cell cA a0 = arrV cA N' (fun _ => defaultValue ty)) (hn : ¬ n < 0) (hN : n.toNatClampNeg = N') (hbytes : N' * componentBytes ty ≤ 536870912) (hcells : cells + 1 ≤ R.cells) (hslots : slots + N' ≤ R.slots) (hdg : decode cc pc = .ok (.newarray atype, 2))
    (kk : ∀ (q : Nat) (H1 : Heap), kW D A s (ws ++ [(q, .inl (cA, a0))]) H1 locs → W p l e R s m args below meth c H1 locs (cells + 1) (slots + N') Q (F0 m (pc + 2) ls (.ref q :: rest))) : W p l e R s m args below meth c H locs cells slots Q (F0 m pc ls (.int n :: rest)) :=
  va_newa E.1.1 E.1.2.1 (E.1.2.2.2.2 _ harr) hty E.2.1.1 w.1 w.2.1 w.2.2 E.2.2.1 ha hn hN hbytes hcells hslots hdg (fun q c1 H1 hK hP hD hS => by
    have h1 : va_RA s c1 ty := (hK.2 6 (c1, ty) rfl).2
    have h2 : va_RA s cA ty := (E.2.1.1.2 t0 _ ht).2
    have e1 := kRA_inj h1 h2
    subst e1
    exact kk q H1 ⟨hP, hD, hS⟩)
/-- .. that nobody reads -/
theorem kx_newa0 (E : kE p m c cc nL s args own D a A) (w : kW D A s ws H locs) {atype : ArrayType} {ty : FieldType} (hty : newarray.typeOf atype = ty) (harr : Cond.arrayClass (newarray.typeOf atype) ∈ wA) {n : Int32} {N' : Nat} {a0 : vp_A} (ha : ∀ cA : ClassId, vp_cell cA a0 = arrV cA N' (fun _ => defaultValue ty)) (hn : ¬ n < 0) (hN : n.toNatClampNeg = N') (hbytes : N' * componentBytes ty ≤ 536870912) (hcells : cells + 1 ≤ R.cells) (hslots : slots + N' ≤ R.slots) (hdg : decode cc pc = .ok (.newarray atype, 2))
    (kk : ∀ (q : Nat) (H1 : Heap), kW D A s ws H1 locs → W p l e R s m args below meth c H1 locs (cells + 1) (slots + N') Q (F0 m (pc + 2) ls (.ref q :: rest))) : W p l e R s m args below meth c H locs cells slots Q (F0 m pc ls (.int n :: rest)) :=
  va_newa E.1.1 E.1.2.1 (E.1.2.2.2.2 _ harr) hty E.2.1.1 w.1 w.2.1 w.2.2 E.2.2.1 ha hn hN hbytes hcells hslots hdg (fun q c1 H1 hK hP hD hS => kk q H1 (kW_drop (x := [(q, .inl (c1, a0))]) ⟨hP, hD, hS⟩))
theorem kx_newq (E : kE p m c cc nL s args own D a A) (w : kW D A s ws H locs) {C : String} {index : Nat} (hcl : Cond.classLink own index C ∈ wA) (hover : va_AO C s) (t0 : Nat) {cA : ClassId} (ht : (kT a)[t0]? = some (cA, .object C)) {n : Int32} {N' : Nat} (hn : ¬ n < 0) (hN : n.toNatClampNeg = N') (hbytes : N' * 4 ≤ 536870912) (hcells : cells + 1 ≤ R.cells) (hslots : slots + N' ≤ R.slots) (hdg : decode cc pc = .ok (.anewarray index, 3))
    (kk : ∀ (q : Nat) (H1 : Heap), kW D A s (ws ++ [(q, .inl (cA, N', .inr (.inr (.inr (.inr (fun _ => none))))))]) H1 locs → W p l e R s m args below meth c H1 locs (cells + 1) (slots + N') Q (F0 m (pc + 3) ls (.ref q :: rest))) : W p l e R s m args below meth c H locs cells slots Q (F0 m pc ls (.int n :: rest)) :=
  va_newq E.1.1 E.1.2.1 E.1.2.2.2.1 (E.1.2.2.2.2 _ hcl) hover E.2.1.1 w.1 w.2.1 w.2.2 E.2.2.1 hn hN hbytes hcells hslots hdg (fun q c1 H1 hK hP hD hS => by
    have h1 : va_RA s c1 (.object C) := (hK.2 6 (c1, .object C) rfl).2
    have h2 : va_RA s cA (.object C) := (E.2.1.1.2 t0 _ ht).2
    have e1 := kRA_inj h1 h2
    subst e1
    exact kk q H1 ⟨hP, hD, hS⟩)
theorem kx_obj (E : kE p m c cc nL s args own D a A) (hl0 : ls.size = nL) {idx : Nat} (h1 : Cond.methodLink own idx Lib.objectInit ∈ wA) (h2 : Cond.instanceMethod Lib.objectInit ∈ wA) (h3 : Cond.code Lib.objectInit ⟨#[0xb1]⟩ 1 none ∈ wA) {x : Nat} (hdg : decode cc pc = .ok (.invokespecial idx, 3)) (hf : 1 ≤ R.frames) (hlo : 20 ≤ R.locals) (hr : (rest.map fun v => v.category).sum ≤ 8)
    (kk : W p l e R s m args below meth c H locs cells slots Q (F0 m (pc + 3) ls rest)) : W p l e R s m args below meth c H locs cells slots Q (F0 m pc ls (.ref x :: rest)) :=
  W.objInit E.1.1 E.1.2.1 E.1.2.2.2.1 (E.1.2.2.2.2 _ h1) (E.1.2.2.2.2 _ h2) (E.1.2.2.2.2 _ h3) rfl (hl0.trans E.1.2.2.1.symm) rfl hdg hf (by have := lv_room (m := m) (pc := pc) (ls := ls) (rest := .ref x :: rest) hr; omega) kk
/-! arrays -/
theorem kx_iald (E : kE p m c cc nL s args own D a A) (w : kW D A s ws H locs) (q0 : Nat) {x n : Nat} {f : Nat → Int32} (ha : ws[q0]? = some (x, .inl (a 0, n, .inl f))) {i : Int32} (hin : vp_in i n) {v : Int32} (hv : f i.toNatClampNeg = v) (hdg : decode cc pc = .ok (.iaload, 1)) (kk : W p l e R s m args below meth c H locs cells slots Q (F0 m (pc + 1) ls (.int v :: rest))) : W p l e R s m args below meth c H locs cells slots Q (F0 m pc ls (.int i :: .ref x :: rest)) := by
  subst hv; exact va_iald E.1.1 E.1.2.1 E.2.1.1 w.1 q0 0 ha rfl hin hdg kk
theorem kx_bald (E : kE p m c cc nL s args own D a A) (w : kW D A s ws H locs) (q0 : Nat) {x n : Nat} {f : Nat → Int32} (ha : ws[q0]? = some (x, .inl (a 2, n, .inl f))) {i : Int32} (hin : vp_in i n) {v : Int32} (hv : f i.toNatClampNeg = v) (hdg : decode cc pc = .ok (.baload, 1)) (kk : W p l e R s m args below meth c H locs cells slots Q (F0 m (pc + 1) ls (.int v :: rest))) : W p l e R s m args below meth c H locs cells slots Q (F0 m pc ls (.int i :: .ref x :: rest)) := by
  subst hv; exact va_bald E.1.1 E.1.2.1 E.2.1.1 w.1 q0 2 ha rfl hin hdg kk
theorem kx_zald (E : kE p m c cc nL s args own D a A) (w : kW D A s ws H locs) (q0 : Nat) {x n : Nat} {f : Nat → Int32} (ha : ws[q0]? = some (x, .inl (a 3, n, .inl f))) {i : Int32} (hin : vp_in i n) {v : Int32} (hv : f i.toNatClampNeg = v) (hdg : decode cc pc = .ok (.baload, 1)) (kk : W p l e R s m args below meth c H locs cells slots Q (F0 m (pc + 1) ls (.int v :: rest))) : W p l e R s m args below meth c H locs cells slots Q (F0 m pc ls (.int i :: .ref x :: rest)) := by
  subst hv; exact va_zald E.1.1 E.1.2.1 E.2.1.1 w.1 q0 3 ha rfl hin hdg kk
theorem kx_lald (E : kE p m c cc nL s args own D a A) (w : kW D A s ws H locs) (q0 : Nat) {x n : Nat} {f : Nat → Int64} (ha : ws[q0]? = some (x, .inl (a 1, n, .inr (.inl f)))) {i : Int32} (hin : vp_in i n) {v : Int64} (hv : f i.toNatClampNeg = v) (hdg : decode cc pc = .ok (.laload, 1)) (kk : W p l e R s m args below meth c H locs cells slots Q (F0 m (pc + 1) ls (.long v :: rest))) : W p l e R s m args below meth c H locs cells slots Q (F0 m pc ls (.int i :: .ref x :: rest)) := by
  subst hv; exact va_lald E.1.1 E.1.2.1 E.2.1.1 w.1 q0 1 ha rfl hin hdg kk
theorem kx_iast (E : kE p m c cc nL s args own D a A) (w : kW D A s ws H locs) (q0 : Nat) {x n : Nat} {f : Nat → Int32} (ha : ws[q0]? = some (x, .inl (a 0, n, .inl f))) {i z : Int32} (hin : vp_in i n) (k : Nat) (hk : i.toNatClampNeg = k) (hdg : decode cc pc = .ok (.iastore, 1)) {ws' : va_W} (hws : ws.set q0 (x, .inl (a 0, n, .inl (upd f k z))) = ws')
    (kk : ∀ (H1 : Heap) (locs1 : List Loc), kW D A s ws' H1 locs1 → W p l e R s m args below meth c H1 locs1 cells slots Q (F0 m (pc + 1) ls rest)) : W p l e R s m args below meth c H locs cells slots Q (F0 m pc ls (.int z :: .int i :: .ref x :: rest)) := by
  subst hk; subst hws; exact va_iast E.1.1 E.1.2.1 E.2.1.1 w.1 w.2.1 w.2.2 q0 0 ha rfl hin hdg (fun H1 l1 hP hD hS => kk H1 l1 ⟨hP, hD, hS⟩)
theorem kx_bast (E : kE p m c cc nL s args own D a A) (w : kW D A s ws H locs) (q0 : Nat) {x n : Nat} {f : Nat → Int32} (ha : ws[q0]? = some (x, .inl (a 2, n, .inl f))) {i z z' : Int32} (hin : vp_in i n) (k : Nat) (hk : i.toNatClampNeg = k) (hz : vp_nar .byte z = z') (hdg : decode cc pc = .ok (.bastore, 1)) {ws' : va_W} (hws : ws.set q0 (x, .inl (a 2, n, .inl (upd f k z'))) = ws')
    (kk : ∀ (H1 : Heap) (locs1 : List Loc), kW D A s ws' H1 locs1 → W p l e R s m args below meth c H1 locs1 cells slots Q (F0 m (pc + 1) ls rest)) : W p l e R s m args below meth c H locs cells slots Q (F0 m pc ls (.int z :: .int i :: .ref x :: rest)) := by
  subst hk; subst hz; subst hws; exact va_bast E.1.1 E.1.2.1 E.2.1.1 w.1 w.2.1 w.2.2 q0 2 ha rfl hin hdg (fun H1 l1 hP hD hS => kk H1 l1 ⟨hP, hD, hS⟩)
theorem kx_zast (E : kE p m c cc nL s args own D a A) (w : kW D A s ws H locs) (q0 : Nat) {x n : Nat} {f : Nat → Int32} (ha : ws[q0]? = some (x, .inl (a 3, n, .inl f))) {i z z' : Int32} (hin : vp_in i n) (k : Nat) (hk : i.toNatClampNeg = k) (hz : vp_nar .boolean z = z') (hdg : decode cc pc = .ok (.bastore, 1)) {ws' : va_W} (hws : ws.set q0 (x, .inl (a 3, n, .inl (upd f k z'))) = ws')
    (kk : ∀ (H1 : Heap) (locs1 : List Loc), kW D A s ws' H1 locs1 → W p l e R s m args below meth c H1 locs1 cells slots Q (F0 m (pc + 1) ls rest)) : W p l e R s m args below meth c H locs cells slots Q (F0 m pc ls (.int z :: .int i :: .ref x :: rest)) := by
  subst hk; subst hz; subst hws; exact va_zast E.1.1 E.1.2.1 E.2.1.1 w.1 w.2.1 w.2.2 q0 3 ha rfl hin hdg (fun H1 l1 hP hD hS => kk H1 l1 ⟨hP, hD, hS⟩)
theorem kx_last (E : kE p m c cc nL s args own D a A) (w : kW D A s ws H locs) (q0 : Nat) {x n : Nat} {f : Nat → Int64} (ha : ws[q0]? = some (x, .inl (a 1, n, .inr (.inl f)))) {i : Int32} {z : Int64} (hin : vp_in i n) (k : Nat) (hk : i.toNatClampNeg = k) (hdg : decode cc pc = .ok (.lastore, 1)) {ws' : va_W} (hws : ws.set q0 (x, .inl (a 1, n, .inr (.inl (vp_updL f k z)))) = ws')
    (kk : ∀ (H1 : Heap) (locs1 : List Loc), kW D A s ws' H1 locs1 → W p l e R s m args below meth c H1 locs1 cells slots Q (F0 m (pc + 1) ls rest)) : W p l e R s m args below meth c H locs cells slots Q (F0 m pc ls (.long z :: .int i :: .ref x :: rest)) := by
  subst hk; subst hws; exact va_last E.1.1 E.1.2.1 E.2.1.1 w.1 w.2.1 w.2.2 q0 1 ha rfl hin hdg (fun H1 l1 hP hD hS => kk H1 l1 ⟨hP, hD, hS⟩)
theorem kx_alen (E : kE p m c cc nL s args own D a A) (w : kW D A s ws H locs) (q0 t0 : Nat) {x : Nat} {cA : ClassId} {ar : vp_A} (ha : ws[q0]? = some (x, .inl (cA, ar))) {ty : FieldType} (ht : (kT a)[t0]? = some (cA, ty)) {v : Int32} (hv : Int32.ofNat ar.1 = v) (hdg : decode cc pc = .ok (.arraylength, 1)) (kk : W p l e R s m args below meth c H locs cells slots Q (F0 m (pc + 1) ls (.int v :: rest))) : W p l e R s m args below meth c H locs cells slots Q (F0 m pc ls (.ref x :: rest)) :=
  va_alen E.1.1 E.1.2.1 E.2.1.1 w.1 q0 t0 ha ht hv hdg kk
theorem kx_aald (E : kE p m c cc nL s args own D a A) (w : kW D A s ws H locs) (q0 t0 : Nat) {x n : Nat} {cA : ClassId} {C : String} {f : Nat → Option Nat} (ha : ws[q0]? = some (x, .inl (cA, n, .inr (.inr (.inr (.inr f)))))) (ht : (kT a)[t0]? = some (cA, .object C)) {i : Int32} (hin : vp_in i n) {y : Nat} (hv : f i.toNatClampNeg = some y) (hdg : decode cc pc = .ok (.aaload, 1)) (kk : W p l e R s m args below meth c H locs cells slots Q (F0 m (pc + 1) ls (.ref y :: rest))) : W p l e R s m args below meth c H locs cells slots Q (F0 m pc ls (.int i :: .ref x :: rest)) :=
  va_aldq E.1.1 E.1.2.1 E.2.1.1 w.1 q0 t0 ha ht hin hdg (by rw [hv]; exact kk)
theorem kx_aast (E : kE p m c cc nL s args own D a A) (w : kW D A s ws H locs) (q0 t0 qk ci : Nat) {x n : Nat} {cA : ClassId} {r : vw_C} {v : Nat} {vs : List Value} {f : Nat → Option Nat} (ha : ws[q0]? = some (x, .inl (cA, n, .inr (.inr (.inr (.inr f)))))) (ht : (kT a)[t0]? = some (cA, .object r.1)) (hv : ws[qk]? = some (v, .inr (ci, vs))) (hc : zCl[ci]? = some r) {i : Int32} (hin : vp_in i n) (k : Nat) (hk : i.toNatClampNeg = k) (hdg : decode cc pc = .ok (.aastore, 1)) {ws' : va_W} (hws : ws.set q0 (x, .inl (cA, n, .inr (.inr (.inr (.inr (va_up f k (some v))))))) = ws')
    (kk : ∀ (H1 : Heap) (locs1 : List Loc), kW D A s ws' H1 locs1 → W p l e R s m args below meth c H1 locs1 cells slots Q (F0 m (pc + 1) ls rest)) : W p l e R s m args below meth c H locs cells slots Q (F0 m pc ls (.ref v :: .int i :: .ref x :: rest)) := by
  subst hk; subst hws; exact va_astq E.1.1 E.1.2.1 E.2.1.1 w.1 w.2.1 w.2.2 q0 t0 qk ci ha ht hv hc hin hdg (fun H1 l1 hP hD hS => kk H1 l1 ⟨hP, hD, hS⟩)
end KX
theorem kx_inc (i : Nat) : nI i + Int32.ofInt 1 = nI (i + 1) := nI_1 i
theorem kx_0add (x : Int32) : 0 + x = x := Int32.zero_add x
end
section
/-! own rows: a method's contract begun, ended, used -/
def kCI (own : String) (index : Nat) (y : MethodName) (bytes : ByteArray) (maxL : Nat) (ret : Option FieldType) (n : Nat) : Prop :=
  Cond.code y bytes maxL ret ∈ wA ∧ Cond.initialized y.cls ∈ wA ∧ Cond.methodLink own index y ∈ wA ∧ (y.cls ≠ "java/lang/invoke/MethodHandle" ∧ y.cls ≠ "java/lang/invoke/VarHandle" ∧ (parseMethodDescriptor y.desc).map (fun d => d.parameters.length) = some n)
def kI (y : MethodName) : Prop := y.name = "<init>" ∧ Cond.instanceMethod y ∈ wA
def kV (C : String) (y : MethodName) : Prop := Cond.instanceMethod y ∈ wA ∧ Cond.selects C y y ∈ wA
def kS (y : MethodName) : Prop := Cond.static y ∈ wA
def kNd (isC isR : List Nat) : Prop := va_nd isC = true ∧ va_nd isR = true ∧ ∀ i ∈ isR, i ∉ isC
section KM
variable {p : Program} {l : Launch} {e : Env} {R : Room} {s : State} {m : MethodId} {args : Array Value} {below : List Frame} {meth : Method} {c : Code} {H : Heap} {locs : List Loc} {cells slots : Nat} {Q : State → Prop}
variable {cc : ByteArray} {pc : Nat} {ls : Array Slot} {rest st0 : List Value} {D : va_G} {a : Nat → ClassId} {A : Nat → Prop} {nL : Nat} {own : String} {ws : va_W}
variable {y : MethodName} {bytes : ByteArray} {maxL mc ms n index : Nat} {ret : Option FieldType} {rm : Room} {wc wr : va_W}
theorem kCI.b (E : kE p m c cc nL s args own D a A) (h : kCI own index y bytes maxL ret n) (hrc : rm.cells = mc) (hrs : rm.slots = ms) (hR : rm.frames + 1 ≤ R.frames ∧ 8 + (maxL + 11) + rm.locals ≤ R.locals) : CallB R s args own index y bytes maxL ret (Cond.code y bytes maxL ret :: wA) rm mc ms n :=
  callB_of n E.1.2.2.2.2 (wA_GI h.1) rfl hrc hrs (E.1.2.2.2.2 _ h.2.1) (E.1.2.2.2.2 _ h.2.2.1) h.2.2.2 hR
theorem kPc (E : kE p m c cc nL s args own D a A) (w : kW D A s ws H locs) {av : List Value} (isC : List Nat) (hC : isC.map (fun i => ws[i]?) = wc.map some) (hn : va_nd isC = true) : ∀ U : State, U.heap = H → s.WarmedH U.vm → va_Pc av (kP D a wc H.size) av.toArray U := fun U hU hW =>
  ⟨rfl, by rw [hU], by rw [hU]; exact fun k q hk => by obtain ⟨i, _, hi⟩ := va_in_of isC hC hk; exact w.1 i q hi, kK.moved hW.alike E.2.1, (w.2.1.sub isC hn hC).weaken (fun _ _ _ _ => trivial), by rw [hU]; exact ((E.2.2.2.kept w.2.2.2.1).moved hW.alike).narrow (va_free (wc := wc) w.2.1 w.2.2 E.2.2.1 isC hC)⟩
theorem kRecv (E : kE p m c cc nL s args own D a A) (w : kW D A s ws H locs) (ci q0 : Nat) {r : vw_C} {x : Nat} {fs : List Value} (hc : zCl[ci]? = some r) (he : ws[q0]? = some (x, .inr (ci, fs))) : ∃ cell : Cell, H[x]? = some cell ∧ cell.vm.isStatics = false ∧ s.vm.findClass r.1 = some cell.cls := va_recv E.2.1.1 w.1 hc he
/-! the call runs -/
theorem kx_rI (E : kE p m c cc nL s args own D a A) (w : kW D A s ws H locs) (hl0 : ls.size = nL) {b : Nat} {As : List Value} {Qc : Array Value → State → Outcome → State → Prop}
    (hM : Met l y (Cond.code y bytes maxL none :: wA) rm (va_Pc (.ref b :: As) (kP D a wc H.size)) Qc mc ms (va_A wc H.size)) (g1 : kCI own index y bytes maxL none n) (g2 : kI y) (isC : List Nat) (hC : isC.map (fun i => ws[i]?) = wc.map some) (hnd : va_nd isC = true) (hn : As.length = n) (hrc : rm.cells = mc) (hrs : rm.slots = ms) (hR : rm.frames + 1 ≤ R.frames ∧ 8 + (maxL + 11) + rm.locals ≤ R.locals) (hst : st0 = As.reverse ++ .ref b :: rest) (hro : (rest.map fun v => v.category).sum ≤ 8) (hdg : decode cc pc = .ok (.invokespecial index, 3)) (hf : cells + mc ≤ R.cells ∧ slots + ms ≤ R.slots) :
    va_Run p l e R s m args below meth c H locs cells slots mc ms (F0 m pc ls st0) rest (Qc (Value.ref b :: As).toArray) (va_A wc H.size) :=
  va_runI (As := As) (rest := rest) E.1 hM ⟨g1.b E hrc hrs hR, g2.1, E.1.2.2.2.2 _ g2.2⟩ ⟨kP_blind, kPc E w isC hC hnd⟩ rfl hn hl0 hst (lv_room hro) hdg hf
theorem kx_rV (E : kE p m c cc nL s args own D a A) (w : kW D A s ws H locs) (hl0 : ls.size = nL) {b : Nat} {As : List Value} {Qc : Array Value → State → Outcome → State → Prop}
    (hM : Met l y (Cond.code y bytes maxL ret :: wA) rm (va_Pc (.ref b :: As) (kP D a wc H.size)) Qc mc ms (va_A wc H.size)) {C : String} (g1 : kCI own index y bytes maxL ret n) (g2 : kV C y) (hre : ∃ cell : Cell, H[b]? = some cell ∧ cell.vm.isStatics = false ∧ s.vm.findClass C = some cell.cls) (isC : List Nat) (hC : isC.map (fun i => ws[i]?) = wc.map some) (hnd : va_nd isC = true) (hn : As.length = n) (hrc : rm.cells = mc) (hrs : rm.slots = ms) (hR : rm.frames + 1 ≤ R.frames ∧ 8 + (maxL + 11) + rm.locals ≤ R.locals) (hst : st0 = As.reverse ++ .ref b :: rest) (hro : (rest.map fun v => v.category).sum ≤ 8) (hdg : decode cc pc = .ok (.invokevirtual index, 3)) (hf : cells + mc ≤ R.cells ∧ slots + ms ≤ R.slots) :
    va_Run p l e R s m args below meth c H locs cells slots mc ms (F0 m pc ls st0) rest (Qc (Value.ref b :: As).toArray) (va_A wc H.size) :=
  va_runV (As := As) (rest := rest) E.1 hM ⟨g1.b E hrc hrs hR, E.1.2.2.2.2 _ g2.1, E.1.2.2.2.2 _ g2.2⟩ ⟨kP_blind, hre, kPc E w isC hC hnd⟩ rfl hn hl0 hst (lv_room hro) hdg hf
theorem kx_rS (E : kE p m c cc nL s args own D a A) (w : kW D A s ws H locs) (hl0 : ls.size = nL) {As : List Value} {Qc : Array Value → State → Outcome → State → Prop}
    (hM : Met l y (Cond.code y bytes maxL ret :: wA) rm (va_Pc As (kP D a wc H.size)) Qc mc ms (va_A wc H.size)) (g1 : kCI own index y bytes maxL ret n) (g2 : kS y) (isC : List Nat) (hC : isC.map (fun i => ws[i]?) = wc.map some) (hnd : va_nd isC = true) (hn : As.length = n) (hrc : rm.cells = mc) (hrs : rm.slots = ms) (hR : rm.frames + 1 ≤ R.frames ∧ 8 + (maxL + 11) + rm.locals ≤ R.locals) (hst : st0 = As.reverse ++ rest) (hro : (rest.map fun v => v.category).sum ≤ 8) (hdg : decode cc pc = .ok (.invokestatic index, 3)) (hf : cells + mc ≤ R.cells ∧ slots + ms ≤ R.slots) :
    va_Run p l e R s m args below meth c H locs cells slots mc ms (F0 m pc ls st0) rest (Qc As.toArray) (va_A wc H.size) :=
  va_runS (As := As) (rest := rest) E.1 hM ⟨g1.b E hrc hrs hR, E.1.2.2.2.2 _ g2⟩ ⟨kP_blind, kPc E w isC hC hnd⟩ rfl hn hl0 hst (lv_room hro) hdg hf
/-! behind it -/
theorem kx_v (E : kE p m c cc nL s args own D a A) (w : kW D A s ws H locs) {av : Array Value} {post : va_W → Prop} (isC isR : List Nat) (hC : isC.map (fun i => ws[i]?) = wc.map some) (hR : isR.map (fun i => ws[i]?) = wr.map some) (hnd : kNd isC isR)
    (hr : va_Run p l e R s m args below meth c H locs cells slots mc ms (F0 m pc ls st0) rest (va_Qv post (kB D a (va_A wc H.size)) (va_A wc H.size) av) (va_A wc H.size))
    (kk : ∀ (u : va_W) (H1 : Heap) (locs1 : List Loc), post u → kW D A s (wr ++ u) H1 locs1 → W p l e R s m args below meth c H1 locs1 (cells + mc) (slots + ms) Q (F0 m (pc + 3) ls rest)) : W p l e R s m args below meth c H locs cells slots Q (F0 m pc ls st0) := by
  have hFc := va_free (wc := wc) w.2.1 w.2.2 E.2.2.1 isC hC
  refine va_callv hr w.2.2 (fun q _ h => hFc q h) hFc (fun u t H1 locs1 ht hvm hw hB hz1 hk1 hS => ?_)
  obtain ⟨hP1, hK1, hD1⟩ := hB
  rw [ht] at hP1
  obtain ⟨hP', hD'⟩ := va_join (wr := wr) (w1 := u) w.1 w.2.1 isC isR hC hR hnd.2.1 hnd.2.2 hk1 hFc hP1 hD1
  exact kk u H1 locs1 hw ⟨hP', hD', hS⟩
theorem kx_i (E : kE p m c cc nL s args own D a A) (w : kW D A s ws H locs) {av : Array Value} {post : Int32 → va_W → Prop} (isC isR : List Nat) (hC : isC.map (fun i => ws[i]?) = wc.map some) (hR : isR.map (fun i => ws[i]?) = wr.map some) (hnd : kNd isC isR)
    (hr : va_Run p l e R s m args below meth c H locs cells slots mc ms (F0 m pc ls st0) rest (va_Qi post (kB D a (va_A wc H.size)) (va_A wc H.size) av) (va_A wc H.size))
    (kk : ∀ (r : Int32) (u : va_W) (H1 : Heap) (locs1 : List Loc), post r u → kW D A s (wr ++ u) H1 locs1 → W p l e R s m args below meth c H1 locs1 (cells + mc) (slots + ms) Q (F0 m (pc + 3) ls (.int r :: rest))) : W p l e R s m args below meth c H locs cells slots Q (F0 m pc ls st0) := by
  have hFc := va_free (wc := wc) w.2.1 w.2.2 E.2.2.1 isC hC
  refine va_calli hr w.2.2 (fun q _ h => hFc q h) hFc (fun r u t H1 locs1 ht hvm hw hB hz1 hk1 hS => ?_)
  obtain ⟨hP1, hK1, hD1⟩ := hB
  rw [ht] at hP1
  obtain ⟨hP', hD'⟩ := va_join (wr := wr) (w1 := u) w.1 w.2.1 isC isR hC hR hnd.2.1 hnd.2.2 hk1 hFc hP1 hD1
  exact kk r u H1 locs1 hw ⟨hP', hD', hS⟩
theorem kx_l (E : kE p m c cc nL s args own D a A) (w : kW D A s ws H locs) {av : Array Value} {post : Int64 → va_W → Prop} (isC isR : List Nat) (hC : isC.map (fun i => ws[i]?) = wc.map some) (hR : isR.map (fun i => ws[i]?) = wr.map some) (hnd : kNd isC isR)
    (hr : va_Run p l e R s m args below meth c H locs cells slots mc ms (F0 m pc ls st0) rest (va_Ql post (kB D a (va_A wc H.size)) (va_A wc H.size) av) (va_A wc H.size))
    (kk : ∀ (r : Int64) (u : va_W) (H1 : Heap) (locs1 : List Loc), post r u → kW D A s (wr ++ u) H1 locs1 → W p l e R s m args below meth c H1 locs1 (cells + mc) (slots + ms) Q (F0 m (pc + 3) ls (.long r :: rest))) : W p l e R s m args below meth c H locs cells slots Q (F0 m pc ls st0) := by
  have hFc := va_free (wc := wc) w.2.1 w.2.2 E.2.2.1 isC hC
  refine va_calll hr w.2.2 (fun q _ h => hFc q h) hFc (fun r u t H1 locs1 ht hvm hw hB hz1 hk1 hS => ?_)
  obtain ⟨hP1, hK1, hD1⟩ := hB
  rw [ht] at hP1
  obtain ⟨hP', hD'⟩ := va_join (wr := wr) (w1 := u) w.1 w.2.1 isC isR hC hR hnd.2.1 hnd.2.2 hk1 hFc hP1 hD1
  exact kk r u H1 locs1 hw ⟨hP', hD', hS⟩
/-- an answer that is a cell: post has its address -/
theorem kx_r (E : kE p m c cc nL s args own D a A) (w : kW D A s ws H locs) {av : Array Value} {post : Nat → va_W → Prop} (isC isR : List Nat) (hC : isC.map (fun i => ws[i]?) = wc.map some) (hR : isR.map (fun i => ws[i]?) = wr.map some) (hnd : kNd isC isR)
    (hr : va_Run p l e R s m args below meth c H locs cells slots mc ms (F0 m pc ls st0) rest (va_Qr (fun u : Nat × va_W => post u.1 u.2) (fun u x t => u.1 = x ∧ kB D a (va_A wc H.size) u.2 t) (va_A wc H.size) av) (va_A wc H.size))
    (kk : ∀ (r : Nat) (u : va_W) (H1 : Heap) (locs1 : List Loc), post r u → kW D A s (wr ++ u) H1 locs1 → W p l e R s m args below meth c H1 locs1 (cells + mc) (slots + ms) Q (F0 m (pc + 3) ls (.ref r :: rest))) : W p l e R s m args below meth c H locs cells slots Q (F0 m pc ls st0) := by
  have hFc := va_free (wc := wc) w.2.1 w.2.2 E.2.2.1 isC hC
  refine va_callr hr w.2.2 (fun q _ h => hFc q h) hFc (fun u ra t H1 locs1 ht hvm hw hB hz1 hk1 hS => ?_)
  obtain ⟨e0, hP1, hK1, hD1⟩ := hB
  subst e0
  rw [ht] at hP1
  obtain ⟨hP', hD'⟩ := va_join (wr := wr) (w1 := u.2) w.1 w.2.1 isC isR hC hR hnd.2.1 hnd.2.2 hk1 hFc hP1 hD1
  exact kk u.1 u.2 H1 locs1 hw ⟨hP', hD', hS⟩
/-! a contract's beginning -/
theorem kM {w0 : va_W} {av : List Value} {Qc : (Nat → Prop) → Array Value → State → Outcome → State → Prop} (hy : plainName y.cls = true) (hlen : (lg_sl av).length ≤ maxL)
    (body : ∀ (p : Program) (e : Env) (s : State) (m : MethodId) (below : List Frame) (meth : Method) (c : Code) (A : Nat → Prop) (ls : Array Slot) (H : Heap) (locs : List Loc), kE p m c cc maxL s av.toArray y.cls D a A → meth.sig.returnType = ret → meth.locks = false → meth.name = y.name → kW D A s w0 H locs → lv_has ls maxL (lv_args 0 av) →
      W p l e rm s m av.toArray below meth c H locs 0 0 (MQ below (Qc A) av.toArray s mc ms A) (F0 m 0 ls [])) :
    ∀ sz : Nat, Met l y (Cond.code y cc maxL ret :: wA) rm (va_Pc av (kP D a w0 sz)) (Qc (va_A w0 sz)) mc ms (va_A w0 sz) := by
  intro sz
  refine Met.ofW (cc := cc) (maxL := maxL) (ret := ret) hy rfl ?_
  intro p e s m args below meth c s₁ B hml hv
  obtain ⟨rfl, hsz, hP, hK, hD0, hZ0⟩ := hv
  subst hsz
  have hts := atoms_spec (ws := Cond.code y cc maxL ret :: wA) B.pre
  have hl := lv_entry av (n := maxL) hlen
  rw [lg_entry_eq]
  exact body p e s m below meth c (va_A w0 s.heap.size) _ s.heap [] ⟨⟨B.exec, B.bytes, hml, findClass_of_methodNamed B.named, fun w hw => hts w (List.mem_cons_of_mem _ hw)⟩, hK, fun q h => Or.inr h, hZ0⟩ B.returns B.notSynchronized (name_of_methodNamed B.named B.method).1 ⟨hP, hD0.self (sz := s.heap.size), va_S.rf⟩ hl
/-! a contract's end -/
theorem kx_vret (E : kE p m c cc nL s args own D a A) (w : kW D A s ws H locs) (hr : meth.sig.returnType = none) (hlk : meth.locks = false) {post : va_W → Prop} (hdg : decode cc pc = .ok (.return_, 1)) (hp : post ws) : W p l e R s m args below meth c H locs cells slots (MQ below (va_Qv post (kB D a A) A) args s cells slots A) (F0 m pc ls []) :=
  W.vret E.1.1 E.1.2.1 hr (fun t ht hW => ⟨⟨ws, rfl, hp, by rw [ht]; exact w.1, kK.moved hW.alike E.2.1, w.2.1⟩, w.2.2.F ht⟩) w.2.2.2.2 hdg hlk
theorem kx_iret (E : kE p m c cc nL s args own D a A) (w : kW D A s ws H locs) (hr : meth.sig.returnType = some .int) (hlk : meth.locks = false) {post : Int32 → va_W → Prop} (hdg : decode cc pc = .ok (.ireturn, 1)) {v : Int32} (hp : post v ws) : W p l e R s m args below meth c H locs cells slots (MQ below (va_Qi post (kB D a A) A) args s cells slots A) (F0 m pc ls [.int v]) :=
  W.iret E.1.1 E.1.2.1 hr (fun t ht hW => ⟨⟨v, ws, rfl, hp, by rw [ht]; exact w.1, kK.moved hW.alike E.2.1, w.2.1⟩, w.2.2.F ht⟩) w.2.2.2.2 hdg hlk
theorem kx_zret (E : kE p m c cc nL s args own D a A) (w : kW D A s ws H locs) (hr : meth.sig.returnType = some .boolean) (hlk : meth.locks = false) {post : Int32 → va_W → Prop} (hdg : decode cc pc = .ok (.ireturn, 1)) {v : Int32} (hn : narrow .boolean (.int v) = .int v) (hp : post v ws) : W p l e R s m args below meth c H locs cells slots (MQ below (va_Qi post (kB D a A) A) args s cells slots A) (F0 m pc ls [.int v]) :=
  W.zret E.1.1 E.1.2.1 hr hn (fun t ht hW => ⟨⟨v, ws, rfl, hp, by rw [ht]; exact w.1, kK.moved hW.alike E.2.1, w.2.1⟩, w.2.2.F ht⟩) w.2.2.2.2 hdg hlk
theorem kx_lret (E : kE p m c cc nL s args own D a A) (w : kW D A s ws H locs) (hr : meth.sig.returnType = some .long) (hlk : meth.locks = false) {post : Int64 → va_W → Prop} (hdg : decode cc pc = .ok (.lreturn, 1)) {v : Int64} (hp : post v ws) : W p l e R s m args below meth c H locs cells slots (MQ below (va_Ql post (kB D a A) A) args s cells slots A) (F0 m pc ls [.long v]) :=
  W.lret E.1.1 E.1.2.1 hr (fun t ht hW => ⟨⟨v, ws, rfl, hp, by rw [ht]; exact w.1, kK.moved hW.alike E.2.1, w.2.1⟩, w.2.2.F ht⟩) w.2.2.2.2 hdg hlk
theorem kx_aret (E : kE p m c cc nL s args own D a A) (w : kW D A s ws H locs) {C : String} (hr : meth.sig.returnType = some (.object C)) (hlk : meth.locks = false) {post : Nat → va_W → Prop} (hdg : decode cc pc = .ok (.areturn, 1)) {v : Nat} (hp : post v ws) : W p l e R s m args below meth c H locs cells slots (MQ below (va_Qr (fun u : Nat × va_W => post u.1 u.2) (fun u x t => u.1 = x ∧ kB D a A u.2 t) A) args s cells slots A) (F0 m pc ls [.ref v]) :=
  W.aret E.1.1 E.1.2.1 hr (Or.inl ⟨_, rfl⟩) (Or.inr ⟨_, rfl⟩) (fun t ht hW => ⟨⟨(v, ws), v, rfl, hp, rfl, by rw [ht]; exact w.1, kK.moved hW.alike E.2.1, w.2.1⟩, w.2.2.F ht⟩) w.2.2.2.2 hdg hlk
end KM
section KJ
variable {p : Program} {l : Launch} {e : Env} {R : Room} {s : State} {m : MethodId} {args : Array Value} {below : List Frame} {meth : Method} {c : Code} {H : Heap} {locs : List Loc} {cells slots : Nat} {Q : State → Prop}
variable {cc : ByteArray} {pc : Nat} {ls : Array Slot} {rest : List Value} {D : va_G} {a : Nat → ClassId} {A : Nat → Prop} {nL : Nat} {own : String} {ws : va_W}
theorem kx_mmin (E : kE p m c cc nL s args own D a A) (hl0 : ls.size = nL) {index : Nat} {x y v : Int32} (h1 : Cond.methodLink own index Lib.Math.min.name ∈ wA) (h2 : Cond.static Lib.Math.min.name ∈ wA) (h3 : Cond.initialized "java/lang/Math" ∈ wA) (h4 : Cond.code Lib.Math.min.name Lib.Math.min.code 2 (some .int) ∈ wA) (hf : 1 ≤ R.frames) (hlo : (rest.map fun v => v.category).sum + 13 ≤ R.locals) (hc : cells ≤ R.cells ∧ slots ≤ R.slots) (hdg : decode cc pc = .ok (.invokestatic index, 3)) (hv : (if y < x then y else x) = v)
    (kk : W p l e R s m args below meth c H locs cells slots Q (F0 m (pc + 3) ls (.int v :: rest))) : W p l e R s m args below meth c H locs cells slots Q (F0 m pc ls (.int y :: .int x :: rest)) := by
  subst hv; exact va_mmin E.1.1 E.1.2.1 (E.1.2.2.1.trans hl0.symm) E.1.2.2.2.1 (E.1.2.2.2.2 _ h1) (E.1.2.2.2.2 _ h2) (E.1.2.2.2.2 _ h3) (E.1.2.2.2.2 _ h4) hf hlo hc.1 hc.2 hdg kk
theorem kx_mmax (E : kE p m c cc nL s args own D a A) (hl0 : ls.size = nL) {index : Nat} {x y v : Int32} (h1 : Cond.methodLink own index Lib.Math.max.name ∈ wA) (h2 : Cond.static Lib.Math.max.name ∈ wA) (h3 : Cond.initialized "java/lang/Math" ∈ wA) (h4 : Cond.code Lib.Math.max.name Lib.Math.max.code 2 (some .int) ∈ wA) (hf : 1 ≤ R.frames) (hlo : (rest.map fun v => v.category).sum + 13 ≤ R.locals) (hc : cells ≤ R.cells ∧ slots ≤ R.slots) (hdg : decode cc pc = .ok (.invokestatic index, 3)) (hv : (if x < y then y else x) = v)
    (kk : W p l e R s m args below meth c H locs cells slots Q (F0 m (pc + 3) ls (.int v :: rest))) : W p l e R s m args below meth c H locs cells slots Q (F0 m pc ls (.int y :: .int x :: rest)) := by
  subst hv; exact va_mmax E.1.1 E.1.2.1 (E.1.2.2.1.trans hl0.symm) E.1.2.2.2.1 (E.1.2.2.2.2 _ h1) (E.1.2.2.2.2 _ h2) (E.1.2.2.2.2 _ h3) (E.1.2.2.2.2 _ h4) hf hlo hc.1 hc.2 hdg kk
end KJ
section KY
variable {p : Program} {l : Launch} {e : Env} {R : Room} {s : State} {m : MethodId} {args : Array Value} {below : List Frame} {meth : Method} {c : Code} {H : Heap} {locs : List Loc} {cells slots : Nat} {Q : State → Prop}
variable {cc : ByteArray} {pc : Nat} {ls : Array Slot} {rest : List Value} {D : va_G} {a : Nat → ClassId} {A : Nat → Prop} {nL : Nat} {own : String} {ws : va_W}
/-- System.arraycopy of no ints -/
theorem kx_copy0 (E : kE p m c cc nL s args own D a A) (w : kW D A s ws H locs) (hl0 : ls.size = nL) {index : Nat} (h1 : Cond.methodLink own index arraycopyName ∈ wA) (h2 : Cond.native arraycopyName ∈ wA) (h3 : Cond.static arraycopyName ∈ wA) (h4 : Cond.initialized "java/lang/System" ∈ wA) (q0 q1 : Nat) {x x0 n0 n1 : Nat} {f g : Nat → Int32} (ha0 : ws[q0]? = some (x0, .inl (a 0, n0, .inl f))) (ha1 : ws[q1]? = some (x, .inl (a 0, n1, .inl g))) (hf : 1 ≤ R.frames) (hlo : (rest.map fun v => v.category).sum + (nativeFrameWords "java/lang/System" "arraycopy" 5 + 11) ≤ R.locals) (hdg : decode cc pc = .ok (.invokestatic index, 3)) {ws' : va_W} (hws : ws.set q1 (x, .inl (a 0, n1, .inl (va_cpy f g 0 0 0))) = ws')
    (kk : ∀ (H1 : Heap) (locs1 : List Loc), kW D A s ws' H1 locs1 → W p l e R s m args below meth c H1 locs1 cells slots Q (F0 m (pc + 3) ls rest)) : W p l e R s m args below meth c H locs cells slots Q (F0 m pc ls (.int 0 :: .int 0 :: .ref x :: .int 0 :: .ref x0 :: rest)) := by
  subst hws
  exact va_copyi E.1.1 E.1.2.1 (E.1.2.2.1.trans hl0.symm) E.1.2.2.2.1 (E.1.2.2.2.2 _ h1) (E.1.2.2.2.2 _ h2) (E.1.2.2.2.2 _ h3) (E.1.2.2.2.2 _ h4) E.2.1.1 w.1 w.2.1 w.2.2 q0 q1 0 0 ha0 ha1 rfl rfl rfl (by decide) (by decide) (by decide) (Nat.zero_le _) (Nat.zero_le _) (fun i hi => absurd hi (Nat.not_lt_zero i)) hf hlo hdg (fun H1 l1 hP hD hS => kk H1 l1 ⟨hP, hD, hS⟩)
end KY
end
section
/-! own rows: numbers -/
theorem kc_nlt {x y : Int64} (h : y ≤ x) : ¬ lg_cmp x y < 0 := by
  have h1 := Int64.le_iff_toInt_le.mp h
  unfold lg_cmp
  by_cases a : x > y
  · rw [if_pos a]; decide
  · rw [if_neg a]
    by_cases b : x = y
    · rw [if_pos b]; decide
    · have a' : ¬ y.toInt < x.toInt := fun z => a (Int64.lt_iff_toInt_lt.mpr z)
      exact absurd (Int64.toInt_inj.mp (by omega)) b
theorem kc_lt {x y : Int64} (h : x < y) : lg_cmp x y < 0 := by
  have h1 := Int64.lt_iff_toInt_lt.mp h
  unfold lg_cmp
  have a : ¬ x > y := fun z => by have := Int64.lt_iff_toInt_lt.mp z; omega
  have b : ¬ x = y := fun z => by rw [z] at h1; omega
  rw [if_neg a, if_neg b]; decide
theorem kc_ngt {x y : Int64} (h : x ≤ y) : ¬ 0 < lg_cmp x y := by
  have h1 := Int64.le_iff_toInt_le.mp h
  unfold lg_cmp
  have a : ¬ x > y := fun z => by have := Int64.lt_iff_toInt_lt.mp z; omega
  rw [if_neg a]
  by_cases b : x = y
  · rw [if_pos b]; decide
  · rw [if_neg b]; decide
theorem kc_gt {x y : Int64} (h : y < x) : 0 < lg_cmp x y := by
  unfold lg_cmp
  rw [if_pos h]; decide
theorem kl_in {c j d : Nat} (h1 : c ≤ j) (h2 : j ≤ d) (hd : d < 2 ^ 31) : lN c ≤ (nI j).toInt64 ∧ (nI j).toInt64 ≤ lN d := by
  rw [nI_l (by omega)]
  exact ⟨(lN_le (by omega) (by omega)).mpr h1, (lN_le (by omega) (by omega)).mpr h2⟩
theorem kl_out {c d : Nat} {x : Int32} (h : x < nI c ∨ nI d < x) (hc : c < 2 ^ 31 := by decide) (hd : d < 2 ^ 31 := by decide) : x.toInt64 < lN c ∨ lN d < x.toInt64 := by
  rcases h with h | h
  · left
    have h1 := Int32.lt_iff_toInt_lt.mp h
    rw [nI_toInt hc] at h1
    rw [Int64.lt_iff_toInt_lt, lN_toInt hc, Int32.toInt_toInt64]
    exact h1
  · right
    have h1 := Int32.lt_iff_toInt_lt.mp h
    rw [nI_toInt hd] at h1
    rw [Int64.lt_iff_toInt_lt, lN_toInt hd, Int32.toInt_toInt64]
    exact h1
theorem kl_none (x : Int32) : x.toInt64 < 0 ∨ -1 < x.toInt64 := by
  by_cases h : x.toInt < 0
  · left
    rw [Int64.lt_iff_toInt_lt, Int32.toInt_toInt64]
    exact h
  · right
    rw [Int64.lt_iff_toInt_lt, Int32.toInt_toInt64]
    have e : (-1 : Int64).toInt = -1 := by decide
    rw [e]
    omega
theorem kf_ne {j k : Nat} {v : Int32} (h : j ≠ k) : upd (fun _ => (0 : Int32)) k v j = 0 := by simp [upd, h]
end
section
/-! own rows: new long[n][k], whose rows nobody looks at here -/
def kzI (comp : ClassId) (K : Nat) : Cell := { cls := comp, slots := Array.replicate K (.long 0), vm := .none }
def kzF (s : State) (cA comp : ClassId) (N K : Nat) : Nat → State × Cell
  | 0 => (s.pushCell { cls := cA, slots := Array.replicate N .null, vm := .none }, { cls := cA, slots := Array.replicate N .null, vm := .none })
  | i + 1 => (((kzF s cA comp N K i).1.pushCell (kzI comp K)).setCell s.heap.size ((kzF s cA comp N K i).2.setSlot i (.ref (kzF s cA comp N K i).1.heap.size)), (kzF s cA comp N K i).2.setSlot i (.ref (kzF s cA comp N K i).1.heap.size))
theorem kzF_at (s : State) (cA comp : ClassId) (N K : Nat) : ∀ i : Nat, (kzF s cA comp N K i).1.heap.size = s.heap.size + 1 + i ∧ (kzF s cA comp N K i).1.heap[s.heap.size]? = some (kzF s cA comp N K i).2 ∧ (kzF s cA comp N K i).2.cls = cA ∧ (kzF s cA comp N K i).2.vm = .none ∧ (kzF s cA comp N K i).2.slots.size = N ∧ (kzF s cA comp N K i).1.vm = s.vm ∧ (kzF s cA comp N K i).1.slotsUsed = s.slotsUsed + N + i * K ∧ ∀ x : Nat, x < s.heap.size → (kzF s cA comp N K i).1.heap[x]? = s.heap[x]? := by
  intro i
  induction i with
  | zero =>
    refine ⟨by simp [kzF], by simp [kzF], rfl, rfl, by simp [kzF], rfl, by simp [kzF], fun x hx => ?_⟩
    exact State.heap_pushCell_of_lt _ _ hx
  | succ i ih =>
    obtain ⟨h1, h2, h3, h4, h5, h6, h7, h8⟩ := ih
    have hlt : s.heap.size < (kzF s cA comp N K i).1.heap.size := by omega
    have hb : ((kzF s cA comp N K i).1.pushCell (kzI comp K)).heap[s.heap.size]? = some (kzF s cA comp N K i).2 := by rw [State.heap_pushCell_of_lt (h := hlt)]; exact h2
    refine ⟨?_, State.heap_setCell_self hb, h3, h4, ?_, h6, ?_, fun x hx => ?_⟩
    · simp [kzF, State.setCell, h1]; omega
    · simp [kzF, Cell.setSlot, h5]
    · simp [kzF, h7, kzI, Nat.succ_mul]; omega
    · show (((kzF s cA comp N K i).1.pushCell (kzI comp K)).setCell s.heap.size _).heap[x]? = _
      rw [State.heap_setCell_other (Nat.ne_of_gt hx), State.heap_pushCell_of_lt (h := by omega)]
      exact h8 x hx
theorem kzF_top (s : State) (f : JFrame) (cA comp : ClassId) (N K : Nat) : ∀ i : Nat, (kzF (s.setTop f) cA comp N K i).1 = (kzF s cA comp N K i).1.setTop f ∧ (kzF (s.setTop f) cA comp N K i).2 = (kzF s cA comp N K i).2 := by
  intro i
  induction i with
  | zero => exact ⟨rfl, rfl⟩
  | succ i ih =>
    obtain ⟨h1, h2⟩ := ih
    constructor
    · simp only [kzF, h1, h2, State.heap_setTop, State.pushCell_setTop, State.setCell_setTop]
    · simp only [kzF, h1, h2, State.heap_setTop]
section KZ
variable {p : Program} {l : Launch} {e : Env} {R : Room} {s : State} {m : MethodId} {args : Array Value} {below : List Frame} {meth : Method} {c : Code} {T : State} {locs : List Loc} {cells slots : Nat}
theorem kzF_stand (X : Stand p l e R s m args below meth c T locs cells slots) (cA comp : ClassId) (N K : Nat) : ∀ i : Nat, ∃ L : List Loc, (∀ z ∈ L, z.base = T.heap.size) ∧ Stand p l e R s m args below meth c (kzF T cA comp N K i).1 (locs ++ L) (cells + 1 + i) (slots + N + i * K) := by
  intro i
  induction i with
  | zero =>
    have h := X.pushed ({ cls := cA, slots := Array.replicate N .null, vm := .none } : Cell)
    refine ⟨[], fun _ hz => (nomatch hz), ?_⟩
    simpa [kzF] using h
  | succ i ih =>
    obtain ⟨L, hL, Xi⟩ := ih
    obtain ⟨h1, h2, h3, h4, h5, h6, h7, h8⟩ := kzF_at T cA comp N K i
    have hlt : T.heap.size < (kzF T cA comp N K i).1.heap.size := by omega
    have hb : ((kzF T cA comp N K i).1.pushCell (kzI comp K)).heap[T.heap.size]? = some (kzF T cA comp N K i).2 := by rw [State.heap_pushCell_of_lt (h := hlt)]; exact h2
    have h := (Xi.pushed (kzI comp K)).stored hb i (.ref (kzF T cA comp N K i).1.heap.size)
    have e1 : (kzI comp K).slots.size = K := by simp [kzI]
    rw [e1] at h
    refine ⟨L ++ [⟨T.heap.size, i⟩], fun z hz => ?_, ?_⟩
    · rcases List.mem_append.mp hz with h9 | h9
      · exact hL z h9
      · rw [List.mem_singleton.mp h9]
    · have e3 : slots + N + (i + 1) * K = slots + N + i * K + K := by rw [Nat.succ_mul]; omega
      rw [← List.append_assoc, e3]
      exact h
end KZ
section KZW
variable {E : CtlPost} {e : Env} {d : Bool} {acts : List Action} {s : State}
/-- an array of default values, at the heap's end -/
theorem kz_array {cA comp : ClassId} {k : Class} {ty : FieldType} {n : Nat} {v : Value} (hk : s.vm.classes[cA]? = some k) (hkind : k.kind = .array comp ty) (h1 : ¬ n > e.platform.arrayLengthLimit) (h2 : ¬ n * componentBytes ty > e.platform.maxHeapBytes) (hf : fits ty v = true) (hd : v.isDefault = true) (h3 : s.heap.size < e.platform.maxCells) (h4 : s.slotsUsed + n ≤ e.platform.maxSlots)
    {Q : Addr → Pre} (hq : Q s.heap.size d acts (s.pushCell { cls := cA, slots := Array.replicate n v, vm := .none })) : wp (Jvm.newArray cA n v) Q E e d acts s := by
  have g1 : ∀ i x, (Array.replicate n v)[i]? = some x → s.fitsSlot cA .none i x = true := by
    intro i x hx
    rw [Array.getElem?_replicate] at hx
    split at hx
    · cases hx
      simp [State.fitsSlot, State.slotType?, hk, hkind, hf]
    · cases hx
  have g2 : allocActs (Array.replicate n v) s.heap.size acts = acts := by
    unfold allocActs
    rw [if_pos]
    rw [Array.all_replicate]
    split <;> simp [hd]
  simp only [Jvm.newArray, Jvm.arrayFits, wp_bind', W.ask, W.ite, h1, if_false, wp_pure', W.theClass, hk, hkind, h2, W.alloc, W.stop, Option.some.injEq, exists_eq_left', Array.size_replicate, g2]
  rw [if_neg (by omega)]
  exact ⟨h3, h4, g1, hq⟩
theorem kz_make {cA comp cc : ClassId} {k kc : Class} {n m : Int32} (hk : s.vm.classes[cA]? = some k) (hkind : k.kind = .array comp (.array .long)) (hkc : s.vm.classes[comp]? = some kc) (hkindc : kc.kind = .array cc .long) (hn : ¬ n < 0) (hm : ¬ m < 0)
    (l1 : ¬ n.toNatClampNeg > e.platform.arrayLengthLimit) (b1 : ¬ n.toNatClampNeg * componentBytes (.array .long) > e.platform.maxHeapBytes) (l2 : ¬ m.toNatClampNeg > e.platform.arrayLengthLimit) (b2 : ¬ m.toNatClampNeg * componentBytes .long > e.platform.maxHeapBytes)
    (hc : s.heap.size + 1 + n.toNatClampNeg ≤ e.platform.maxCells) (hs : s.slotsUsed + n.toNatClampNeg + n.toNatClampNeg * m.toNatClampNeg ≤ e.platform.maxSlots)
    {Q : Addr → Pre} (hq : ∀ d' acts', Q s.heap.size d' acts' (kzF s cA comp n.toNatClampNeg m.toNatClampNeg n.toNatClampNeg).1) : wp (multianewarray.make cA [n, m]) Q E e d acts s := by
  have hfind : ([m].find? (· < 0)) = none := by simp [hm]
  rw [multianewarray.make]
  simp only [wp_bind', W.ite, hn, if_false, wp_pure', W.theClass, hk, hkind, Option.some.injEq, exists_eq_left']
  refine kz_array hk hkind l1 b1 rfl rfl (by omega) (by have := Nat.zero_le (n.toNatClampNeg * m.toNatClampNeg); omega) ?_
  simp only [hfind]
  rw [ite_self, wp_bind', Std.Legacy.Range.forIn_eq_forIn_range']
  rw [show ([:n.toNatClampNeg] : Std.Legacy.Range).size = n.toNatClampNeg by simp [Std.Legacy.Range.size]]
  show wp (forIn (List.range' 0 n.toNatClampNeg 1) PUnit.unit _) _ E e d acts _
  refine wp_forIn_inv (fun rest s' => ∃ i, i ≤ n.toNatClampNeg ∧ rest = List.range' i (n.toNatClampNeg - i) ∧ s' = (kzF s cA comp n.toNatClampNeg m.toNatClampNeg i).1) _ _ ⟨0, Nat.zero_le _, rfl, rfl⟩ ?_ ?_
  · intro x rest s' d' acts' Q' hI hnext
    obtain ⟨i, hi, hl, rfl⟩ := hI
    have hlt : i < n.toNatClampNeg := by
      rcases Nat.lt_or_ge i n.toNatClampNeg with h | h
      · exact h
      · rw [show n.toNatClampNeg - i = 0 by omega] at hl
        cases hl
    rw [show n.toNatClampNeg - i = (n.toNatClampNeg - (i + 1)) + 1 by omega, List.range'_succ] at hl
    obtain ⟨rfl, hrest⟩ := List.cons.inj hl
    obtain ⟨f1, f2, f3, f4, f5, f6, f7, f8⟩ := kzF_at s cA comp n.toNatClampNeg m.toNatClampNeg x
    have hmul : x * m.toNatClampNeg + m.toNatClampNeg ≤ n.toNatClampNeg * m.toNatClampNeg := by
      have := Nat.mul_le_mul_right m.toNatClampNeg (show x + 1 ≤ n.toNatClampNeg from hlt)
      rw [Nat.succ_mul] at this
      exact this
    simp only [wp_bind']
    rw [multianewarray.make]
    simp only [wp_bind', W.ite, hm, if_false, wp_pure', W.theClass, f6, hkc, hkindc, Option.some.injEq, exists_eq_left']
    refine kz_array (by rw [f6]; exact hkc) hkindc l2 b2 rfl rfl (by rw [f1]; omega) (by rw [f7]; omega) ?_
    have hlt0 : s.heap.size < (kzF s cA comp n.toNatClampNeg m.toNatClampNeg x).1.heap.size := by rw [f1]; omega
    simp only [wp_bind', W.writeLoc, wp_pure']
    refine ⟨(kzF s cA comp n.toNatClampNeg m.toNatClampNeg x).2, by rw [State.heap_pushCell_of_lt (h := hlt0)]; exact f2, by rw [f4]; simp, by rw [f5]; exact hlt, ?_, hnext _ _ _ ⟨x + 1, hlt, hrest, rfl⟩⟩
    rw [f3, f4]
    simp [State.fitsSlot, State.slotType?, f6, hk, hkind, fits]
  · intro s' d' acts' hI
    obtain ⟨i, hi, hl, rfl⟩ := hI
    have hin : i = n.toNatClampNeg := by
      rcases Nat.lt_or_ge i n.toNatClampNeg with h | h
      · rw [show n.toNatClampNeg - i = (n.toNatClampNeg - (i + 1)) + 1 by omega, List.range'_succ] at hl
        cases hl
      · omega
    subst hin
    simp only [wp_pure']
    exact hq _ _
end KZW
section KZX
variable {p : Program} {l : Launch} {e : Env} {R : Room} {s : State} {m : MethodId} {args : Array Value} {below : List Frame} {meth : Method} {c : Code} {H : Heap} {locs : List Loc} {cells slots : Nat} {Q : State → Prop}
variable {cc : ByteArray} {pc : Nat} {ls : Array Slot} {rest : List Value} {D : va_G} {a : Nat → ClassId} {A : Nat → Prop} {nL : Nat} {own : String} {ws : va_W}
theorem kx_mna (E : kE p m c cc nL s args own D a A) (w : kW D A s ws H locs) {index : Nat} (hcl : Cond.classLink own index "[[J" ∈ wA) (harr : Cond.arrayClass .long ∈ wA) {n k : Int32} {N' K' : Nat} (hn : ¬ n < 0) (hk : ¬ k < 0) (hN : n.toNatClampNeg = N') (hM : k.toNatClampNeg = K') (hb1 : N' * 4 ≤ 536870912) (hb2 : K' * 8 ≤ 536870912) (hcells : cells + (1 + N') ≤ R.cells) (hslots : slots + (N' + N' * K') ≤ R.slots) (hdg : decode cc pc = .ok (.multianewarray index 2, 4))
    (kk : ∀ (q : Nat) (H1 : Heap) (locs1 : List Loc), kW D A s ws H1 locs1 → W p l e R s m args below meth c H1 locs1 (cells + (1 + N')) (slots + (N' + N' * K')) Q (F0 m (pc + 4) ls (.ref q :: rest))) : W p l e R s m args below meth c H locs cells slots Q (F0 m pc ls (.int k :: .int n :: rest)) := by
  subst hN
  subst hM
  intro T hT X
  have hpl : e.platform.magicAccessors = ({} : Platform).magicAccessors := by rw [X.admits.platform]
  obtain ⟨comp, cA, kA, hcomp, hkA, hkindA, hnameA⟩ := E.2.1.2.2.2.1
  obtain ⟨comp', kC, cc', hcomp', hkC, hkindC⟩ := Cond.arrayClass_spec (E.1.2.2.2.2 _ harr)
  have ec : comp' = comp := Option.some.inj (hcomp'.symm.trans hcomp)
  subst ec
  obtain ⟨c0, hfc0, hcl0⟩ := Cond.classLink_spec E.1.2.2.2.1 (E.1.2.2.2.2 _ hcl) e.platform hpl
  cases hnameA.symm.trans hfc0
  obtain ⟨hg₁, hwarm₁, hready₁⟩ := State.classEntry (e := e) X.warmed hcl0
  generalize T.vm.noted m.cls index (.cls cA) = vm₁ at hg₁ hwarm₁ hready₁
  have hal : s.vm.Alike vm₁ := hwarm₁.alike
  obtain ⟨kA₁, hkA₁, heA⟩ := hal.2.2 _ _ hkA
  obtain ⟨kC₁, hkC₁, heC⟩ := hal.2.2 _ _ hkC
  have hkindA₁ : kA₁.kind = .array comp' (.array .long) := by rw [heA]; exact hkindA
  have hkindC₁ : kC₁.kind = .array cc' .long := by rw [heC]; exact hkindC
  have X₁ := X.noted hwarm₁
  obtain ⟨hr1, hr2⟩ := X.roomAbove hcells hslots
  obtain ⟨L, hL, XF⟩ := kzF_stand X₁ cA comp' n.toNatClampNeg k.toNatClampNeg n.toNatClampNeg
  obtain ⟨f1, f2, f3, f4, f5, f6, f7, f8⟩ := kzF_at (T.setVm vm₁) cA comp' n.toNatClampNeg k.toNatClampNeg n.toNatClampNeg
  have hTh : (T.setVm vm₁).heap = H := hT
  rw [hTh] at f1 f8
  have e1 : cells + (1 + n.toNatClampNeg) = cells + 1 + n.toNatClampNeg := by omega
  have e2 : slots + (n.toNatClampNeg + n.toNatClampNeg * k.toNatClampNeg) = slots + n.toNatClampNeg + n.toNatClampNeg * k.toNatClampNeg := by omega
  have w1 : kW D A s ws (kzF (T.setVm vm₁) cA comp' n.toNatClampNeg k.toNatClampNeg n.toNatClampNeg).1.heap (locs ++ L) := by
    refine ⟨w.1.kept (fun i q hq => f8 q.1 ((w.1 i q hq).lt)), w.2.1, by rw [f1]; exact Nat.le_trans w.2.2.1 (by omega), fun q h1 h2 => (f8 q (Nat.lt_of_lt_of_le h1 w.2.2.1)).trans (w.2.2.2.1 q h1 h2), fun z hz => ?_⟩
    rcases List.mem_append.mp hz with h9 | h9
    · exact w.2.2.2.2 z h9
    · rw [hL z h9]
      show A T.heap.size
      rw [hT]
      exact E.2.2.1 _ w.2.2.1
  obtain ⟨t, a1, b1⟩ := kk T.heap.size _ _ w1 _ rfl (by rw [e1, e2]; exact XF)
  refine ⟨t, ?_, b1⟩
  have hx := E.1.1
  have hb := E.1.2.1
  have hl1 : ¬ n.toNatClampNeg > e.platform.arrayLengthLimit := by rw [Launch.admits_arrayLengthLimit X.admits]; omega
  have hh1 : ¬ n.toNatClampNeg * componentBytes (.array .long) > e.platform.maxHeapBytes := by
    rw [Launch.admits_maxHeapBytes X.admits]; show ¬ n.toNatClampNeg * 4 > 536870912; omega
  have hl2 : ¬ k.toNatClampNeg > e.platform.arrayLengthLimit := by rw [Launch.admits_arrayLengthLimit X.admits]; omega
  have hh2 : ¬ k.toNatClampNeg * componentBytes .long > e.platform.maxHeapBytes := by
    rw [Launch.admits_maxHeapBytes X.admits]; show ¬ k.toNatClampNeg * 8 > 536870912; omega
  have hdg' : decode c.code pc = .ok (.multianewarray index 2, 4) := by rw [hb]; exact hdg
  jvm_step X.here [hx, hdg']
  simp only [multianewarray.sem, wp_bind', W.resolveClassAt_links (State.method?_setTop (F0 m pc ls (.int k :: .int n :: rest)) X.here.top) hg₁]
  rw [W.popN, if_neg (by decide)]
  refine ⟨F0 m pc ls (.int k :: .int n :: rest), State.topJava?_setTop' (s := T.setVm vm₁) _ X.here.top, [.int n, .int k], rest, rfl, rfl, ?_⟩
  simp only [List.mapM_cons, List.mapM_nil, wp_bind', wp_pure']
  refine kz_make (k := kA₁) (kc := kC₁) (comp := comp') (cc := cc') hkA₁ hkindA₁ hkC₁ hkindC₁ hn hk hl1 hh1 hl2 hh2 (by show T.heap.size + 1 + _ ≤ _; omega) (by show T.slotsUsed + _ + _ ≤ _; omega) (fun d' acts' => ?_)
  have eS : ((T.setTop (F0 m pc ls (.int k :: .int n :: rest))).setVm vm₁).setTop (F0 m pc ls rest) = (T.setVm vm₁).setTop (F0 m pc ls rest) := by
    show ((T.setVm vm₁).setTop _).setTop _ = _
    rw [State.setTop_setTop]
  rw [eS, (kzF_top _ _ _ _ _ _ _).1]
  simp only [wp_bind', W.mark, W.pushRef, State.topJava?_setTop' _ XF.here.top, Option.some.injEq, exists_eq_left', State.setTop_setTop, State.heap_setTop]
  intro acts
  simp [jvm, XF.here.top]
  exact a1
end KZX
end
