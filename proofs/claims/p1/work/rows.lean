section
-- ===== PART A: goes FIRST, ahead of the names: the tables' words, and 'selects' of the private methods out of them =====
/-- a private method of a class that the tables say can be made, by its rows of tables_1 -/
def lw_okq (q : MethodName × Nat) : Prop := (q.1.cls ≠ "java/lang/invoke/MethodHandle" ∧ q.1.cls ≠ "java/lang/invoke/VarHandle") ∧ Cond.instantiable q.1.cls q.2 ∈ tables_1 ∧ Cond.privateMethod q.1 ∈ tables_1 ∧ Cond.instanceMethod q.1 ∈ tables_1
theorem lw_p0 : lw_okq (⟨"RootAlgebra$Reader", "readTarget", "()V"⟩, 7) := ⟨⟨by decide +kernel, by decide +kernel⟩, List.mem_of_getElem? (i := 119) (by decide +kernel), List.mem_of_getElem? (i := 526) (by decide +kernel), List.mem_of_getElem? (i := 527) (by decide +kernel)⟩
theorem lw_p1 : lw_okq (⟨"RootAlgebra$Reader", "next", "()I"⟩, 7) := ⟨⟨by decide +kernel, by decide +kernel⟩, List.mem_of_getElem? (i := 119) (by decide +kernel), List.mem_of_getElem? (i := 530) (by decide +kernel), List.mem_of_getElem? (i := 531) (by decide +kernel)⟩
theorem lw_p2 : lw_okq (⟨"RootAlgebra$Reader", "sum", "(I)Z"⟩, 7) := ⟨⟨by decide +kernel, by decide +kernel⟩, List.mem_of_getElem? (i := 119) (by decide +kernel), List.mem_of_getElem? (i := 534) (by decide +kernel), List.mem_of_getElem? (i := 535) (by decide +kernel)⟩
theorem lw_p3 : lw_okq (⟨"RootAlgebra$Reader", "product", "(I)Z"⟩, 7) := ⟨⟨by decide +kernel, by decide +kernel⟩, List.mem_of_getElem? (i := 119) (by decide +kernel), List.mem_of_getElem? (i := 538) (by decide +kernel), List.mem_of_getElem? (i := 539) (by decide +kernel)⟩
theorem lw_p4 : lw_okq (⟨"RootAlgebra$Reader", "factor", "(I)Z"⟩, 7) := ⟨⟨by decide +kernel, by decide +kernel⟩, List.mem_of_getElem? (i := 119) (by decide +kernel), List.mem_of_getElem? (i := 542) (by decide +kernel), List.mem_of_getElem? (i := 543) (by decide +kernel)⟩
theorem lw_p5 : lw_okq (⟨"RootAlgebra$Reader", "number", "()Z"⟩, 7) := ⟨⟨by decide +kernel, by decide +kernel⟩, List.mem_of_getElem? (i := 119) (by decide +kernel), List.mem_of_getElem? (i := 546) (by decide +kernel), List.mem_of_getElem? (i := 547) (by decide +kernel)⟩
theorem lw_p6 : lw_okq (⟨"RootAlgebra$Reader", "emit", "(I)V"⟩, 7) := ⟨⟨by decide +kernel, by decide +kernel⟩, List.mem_of_getElem? (i := 119) (by decide +kernel), List.mem_of_getElem? (i := 550) (by decide +kernel), List.mem_of_getElem? (i := 551) (by decide +kernel)⟩
theorem lw_p7 : lw_okq (⟨"RootAlgebra$Reader", "bracket", "(I)Z"⟩, 7) := ⟨⟨by decide +kernel, by decide +kernel⟩, List.mem_of_getElem? (i := 119) (by decide +kernel), List.mem_of_getElem? (i := 554) (by decide +kernel), List.mem_of_getElem? (i := 555) (by decide +kernel)⟩
theorem lw_p8 : lw_okq (⟨"RootAlgebra$Reader", "rootOfOrder", "(I)Z"⟩, 7) := ⟨⟨by decide +kernel, by decide +kernel⟩, List.mem_of_getElem? (i := 119) (by decide +kernel), List.mem_of_getElem? (i := 558) (by decide +kernel), List.mem_of_getElem? (i := 559) (by decide +kernel)⟩
theorem lw_p9 : lw_okq (⟨"RootAlgebra$Reader", "rootOfPolynomial", "(I)Z"⟩, 7) := ⟨⟨by decide +kernel, by decide +kernel⟩, List.mem_of_getElem? (i := 119) (by decide +kernel), List.mem_of_getElem? (i := 562) (by decide +kernel), List.mem_of_getElem? (i := 563) (by decide +kernel)⟩
theorem lw_p10 : lw_okq (⟨"RootAlgebra$Desk", "pushSlot", "()LRootAlgebra$Value;"⟩, 12) := ⟨⟨by decide +kernel, by decide +kernel⟩, List.mem_of_getElem? (i := 151) (by decide +kernel), List.mem_of_getElem? (i := 574) (by decide +kernel), List.mem_of_getElem? (i := 575) (by decide +kernel)⟩
theorem lw_p11 : lw_okq (⟨"RootAlgebra$Desk", "topSlot", "()LRootAlgebra$Value;"⟩, 12) := ⟨⟨by decide +kernel, by decide +kernel⟩, List.mem_of_getElem? (i := 151) (by decide +kernel), List.mem_of_getElem? (i := 579) (by decide +kernel), List.mem_of_getElem? (i := 580) (by decide +kernel)⟩
theorem lw_p12 : lw_okq (⟨"RootAlgebra$Desk", "recall", "(LRootAlgebra$Value;)I"⟩, 12) := ⟨⟨by decide +kernel, by decide +kernel⟩, List.mem_of_getElem? (i := 151) (by decide +kernel), List.mem_of_getElem? (i := 590) (by decide +kernel), List.mem_of_getElem? (i := 591) (by decide +kernel)⟩
theorem lw_p13 : lw_okq (⟨"RootAlgebra$Big", "trim", "()V"⟩, 3) := ⟨⟨by decide +kernel, by decide +kernel⟩, List.mem_of_getElem? (i := 32) (by decide +kernel), List.mem_of_getElem? (i := 607) (by decide +kernel), List.mem_of_getElem? (i := 608) (by decide +kernel)⟩
theorem lw_p14 : lw_okq (⟨"RootAlgebra$Big", "widen", "(I)I"⟩, 3) := ⟨⟨by decide +kernel, by decide +kernel⟩, List.mem_of_getElem? (i := 32) (by decide +kernel), List.mem_of_getElem? (i := 620) (by decide +kernel), List.mem_of_getElem? (i := 621) (by decide +kernel)⟩
theorem lw_p15 : lw_okq (⟨"RootAlgebra$Big", "complement", "()V"⟩, 3) := ⟨⟨by decide +kernel, by decide +kernel⟩, List.mem_of_getElem? (i := 32) (by decide +kernel), List.mem_of_getElem? (i := 625) (by decide +kernel), List.mem_of_getElem? (i := 626) (by decide +kernel)⟩
def lw_privs_1 : List (MethodName × Nat) := [(⟨"RootAlgebra$Reader", "readTarget", "()V"⟩, 7), (⟨"RootAlgebra$Reader", "next", "()I"⟩, 7), (⟨"RootAlgebra$Reader", "sum", "(I)Z"⟩, 7), (⟨"RootAlgebra$Reader", "product", "(I)Z"⟩, 7), (⟨"RootAlgebra$Reader", "factor", "(I)Z"⟩, 7), (⟨"RootAlgebra$Reader", "number", "()Z"⟩, 7), (⟨"RootAlgebra$Reader", "emit", "(I)V"⟩, 7), (⟨"RootAlgebra$Reader", "bracket", "(I)Z"⟩, 7), (⟨"RootAlgebra$Reader", "rootOfOrder", "(I)Z"⟩, 7), (⟨"RootAlgebra$Reader", "rootOfPolynomial", "(I)Z"⟩, 7), (⟨"RootAlgebra$Desk", "pushSlot", "()LRootAlgebra$Value;"⟩, 12), (⟨"RootAlgebra$Desk", "topSlot", "()LRootAlgebra$Value;"⟩, 12), (⟨"RootAlgebra$Desk", "recall", "(LRootAlgebra$Value;)I"⟩, 12), (⟨"RootAlgebra$Big", "trim", "()V"⟩, 3), (⟨"RootAlgebra$Big", "widen", "(I)I"⟩, 3), (⟨"RootAlgebra$Big", "complement", "()V"⟩, 3)]
theorem lw_r1 : ∀ q ∈ lw_privs_1, lw_okq q := List.forall_mem_cons.mpr ⟨lw_p0, List.forall_mem_cons.mpr ⟨lw_p1, List.forall_mem_cons.mpr ⟨lw_p2, List.forall_mem_cons.mpr ⟨lw_p3, List.forall_mem_cons.mpr ⟨lw_p4, List.forall_mem_cons.mpr ⟨lw_p5, List.forall_mem_cons.mpr ⟨lw_p6, List.forall_mem_cons.mpr ⟨lw_p7, List.forall_mem_cons.mpr ⟨lw_p8, List.forall_mem_cons.mpr ⟨lw_p9, List.forall_mem_cons.mpr ⟨lw_p10, List.forall_mem_cons.mpr ⟨lw_p11, List.forall_mem_cons.mpr ⟨lw_p12, List.forall_mem_cons.mpr ⟨lw_p13, List.forall_mem_cons.mpr ⟨lw_p14, List.forall_mem_cons.mpr ⟨lw_p15, fun _ h => absurd h List.not_mem_nil⟩⟩⟩⟩⟩⟩⟩⟩⟩⟩⟩⟩⟩⟩⟩⟩
theorem lw_p16 : lw_okq (⟨"RootAlgebra$Desk", "rootOfOrder", "(LRootAlgebra$Value;I)I"⟩, 12) := ⟨⟨by decide +kernel, by decide +kernel⟩, List.mem_of_getElem? (i := 151) (by decide +kernel), List.mem_of_getElem? (i := 633) (by decide +kernel), List.mem_of_getElem? (i := 634) (by decide +kernel)⟩
theorem lw_p17 : lw_okq (⟨"RootAlgebra$Desk", "rootOfPolynomial", "([II)I"⟩, 12) := ⟨⟨by decide +kernel, by decide +kernel⟩, List.mem_of_getElem? (i := 151) (by decide +kernel), List.mem_of_getElem? (i := 650) (by decide +kernel), List.mem_of_getElem? (i := 651) (by decide +kernel)⟩
theorem lw_p18 : lw_okq (⟨"RootAlgebra$Gauge", "approximate", "(LRootAlgebra$Value;ILRootAlgebra$Big;)V"⟩, 17) := ⟨⟨by decide +kernel, by decide +kernel⟩, List.mem_of_getElem? (i := 381) (by decide +kernel), List.mem_of_getElem? (i := 666) (by decide +kernel), List.mem_of_getElem? (i := 667) (by decide +kernel)⟩
theorem lw_p19 : lw_okq (⟨"RootAlgebra$Big", "fartherBelow", "()V"⟩, 3) := ⟨⟨by decide +kernel, by decide +kernel⟩, List.mem_of_getElem? (i := 32) (by decide +kernel), List.mem_of_getElem? (i := 683) (by decide +kernel), List.mem_of_getElem? (i := 684) (by decide +kernel)⟩
theorem lw_p20 : lw_okq (⟨"RootAlgebra$Big", "hasBitBelow", "(I)Z"⟩, 3) := ⟨⟨by decide +kernel, by decide +kernel⟩, List.mem_of_getElem? (i := 32) (by decide +kernel), List.mem_of_getElem? (i := 692) (by decide +kernel), List.mem_of_getElem? (i := 693) (by decide +kernel)⟩
theorem lw_p21 : lw_okq (⟨"RootAlgebra$Gauge", "evaluate", "(LRootAlgebra$Value;LRootAlgebra$Big;ILRootAlgebra$Big;)V"⟩, 17) := ⟨⟨by decide +kernel, by decide +kernel⟩, List.mem_of_getElem? (i := 381) (by decide +kernel), List.mem_of_getElem? (i := 696) (by decide +kernel), List.mem_of_getElem? (i := 697) (by decide +kernel)⟩
theorem lw_p22 : lw_okq (⟨"RootAlgebra$Gauge", "narrow", "(LRootAlgebra$Value;LRootAlgebra$Big;II)Z"⟩, 17) := ⟨⟨by decide +kernel, by decide +kernel⟩, List.mem_of_getElem? (i := 381) (by decide +kernel), List.mem_of_getElem? (i := 710) (by decide +kernel), List.mem_of_getElem? (i := 711) (by decide +kernel)⟩
theorem lw_p23 : lw_okq (⟨"RootAlgebra$Desk", "operate", "(ILRootAlgebra$Value;LRootAlgebra$Value;)I"⟩, 12) := ⟨⟨by decide +kernel, by decide +kernel⟩, List.mem_of_getElem? (i := 151) (by decide +kernel), List.mem_of_getElem? (i := 738) (by decide +kernel), List.mem_of_getElem? (i := 739) (by decide +kernel)⟩
theorem lw_p24 : lw_okq (⟨"RootAlgebra$Desk", "findAgain", "(LRootAlgebra$Value;)V"⟩, 12) := ⟨⟨by decide +kernel, by decide +kernel⟩, List.mem_of_getElem? (i := 151) (by decide +kernel), List.mem_of_getElem? (i := 746) (by decide +kernel), List.mem_of_getElem? (i := 747) (by decide +kernel)⟩
theorem lw_p25 : lw_okq (⟨"RootAlgebra$Isolator", "start", "(LRootAlgebra$Poly;)V"⟩, 11) := ⟨⟨by decide +kernel, by decide +kernel⟩, List.mem_of_getElem? (i := 327) (by decide +kernel), List.mem_of_getElem? (i := 758) (by decide +kernel), List.mem_of_getElem? (i := 759) (by decide +kernel)⟩
theorem lw_p26 : lw_okq (⟨"RootAlgebra$Isolator", "bound", "(LRootAlgebra$Poly;)I"⟩, 11) := ⟨⟨by decide +kernel, by decide +kernel⟩, List.mem_of_getElem? (i := 327) (by decide +kernel), List.mem_of_getElem? (i := 762) (by decide +kernel), List.mem_of_getElem? (i := 763) (by decide +kernel)⟩
theorem lw_p27 : lw_okq (⟨"RootAlgebra$Isolator", "hasChange", "()Z"⟩, 11) := ⟨⟨by decide +kernel, by decide +kernel⟩, List.mem_of_getElem? (i := 327) (by decide +kernel), List.mem_of_getElem? (i := 778) (by decide +kernel), List.mem_of_getElem? (i := 779) (by decide +kernel)⟩
theorem lw_p28 : lw_okq (⟨"RootAlgebra$Isolator", "changesInside", "()I"⟩, 11) := ⟨⟨by decide +kernel, by decide +kernel⟩, List.mem_of_getElem? (i := 327) (by decide +kernel), List.mem_of_getElem? (i := 782) (by decide +kernel), List.mem_of_getElem? (i := 783) (by decide +kernel)⟩
theorem lw_p29 : lw_okq (⟨"RootAlgebra$Isolator", "split", "()V"⟩, 11) := ⟨⟨by decide +kernel, by decide +kernel⟩, List.mem_of_getElem? (i := 327) (by decide +kernel), List.mem_of_getElem? (i := 786) (by decide +kernel), List.mem_of_getElem? (i := 787) (by decide +kernel)⟩
theorem lw_p30 : lw_okq (⟨"RootAlgebra$Isolator", "record", "(Z)V"⟩, 11) := ⟨⟨by decide +kernel, by decide +kernel⟩, List.mem_of_getElem? (i := 327) (by decide +kernel), List.mem_of_getElem? (i := 790) (by decide +kernel), List.mem_of_getElem? (i := 791) (by decide +kernel)⟩
theorem lw_p31 : lw_okq (⟨"RootAlgebra$Isolator", "advance", "()Z"⟩, 11) := ⟨⟨by decide +kernel, by decide +kernel⟩, List.mem_of_getElem? (i := 327) (by decide +kernel), List.mem_of_getElem? (i := 794) (by decide +kernel), List.mem_of_getElem? (i := 795) (by decide +kernel)⟩
def lw_privs_2 : List (MethodName × Nat) := [(⟨"RootAlgebra$Desk", "rootOfOrder", "(LRootAlgebra$Value;I)I"⟩, 12), (⟨"RootAlgebra$Desk", "rootOfPolynomial", "([II)I"⟩, 12), (⟨"RootAlgebra$Gauge", "approximate", "(LRootAlgebra$Value;ILRootAlgebra$Big;)V"⟩, 17), (⟨"RootAlgebra$Big", "fartherBelow", "()V"⟩, 3), (⟨"RootAlgebra$Big", "hasBitBelow", "(I)Z"⟩, 3), (⟨"RootAlgebra$Gauge", "evaluate", "(LRootAlgebra$Value;LRootAlgebra$Big;ILRootAlgebra$Big;)V"⟩, 17), (⟨"RootAlgebra$Gauge", "narrow", "(LRootAlgebra$Value;LRootAlgebra$Big;II)Z"⟩, 17), (⟨"RootAlgebra$Desk", "operate", "(ILRootAlgebra$Value;LRootAlgebra$Value;)I"⟩, 12), (⟨"RootAlgebra$Desk", "findAgain", "(LRootAlgebra$Value;)V"⟩, 12), (⟨"RootAlgebra$Isolator", "start", "(LRootAlgebra$Poly;)V"⟩, 11), (⟨"RootAlgebra$Isolator", "bound", "(LRootAlgebra$Poly;)I"⟩, 11), (⟨"RootAlgebra$Isolator", "hasChange", "()Z"⟩, 11), (⟨"RootAlgebra$Isolator", "changesInside", "()I"⟩, 11), (⟨"RootAlgebra$Isolator", "split", "()V"⟩, 11), (⟨"RootAlgebra$Isolator", "record", "(Z)V"⟩, 11), (⟨"RootAlgebra$Isolator", "advance", "()Z"⟩, 11)]
theorem lw_r2 : ∀ q ∈ lw_privs_2, lw_okq q := List.forall_mem_cons.mpr ⟨lw_p16, List.forall_mem_cons.mpr ⟨lw_p17, List.forall_mem_cons.mpr ⟨lw_p18, List.forall_mem_cons.mpr ⟨lw_p19, List.forall_mem_cons.mpr ⟨lw_p20, List.forall_mem_cons.mpr ⟨lw_p21, List.forall_mem_cons.mpr ⟨lw_p22, List.forall_mem_cons.mpr ⟨lw_p23, List.forall_mem_cons.mpr ⟨lw_p24, List.forall_mem_cons.mpr ⟨lw_p25, List.forall_mem_cons.mpr ⟨lw_p26, List.forall_mem_cons.mpr ⟨lw_p27, List.forall_mem_cons.mpr ⟨lw_p28, List.forall_mem_cons.mpr ⟨lw_p29, List.forall_mem_cons.mpr ⟨lw_p30, List.forall_mem_cons.mpr ⟨lw_p31, fun _ h => absurd h List.not_mem_nil⟩⟩⟩⟩⟩⟩⟩⟩⟩⟩⟩⟩⟩⟩⟩⟩
theorem lw_p32 : lw_okq (⟨"RootAlgebra$Desk", "joinFractions", "(LRootAlgebra$Value;LRootAlgebra$Value;Z)I"⟩, 12) := ⟨⟨by decide +kernel, by decide +kernel⟩, List.mem_of_getElem? (i := 151) (by decide +kernel), List.mem_of_getElem? (i := 808) (by decide +kernel), List.mem_of_getElem? (i := 809) (by decide +kernel)⟩
theorem lw_p33 : lw_okq (⟨"RootAlgebra$Sums", "powerSums", "(LRootAlgebra$Value;I[LRootAlgebra$Big;)V"⟩, 4) := ⟨⟨by decide +kernel, by decide +kernel⟩, List.mem_of_getElem? (i := 185) (by decide +kernel), List.mem_of_getElem? (i := 827) (by decide +kernel), List.mem_of_getElem? (i := 828) (by decide +kernel)⟩
theorem lw_p34 : lw_okq (⟨"RootAlgebra$Sums", "joinSums", "(III)V"⟩, 4) := ⟨⟨by decide +kernel, by decide +kernel⟩, List.mem_of_getElem? (i := 185) (by decide +kernel), List.mem_of_getElem? (i := 841) (by decide +kernel), List.mem_of_getElem? (i := 842) (by decide +kernel)⟩
theorem lw_p35 : lw_okq (⟨"RootAlgebra$Sums", "fromPowerSums", "(ILRootAlgebra$Poly;)V"⟩, 4) := ⟨⟨by decide +kernel, by decide +kernel⟩, List.mem_of_getElem? (i := 185) (by decide +kernel), List.mem_of_getElem? (i := 845) (by decide +kernel), List.mem_of_getElem? (i := 846) (by decide +kernel)⟩
theorem lw_p36 : lw_okq (⟨"RootAlgebra$Sums", "unscale", "(LRootAlgebra$Big;IIII)V"⟩, 4) := ⟨⟨by decide +kernel, by decide +kernel⟩, List.mem_of_getElem? (i := 185) (by decide +kernel), List.mem_of_getElem? (i := 850) (by decide +kernel), List.mem_of_getElem? (i := 851) (by decide +kernel)⟩
theorem lw_p37 : lw_okq (⟨"RootAlgebra$Factors", "loadMonic", "(LRootAlgebra$Poly;)Z"⟩, 20) := ⟨⟨by decide +kernel, by decide +kernel⟩, List.mem_of_getElem? (i := 206) (by decide +kernel), List.mem_of_getElem? (i := 868) (by decide +kernel), List.mem_of_getElem? (i := 869) (by decide +kernel)⟩
theorem lw_p38 : lw_okq (⟨"RootAlgebra$Padic", "divide", "([JI[JIJ)V"⟩, 3) := ⟨⟨by decide +kernel, by decide +kernel⟩, List.mem_of_getElem? (i := 244) (by decide +kernel), List.mem_of_getElem? (i := 891) (by decide +kernel), List.mem_of_getElem? (i := 892) (by decide +kernel)⟩
theorem lw_p39 : lw_okq (⟨"RootAlgebra$Factors", "reconstruct", "([JILRootAlgebra$Value;)Z"⟩, 20) := ⟨⟨by decide +kernel, by decide +kernel⟩, List.mem_of_getElem? (i := 206) (by decide +kernel), List.mem_of_getElem? (i := 895) (by decide +kernel), List.mem_of_getElem? (i := 896) (by decide +kernel)⟩
theorem lw_p40 : lw_okq (⟨"RootAlgebra$Poly", "divides", "(LRootAlgebra$Value;LRootAlgebra$Poly;)Z"⟩, 2) := ⟨⟨by decide +kernel, by decide +kernel⟩, List.mem_of_getElem? (i := 159) (by decide +kernel), List.mem_of_getElem? (i := 921) (by decide +kernel), List.mem_of_getElem? (i := 922) (by decide +kernel)⟩
theorem lw_p41 : lw_okq (⟨"RootAlgebra$Factors", "loadResidues", "(LRootAlgebra$Poly;I)I"⟩, 20) := ⟨⟨by decide +kernel, by decide +kernel⟩, List.mem_of_getElem? (i := 206) (by decide +kernel), List.mem_of_getElem? (i := 936) (by decide +kernel), List.mem_of_getElem? (i := 937) (by decide +kernel)⟩
theorem lw_p42 : lw_okq (⟨"RootAlgebra$Field", "degreeOf", "([JI)I"⟩, 7) := ⟨⟨by decide +kernel, by decide +kernel⟩, List.mem_of_getElem? (i := 212) (by decide +kernel), List.mem_of_getElem? (i := 948) (by decide +kernel), List.mem_of_getElem? (i := 949) (by decide +kernel)⟩
theorem lw_p43 : lw_okq (⟨"RootAlgebra$Field", "addShifted", "([J[JJII)V"⟩, 7) := ⟨⟨by decide +kernel, by decide +kernel⟩, List.mem_of_getElem? (i := 212) (by decide +kernel), List.mem_of_getElem? (i := 953) (by decide +kernel), List.mem_of_getElem? (i := 954) (by decide +kernel)⟩
theorem lw_p44 : lw_okq (⟨"RootAlgebra$Field", "swapRows", "()V"⟩, 7) := ⟨⟨by decide +kernel, by decide +kernel⟩, List.mem_of_getElem? (i := 212) (by decide +kernel), List.mem_of_getElem? (i := 957) (by decide +kernel), List.mem_of_getElem? (i := 958) (by decide +kernel)⟩
theorem lw_p45 : lw_okq (⟨"RootAlgebra$Factors", "startGathering", "(LRootAlgebra$Poly;LRootAlgebra$Poly;)V"⟩, 20) := ⟨⟨by decide +kernel, by decide +kernel⟩, List.mem_of_getElem? (i := 206) (by decide +kernel), List.mem_of_getElem? (i := 967) (by decide +kernel), List.mem_of_getElem? (i := 968) (by decide +kernel)⟩
theorem lw_p46 : lw_okq (⟨"RootAlgebra$Factors", "gather", "(ILRootAlgebra$Poly;LRootAlgebra$Poly;)V"⟩, 20) := ⟨⟨by decide +kernel, by decide +kernel⟩, List.mem_of_getElem? (i := 206) (by decide +kernel), List.mem_of_getElem? (i := 973) (by decide +kernel), List.mem_of_getElem? (i := 974) (by decide +kernel)⟩
theorem lw_p47 : lw_okq (⟨"RootAlgebra$Factors", "gatherOne", "(LRootAlgebra$Big;JJ)V"⟩, 20) := ⟨⟨by decide +kernel, by decide +kernel⟩, List.mem_of_getElem? (i := 206) (by decide +kernel), List.mem_of_getElem? (i := 977) (by decide +kernel), List.mem_of_getElem? (i := 978) (by decide +kernel)⟩
def lw_privs_3 : List (MethodName × Nat) := [(⟨"RootAlgebra$Desk", "joinFractions", "(LRootAlgebra$Value;LRootAlgebra$Value;Z)I"⟩, 12), (⟨"RootAlgebra$Sums", "powerSums", "(LRootAlgebra$Value;I[LRootAlgebra$Big;)V"⟩, 4), (⟨"RootAlgebra$Sums", "joinSums", "(III)V"⟩, 4), (⟨"RootAlgebra$Sums", "fromPowerSums", "(ILRootAlgebra$Poly;)V"⟩, 4), (⟨"RootAlgebra$Sums", "unscale", "(LRootAlgebra$Big;IIII)V"⟩, 4), (⟨"RootAlgebra$Factors", "loadMonic", "(LRootAlgebra$Poly;)Z"⟩, 20), (⟨"RootAlgebra$Padic", "divide", "([JI[JIJ)V"⟩, 3), (⟨"RootAlgebra$Factors", "reconstruct", "([JILRootAlgebra$Value;)Z"⟩, 20), (⟨"RootAlgebra$Poly", "divides", "(LRootAlgebra$Value;LRootAlgebra$Poly;)Z"⟩, 2), (⟨"RootAlgebra$Factors", "loadResidues", "(LRootAlgebra$Poly;I)I"⟩, 20), (⟨"RootAlgebra$Field", "degreeOf", "([JI)I"⟩, 7), (⟨"RootAlgebra$Field", "addShifted", "([J[JJII)V"⟩, 7), (⟨"RootAlgebra$Field", "swapRows", "()V"⟩, 7), (⟨"RootAlgebra$Factors", "startGathering", "(LRootAlgebra$Poly;LRootAlgebra$Poly;)V"⟩, 20), (⟨"RootAlgebra$Factors", "gather", "(ILRootAlgebra$Poly;LRootAlgebra$Poly;)V"⟩, 20), (⟨"RootAlgebra$Factors", "gatherOne", "(LRootAlgebra$Big;JJ)V"⟩, 20)]
theorem lw_r3 : ∀ q ∈ lw_privs_3, lw_okq q := List.forall_mem_cons.mpr ⟨lw_p32, List.forall_mem_cons.mpr ⟨lw_p33, List.forall_mem_cons.mpr ⟨lw_p34, List.forall_mem_cons.mpr ⟨lw_p35, List.forall_mem_cons.mpr ⟨lw_p36, List.forall_mem_cons.mpr ⟨lw_p37, List.forall_mem_cons.mpr ⟨lw_p38, List.forall_mem_cons.mpr ⟨lw_p39, List.forall_mem_cons.mpr ⟨lw_p40, List.forall_mem_cons.mpr ⟨lw_p41, List.forall_mem_cons.mpr ⟨lw_p42, List.forall_mem_cons.mpr ⟨lw_p43, List.forall_mem_cons.mpr ⟨lw_p44, List.forall_mem_cons.mpr ⟨lw_p45, List.forall_mem_cons.mpr ⟨lw_p46, List.forall_mem_cons.mpr ⟨lw_p47, fun _ h => absurd h List.not_mem_nil⟩⟩⟩⟩⟩⟩⟩⟩⟩⟩⟩⟩⟩⟩⟩⟩
theorem lw_p48 : lw_okq (⟨"RootAlgebra$Factors", "countParts", "()V"⟩, 20) := ⟨⟨by decide +kernel, by decide +kernel⟩, List.mem_of_getElem? (i := 206) (by decide +kernel), List.mem_of_getElem? (i := 1014) (by decide +kernel), List.mem_of_getElem? (i := 1015) (by decide +kernel)⟩
theorem lw_p49 : lw_okq (⟨"RootAlgebra$Factors", "solve", "()V"⟩, 20) := ⟨⟨by decide +kernel, by decide +kernel⟩, List.mem_of_getElem? (i := 206) (by decide +kernel), List.mem_of_getElem? (i := 1040) (by decide +kernel), List.mem_of_getElem? (i := 1041) (by decide +kernel)⟩
theorem lw_p50 : lw_okq (⟨"RootAlgebra$Factors", "eliminate", "(III)V"⟩, 20) := ⟨⟨by decide +kernel, by decide +kernel⟩, List.mem_of_getElem? (i := 206) (by decide +kernel), List.mem_of_getElem? (i := 1044) (by decide +kernel), List.mem_of_getElem? (i := 1045) (by decide +kernel)⟩
theorem lw_p51 : lw_okq (⟨"RootAlgebra$Factors", "split", "()V"⟩, 20) := ⟨⟨by decide +kernel, by decide +kernel⟩, List.mem_of_getElem? (i := 206) (by decide +kernel), List.mem_of_getElem? (i := 1052) (by decide +kernel), List.mem_of_getElem? (i := 1053) (by decide +kernel)⟩
theorem lw_p52 : lw_okq (⟨"RootAlgebra$Factors", "splits", "(II)Z"⟩, 20) := ⟨⟨by decide +kernel, by decide +kernel⟩, List.mem_of_getElem? (i := 206) (by decide +kernel), List.mem_of_getElem? (i := 1056) (by decide +kernel), List.mem_of_getElem? (i := 1057) (by decide +kernel)⟩
theorem lw_p53 : lw_okq (⟨"RootAlgebra$Factors", "lift", "()V"⟩, 20) := ⟨⟨by decide +kernel, by decide +kernel⟩, List.mem_of_getElem? (i := 206) (by decide +kernel), List.mem_of_getElem? (i := 1064) (by decide +kernel), List.mem_of_getElem? (i := 1065) (by decide +kernel)⟩
theorem lw_p54 : lw_okq (⟨"RootAlgebra$Factors", "startLift", "(II)V"⟩, 20) := ⟨⟨by decide +kernel, by decide +kernel⟩, List.mem_of_getElem? (i := 206) (by decide +kernel), List.mem_of_getElem? (i := 1068) (by decide +kernel), List.mem_of_getElem? (i := 1069) (by decide +kernel)⟩
theorem lw_p55 : lw_okq (⟨"RootAlgebra$Factors", "multiplyParts", "(II)I"⟩, 20) := ⟨⟨by decide +kernel, by decide +kernel⟩, List.mem_of_getElem? (i := 206) (by decide +kernel), List.mem_of_getElem? (i := 1073) (by decide +kernel), List.mem_of_getElem? (i := 1074) (by decide +kernel)⟩
theorem lw_p56 : lw_okq (⟨"RootAlgebra$Padic", "addProduct", "([JI[JI[JII)V"⟩, 3) := ⟨⟨by decide +kernel, by decide +kernel⟩, List.mem_of_getElem? (i := 244) (by decide +kernel), List.mem_of_getElem? (i := 1081) (by decide +kernel), List.mem_of_getElem? (i := 1082) (by decide +kernel)⟩
theorem lw_p57 : lw_okq (⟨"RootAlgebra$Factors", "correct", "(III)V"⟩, 20) := ⟨⟨by decide +kernel, by decide +kernel⟩, List.mem_of_getElem? (i := 206) (by decide +kernel), List.mem_of_getElem? (i := 1085) (by decide +kernel), List.mem_of_getElem? (i := 1086) (by decide +kernel)⟩
theorem lw_p58 : lw_okq (⟨"RootAlgebra$Factors", "degreeOf", "(I)I"⟩, 20) := ⟨⟨by decide +kernel, by decide +kernel⟩, List.mem_of_getElem? (i := 206) (by decide +kernel), List.mem_of_getElem? (i := 1099) (by decide +kernel), List.mem_of_getElem? (i := 1100) (by decide +kernel)⟩
theorem lw_p59 : lw_okq (⟨"RootAlgebra$Factors", "isLikely", "(I)Z"⟩, 20) := ⟨⟨by decide +kernel, by decide +kernel⟩, List.mem_of_getElem? (i := 206) (by decide +kernel), List.mem_of_getElem? (i := 1103) (by decide +kernel), List.mem_of_getElem? (i := 1104) (by decide +kernel)⟩
theorem lw_p60 : lw_okq (⟨"RootAlgebra$Gauge", "misses", "(LRootAlgebra$Poly;)Z"⟩, 17) := ⟨⟨by decide +kernel, by decide +kernel⟩, List.mem_of_getElem? (i := 381) (by decide +kernel), List.mem_of_getElem? (i := 1115) (by decide +kernel), List.mem_of_getElem? (i := 1116) (by decide +kernel)⟩
theorem lw_p61 : lw_okq (⟨"RootAlgebra$Gauge", "touches", "(LRootAlgebra$Big;I)Z"⟩, 17) := ⟨⟨by decide +kernel, by decide +kernel⟩, List.mem_of_getElem? (i := 381) (by decide +kernel), List.mem_of_getElem? (i := 1133) (by decide +kernel), List.mem_of_getElem? (i := 1134) (by decide +kernel)⟩
theorem lw_p62 : lw_okq (⟨"java/lang/Throwable", "fillInStackTrace", "(I)Ljava/lang/Throwable;"⟩, 6) := ⟨⟨by decide +kernel, by decide +kernel⟩, List.mem_of_getElem? (i := 1189) (by decide +kernel), List.mem_of_getElem? (i := 1187) (by decide +kernel), List.mem_of_getElem? (i := 1188) (by decide +kernel)⟩
theorem lw_p63 : lw_okq (⟨"RootAlgebra", "namesWithValue", "()I"⟩, 11) := ⟨⟨by decide +kernel, by decide +kernel⟩, List.mem_of_getElem? (i := 24) (by decide +kernel), List.mem_of_getElem? (i := 1236) (by decide +kernel), List.mem_of_getElem? (i := 1237) (by decide +kernel)⟩
def lw_privs_4 : List (MethodName × Nat) := [(⟨"RootAlgebra$Factors", "countParts", "()V"⟩, 20), (⟨"RootAlgebra$Factors", "solve", "()V"⟩, 20), (⟨"RootAlgebra$Factors", "eliminate", "(III)V"⟩, 20), (⟨"RootAlgebra$Factors", "split", "()V"⟩, 20), (⟨"RootAlgebra$Factors", "splits", "(II)Z"⟩, 20), (⟨"RootAlgebra$Factors", "lift", "()V"⟩, 20), (⟨"RootAlgebra$Factors", "startLift", "(II)V"⟩, 20), (⟨"RootAlgebra$Factors", "multiplyParts", "(II)I"⟩, 20), (⟨"RootAlgebra$Padic", "addProduct", "([JI[JI[JII)V"⟩, 3), (⟨"RootAlgebra$Factors", "correct", "(III)V"⟩, 20), (⟨"RootAlgebra$Factors", "degreeOf", "(I)I"⟩, 20), (⟨"RootAlgebra$Factors", "isLikely", "(I)Z"⟩, 20), (⟨"RootAlgebra$Gauge", "misses", "(LRootAlgebra$Poly;)Z"⟩, 17), (⟨"RootAlgebra$Gauge", "touches", "(LRootAlgebra$Big;I)Z"⟩, 17), (⟨"java/lang/Throwable", "fillInStackTrace", "(I)Ljava/lang/Throwable;"⟩, 6), (⟨"RootAlgebra", "namesWithValue", "()I"⟩, 11)]
theorem lw_r4 : ∀ q ∈ lw_privs_4, lw_okq q := List.forall_mem_cons.mpr ⟨lw_p48, List.forall_mem_cons.mpr ⟨lw_p49, List.forall_mem_cons.mpr ⟨lw_p50, List.forall_mem_cons.mpr ⟨lw_p51, List.forall_mem_cons.mpr ⟨lw_p52, List.forall_mem_cons.mpr ⟨lw_p53, List.forall_mem_cons.mpr ⟨lw_p54, List.forall_mem_cons.mpr ⟨lw_p55, List.forall_mem_cons.mpr ⟨lw_p56, List.forall_mem_cons.mpr ⟨lw_p57, List.forall_mem_cons.mpr ⟨lw_p58, List.forall_mem_cons.mpr ⟨lw_p59, List.forall_mem_cons.mpr ⟨lw_p60, List.forall_mem_cons.mpr ⟨lw_p61, List.forall_mem_cons.mpr ⟨lw_p62, List.forall_mem_cons.mpr ⟨lw_p63, fun _ h => absurd h List.not_mem_nil⟩⟩⟩⟩⟩⟩⟩⟩⟩⟩⟩⟩⟩⟩⟩⟩
theorem lw_p64 : lw_okq (⟨"RootAlgebra", "isName", "(I)Z"⟩, 11) := ⟨⟨by decide +kernel, by decide +kernel⟩, List.mem_of_getElem? (i := 24) (by decide +kernel), List.mem_of_getElem? (i := 1247) (by decide +kernel), List.mem_of_getElem? (i := 1248) (by decide +kernel)⟩
theorem lw_p65 : lw_okq (⟨"RootAlgebra$Gauge", "timesTen", "(LRootAlgebra$Big;I)V"⟩, 17) := ⟨⟨by decide +kernel, by decide +kernel⟩, List.mem_of_getElem? (i := 381) (by decide +kernel), List.mem_of_getElem? (i := 1307) (by decide +kernel), List.mem_of_getElem? (i := 1308) (by decide +kernel)⟩
theorem lw_p66 : lw_okq (⟨"RootAlgebra", "putRest", "()V"⟩, 11) := ⟨⟨by decide +kernel, by decide +kernel⟩, List.mem_of_getElem? (i := 24) (by decide +kernel), List.mem_of_getElem? (i := 1313) (by decide +kernel), List.mem_of_getElem? (i := 1314) (by decide +kernel)⟩
theorem lw_p67 : lw_okq (⟨"RootAlgebra", "put", "(I)V"⟩, 11) := ⟨⟨by decide +kernel, by decide +kernel⟩, List.mem_of_getElem? (i := 24) (by decide +kernel), List.mem_of_getElem? (i := 1317) (by decide +kernel), List.mem_of_getElem? (i := 1318) (by decide +kernel)⟩
theorem lw_p68 : lw_okq (⟨"RootAlgebraModel", "number", "(IJ)V"⟩, 65) := ⟨⟨by decide +kernel, by decide +kernel⟩, List.mem_of_getElem? (i := 1345) (by decide +kernel), List.mem_of_getElem? (i := 1352) (by decide +kernel), List.mem_of_getElem? (i := 1353) (by decide +kernel)⟩
theorem lw_p69 : lw_okq (⟨"RootAlgebraModel", "seats", "()V"⟩, 65) := ⟨⟨by decide +kernel, by decide +kernel⟩, List.mem_of_getElem? (i := 1345) (by decide +kernel), List.mem_of_getElem? (i := 1356) (by decide +kernel), List.mem_of_getElem? (i := 1357) (by decide +kernel)⟩
theorem lw_p70 : lw_okq (⟨"RootAlgebraModel", "isLine", "()Z"⟩, 65) := ⟨⟨by decide +kernel, by decide +kernel⟩, List.mem_of_getElem? (i := 1345) (by decide +kernel), List.mem_of_getElem? (i := 1564) (by decide +kernel), List.mem_of_getElem? (i := 1565) (by decide +kernel)⟩
theorem lw_p71 : lw_okq (⟨"RootAlgebraModel", "peek", "()I"⟩, 65) := ⟨⟨by decide +kernel, by decide +kernel⟩, List.mem_of_getElem? (i := 1345) (by decide +kernel), List.mem_of_getElem? (i := 1568) (by decide +kernel), List.mem_of_getElem? (i := 1569) (by decide +kernel)⟩
theorem lw_p72 : lw_okq (⟨"RootAlgebraModel", "opens", "(I)Z"⟩, 65) := ⟨⟨by decide +kernel, by decide +kernel⟩, List.mem_of_getElem? (i := 1345) (by decide +kernel), List.mem_of_getElem? (i := 1577) (by decide +kernel), List.mem_of_getElem? (i := 1578) (by decide +kernel)⟩
theorem lw_p73 : lw_okq (⟨"RootAlgebraModel", "reads", "()J"⟩, 65) := ⟨⟨by decide +kernel, by decide +kernel⟩, List.mem_of_getElem? (i := 1345) (by decide +kernel), List.mem_of_getElem? (i := 1583) (by decide +kernel), List.mem_of_getElem? (i := 1584) (by decide +kernel)⟩
theorem lw_p74 : lw_okq (⟨"RootAlgebraModel", "notes", "(IJ)V"⟩, 65) := ⟨⟨by decide +kernel, by decide +kernel⟩, List.mem_of_getElem? (i := 1345) (by decide +kernel), List.mem_of_getElem? (i := 1589) (by decide +kernel), List.mem_of_getElem? (i := 1590) (by decide +kernel)⟩
theorem lw_p75 : lw_okq (⟨"RootAlgebraModel", "bracket", "(IJ)Z"⟩, 65) := ⟨⟨by decide +kernel, by decide +kernel⟩, List.mem_of_getElem? (i := 1345) (by decide +kernel), List.mem_of_getElem? (i := 1595) (by decide +kernel), List.mem_of_getElem? (i := 1596) (by decide +kernel)⟩
theorem lw_p76 : lw_okq (⟨"RootAlgebraModel", "polynomial", "()Z"⟩, 65) := ⟨⟨by decide +kernel, by decide +kernel⟩, List.mem_of_getElem? (i := 1345) (by decide +kernel), List.mem_of_getElem? (i := 1599) (by decide +kernel), List.mem_of_getElem? (i := 1600) (by decide +kernel)⟩
theorem lw_p77 : lw_okq (⟨"RootAlgebraModel", "goes", "(I)I"⟩, 65) := ⟨⟨by decide +kernel, by decide +kernel⟩, List.mem_of_getElem? (i := 1345) (by decide +kernel), List.mem_of_getElem? (i := 1605) (by decide +kernel), List.mem_of_getElem? (i := 1606) (by decide +kernel)⟩
theorem lw_p78 : lw_okq (⟨"RootAlgebraModel", "same", "(II)V"⟩, 65) := ⟨⟨by decide +kernel, by decide +kernel⟩, List.mem_of_getElem? (i := 1345) (by decide +kernel), List.mem_of_getElem? (i := 1609) (by decide +kernel), List.mem_of_getElem? (i := 1610) (by decide +kernel)⟩
theorem lw_p79 : lw_okq (⟨"RootAlgebraModel", "picks", "(II)I"⟩, 65) := ⟨⟨by decide +kernel, by decide +kernel⟩, List.mem_of_getElem? (i := 1345) (by decide +kernel), List.mem_of_getElem? (i := 1613) (by decide +kernel), List.mem_of_getElem? (i := 1614) (by decide +kernel)⟩
def lw_privs_5 : List (MethodName × Nat) := [(⟨"RootAlgebra", "isName", "(I)Z"⟩, 11), (⟨"RootAlgebra$Gauge", "timesTen", "(LRootAlgebra$Big;I)V"⟩, 17), (⟨"RootAlgebra", "putRest", "()V"⟩, 11), (⟨"RootAlgebra", "put", "(I)V"⟩, 11), (⟨"RootAlgebraModel", "number", "(IJ)V"⟩, 65), (⟨"RootAlgebraModel", "seats", "()V"⟩, 65), (⟨"RootAlgebraModel", "isLine", "()Z"⟩, 65), (⟨"RootAlgebraModel", "peek", "()I"⟩, 65), (⟨"RootAlgebraModel", "opens", "(I)Z"⟩, 65), (⟨"RootAlgebraModel", "reads", "()J"⟩, 65), (⟨"RootAlgebraModel", "notes", "(IJ)V"⟩, 65), (⟨"RootAlgebraModel", "bracket", "(IJ)Z"⟩, 65), (⟨"RootAlgebraModel", "polynomial", "()Z"⟩, 65), (⟨"RootAlgebraModel", "goes", "(I)I"⟩, 65), (⟨"RootAlgebraModel", "same", "(II)V"⟩, 65), (⟨"RootAlgebraModel", "picks", "(II)I"⟩, 65)]
theorem lw_r5 : ∀ q ∈ lw_privs_5, lw_okq q := List.forall_mem_cons.mpr ⟨lw_p64, List.forall_mem_cons.mpr ⟨lw_p65, List.forall_mem_cons.mpr ⟨lw_p66, List.forall_mem_cons.mpr ⟨lw_p67, List.forall_mem_cons.mpr ⟨lw_p68, List.forall_mem_cons.mpr ⟨lw_p69, List.forall_mem_cons.mpr ⟨lw_p70, List.forall_mem_cons.mpr ⟨lw_p71, List.forall_mem_cons.mpr ⟨lw_p72, List.forall_mem_cons.mpr ⟨lw_p73, List.forall_mem_cons.mpr ⟨lw_p74, List.forall_mem_cons.mpr ⟨lw_p75, List.forall_mem_cons.mpr ⟨lw_p76, List.forall_mem_cons.mpr ⟨lw_p77, List.forall_mem_cons.mpr ⟨lw_p78, List.forall_mem_cons.mpr ⟨lw_p79, fun _ h => absurd h List.not_mem_nil⟩⟩⟩⟩⟩⟩⟩⟩⟩⟩⟩⟩⟩⟩⟩⟩
theorem lw_p80 : lw_okq (⟨"RootAlgebraModel", "put", "(IJ)V"⟩, 65) := ⟨⟨by decide +kernel, by decide +kernel⟩, List.mem_of_getElem? (i := 1345) (by decide +kernel), List.mem_of_getElem? (i := 1620) (by decide +kernel), List.mem_of_getElem? (i := 1621) (by decide +kernel)⟩
theorem lw_p81 : lw_okq (⟨"RootAlgebraModel", "fix", "(I)V"⟩, 65) := ⟨⟨by decide +kernel, by decide +kernel⟩, List.mem_of_getElem? (i := 1345) (by decide +kernel), List.mem_of_getElem? (i := 1625) (by decide +kernel), List.mem_of_getElem? (i := 1626) (by decide +kernel)⟩
theorem lw_p82 : lw_okq (⟨"RootAlgebraModel", "sturm", "()V"⟩, 65) := ⟨⟨by decide +kernel, by decide +kernel⟩, List.mem_of_getElem? (i := 1345) (by decide +kernel), List.mem_of_getElem? (i := 1629) (by decide +kernel), List.mem_of_getElem? (i := 1630) (by decide +kernel)⟩
theorem lw_p83 : lw_okq (⟨"RootAlgebraModel", "multiplied", "(III)V"⟩, 65) := ⟨⟨by decide +kernel, by decide +kernel⟩, List.mem_of_getElem? (i := 1345) (by decide +kernel), List.mem_of_getElem? (i := 1633) (by decide +kernel), List.mem_of_getElem? (i := 1634) (by decide +kernel)⟩
theorem lw_p84 : lw_okq (⟨"RootAlgebraModel", "lands", "(III)V"⟩, 65) := ⟨⟨by decide +kernel, by decide +kernel⟩, List.mem_of_getElem? (i := 1345) (by decide +kernel), List.mem_of_getElem? (i := 1637) (by decide +kernel), List.mem_of_getElem? (i := 1638) (by decide +kernel)⟩
theorem lw_p85 : lw_okq (⟨"RootAlgebraModel", "reduced", "(II)V"⟩, 65) := ⟨⟨by decide +kernel, by decide +kernel⟩, List.mem_of_getElem? (i := 1345) (by decide +kernel), List.mem_of_getElem? (i := 1641) (by decide +kernel), List.mem_of_getElem? (i := 1642) (by decide +kernel)⟩
theorem lw_p86 : lw_okq (⟨"RootAlgebraModel", "shared", "(III)V"⟩, 65) := ⟨⟨by decide +kernel, by decide +kernel⟩, List.mem_of_getElem? (i := 1345) (by decide +kernel), List.mem_of_getElem? (i := 1645) (by decide +kernel), List.mem_of_getElem? (i := 1646) (by decide +kernel)⟩
theorem lw_p87 : lw_okq (⟨"RootAlgebraModel", "move", "(II)V"⟩, 65) := ⟨⟨by decide +kernel, by decide +kernel⟩, List.mem_of_getElem? (i := 1345) (by decide +kernel), List.mem_of_getElem? (i := 1649) (by decide +kernel), List.mem_of_getElem? (i := 1650) (by decide +kernel)⟩
theorem lw_p88 : lw_okq (⟨"RootAlgebraModel", "divided", "(IIII)V"⟩, 65) := ⟨⟨by decide +kernel, by decide +kernel⟩, List.mem_of_getElem? (i := 1345) (by decide +kernel), List.mem_of_getElem? (i := 1653) (by decide +kernel), List.mem_of_getElem? (i := 1654) (by decide +kernel)⟩
theorem lw_p89 : lw_okq (⟨"RootAlgebraModel", "digit", "(II)J"⟩, 65) := ⟨⟨by decide +kernel, by decide +kernel⟩, List.mem_of_getElem? (i := 1345) (by decide +kernel), List.mem_of_getElem? (i := 1658) (by decide +kernel), List.mem_of_getElem? (i := 1659) (by decide +kernel)⟩
theorem lw_p90 : lw_okq (⟨"RootAlgebraModel", "join", "(IIII)V"⟩, 65) := ⟨⟨by decide +kernel, by decide +kernel⟩, List.mem_of_getElem? (i := 1345) (by decide +kernel), List.mem_of_getElem? (i := 1662) (by decide +kernel), List.mem_of_getElem? (i := 1663) (by decide +kernel)⟩
theorem lw_p91 : lw_okq (⟨"RootAlgebraModel", "compareSizes", "(II)I"⟩, 65) := ⟨⟨by decide +kernel, by decide +kernel⟩, List.mem_of_getElem? (i := 1345) (by decide +kernel), List.mem_of_getElem? (i := 1666) (by decide +kernel), List.mem_of_getElem? (i := 1667) (by decide +kernel)⟩
theorem lw_p92 : lw_okq (⟨"RootAlgebraModel", "remains", "(IIII)I"⟩, 65) := ⟨⟨by decide +kernel, by decide +kernel⟩, List.mem_of_getElem? (i := 1345) (by decide +kernel), List.mem_of_getElem? (i := 1670) (by decide +kernel), List.mem_of_getElem? (i := 1671) (by decide +kernel)⟩
theorem lw_p93 : lw_okq (⟨"RootAlgebraModel", "allRoots", "()I"⟩, 65) := ⟨⟨by decide +kernel, by decide +kernel⟩, List.mem_of_getElem? (i := 1345) (by decide +kernel), List.mem_of_getElem? (i := 1674) (by decide +kernel), List.mem_of_getElem? (i := 1675) (by decide +kernel)⟩
theorem lw_p94 : lw_okq (⟨"RootAlgebraModel", "once", "()V"⟩, 65) := ⟨⟨by decide +kernel, by decide +kernel⟩, List.mem_of_getElem? (i := 1345) (by decide +kernel), List.mem_of_getElem? (i := 1678) (by decide +kernel), List.mem_of_getElem? (i := 1679) (by decide +kernel)⟩
theorem lw_p95 : lw_okq (⟨"RootAlgebraModel", "small", "([JIJ)V"⟩, 65) := ⟨⟨by decide +kernel, by decide +kernel⟩, List.mem_of_getElem? (i := 1345) (by decide +kernel), List.mem_of_getElem? (i := 1685) (by decide +kernel), List.mem_of_getElem? (i := 1686) (by decide +kernel)⟩
def lw_privs_6 : List (MethodName × Nat) := [(⟨"RootAlgebraModel", "put", "(IJ)V"⟩, 65), (⟨"RootAlgebraModel", "fix", "(I)V"⟩, 65), (⟨"RootAlgebraModel", "sturm", "()V"⟩, 65), (⟨"RootAlgebraModel", "multiplied", "(III)V"⟩, 65), (⟨"RootAlgebraModel", "lands", "(III)V"⟩, 65), (⟨"RootAlgebraModel", "reduced", "(II)V"⟩, 65), (⟨"RootAlgebraModel", "shared", "(III)V"⟩, 65), (⟨"RootAlgebraModel", "move", "(II)V"⟩, 65), (⟨"RootAlgebraModel", "divided", "(IIII)V"⟩, 65), (⟨"RootAlgebraModel", "digit", "(II)J"⟩, 65), (⟨"RootAlgebraModel", "join", "(IIII)V"⟩, 65), (⟨"RootAlgebraModel", "compareSizes", "(II)I"⟩, 65), (⟨"RootAlgebraModel", "remains", "(IIII)I"⟩, 65), (⟨"RootAlgebraModel", "allRoots", "()I"⟩, 65), (⟨"RootAlgebraModel", "once", "()V"⟩, 65), (⟨"RootAlgebraModel", "small", "([JIJ)V"⟩, 65)]
theorem lw_r6 : ∀ q ∈ lw_privs_6, lw_okq q := List.forall_mem_cons.mpr ⟨lw_p80, List.forall_mem_cons.mpr ⟨lw_p81, List.forall_mem_cons.mpr ⟨lw_p82, List.forall_mem_cons.mpr ⟨lw_p83, List.forall_mem_cons.mpr ⟨lw_p84, List.forall_mem_cons.mpr ⟨lw_p85, List.forall_mem_cons.mpr ⟨lw_p86, List.forall_mem_cons.mpr ⟨lw_p87, List.forall_mem_cons.mpr ⟨lw_p88, List.forall_mem_cons.mpr ⟨lw_p89, List.forall_mem_cons.mpr ⟨lw_p90, List.forall_mem_cons.mpr ⟨lw_p91, List.forall_mem_cons.mpr ⟨lw_p92, List.forall_mem_cons.mpr ⟨lw_p93, List.forall_mem_cons.mpr ⟨lw_p94, List.forall_mem_cons.mpr ⟨lw_p95, fun _ h => absurd h List.not_mem_nil⟩⟩⟩⟩⟩⟩⟩⟩⟩⟩⟩⟩⟩⟩⟩⟩
theorem lw_p96 : lw_okq (⟨"RootAlgebraModel", "subtract", "([JI[JI[JI)V"⟩, 65) := ⟨⟨by decide +kernel, by decide +kernel⟩, List.mem_of_getElem? (i := 1345) (by decide +kernel), List.mem_of_getElem? (i := 1689) (by decide +kernel), List.mem_of_getElem? (i := 1690) (by decide +kernel)⟩
theorem lw_p97 : lw_okq (⟨"RootAlgebraModel", "carry", "()V"⟩, 65) := ⟨⟨by decide +kernel, by decide +kernel⟩, List.mem_of_getElem? (i := 1345) (by decide +kernel), List.mem_of_getElem? (i := 1693) (by decide +kernel), List.mem_of_getElem? (i := 1694) (by decide +kernel)⟩
theorem lw_p98 : lw_okq (⟨"RootAlgebraModel", "fold", "([JI)V"⟩, 65) := ⟨⟨by decide +kernel, by decide +kernel⟩, List.mem_of_getElem? (i := 1345) (by decide +kernel), List.mem_of_getElem? (i := 1697) (by decide +kernel), List.mem_of_getElem? (i := 1698) (by decide +kernel)⟩
theorem lw_p99 : lw_okq (⟨"RootAlgebraModel", "monic", "(I)V"⟩, 65) := ⟨⟨by decide +kernel, by decide +kernel⟩, List.mem_of_getElem? (i := 1345) (by decide +kernel), List.mem_of_getElem? (i := 1701) (by decide +kernel), List.mem_of_getElem? (i := 1702) (by decide +kernel)⟩
theorem lw_p100 : lw_okq (⟨"RootAlgebraModel", "invert", "([JI[JI)V"⟩, 65) := ⟨⟨by decide +kernel, by decide +kernel⟩, List.mem_of_getElem? (i := 1345) (by decide +kernel), List.mem_of_getElem? (i := 1705) (by decide +kernel), List.mem_of_getElem? (i := 1706) (by decide +kernel)⟩
theorem lw_p101 : lw_okq (⟨"RootAlgebraModel", "multiply", "([JI[JI[JI)V"⟩, 65) := ⟨⟨by decide +kernel, by decide +kernel⟩, List.mem_of_getElem? (i := 1345) (by decide +kernel), List.mem_of_getElem? (i := 1709) (by decide +kernel), List.mem_of_getElem? (i := 1710) (by decide +kernel)⟩
theorem lw_p102 : lw_okq (⟨"RootAlgebraModel", "follows", "(II)V"⟩, 65) := ⟨⟨by decide +kernel, by decide +kernel⟩, List.mem_of_getElem? (i := 1345) (by decide +kernel), List.mem_of_getElem? (i := 1716) (by decide +kernel), List.mem_of_getElem? (i := 1717) (by decide +kernel)⟩
theorem lw_p103 : lw_okq (⟨"RootAlgebraModel", "bits", "(I)I"⟩, 65) := ⟨⟨by decide +kernel, by decide +kernel⟩, List.mem_of_getElem? (i := 1345) (by decide +kernel), List.mem_of_getElem? (i := 1722) (by decide +kernel), List.mem_of_getElem? (i := 1723) (by decide +kernel)⟩
theorem lw_p104 : lw_okq (⟨"RootAlgebraModel", "below", "(II)I"⟩, 65) := ⟨⟨by decide +kernel, by decide +kernel⟩, List.mem_of_getElem? (i := 1345) (by decide +kernel), List.mem_of_getElem? (i := 1726) (by decide +kernel), List.mem_of_getElem? (i := 1727) (by decide +kernel)⟩
theorem lw_p105 : lw_okq (⟨"RootAlgebraModel", "notAbove", "(II)I"⟩, 65) := ⟨⟨by decide +kernel, by decide +kernel⟩, List.mem_of_getElem? (i := 1345) (by decide +kernel), List.mem_of_getElem? (i := 1730) (by decide +kernel), List.mem_of_getElem? (i := 1731) (by decide +kernel)⟩
theorem lw_p106 : lw_okq (⟨"RootAlgebraModel", "signAt", "(IIII)I"⟩, 65) := ⟨⟨by decide +kernel, by decide +kernel⟩, List.mem_of_getElem? (i := 1345) (by decide +kernel), List.mem_of_getElem? (i := 1734) (by decide +kernel), List.mem_of_getElem? (i := 1735) (by decide +kernel)⟩
theorem lw_p107 : lw_okq (⟨"RootAlgebraModel", "raised", "(III)V"⟩, 65) := ⟨⟨by decide +kernel, by decide +kernel⟩, List.mem_of_getElem? (i := 1345) (by decide +kernel), List.mem_of_getElem? (i := 1738) (by decide +kernel), List.mem_of_getElem? (i := 1739) (by decide +kernel)⟩
theorem lw_p108 : lw_okq (⟨"RootAlgebraModel", "lowered", "(III)V"⟩, 65) := ⟨⟨by decide +kernel, by decide +kernel⟩, List.mem_of_getElem? (i := 1345) (by decide +kernel), List.mem_of_getElem? (i := 1742) (by decide +kernel), List.mem_of_getElem? (i := 1743) (by decide +kernel)⟩
theorem lw_p109 : lw_okq (⟨"RootAlgebraModel", "seeks", "()Z"⟩, 65) := ⟨⟨by decide +kernel, by decide +kernel⟩, List.mem_of_getElem? (i := 1345) (by decide +kernel), List.mem_of_getElem? (i := 1746) (by decide +kernel), List.mem_of_getElem? (i := 1747) (by decide +kernel)⟩
theorem lw_p110 : lw_okq (⟨"RootAlgebraModel", "takesApart", "()V"⟩, 65) := ⟨⟨by decide +kernel, by decide +kernel⟩, List.mem_of_getElem? (i := 1345) (by decide +kernel), List.mem_of_getElem? (i := 1750) (by decide +kernel), List.mem_of_getElem? (i := 1751) (by decide +kernel)⟩
theorem lw_p111 : lw_okq (⟨"RootAlgebraModel", "copy", "(II)V"⟩, 65) := ⟨⟨by decide +kernel, by decide +kernel⟩, List.mem_of_getElem? (i := 1345) (by decide +kernel), List.mem_of_getElem? (i := 1754) (by decide +kernel), List.mem_of_getElem? (i := 1755) (by decide +kernel)⟩
def lw_privs_7 : List (MethodName × Nat) := [(⟨"RootAlgebraModel", "subtract", "([JI[JI[JI)V"⟩, 65), (⟨"RootAlgebraModel", "carry", "()V"⟩, 65), (⟨"RootAlgebraModel", "fold", "([JI)V"⟩, 65), (⟨"RootAlgebraModel", "monic", "(I)V"⟩, 65), (⟨"RootAlgebraModel", "invert", "([JI[JI)V"⟩, 65), (⟨"RootAlgebraModel", "multiply", "([JI[JI[JI)V"⟩, 65), (⟨"RootAlgebraModel", "follows", "(II)V"⟩, 65), (⟨"RootAlgebraModel", "bits", "(I)I"⟩, 65), (⟨"RootAlgebraModel", "below", "(II)I"⟩, 65), (⟨"RootAlgebraModel", "notAbove", "(II)I"⟩, 65), (⟨"RootAlgebraModel", "signAt", "(IIII)I"⟩, 65), (⟨"RootAlgebraModel", "raised", "(III)V"⟩, 65), (⟨"RootAlgebraModel", "lowered", "(III)V"⟩, 65), (⟨"RootAlgebraModel", "seeks", "()Z"⟩, 65), (⟨"RootAlgebraModel", "takesApart", "()V"⟩, 65), (⟨"RootAlgebraModel", "copy", "(II)V"⟩, 65)]
theorem lw_r7 : ∀ q ∈ lw_privs_7, lw_okq q := List.forall_mem_cons.mpr ⟨lw_p96, List.forall_mem_cons.mpr ⟨lw_p97, List.forall_mem_cons.mpr ⟨lw_p98, List.forall_mem_cons.mpr ⟨lw_p99, List.forall_mem_cons.mpr ⟨lw_p100, List.forall_mem_cons.mpr ⟨lw_p101, List.forall_mem_cons.mpr ⟨lw_p102, List.forall_mem_cons.mpr ⟨lw_p103, List.forall_mem_cons.mpr ⟨lw_p104, List.forall_mem_cons.mpr ⟨lw_p105, List.forall_mem_cons.mpr ⟨lw_p106, List.forall_mem_cons.mpr ⟨lw_p107, List.forall_mem_cons.mpr ⟨lw_p108, List.forall_mem_cons.mpr ⟨lw_p109, List.forall_mem_cons.mpr ⟨lw_p110, List.forall_mem_cons.mpr ⟨lw_p111, fun _ h => absurd h List.not_mem_nil⟩⟩⟩⟩⟩⟩⟩⟩⟩⟩⟩⟩⟩⟩⟩⟩
theorem lw_p112 : lw_okq (⟨"RootAlgebraModel", "derive", "(II)V"⟩, 65) := ⟨⟨by decide +kernel, by decide +kernel⟩, List.mem_of_getElem? (i := 1345) (by decide +kernel), List.mem_of_getElem? (i := 1758) (by decide +kernel), List.mem_of_getElem? (i := 1759) (by decide +kernel)⟩
theorem lw_p113 : lw_okq (⟨"RootAlgebraModel", "trim", "(II)V"⟩, 65) := ⟨⟨by decide +kernel, by decide +kernel⟩, List.mem_of_getElem? (i := 1345) (by decide +kernel), List.mem_of_getElem? (i := 1762) (by decide +kernel), List.mem_of_getElem? (i := 1763) (by decide +kernel)⟩
theorem lw_p114 : lw_okq (⟨"RootAlgebraModel", "isZero", "([JI)Z"⟩, 65) := ⟨⟨by decide +kernel, by decide +kernel⟩, List.mem_of_getElem? (i := 1345) (by decide +kernel), List.mem_of_getElem? (i := 1766) (by decide +kernel), List.mem_of_getElem? (i := 1767) (by decide +kernel)⟩
theorem lw_p115 : lw_okq (⟨"RootAlgebraModel", "meets", "(III)V"⟩, 65) := ⟨⟨by decide +kernel, by decide +kernel⟩, List.mem_of_getElem? (i := 1345) (by decide +kernel), List.mem_of_getElem? (i := 1770) (by decide +kernel), List.mem_of_getElem? (i := 1771) (by decide +kernel)⟩
theorem lw_p116 : lw_okq (⟨"RootAlgebraModel", "reduce", "(II)V"⟩, 65) := ⟨⟨by decide +kernel, by decide +kernel⟩, List.mem_of_getElem? (i := 1345) (by decide +kernel), List.mem_of_getElem? (i := 1774) (by decide +kernel), List.mem_of_getElem? (i := 1775) (by decide +kernel)⟩
theorem lw_p117 : lw_okq (⟨"RootAlgebraModel", "quotient", "(III)V"⟩, 65) := ⟨⟨by decide +kernel, by decide +kernel⟩, List.mem_of_getElem? (i := 1345) (by decide +kernel), List.mem_of_getElem? (i := 1778) (by decide +kernel), List.mem_of_getElem? (i := 1779) (by decide +kernel)⟩
theorem lw_p118 : lw_okq (⟨"RootAlgebraModel", "splitsAll", "()V"⟩, 65) := ⟨⟨by decide +kernel, by decide +kernel⟩, List.mem_of_getElem? (i := 1345) (by decide +kernel), List.mem_of_getElem? (i := 1782) (by decide +kernel), List.mem_of_getElem? (i := 1783) (by decide +kernel)⟩
theorem lw_p119 : lw_okq (⟨"RootAlgebraModel", "frobenius", "(I)V"⟩, 65) := ⟨⟨by decide +kernel, by decide +kernel⟩, List.mem_of_getElem? (i := 1345) (by decide +kernel), List.mem_of_getElem? (i := 1786) (by decide +kernel), List.mem_of_getElem? (i := 1787) (by decide +kernel)⟩
theorem lw_p120 : lw_okq (⟨"RootAlgebraModel", "ones", "(IIII)V"⟩, 65) := ⟨⟨by decide +kernel, by decide +kernel⟩, List.mem_of_getElem? (i := 1345) (by decide +kernel), List.mem_of_getElem? (i := 1790) (by decide +kernel), List.mem_of_getElem? (i := 1791) (by decide +kernel)⟩
theorem lw_p121 : lw_okq (⟨"RootAlgebraModel", "productModulo", "(IIII)V"⟩, 65) := ⟨⟨by decide +kernel, by decide +kernel⟩, List.mem_of_getElem? (i := 1345) (by decide +kernel), List.mem_of_getElem? (i := 1794) (by decide +kernel), List.mem_of_getElem? (i := 1795) (by decide +kernel)⟩
theorem lw_p122 : lw_okq (⟨"RootAlgebraModel", "product", "(III)V"⟩, 65) := ⟨⟨by decide +kernel, by decide +kernel⟩, List.mem_of_getElem? (i := 1345) (by decide +kernel), List.mem_of_getElem? (i := 1798) (by decide +kernel), List.mem_of_getElem? (i := 1799) (by decide +kernel)⟩
theorem lw_p123 : lw_okq (⟨"RootAlgebraModel", "add", "([JI[JI[JI)V"⟩, 65) := ⟨⟨by decide +kernel, by decide +kernel⟩, List.mem_of_getElem? (i := 1345) (by decide +kernel), List.mem_of_getElem? (i := 1802) (by decide +kernel), List.mem_of_getElem? (i := 1803) (by decide +kernel)⟩
theorem lw_p124 : lw_okq (⟨"RootAlgebraModel", "less", "(II)V"⟩, 65) := ⟨⟨by decide +kernel, by decide +kernel⟩, List.mem_of_getElem? (i := 1345) (by decide +kernel), List.mem_of_getElem? (i := 1806) (by decide +kernel), List.mem_of_getElem? (i := 1807) (by decide +kernel)⟩
theorem lw_p125 : lw_okq (⟨"RootAlgebraModel", "splits", "(II)V"⟩, 65) := ⟨⟨by decide +kernel, by decide +kernel⟩, List.mem_of_getElem? (i := 1345) (by decide +kernel), List.mem_of_getElem? (i := 1810) (by decide +kernel), List.mem_of_getElem? (i := 1811) (by decide +kernel)⟩
theorem lw_p126 : lw_okq (⟨"RootAlgebraModel", "tries", "(II)V"⟩, 65) := ⟨⟨by decide +kernel, by decide +kernel⟩, List.mem_of_getElem? (i := 1345) (by decide +kernel), List.mem_of_getElem? (i := 1814) (by decide +kernel), List.mem_of_getElem? (i := 1815) (by decide +kernel)⟩
theorem lw_p127 : lw_okq (⟨"RootAlgebraModel", "draws", "()J"⟩, 65) := ⟨⟨by decide +kernel, by decide +kernel⟩, List.mem_of_getElem? (i := 1345) (by decide +kernel), List.mem_of_getElem? (i := 1818) (by decide +kernel), List.mem_of_getElem? (i := 1819) (by decide +kernel)⟩
def lw_privs_8 : List (MethodName × Nat) := [(⟨"RootAlgebraModel", "derive", "(II)V"⟩, 65), (⟨"RootAlgebraModel", "trim", "(II)V"⟩, 65), (⟨"RootAlgebraModel", "isZero", "([JI)Z"⟩, 65), (⟨"RootAlgebraModel", "meets", "(III)V"⟩, 65), (⟨"RootAlgebraModel", "reduce", "(II)V"⟩, 65), (⟨"RootAlgebraModel", "quotient", "(III)V"⟩, 65), (⟨"RootAlgebraModel", "splitsAll", "()V"⟩, 65), (⟨"RootAlgebraModel", "frobenius", "(I)V"⟩, 65), (⟨"RootAlgebraModel", "ones", "(IIII)V"⟩, 65), (⟨"RootAlgebraModel", "productModulo", "(IIII)V"⟩, 65), (⟨"RootAlgebraModel", "product", "(III)V"⟩, 65), (⟨"RootAlgebraModel", "add", "([JI[JI[JI)V"⟩, 65), (⟨"RootAlgebraModel", "less", "(II)V"⟩, 65), (⟨"RootAlgebraModel", "splits", "(II)V"⟩, 65), (⟨"RootAlgebraModel", "tries", "(II)V"⟩, 65), (⟨"RootAlgebraModel", "draws", "()J"⟩, 65)]
theorem lw_r8 : ∀ q ∈ lw_privs_8, lw_okq q := List.forall_mem_cons.mpr ⟨lw_p112, List.forall_mem_cons.mpr ⟨lw_p113, List.forall_mem_cons.mpr ⟨lw_p114, List.forall_mem_cons.mpr ⟨lw_p115, List.forall_mem_cons.mpr ⟨lw_p116, List.forall_mem_cons.mpr ⟨lw_p117, List.forall_mem_cons.mpr ⟨lw_p118, List.forall_mem_cons.mpr ⟨lw_p119, List.forall_mem_cons.mpr ⟨lw_p120, List.forall_mem_cons.mpr ⟨lw_p121, List.forall_mem_cons.mpr ⟨lw_p122, List.forall_mem_cons.mpr ⟨lw_p123, List.forall_mem_cons.mpr ⟨lw_p124, List.forall_mem_cons.mpr ⟨lw_p125, List.forall_mem_cons.mpr ⟨lw_p126, List.forall_mem_cons.mpr ⟨lw_p127, fun _ h => absurd h List.not_mem_nil⟩⟩⟩⟩⟩⟩⟩⟩⟩⟩⟩⟩⟩⟩⟩⟩
theorem lw_p128 : lw_okq (⟨"RootAlgebraModel", "compose", "(IIII)V"⟩, 65) := ⟨⟨by decide +kernel, by decide +kernel⟩, List.mem_of_getElem? (i := 1345) (by decide +kernel), List.mem_of_getElem? (i := 1824) (by decide +kernel), List.mem_of_getElem? (i := 1825) (by decide +kernel)⟩
theorem lw_p129 : lw_okq (⟨"RootAlgebraModel", "counts", "(I)V"⟩, 65) := ⟨⟨by decide +kernel, by decide +kernel⟩, List.mem_of_getElem? (i := 1345) (by decide +kernel), List.mem_of_getElem? (i := 1828) (by decide +kernel), List.mem_of_getElem? (i := 1829) (by decide +kernel)⟩
theorem lw_p130 : lw_okq (⟨"RootAlgebraModel", "isIt", "()Z"⟩, 65) := ⟨⟨by decide +kernel, by decide +kernel⟩, List.mem_of_getElem? (i := 1345) (by decide +kernel), List.mem_of_getElem? (i := 1832) (by decide +kernel), List.mem_of_getElem? (i := 1833) (by decide +kernel)⟩
theorem lw_p131 : lw_okq (⟨"RootAlgebraModel", "isWhole", "()Z"⟩, 65) := ⟨⟨by decide +kernel, by decide +kernel⟩, List.mem_of_getElem? (i := 1345) (by decide +kernel), List.mem_of_getElem? (i := 1836) (by decide +kernel), List.mem_of_getElem? (i := 1837) (by decide +kernel)⟩
theorem lw_p132 : lw_okq (⟨"RootAlgebraModel", "below38", "([JI)J"⟩, 65) := ⟨⟨by decide +kernel, by decide +kernel⟩, List.mem_of_getElem? (i := 1345) (by decide +kernel), List.mem_of_getElem? (i := 1840) (by decide +kernel), List.mem_of_getElem? (i := 1841) (by decide +kernel)⟩
theorem lw_p133 : lw_okq (⟨"RootAlgebraModel", "lift", "(I[JI)V"⟩, 65) := ⟨⟨by decide +kernel, by decide +kernel⟩, List.mem_of_getElem? (i := 1345) (by decide +kernel), List.mem_of_getElem? (i := 1844) (by decide +kernel), List.mem_of_getElem? (i := 1845) (by decide +kernel)⟩
theorem lw_p134 : lw_okq (⟨"RootAlgebraModel", "valueOf", "(I)J"⟩, 65) := ⟨⟨by decide +kernel, by decide +kernel⟩, List.mem_of_getElem? (i := 1345) (by decide +kernel), List.mem_of_getElem? (i := 1848) (by decide +kernel), List.mem_of_getElem? (i := 1849) (by decide +kernel)⟩
theorem lw_p135 : lw_okq (⟨"RootAlgebraModel", "least", "([JI)J"⟩, 65) := ⟨⟨by decide +kernel, by decide +kernel⟩, List.mem_of_getElem? (i := 1345) (by decide +kernel), List.mem_of_getElem? (i := 1853) (by decide +kernel), List.mem_of_getElem? (i := 1854) (by decide +kernel)⟩
theorem lw_p136 : lw_okq (⟨"RootAlgebraModel", "vanishes", "()Z"⟩, 65) := ⟨⟨by decide +kernel, by decide +kernel⟩, List.mem_of_getElem? (i := 1345) (by decide +kernel), List.mem_of_getElem? (i := 1857) (by decide +kernel), List.mem_of_getElem? (i := 1858) (by decide +kernel)⟩
theorem lw_p137 : lw_okq (⟨"RootAlgebraModel", "begins", "()I"⟩, 65) := ⟨⟨by decide +kernel, by decide +kernel⟩, List.mem_of_getElem? (i := 1345) (by decide +kernel), List.mem_of_getElem? (i := 1861) (by decide +kernel), List.mem_of_getElem? (i := 1862) (by decide +kernel)⟩
theorem lw_p138 : lw_okq (⟨"RootAlgebraModel", "brackets", "(I)V"⟩, 65) := ⟨⟨by decide +kernel, by decide +kernel⟩, List.mem_of_getElem? (i := 1345) (by decide +kernel), List.mem_of_getElem? (i := 1865) (by decide +kernel), List.mem_of_getElem? (i := 1866) (by decide +kernel)⟩
theorem lw_p139 : lw_okq (⟨"RootAlgebraModel", "rootBrackets", "(I)V"⟩, 65) := ⟨⟨by decide +kernel, by decide +kernel⟩, List.mem_of_getElem? (i := 1345) (by decide +kernel), List.mem_of_getElem? (i := 1869) (by decide +kernel), List.mem_of_getElem? (i := 1870) (by decide +kernel)⟩
theorem lw_p140 : lw_okq (⟨"RootAlgebraModel", "refines", "(II)V"⟩, 65) := ⟨⟨by decide +kernel, by decide +kernel⟩, List.mem_of_getElem? (i := 1345) (by decide +kernel), List.mem_of_getElem? (i := 1873) (by decide +kernel), List.mem_of_getElem? (i := 1874) (by decide +kernel)⟩
theorem lw_p141 : lw_okq (⟨"RootAlgebraModel", "guesses", "(III)Z"⟩, 65) := ⟨⟨by decide +kernel, by decide +kernel⟩, List.mem_of_getElem? (i := 1345) (by decide +kernel), List.mem_of_getElem? (i := 1877) (by decide +kernel), List.mem_of_getElem? (i := 1878) (by decide +kernel)⟩
theorem lw_p142 : lw_okq (⟨"RootAlgebraModel", "order", "(II)I"⟩, 65) := ⟨⟨by decide +kernel, by decide +kernel⟩, List.mem_of_getElem? (i := 1345) (by decide +kernel), List.mem_of_getElem? (i := 1881) (by decide +kernel), List.mem_of_getElem? (i := 1882) (by decide +kernel)⟩
theorem lw_p143 : lw_okq (⟨"RootAlgebraModel", "halves", "(II)V"⟩, 65) := ⟨⟨by decide +kernel, by decide +kernel⟩, List.mem_of_getElem? (i := 1345) (by decide +kernel), List.mem_of_getElem? (i := 1885) (by decide +kernel), List.mem_of_getElem? (i := 1886) (by decide +kernel)⟩
def lw_privs_9 : List (MethodName × Nat) := [(⟨"RootAlgebraModel", "compose", "(IIII)V"⟩, 65), (⟨"RootAlgebraModel", "counts", "(I)V"⟩, 65), (⟨"RootAlgebraModel", "isIt", "()Z"⟩, 65), (⟨"RootAlgebraModel", "isWhole", "()Z"⟩, 65), (⟨"RootAlgebraModel", "below38", "([JI)J"⟩, 65), (⟨"RootAlgebraModel", "lift", "(I[JI)V"⟩, 65), (⟨"RootAlgebraModel", "valueOf", "(I)J"⟩, 65), (⟨"RootAlgebraModel", "least", "([JI)J"⟩, 65), (⟨"RootAlgebraModel", "vanishes", "()Z"⟩, 65), (⟨"RootAlgebraModel", "begins", "()I"⟩, 65), (⟨"RootAlgebraModel", "brackets", "(I)V"⟩, 65), (⟨"RootAlgebraModel", "rootBrackets", "(I)V"⟩, 65), (⟨"RootAlgebraModel", "refines", "(II)V"⟩, 65), (⟨"RootAlgebraModel", "guesses", "(III)Z"⟩, 65), (⟨"RootAlgebraModel", "order", "(II)I"⟩, 65), (⟨"RootAlgebraModel", "halves", "(II)V"⟩, 65)]
theorem lw_r9 : ∀ q ∈ lw_privs_9, lw_okq q := List.forall_mem_cons.mpr ⟨lw_p128, List.forall_mem_cons.mpr ⟨lw_p129, List.forall_mem_cons.mpr ⟨lw_p130, List.forall_mem_cons.mpr ⟨lw_p131, List.forall_mem_cons.mpr ⟨lw_p132, List.forall_mem_cons.mpr ⟨lw_p133, List.forall_mem_cons.mpr ⟨lw_p134, List.forall_mem_cons.mpr ⟨lw_p135, List.forall_mem_cons.mpr ⟨lw_p136, List.forall_mem_cons.mpr ⟨lw_p137, List.forall_mem_cons.mpr ⟨lw_p138, List.forall_mem_cons.mpr ⟨lw_p139, List.forall_mem_cons.mpr ⟨lw_p140, List.forall_mem_cons.mpr ⟨lw_p141, List.forall_mem_cons.mpr ⟨lw_p142, List.forall_mem_cons.mpr ⟨lw_p143, fun _ h => absurd h List.not_mem_nil⟩⟩⟩⟩⟩⟩⟩⟩⟩⟩⟩⟩⟩⟩⟩⟩
theorem lw_p144 : lw_okq (⟨"RootAlgebraModel", "newton", "()V"⟩, 65) := ⟨⟨by decide +kernel, by decide +kernel⟩, List.mem_of_getElem? (i := 1345) (by decide +kernel), List.mem_of_getElem? (i := 1889) (by decide +kernel), List.mem_of_getElem? (i := 1890) (by decide +kernel)⟩
theorem lw_p145 : lw_okq (⟨"RootAlgebraModel", "looks", "(II)I"⟩, 65) := ⟨⟨by decide +kernel, by decide +kernel⟩, List.mem_of_getElem? (i := 1345) (by decide +kernel), List.mem_of_getElem? (i := 1893) (by decide +kernel), List.mem_of_getElem? (i := 1894) (by decide +kernel)⟩
theorem lw_p146 : lw_okq (⟨"RootAlgebraModel", "isSmall", "()Z"⟩, 65) := ⟨⟨by decide +kernel, by decide +kernel⟩, List.mem_of_getElem? (i := 1345) (by decide +kernel), List.mem_of_getElem? (i := 1897) (by decide +kernel), List.mem_of_getElem? (i := 1898) (by decide +kernel)⟩
theorem lw_p147 : lw_okq (⟨"RootAlgebraModel", "found", "(I)V"⟩, 65) := ⟨⟨by decide +kernel, by decide +kernel⟩, List.mem_of_getElem? (i := 1345) (by decide +kernel), List.mem_of_getElem? (i := 1903) (by decide +kernel), List.mem_of_getElem? (i := 1904) (by decide +kernel)⟩
theorem lw_p148 : lw_okq (⟨"RootAlgebraModel", "rows", "(I)V"⟩, 65) := ⟨⟨by decide +kernel, by decide +kernel⟩, List.mem_of_getElem? (i := 1345) (by decide +kernel), List.mem_of_getElem? (i := 1907) (by decide +kernel), List.mem_of_getElem? (i := 1908) (by decide +kernel)⟩
theorem lw_p149 : lw_okq (⟨"RootAlgebraModel", "waitsFor", "(IJ)V"⟩, 65) := ⟨⟨by decide +kernel, by decide +kernel⟩, List.mem_of_getElem? (i := 1345) (by decide +kernel), List.mem_of_getElem? (i := 1911) (by decide +kernel), List.mem_of_getElem? (i := 1912) (by decide +kernel)⟩
theorem lw_p150 : lw_okq (⟨"RootAlgebraModel", "settles", "(I)I"⟩, 65) := ⟨⟨by decide +kernel, by decide +kernel⟩, List.mem_of_getElem? (i := 1345) (by decide +kernel), List.mem_of_getElem? (i := 1915) (by decide +kernel), List.mem_of_getElem? (i := 1916) (by decide +kernel)⟩
theorem lw_p151 : lw_okq (⟨"RootAlgebraModel", "works", "()I"⟩, 65) := ⟨⟨by decide +kernel, by decide +kernel⟩, List.mem_of_getElem? (i := 1345) (by decide +kernel), List.mem_of_getElem? (i := 1922) (by decide +kernel), List.mem_of_getElem? (i := 1923) (by decide +kernel)⟩
theorem lw_p152 : lw_okq (⟨"RootAlgebraModel", "turn", "(I)V"⟩, 65) := ⟨⟨by decide +kernel, by decide +kernel⟩, List.mem_of_getElem? (i := 1345) (by decide +kernel), List.mem_of_getElem? (i := 1926) (by decide +kernel), List.mem_of_getElem? (i := 1927) (by decide +kernel)⟩
theorem lw_p153 : lw_okq (⟨"RootAlgebraModel", "against", "(II)I"⟩, 65) := ⟨⟨by decide +kernel, by decide +kernel⟩, List.mem_of_getElem? (i := 1345) (by decide +kernel), List.mem_of_getElem? (i := 1930) (by decide +kernel), List.mem_of_getElem? (i := 1931) (by decide +kernel)⟩
theorem lw_p154 : lw_okq (⟨"RootAlgebraModel", "follow", "(II)V"⟩, 65) := ⟨⟨by decide +kernel, by decide +kernel⟩, List.mem_of_getElem? (i := 1345) (by decide +kernel), List.mem_of_getElem? (i := 1934) (by decide +kernel), List.mem_of_getElem? (i := 1935) (by decide +kernel)⟩
theorem lw_p155 : lw_okq (⟨"RootAlgebraModel", "combines", "(III)I"⟩, 65) := ⟨⟨by decide +kernel, by decide +kernel⟩, List.mem_of_getElem? (i := 1345) (by decide +kernel), List.mem_of_getElem? (i := 1938) (by decide +kernel), List.mem_of_getElem? (i := 1939) (by decide +kernel)⟩
theorem lw_p156 : lw_okq (⟨"RootAlgebraModel", "isNought", "(I)Z"⟩, 65) := ⟨⟨by decide +kernel, by decide +kernel⟩, List.mem_of_getElem? (i := 1345) (by decide +kernel), List.mem_of_getElem? (i := 1942) (by decide +kernel), List.mem_of_getElem? (i := 1943) (by decide +kernel)⟩
theorem lw_p157 : lw_okq (⟨"RootAlgebraModel", "fills", "(Z)V"⟩, 65) := ⟨⟨by decide +kernel, by decide +kernel⟩, List.mem_of_getElem? (i := 1345) (by decide +kernel), List.mem_of_getElem? (i := 1946) (by decide +kernel), List.mem_of_getElem? (i := 1947) (by decide +kernel)⟩
theorem lw_p158 : lw_okq (⟨"RootAlgebraModel", "image", "([JIII)V"⟩, 65) := ⟨⟨by decide +kernel, by decide +kernel⟩, List.mem_of_getElem? (i := 1345) (by decide +kernel), List.mem_of_getElem? (i := 1950) (by decide +kernel), List.mem_of_getElem? (i := 1951) (by decide +kernel)⟩
theorem lw_p159 : lw_okq (⟨"RootAlgebraModel", "share", "([JII)V"⟩, 65) := ⟨⟨by decide +kernel, by decide +kernel⟩, List.mem_of_getElem? (i := 1345) (by decide +kernel), List.mem_of_getElem? (i := 1954) (by decide +kernel), List.mem_of_getElem? (i := 1955) (by decide +kernel)⟩
def lw_privs_10 : List (MethodName × Nat) := [(⟨"RootAlgebraModel", "newton", "()V"⟩, 65), (⟨"RootAlgebraModel", "looks", "(II)I"⟩, 65), (⟨"RootAlgebraModel", "isSmall", "()Z"⟩, 65), (⟨"RootAlgebraModel", "found", "(I)V"⟩, 65), (⟨"RootAlgebraModel", "rows", "(I)V"⟩, 65), (⟨"RootAlgebraModel", "waitsFor", "(IJ)V"⟩, 65), (⟨"RootAlgebraModel", "settles", "(I)I"⟩, 65), (⟨"RootAlgebraModel", "works", "()I"⟩, 65), (⟨"RootAlgebraModel", "turn", "(I)V"⟩, 65), (⟨"RootAlgebraModel", "against", "(II)I"⟩, 65), (⟨"RootAlgebraModel", "follow", "(II)V"⟩, 65), (⟨"RootAlgebraModel", "combines", "(III)I"⟩, 65), (⟨"RootAlgebraModel", "isNought", "(I)Z"⟩, 65), (⟨"RootAlgebraModel", "fills", "(Z)V"⟩, 65), (⟨"RootAlgebraModel", "image", "([JIII)V"⟩, 65), (⟨"RootAlgebraModel", "share", "([JII)V"⟩, 65)]
theorem lw_r10 : ∀ q ∈ lw_privs_10, lw_okq q := List.forall_mem_cons.mpr ⟨lw_p144, List.forall_mem_cons.mpr ⟨lw_p145, List.forall_mem_cons.mpr ⟨lw_p146, List.forall_mem_cons.mpr ⟨lw_p147, List.forall_mem_cons.mpr ⟨lw_p148, List.forall_mem_cons.mpr ⟨lw_p149, List.forall_mem_cons.mpr ⟨lw_p150, List.forall_mem_cons.mpr ⟨lw_p151, List.forall_mem_cons.mpr ⟨lw_p152, List.forall_mem_cons.mpr ⟨lw_p153, List.forall_mem_cons.mpr ⟨lw_p154, List.forall_mem_cons.mpr ⟨lw_p155, List.forall_mem_cons.mpr ⟨lw_p156, List.forall_mem_cons.mpr ⟨lw_p157, List.forall_mem_cons.mpr ⟨lw_p158, List.forall_mem_cons.mpr ⟨lw_p159, fun _ h => absurd h List.not_mem_nil⟩⟩⟩⟩⟩⟩⟩⟩⟩⟩⟩⟩⟩⟩⟩⟩
theorem lw_p160 : lw_okq (⟨"RootAlgebraModel", "adds", "(II[JI)V"⟩, 65) := ⟨⟨by decide +kernel, by decide +kernel⟩, List.mem_of_getElem? (i := 1345) (by decide +kernel), List.mem_of_getElem? (i := 1958) (by decide +kernel), List.mem_of_getElem? (i := 1959) (by decide +kernel)⟩
theorem lw_p161 : lw_okq (⟨"RootAlgebraModel", "whole", "(I)V"⟩, 65) := ⟨⟨by decide +kernel, by decide +kernel⟩, List.mem_of_getElem? (i := 1345) (by decide +kernel), List.mem_of_getElem? (i := 1965) (by decide +kernel), List.mem_of_getElem? (i := 1966) (by decide +kernel)⟩
theorem lw_p162 : lw_okq (⟨"RootAlgebraModel", "size", "(I)J"⟩, 65) := ⟨⟨by decide +kernel, by decide +kernel⟩, List.mem_of_getElem? (i := 1345) (by decide +kernel), List.mem_of_getElem? (i := 1969) (by decide +kernel), List.mem_of_getElem? (i := 1970) (by decide +kernel)⟩
theorem lw_p163 : lw_okq (⟨"RootAlgebraModel", "rooted", "(II)I"⟩, 65) := ⟨⟨by decide +kernel, by decide +kernel⟩, List.mem_of_getElem? (i := 1345) (by decide +kernel), List.mem_of_getElem? (i := 1973) (by decide +kernel), List.mem_of_getElem? (i := 1974) (by decide +kernel)⟩
theorem lw_p164 : lw_okq (⟨"RootAlgebraModel", "fails", "(ZI)Z"⟩, 65) := ⟨⟨by decide +kernel, by decide +kernel⟩, List.mem_of_getElem? (i := 1345) (by decide +kernel), List.mem_of_getElem? (i := 1982) (by decide +kernel), List.mem_of_getElem? (i := 1983) (by decide +kernel)⟩
theorem lw_p165 : lw_okq (⟨"RootAlgebraModel", "bars", "(I)Z"⟩, 65) := ⟨⟨by decide +kernel, by decide +kernel⟩, List.mem_of_getElem? (i := 1345) (by decide +kernel), List.mem_of_getElem? (i := 2004) (by decide +kernel), List.mem_of_getElem? (i := 2005) (by decide +kernel)⟩
theorem lw_p166 : lw_okq (⟨"RootAlgebraModel", "tens", "(II)V"⟩, 65) := ⟨⟨by decide +kernel, by decide +kernel⟩, List.mem_of_getElem? (i := 1345) (by decide +kernel), List.mem_of_getElem? (i := 2025) (by decide +kernel), List.mem_of_getElem? (i := 2026) (by decide +kernel)⟩
theorem lw_p167 : lw_okq (⟨"RootAlgebraModel", "says", "()V"⟩, 65) := ⟨⟨by decide +kernel, by decide +kernel⟩, List.mem_of_getElem? (i := 1345) (by decide +kernel), List.mem_of_getElem? (i := 2029) (by decide +kernel), List.mem_of_getElem? (i := 2030) (by decide +kernel)⟩
theorem lw_p168 : lw_okq (⟨"RootAlgebraModel", "letter", "(I)V"⟩, 65) := ⟨⟨by decide +kernel, by decide +kernel⟩, List.mem_of_getElem? (i := 1345) (by decide +kernel), List.mem_of_getElem? (i := 2033) (by decide +kernel), List.mem_of_getElem? (i := 2034) (by decide +kernel)⟩
def lw_privs_11 : List (MethodName × Nat) := [(⟨"RootAlgebraModel", "adds", "(II[JI)V"⟩, 65), (⟨"RootAlgebraModel", "whole", "(I)V"⟩, 65), (⟨"RootAlgebraModel", "size", "(I)J"⟩, 65), (⟨"RootAlgebraModel", "rooted", "(II)I"⟩, 65), (⟨"RootAlgebraModel", "fails", "(ZI)Z"⟩, 65), (⟨"RootAlgebraModel", "bars", "(I)Z"⟩, 65), (⟨"RootAlgebraModel", "tens", "(II)V"⟩, 65), (⟨"RootAlgebraModel", "says", "()V"⟩, 65), (⟨"RootAlgebraModel", "letter", "(I)V"⟩, 65)]
theorem lw_r11 : ∀ q ∈ lw_privs_11, lw_okq q := List.forall_mem_cons.mpr ⟨lw_p160, List.forall_mem_cons.mpr ⟨lw_p161, List.forall_mem_cons.mpr ⟨lw_p162, List.forall_mem_cons.mpr ⟨lw_p163, List.forall_mem_cons.mpr ⟨lw_p164, List.forall_mem_cons.mpr ⟨lw_p165, List.forall_mem_cons.mpr ⟨lw_p166, List.forall_mem_cons.mpr ⟨lw_p167, List.forall_mem_cons.mpr ⟨lw_p168, fun _ h => absurd h List.not_mem_nil⟩⟩⟩⟩⟩⟩⟩⟩⟩
def lw_privs : List (MethodName × Nat) := lw_privs_1 ++ (lw_privs_2 ++ (lw_privs_3 ++ (lw_privs_4 ++ (lw_privs_5 ++ (lw_privs_6 ++ (lw_privs_7 ++ (lw_privs_8 ++ (lw_privs_9 ++ (lw_privs_10 ++ (lw_privs_11))))))))))
def lw_tbl : List Cond := k2_sels lw_privs ++ tables_1
theorem lw_privs_ok : ∀ q ∈ lw_privs, lw_okq q := by
  show ∀ q ∈ lw_privs_1 ++ (lw_privs_2 ++ (lw_privs_3 ++ (lw_privs_4 ++ (lw_privs_5 ++ (lw_privs_6 ++ (lw_privs_7 ++ (lw_privs_8 ++ (lw_privs_9 ++ (lw_privs_10 ++ (lw_privs_11)))))))))), lw_okq q
  exact List.forall_mem_append.mpr ⟨lw_r1, List.forall_mem_append.mpr ⟨lw_r2, List.forall_mem_append.mpr ⟨lw_r3, List.forall_mem_append.mpr ⟨lw_r4, List.forall_mem_append.mpr ⟨lw_r5, List.forall_mem_append.mpr ⟨lw_r6, List.forall_mem_append.mpr ⟨lw_r7, List.forall_mem_append.mpr ⟨lw_r8, List.forall_mem_append.mpr ⟨lw_r9, List.forall_mem_append.mpr ⟨lw_r10, lw_r11⟩⟩⟩⟩⟩⟩⟩⟩⟩⟩
end
section
/-! names: classes and methods; laid by program -/
def zT_RA : u_T := fun k => match k with
  | 0 => ("RootAlgebra", "tape", "[B", true)
  | 1 => ("RootAlgebra", "text", "[B", true)
  | 2 => ("RootAlgebra", "digits", "[B", true)
  | 3 => ("RootAlgebra", "rest", "LRootAlgebra$Big;", true)
  | 4 => ("RootAlgebra", "values", "[LRootAlgebra$Value;", true)
  | 5 => ("RootAlgebra", "reader", "LRootAlgebra$Reader;", true)
  | 6 => ("RootAlgebra", "desk", "LRootAlgebra$Desk;", true)
  | 7 => ("RootAlgebra", "fed", "I", false)
  | 8 => ("RootAlgebra", "written", "I", false)
  | 9 => ("RootAlgebra", "place", "I", false)
  | _ => ("RootAlgebra", "done", "I", false)
def zt_RA : Nat → FieldType := fun k => match k with
  | 0 => .array (.byte)
  | 1 => .array (.byte)
  | 2 => .array (.byte)
  | 3 => .object "RootAlgebra$Big"
  | 4 => .array (.object "RootAlgebra$Value")
  | 5 => .object "RootAlgebra$Reader"
  | 6 => .object "RootAlgebra$Desk"
  | 7 => .int
  | 8 => .int
  | 9 => .int
  | _ => .int
def zT_Big : u_T := fun k => match k with
  | 0 => ("RootAlgebra$Big", "words", "[I", true)
  | 1 => ("RootAlgebra$Big", "size", "I", false)
  | _ => ("RootAlgebra$Big", "sign", "I", false)
def zt_Big : Nat → FieldType := fun k => match k with
  | 0 => .array (.int)
  | 1 => .int
  | _ => .int
def zT_Desk : u_T := fun k => match k with
  | 0 => ("RootAlgebra$Desk", "stack", "[LRootAlgebra$Value;", true)
  | 1 => ("RootAlgebra$Desk", "found", "LRootAlgebra$Value;", true)
  | 2 => ("RootAlgebra$Desk", "poly", "LRootAlgebra$Poly;", true)
  | 3 => ("RootAlgebra$Desk", "candidate", "LRootAlgebra$Poly;", true)
  | 4 => ("RootAlgebra$Desk", "work", "LRootAlgebra$Poly;", true)
  | 5 => ("RootAlgebra$Desk", "sums", "LRootAlgebra$Sums;", true)
  | 6 => ("RootAlgebra$Desk", "factors", "LRootAlgebra$Factors;", true)
  | 7 => ("RootAlgebra$Desk", "isolator", "LRootAlgebra$Isolator;", true)
  | 8 => ("RootAlgebra$Desk", "gauge", "LRootAlgebra$Gauge;", true)
  | 9 => ("RootAlgebra$Desk", "top", "I", false)
  | 10 => ("RootAlgebra$Desk", "number", "I", false)
  | _ => ("RootAlgebra$Desk", "at", "I", false)
def zt_Desk : Nat → FieldType := fun k => match k with
  | 0 => .array (.object "RootAlgebra$Value")
  | 1 => .object "RootAlgebra$Value"
  | 2 => .object "RootAlgebra$Poly"
  | 3 => .object "RootAlgebra$Poly"
  | 4 => .object "RootAlgebra$Poly"
  | 5 => .object "RootAlgebra$Sums"
  | 6 => .object "RootAlgebra$Factors"
  | 7 => .object "RootAlgebra$Isolator"
  | 8 => .object "RootAlgebra$Gauge"
  | 9 => .int
  | 10 => .int
  | _ => .int
def zT_Factors : u_T := fun k => match k with
  | 0 => ("RootAlgebra$Factors", "field", "LRootAlgebra$Field;", true)
  | 1 => ("RootAlgebra$Factors", "padic", "LRootAlgebra$Padic;", true)
  | 2 => ("RootAlgebra$Factors", "modulus", "LRootAlgebra$Big;", true)
  | 3 => ("RootAlgebra$Factors", "whole", "[J", true)
  | 4 => ("RootAlgebra$Factors", "spare", "[J", true)
  | 5 => ("RootAlgebra$Factors", "base", "[J", true)
  | 6 => ("RootAlgebra$Factors", "row", "[J", true)
  | 7 => ("RootAlgebra$Factors", "mix", "[J", true)
  | 8 => ("RootAlgebra$Factors", "error", "[J", true)
  | 9 => ("RootAlgebra$Factors", "matrix", "[[J", true)
  | 10 => ("RootAlgebra$Factors", "basis", "[[J", true)
  | 11 => ("RootAlgebra$Factors", "pieces", "[[J", true)
  | 12 => ("RootAlgebra$Factors", "inverses", "[[J", true)
  | 13 => ("RootAlgebra$Factors", "lifts", "[[J", true)
  | 14 => ("RootAlgebra$Factors", "product", "[J", true)
  | 15 => ("RootAlgebra$Factors", "sizes", "[I", true)
  | 16 => ("RootAlgebra$Factors", "degree", "I", false)
  | 17 => ("RootAlgebra$Factors", "parts", "I", false)
  | 18 => ("RootAlgebra$Factors", "alive", "I", false)
  | _ => ("RootAlgebra$Factors", "mask", "I", false)
def zt_Factors : Nat → FieldType := fun k => match k with
  | 0 => .object "RootAlgebra$Field"
  | 1 => .object "RootAlgebra$Padic"
  | 2 => .object "RootAlgebra$Big"
  | 3 => .array (.long)
  | 4 => .array (.long)
  | 5 => .array (.long)
  | 6 => .array (.long)
  | 7 => .array (.long)
  | 8 => .array (.long)
  | 9 => .array (.array (.long))
  | 10 => .array (.array (.long))
  | 11 => .array (.array (.long))
  | 12 => .array (.array (.long))
  | 13 => .array (.array (.long))
  | 14 => .array (.long)
  | 15 => .array (.int)
  | 16 => .int
  | 17 => .int
  | 18 => .int
  | _ => .int
def zT_Field : u_T := fun k => match k with
  | 0 => ("RootAlgebra$Field", "p", "I", false)
  | 1 => ("RootAlgebra$Field", "product", "[J", true)
  | 2 => ("RootAlgebra$Field", "power", "[J", true)
  | 3 => ("RootAlgebra$Field", "common", "[J", false)
  | 4 => ("RootAlgebra$Field", "spareCommon", "[J", false)
  | 5 => ("RootAlgebra$Field", "cofactor", "[J", false)
  | _ => ("RootAlgebra$Field", "spareCofactor", "[J", false)
def zt_Field : Nat → FieldType := fun k => match k with
  | 0 => .int
  | 1 => .array (.long)
  | 2 => .array (.long)
  | 3 => .array (.long)
  | 4 => .array (.long)
  | 5 => .array (.long)
  | _ => .array (.long)
def zT_Gauge : u_T := fun k => match k with
  | 0 => ("RootAlgebra$Gauge", "left", "LRootAlgebra$Big;", true)
  | 1 => ("RootAlgebra$Gauge", "right", "LRootAlgebra$Big;", true)
  | 2 => ("RootAlgebra$Gauge", "here", "LRootAlgebra$Big;", true)
  | 3 => ("RootAlgebra$Gauge", "beside", "LRootAlgebra$Big;", true)
  | 4 => ("RootAlgebra$Gauge", "at", "LRootAlgebra$Big;", true)
  | 5 => ("RootAlgebra$Gauge", "point", "LRootAlgebra$Big;", true)
  | 6 => ("RootAlgebra$Gauge", "term", "LRootAlgebra$Big;", true)
  | 7 => ("RootAlgebra$Gauge", "spare", "LRootAlgebra$Big;", true)
  | 8 => ("RootAlgebra$Gauge", "mid", "LRootAlgebra$Big;", true)
  | 9 => ("RootAlgebra$Gauge", "one", "LRootAlgebra$Big;", true)
  | 10 => ("RootAlgebra$Gauge", "other", "LRootAlgebra$Big;", true)
  | 11 => ("RootAlgebra$Gauge", "x", "LRootAlgebra$Value;", false)
  | 12 => ("RootAlgebra$Gauge", "y", "LRootAlgebra$Value;", false)
  | 13 => ("RootAlgebra$Gauge", "times", "Z", false)
  | 14 => ("RootAlgebra$Gauge", "fixed", "Z", false)
  | 15 => ("RootAlgebra$Gauge", "bits", "I", false)
  | _ => ("RootAlgebra$Gauge", "spread", "I", false)
def zt_Gauge : Nat → FieldType := fun k => match k with
  | 0 => .object "RootAlgebra$Big"
  | 1 => .object "RootAlgebra$Big"
  | 2 => .object "RootAlgebra$Big"
  | 3 => .object "RootAlgebra$Big"
  | 4 => .object "RootAlgebra$Big"
  | 5 => .object "RootAlgebra$Big"
  | 6 => .object "RootAlgebra$Big"
  | 7 => .object "RootAlgebra$Big"
  | 8 => .object "RootAlgebra$Big"
  | 9 => .object "RootAlgebra$Big"
  | 10 => .object "RootAlgebra$Big"
  | 11 => .object "RootAlgebra$Value"
  | 12 => .object "RootAlgebra$Value"
  | 13 => .boolean
  | 14 => .boolean
  | 15 => .int
  | _ => .int
def zT_Isolator : u_T := fun k => match k with
  | 0 => ("RootAlgebra$Isolator", "f", "[LRootAlgebra$Big;", true)
  | 1 => ("RootAlgebra$Isolator", "g", "[LRootAlgebra$Big;", true)
  | 2 => ("RootAlgebra$Isolator", "cell", "LRootAlgebra$Big;", true)
  | 3 => ("RootAlgebra$Isolator", "low", "[LRootAlgebra$Big;", true)
  | 4 => ("RootAlgebra$Isolator", "scale", "[I", true)
  | 5 => ("RootAlgebra$Isolator", "exact", "[Z", true)
  | 6 => ("RootAlgebra$Isolator", "degree", "I", false)
  | 7 => ("RootAlgebra$Isolator", "first", "I", false)
  | 8 => ("RootAlgebra$Isolator", "depth", "I", false)
  | 9 => ("RootAlgebra$Isolator", "count", "I", false)
  | _ => ("RootAlgebra$Isolator", "negatives", "I", false)
def zt_Isolator : Nat → FieldType := fun k => match k with
  | 0 => .array (.object "RootAlgebra$Big")
  | 1 => .array (.object "RootAlgebra$Big")
  | 2 => .object "RootAlgebra$Big"
  | 3 => .array (.object "RootAlgebra$Big")
  | 4 => .array (.int)
  | 5 => .array (.boolean)
  | 6 => .int
  | 7 => .int
  | 8 => .int
  | 9 => .int
  | _ => .int
def zT_Padic : u_T := fun k => match k with
  | 0 => ("RootAlgebra$Padic", "p", "I", false)
  | 1 => ("RootAlgebra$Padic", "modulus", "J", false)
  | _ => ("RootAlgebra$Padic", "rest", "LRootAlgebra$Big;", true)
def zt_Padic : Nat → FieldType := fun k => match k with
  | 0 => .int
  | 1 => .long
  | _ => .object "RootAlgebra$Big"
def zT_Poly : u_T := fun k => match k with
  | 0 => ("RootAlgebra$Poly", "c", "[LRootAlgebra$Big;", true)
  | _ => ("RootAlgebra$Poly", "degree", "I", false)
def zt_Poly : Nat → FieldType := fun k => match k with
  | 0 => .array (.object "RootAlgebra$Big")
  | _ => .int
def zT_Reader : u_T := fun k => match k with
  | 0 => ("RootAlgebra$Reader", "code", "[I", true)
  | 1 => ("RootAlgebra$Reader", "tape", "[B", true)
  | 2 => ("RootAlgebra$Reader", "length", "I", false)
  | 3 => ("RootAlgebra$Reader", "value", "I", false)
  | 4 => ("RootAlgebra$Reader", "at", "I", false)
  | 5 => ("RootAlgebra$Reader", "size", "I", false)
  | _ => ("RootAlgebra$Reader", "target", "I", false)
def zt_Reader : Nat → FieldType := fun k => match k with
  | 0 => .array (.int)
  | 1 => .array (.byte)
  | 2 => .int
  | 3 => .int
  | 4 => .int
  | 5 => .int
  | _ => .int
def zT_Sums : u_T := fun k => match k with
  | 0 => ("RootAlgebra$Sums", "left", "[LRootAlgebra$Big;", true)
  | 1 => ("RootAlgebra$Sums", "right", "[LRootAlgebra$Big;", true)
  | 2 => ("RootAlgebra$Sums", "both", "[LRootAlgebra$Big;", true)
  | _ => ("RootAlgebra$Sums", "term", "LRootAlgebra$Big;", true)
def zt_Sums : Nat → FieldType := fun k => match k with
  | 0 => .array (.object "RootAlgebra$Big")
  | 1 => .array (.object "RootAlgebra$Big")
  | 2 => .array (.object "RootAlgebra$Big")
  | _ => .object "RootAlgebra$Big"
def zT_Value : u_T := fun k => match k with
  | 0 => ("RootAlgebra$Value", "c", "[I", true)
  | 1 => ("RootAlgebra$Value", "low", "LRootAlgebra$Big;", true)
  | 2 => ("RootAlgebra$Value", "degree", "I", false)
  | 3 => ("RootAlgebra$Value", "index", "I", false)
  | 4 => ("RootAlgebra$Value", "roots", "I", false)
  | 5 => ("RootAlgebra$Value", "negatives", "I", false)
  | _ => ("RootAlgebra$Value", "scale", "I", false)
def zt_Value : Nat → FieldType := fun k => match k with
  | 0 => .array (.int)
  | 1 => .object "RootAlgebra$Big"
  | 2 => .int
  | 3 => .int
  | 4 => .int
  | 5 => .int
  | _ => .int
def zT_Md : u_T := fun k => match k with
  | 0 => ("RootAlgebraModel", "thrown", "I", false)
  | 1 => ("RootAlgebraModel", "tape", "[I", true)
  | 2 => ("RootAlgebraModel", "taped", "I", false)
  | 3 => ("RootAlgebraModel", "text", "[I", true)
  | 4 => ("RootAlgebraModel", "written", "I", false)
  | 5 => ("RootAlgebraModel", "place", "I", false)
  | 6 => ("RootAlgebraModel", "done", "I", false)
  | 7 => ("RootAlgebraModel", "has", "[Z", true)
  | 8 => ("RootAlgebraModel", "valueDegree", "[I", true)
  | 9 => ("RootAlgebraModel", "valueC", "[J", true)
  | 10 => ("RootAlgebraModel", "valueIndex", "[I", true)
  | 11 => ("RootAlgebraModel", "valueRoots", "[I", true)
  | 12 => ("RootAlgebraModel", "d", "[J", true)
  | 13 => ("RootAlgebraModel", "size", "[I", true)
  | 14 => ("RootAlgebraModel", "sgn", "[I", true)
  | 15 => ("RootAlgebraModel", "hold", "[J", true)
  | 16 => ("RootAlgebraModel", "divisor", "[J", true)
  | 17 => ("RootAlgebraModel", "dividend", "[J", true)
  | 18 => ("RootAlgebraModel", "rowDegree", "[I", true)
  | 19 => ("RootAlgebraModel", "rowsMade", "I", false)
  | 20 => ("RootAlgebraModel", "baseOf", "[I", true)
  | 21 => ("RootAlgebraModel", "degreeOf", "[I", true)
  | 22 => ("RootAlgebraModel", "cell", "[I", true)
  | 23 => ("RootAlgebraModel", "fine", "[I", true)
  | 24 => ("RootAlgebraModel", "w", "[J", true)
  | 25 => ("RootAlgebraModel", "t", "[J", true)
  | 26 => ("RootAlgebraModel", "u", "[J", true)
  | 27 => ("RootAlgebraModel", "zero", "[J", true)
  | 28 => ("RootAlgebraModel", "cells", "[J", true)
  | 29 => ("RootAlgebraModel", "deg", "[I", true)
  | 30 => ("RootAlgebraModel", "chance", "J", false)
  | 31 => ("RootAlgebraModel", "many", "I", false)
  | 32 => ("RootAlgebraModel", "times", "[I", true)
  | 33 => ("RootAlgebraModel", "taken", "[I", true)
  | 34 => ("RootAlgebraModel", "unit", "[J", true)
  | 35 => ("RootAlgebraModel", "matrix", "[J", true)
  | 36 => ("RootAlgebraModel", "power", "[J", true)
  | 37 => ("RootAlgebraModel", "next", "[J", true)
  | 38 => ("RootAlgebraModel", "one", "[J", true)
  | 39 => ("RootAlgebraModel", "factor", "[J", true)
  | 40 => ("RootAlgebraModel", "pa", "[J", true)
  | 41 => ("RootAlgebraModel", "pb", "[J", true)
  | 42 => ("RootAlgebraModel", "da", "I", false)
  | 43 => ("RootAlgebraModel", "db", "I", false)
  | 44 => ("RootAlgebraModel", "candidate", "[J", true)
  | 45 => ("RootAlgebraModel", "candidateDegree", "I", false)
  | 46 => ("RootAlgebraModel", "what", "I", false)
  | 47 => ("RootAlgebraModel", "rootOrder", "I", false)
  | 48 => ("RootAlgebraModel", "bound", "I", false)
  | 49 => ("RootAlgebraModel", "measure", "I", false)
  | 50 => ("RootAlgebraModel", "need", "I", false)
  | 51 => ("RootAlgebraModel", "given", "[J", true)
  | 52 => ("RootAlgebraModel", "signs", "I", false)
  | 53 => ("RootAlgebraModel", "sign", "[I", true)
  | 54 => ("RootAlgebraModel", "brings", "[J", true)
  | 55 => ("RootAlgebraModel", "coefficients", "I", false)
  | 56 => ("RootAlgebraModel", "coefficient", "[J", true)
  | 57 => ("RootAlgebraModel", "coefficientMany", "[I", true)
  | 58 => ("RootAlgebraModel", "target", "I", false)
  | 59 => ("RootAlgebraModel", "at", "I", false)
  | 60 => ("RootAlgebraModel", "open", "I", false)
  | 61 => ("RootAlgebraModel", "values", "I", false)
  | 62 => ("RootAlgebraModel", "waits", "I", false)
  | 63 => ("RootAlgebraModel", "waiting", "[I", true)
  | _ => ("RootAlgebraModel", "waitingWith", "[J", true)
def zt_Md : Nat → FieldType := fun k => match k with
  | 0 => .int
  | 1 => .array (.int)
  | 2 => .int
  | 3 => .array (.int)
  | 4 => .int
  | 5 => .int
  | 6 => .int
  | 7 => .array (.boolean)
  | 8 => .array (.int)
  | 9 => .array (.long)
  | 10 => .array (.int)
  | 11 => .array (.int)
  | 12 => .array (.long)
  | 13 => .array (.int)
  | 14 => .array (.int)
  | 15 => .array (.long)
  | 16 => .array (.long)
  | 17 => .array (.long)
  | 18 => .array (.int)
  | 19 => .int
  | 20 => .array (.int)
  | 21 => .array (.int)
  | 22 => .array (.int)
  | 23 => .array (.int)
  | 24 => .array (.long)
  | 25 => .array (.long)
  | 26 => .array (.long)
  | 27 => .array (.long)
  | 28 => .array (.long)
  | 29 => .array (.int)
  | 30 => .long
  | 31 => .int
  | 32 => .array (.int)
  | 33 => .array (.int)
  | 34 => .array (.long)
  | 35 => .array (.long)
  | 36 => .array (.long)
  | 37 => .array (.long)
  | 38 => .array (.long)
  | 39 => .array (.long)
  | 40 => .array (.long)
  | 41 => .array (.long)
  | 42 => .int
  | 43 => .int
  | 44 => .array (.long)
  | 45 => .int
  | 46 => .int
  | 47 => .int
  | 48 => .int
  | 49 => .int
  | 50 => .int
  | 51 => .array (.long)
  | 52 => .int
  | 53 => .array (.int)
  | 54 => .array (.long)
  | 55 => .int
  | 56 => .array (.long)
  | 57 => .array (.int)
  | 58 => .int
  | 59 => .int
  | 60 => .int
  | 61 => .int
  | 62 => .int
  | 63 => .array (.int)
  | _ => .array (.long)
abbrev zCl : List vw_C := [("RootAlgebra", zT_RA, 11), ("RootAlgebra$Big", zT_Big, 3), ("RootAlgebra$Desk", zT_Desk, 12), ("RootAlgebra$Factors", zT_Factors, 20), ("RootAlgebra$Field", zT_Field, 7), ("RootAlgebra$Gauge", zT_Gauge, 17), ("RootAlgebra$Isolator", zT_Isolator, 11), ("RootAlgebra$Padic", zT_Padic, 3), ("RootAlgebra$Poly", zT_Poly, 2), ("RootAlgebra$Reader", zT_Reader, 7), ("RootAlgebra$Sums", zT_Sums, 4), ("RootAlgebra$Value", zT_Value, 7), ("RootAlgebraModel", zT_Md, 65)]
abbrev b_Big_divide : ByteArray := prog_2_method_13_code
def y_Big_divide : MethodName := ⟨"RootAlgebra$Big", "divide", "(I)I"⟩
abbrev b_Big_divideDown : ByteArray := prog_2_method_15_code
def y_Big_divideDown : MethodName := ⟨"RootAlgebra$Big", "divideDown", "(I)V"⟩
abbrev b_Big_init : ByteArray := prog_2_method_1_code
def y_Big_init : MethodName := ⟨"RootAlgebra$Big", "<init>", "(I)V"⟩
abbrev b_Big_scale : ByteArray := prog_2_method_12_code
def y_Big_scale : MethodName := ⟨"RootAlgebra$Big", "scale", "(I)V"⟩
abbrev b_Big_set : ByteArray := prog_2_method_3_code
def y_Big_set : MethodName := ⟨"RootAlgebra$Big", "set", "(LRootAlgebra$Big;)V"⟩
abbrev b_Big_setLong : ByteArray := prog_2_method_2_code
def y_Big_setLong : MethodName := ⟨"RootAlgebra$Big", "setLong", "(J)V"⟩
abbrev b_Big_trim : ByteArray := prog_2_method_23_code
def y_Big_trim : MethodName := ⟨"RootAlgebra$Big", "trim", "()V"⟩
abbrev b_Desk_init : ByteArray := prog_3_method_1_code
def y_Desk_init : MethodName := ⟨"RootAlgebra$Desk", "<init>", "()V"⟩
abbrev b_Factors_init : ByteArray := prog_4_method_1_code
def y_Factors_init : MethodName := ⟨"RootAlgebra$Factors", "<init>", "()V"⟩
abbrev b_Field_init : ByteArray := prog_5_method_1_code
def y_Field_init : MethodName := ⟨"RootAlgebra$Field", "<init>", "()V"⟩
abbrev b_Gauge_init : ByteArray := prog_6_method_1_code
def y_Gauge_init : MethodName := ⟨"RootAlgebra$Gauge", "<init>", "()V"⟩
abbrev b_Gauge_order : ByteArray := prog_6_method_5_code
def y_Gauge_order : MethodName := ⟨"RootAlgebra$Gauge", "order", "(LRootAlgebra$Value;LRootAlgebra$Value;)I"⟩
abbrev b_Gauge_timesTen : ByteArray := prog_6_method_7_code
def y_Gauge_timesTen : MethodName := ⟨"RootAlgebra$Gauge", "timesTen", "(LRootAlgebra$Big;I)V"⟩
abbrev b_Gauge_wholePart : ByteArray := prog_6_method_6_code
def y_Gauge_wholePart : MethodName := ⟨"RootAlgebra$Gauge", "wholePart", "(LRootAlgebra$Value;I)LRootAlgebra$Big;"⟩
abbrev b_Integer_compare : ByteArray := prog_18_method_40_code
def y_Integer_compare : MethodName := ⟨"java/lang/Integer", "compare", "(II)I"⟩
abbrev b_Isolator_init : ByteArray := prog_7_method_1_code
def y_Isolator_init : MethodName := ⟨"RootAlgebra$Isolator", "<init>", "()V"⟩
abbrev b_Md_against : ByteArray := prog_14_method_90_code
def y_Md_against : MethodName := ⟨"RootAlgebraModel", "against", "(II)I"⟩
abbrev b_Md_bars : ByteArray := prog_14_method_110_code
def y_Md_bars : MethodName := ⟨"RootAlgebraModel", "bars", "(I)Z"⟩
abbrev b_Md_coefficient : ByteArray := prog_14_method_112_code
def y_Md_coefficient : MethodName := ⟨"RootAlgebraModel", "coefficient", "(II)I"⟩
abbrev b_Md_compare : ByteArray := prog_14_method_115_code
def y_Md_compare : MethodName := ⟨"RootAlgebraModel", "compare", "(II)I"⟩
abbrev b_Md_degree : ByteArray := prog_14_method_111_code
def y_Md_degree : MethodName := ⟨"RootAlgebraModel", "degree", "(I)I"⟩
abbrev b_Md_digit : ByteArray := prog_14_method_12_code
def y_Md_digit : MethodName := ⟨"RootAlgebraModel", "digit", "(II)J"⟩
abbrev b_Md_divided : ByteArray := prog_14_method_21_code
def y_Md_divided : MethodName := ⟨"RootAlgebraModel", "divided", "(IIII)V"⟩
abbrev b_Md_drop : ByteArray := prog_14_method_122_code
def y_Md_drop : MethodName := ⟨"RootAlgebraModel", "drop", "(I)Z"⟩
abbrev b_Md_fails : ByteArray := prog_14_method_3_code
def y_Md_fails : MethodName := ⟨"RootAlgebraModel", "fails", "(ZI)Z"⟩
abbrev b_Md_feed : ByteArray := prog_14_method_107_code
def y_Md_feed : MethodName := ⟨"RootAlgebraModel", "feed", "(IJ)I"⟩
abbrev b_Md_fix : ByteArray := prog_14_method_9_code
def y_Md_fix : MethodName := ⟨"RootAlgebraModel", "fix", "(I)V"⟩
abbrev b_Md_floor : ByteArray := prog_14_method_117_code
def y_Md_floor : MethodName := ⟨"RootAlgebraModel", "floor", "(II)I"⟩
abbrev b_Md_in : ByteArray := prog_14_method_4_code
def y_Md_in : MethodName := ⟨"RootAlgebraModel", "in", "(JJJ)Z"⟩
abbrev b_Md_index : ByteArray := prog_14_method_113_code
def y_Md_index : MethodName := ⟨"RootAlgebraModel", "index", "(I)I"⟩
abbrev b_Md_init : ByteArray := prog_14_method_1_code
def y_Md_init : MethodName := ⟨"RootAlgebraModel", "<init>", "()V"⟩
abbrev b_Md_isLine : ByteArray := prog_14_method_97_code
def y_Md_isLine : MethodName := ⟨"RootAlgebraModel", "isLine", "()Z"⟩
abbrev b_Md_isName : ByteArray := prog_14_method_109_code
def y_Md_isName : MethodName := ⟨"RootAlgebraModel", "isName", "(I)Z"⟩
abbrev b_Md_lands : ByteArray := prog_14_method_17_code
def y_Md_lands : MethodName := ⟨"RootAlgebraModel", "lands", "(III)V"⟩
abbrev b_Md_letter : ByteArray := prog_14_method_119_code
def y_Md_letter : MethodName := ⟨"RootAlgebraModel", "letter", "(I)V"⟩
abbrev b_Md_line : ByteArray := prog_14_method_106_code
def y_Md_line : MethodName := ⟨"RootAlgebraModel", "line", "()I"⟩
abbrev b_Md_look : ByteArray := prog_14_method_108_code
def y_Md_look : MethodName := ⟨"RootAlgebraModel", "look", "(I)I"⟩
abbrev b_Md_multiplied : ByteArray := prog_14_method_18_code
def y_Md_multiplied : MethodName := ⟨"RootAlgebraModel", "multiplied", "(III)V"⟩
abbrev b_Md_number : ByteArray := prog_14_method_5_code
def y_Md_number : MethodName := ⟨"RootAlgebraModel", "number", "(IJ)V"⟩
abbrev b_Md_opens : ByteArray := prog_14_method_98_code
def y_Md_opens : MethodName := ⟨"RootAlgebraModel", "opens", "(I)Z"⟩
abbrev b_Md_out : ByteArray := prog_14_method_121_code
def y_Md_out : MethodName := ⟨"RootAlgebraModel", "out", "(I)J"⟩
abbrev b_Md_peek : ByteArray := prog_14_method_94_code
def y_Md_peek : MethodName := ⟨"RootAlgebraModel", "peek", "()I"⟩
abbrev b_Md_put : ByteArray := prog_14_method_10_code
def y_Md_put : MethodName := ⟨"RootAlgebraModel", "put", "(IJ)V"⟩
abbrev b_Md_roots : ByteArray := prog_14_method_114_code
def y_Md_roots : MethodName := ⟨"RootAlgebraModel", "roots", "(I)I"⟩
abbrev b_Md_says : ByteArray := prog_14_method_118_code
def y_Md_says : MethodName := ⟨"RootAlgebraModel", "says", "()V"⟩
abbrev b_Md_seats : ByteArray := prog_14_method_30_code
def y_Md_seats : MethodName := ⟨"RootAlgebraModel", "seats", "()V"⟩
abbrev b_Md_thrown : ByteArray := prog_14_method_2_code
def y_Md_thrown : MethodName := ⟨"RootAlgebraModel", "thrown", "()I"⟩
abbrev b_Md_write : ByteArray := prog_14_method_120_code
def y_Md_write : MethodName := ⟨"RootAlgebraModel", "write", "(I)I"⟩
abbrev b_Padic_init : ByteArray := prog_8_method_1_code
def y_Padic_init : MethodName := ⟨"RootAlgebra$Padic", "<init>", "()V"⟩
abbrev b_Poly_init : ByteArray := prog_9_method_1_code
def y_Poly_init : MethodName := ⟨"RootAlgebra$Poly", "<init>", "()V"⟩
abbrev b_RA_coefficient : ByteArray := prog_1_method_6_code
def y_RA_coefficient : MethodName := ⟨"RootAlgebra", "coefficient", "(II)I"⟩
abbrev b_RA_compare : ByteArray := prog_1_method_9_code
def y_RA_compare : MethodName := ⟨"RootAlgebra", "compare", "(II)I"⟩
abbrev b_RA_degree : ByteArray := prog_1_method_5_code
def y_RA_degree : MethodName := ⟨"RootAlgebra", "degree", "(I)I"⟩
abbrev b_RA_drop : ByteArray := prog_1_method_13_code
def y_RA_drop : MethodName := ⟨"RootAlgebra", "drop", "(I)Z"⟩
abbrev b_RA_feed : ByteArray := prog_1_method_2_code
def y_RA_feed : MethodName := ⟨"RootAlgebra", "feed", "(IJ)I"⟩
abbrev b_RA_floor : ByteArray := prog_1_method_10_code
def y_RA_floor : MethodName := ⟨"RootAlgebra", "floor", "(II)I"⟩
abbrev b_RA_index : ByteArray := prog_1_method_7_code
def y_RA_index : MethodName := ⟨"RootAlgebra", "index", "(I)I"⟩
abbrev b_RA_init : ByteArray := prog_1_method_1_code
def y_RA_init : MethodName := ⟨"RootAlgebra", "<init>", "()V"⟩
abbrev b_RA_isName : ByteArray := prog_1_method_14_code
def y_RA_isName : MethodName := ⟨"RootAlgebra", "isName", "(I)Z"⟩
abbrev b_RA_line : ByteArray := prog_1_method_3_code
def y_RA_line : MethodName := ⟨"RootAlgebra", "line", "()I"⟩
abbrev b_RA_look : ByteArray := prog_1_method_4_code
def y_RA_look : MethodName := ⟨"RootAlgebra", "look", "(I)I"⟩
abbrev b_RA_namesWithValue : ByteArray := prog_1_method_15_code
def y_RA_namesWithValue : MethodName := ⟨"RootAlgebra", "namesWithValue", "()I"⟩
abbrev b_RA_put : ByteArray := prog_1_method_16_code
def y_RA_put : MethodName := ⟨"RootAlgebra", "put", "(I)V"⟩
abbrev b_RA_putRest : ByteArray := prog_1_method_17_code
def y_RA_putRest : MethodName := ⟨"RootAlgebra", "putRest", "()V"⟩
abbrev b_RA_roots : ByteArray := prog_1_method_8_code
def y_RA_roots : MethodName := ⟨"RootAlgebra", "roots", "(I)I"⟩
abbrev b_RA_write : ByteArray := prog_1_method_11_code
def y_RA_write : MethodName := ⟨"RootAlgebra", "write", "(I)I"⟩
abbrev b_Reader_factor : ByteArray := prog_10_method_8_code
def y_Reader_factor : MethodName := ⟨"RootAlgebra$Reader", "factor", "(I)Z"⟩
abbrev b_Reader_init : ByteArray := prog_10_method_1_code
def y_Reader_init : MethodName := ⟨"RootAlgebra$Reader", "<init>", "([B)V"⟩
abbrev b_Reader_next : ByteArray := prog_10_method_4_code
def y_Reader_next : MethodName := ⟨"RootAlgebra$Reader", "next", "()I"⟩
abbrev b_Reader_product : ByteArray := prog_10_method_7_code
def y_Reader_product : MethodName := ⟨"RootAlgebra$Reader", "product", "(I)Z"⟩
abbrev b_Reader_readTarget : ByteArray := prog_10_method_3_code
def y_Reader_readTarget : MethodName := ⟨"RootAlgebra$Reader", "readTarget", "()V"⟩
abbrev b_Reader_reads : ByteArray := prog_10_method_2_code
def y_Reader_reads : MethodName := ⟨"RootAlgebra$Reader", "reads", "(I)Z"⟩
abbrev b_Reader_sum : ByteArray := prog_10_method_6_code
def y_Reader_sum : MethodName := ⟨"RootAlgebra$Reader", "sum", "(I)Z"⟩
abbrev b_Sums_init : ByteArray := prog_11_method_1_code
def y_Sums_init : MethodName := ⟨"RootAlgebra$Sums", "<init>", "()V"⟩
abbrev b_Value_finishFraction : ByteArray := prog_12_method_3_code
def y_Value_finishFraction : MethodName := ⟨"RootAlgebra$Value", "finishFraction", "()V"⟩
abbrev b_Value_hasPolynomialOf : ByteArray := prog_12_method_9_code
def y_Value_hasPolynomialOf : MethodName := ⟨"RootAlgebra$Value", "hasPolynomialOf", "(LRootAlgebra$Value;)Z"⟩
abbrev b_Value_init : ByteArray := prog_12_method_1_code
def y_Value_init : MethodName := ⟨"RootAlgebra$Value", "<init>", "()V"⟩
abbrev b_Value_setFraction : ByteArray := prog_12_method_2_code
def y_Value_setFraction : MethodName := ⟨"RootAlgebra$Value", "setFraction", "(II)V"⟩
end
section
/-! what each instruction is; laid by program -/
theorem d_Big_divide_0 : decode b_Big_divide 0 = .ok (.iload_n 1, 1) := by decide +kernel
theorem d_Big_divide_1 : decode b_Big_divide 1 = .ok (.ifCond .gt 5, 3) := by decide +kernel
theorem d_Big_divide_6 : decode b_Big_divide 6 = .ok (.lconst 0, 1) := by decide +kernel
theorem d_Big_divide_7 : decode b_Big_divide 7 = .ok (.lstore_n 2, 1) := by decide +kernel
theorem d_Big_divide_8 : decode b_Big_divide 8 = .ok (.aload_n 0, 1) := by decide +kernel
theorem d_Big_divide_9 : decode b_Big_divide 9 = .ok (.getfield 17, 3) := by decide +kernel
theorem d_Big_divide_12 : decode b_Big_divide 12 = .ok (.iconst 1, 1) := by decide +kernel
theorem d_Big_divide_13 : decode b_Big_divide 13 = .ok (.isub, 1) := by decide +kernel
theorem d_Big_divide_14 : decode b_Big_divide 14 = .ok (.istore 4, 2) := by decide +kernel
theorem d_Big_divide_16 : decode b_Big_divide 16 = .ok (.iload 4, 2) := by decide +kernel
theorem d_Big_divide_18 : decode b_Big_divide 18 = .ok (.ifCond .lt 47, 3) := by decide +kernel
theorem d_Big_divide_21 : decode b_Big_divide 21 = .ok (.lload_n 2, 1) := by decide +kernel
theorem d_Big_divide_22 : decode b_Big_divide 22 = .ok (.bipush 32, 2) := by decide +kernel
theorem d_Big_divide_24 : decode b_Big_divide 24 = .ok (.lshl, 1) := by decide +kernel
theorem d_Big_divide_25 : decode b_Big_divide 25 = .ok (.aload_n 0, 1) := by decide +kernel
theorem d_Big_divide_26 : decode b_Big_divide 26 = .ok (.getfield 7, 3) := by decide +kernel
theorem d_Big_divide_29 : decode b_Big_divide 29 = .ok (.iload 4, 2) := by decide +kernel
theorem d_Big_divide_31 : decode b_Big_divide 31 = .ok (.iaload, 1) := by decide +kernel
theorem d_Big_divide_32 : decode b_Big_divide 32 = .ok (.i2l, 1) := by decide +kernel
theorem d_Big_divide_33 : decode b_Big_divide 33 = .ok (.ldc2_w 35, 3) := by decide +kernel
theorem d_Big_divide_36 : decode b_Big_divide 36 = .ok (.land, 1) := by decide +kernel
theorem d_Big_divide_37 : decode b_Big_divide 37 = .ok (.lor, 1) := by decide +kernel
theorem d_Big_divide_38 : decode b_Big_divide 38 = .ok (.lstore 5, 2) := by decide +kernel
theorem d_Big_divide_40 : decode b_Big_divide 40 = .ok (.aload_n 0, 1) := by decide +kernel
theorem d_Big_divide_41 : decode b_Big_divide 41 = .ok (.getfield 7, 3) := by decide +kernel
theorem d_Big_divide_44 : decode b_Big_divide 44 = .ok (.iload 4, 2) := by decide +kernel
theorem d_Big_divide_46 : decode b_Big_divide 46 = .ok (.lload 5, 2) := by decide +kernel
theorem d_Big_divide_48 : decode b_Big_divide 48 = .ok (.iload_n 1, 1) := by decide +kernel
theorem d_Big_divide_49 : decode b_Big_divide 49 = .ok (.i2l, 1) := by decide +kernel
theorem d_Big_divide_50 : decode b_Big_divide 50 = .ok (.ldiv, 1) := by decide +kernel
theorem d_Big_divide_51 : decode b_Big_divide 51 = .ok (.l2i, 1) := by decide +kernel
theorem d_Big_divide_52 : decode b_Big_divide 52 = .ok (.iastore, 1) := by decide +kernel
theorem d_Big_divide_53 : decode b_Big_divide 53 = .ok (.lload 5, 2) := by decide +kernel
theorem d_Big_divide_55 : decode b_Big_divide 55 = .ok (.iload_n 1, 1) := by decide +kernel
theorem d_Big_divide_56 : decode b_Big_divide 56 = .ok (.i2l, 1) := by decide +kernel
theorem d_Big_divide_57 : decode b_Big_divide 57 = .ok (.lrem, 1) := by decide +kernel
theorem d_Big_divide_58 : decode b_Big_divide 58 = .ok (.lstore_n 2, 1) := by decide +kernel
theorem d_Big_divide_59 : decode b_Big_divide 59 = .ok (.iinc 4 (-1), 3) := by decide +kernel
theorem d_Big_divide_62 : decode b_Big_divide 62 = .ok (.goto (-46), 3) := by decide +kernel
theorem d_Big_divide_65 : decode b_Big_divide 65 = .ok (.aload_n 0, 1) := by decide +kernel
theorem d_Big_divide_66 : decode b_Big_divide 66 = .ok (.invokevirtual 32, 3) := by decide +kernel
theorem d_Big_divide_69 : decode b_Big_divide 69 = .ok (.lload_n 2, 1) := by decide +kernel
theorem d_Big_divide_70 : decode b_Big_divide 70 = .ok (.l2i, 1) := by decide +kernel
theorem d_Big_divide_71 : decode b_Big_divide 71 = .ok (.ireturn, 1) := by decide +kernel
theorem d_Big_divideDown_0 : decode b_Big_divideDown 0 = .ok (.aload_n 0, 1) := by decide +kernel
theorem d_Big_divideDown_1 : decode b_Big_divideDown 1 = .ok (.getfield 13, 3) := by decide +kernel
theorem d_Big_divideDown_4 : decode b_Big_divideDown 4 = .ok (.ifCond .ge 7, 3) := by decide +kernel
theorem d_Big_divideDown_11 : decode b_Big_divideDown 11 = .ok (.iconst 0, 1) := by decide +kernel
theorem d_Big_divideDown_12 : decode b_Big_divideDown 12 = .ok (.istore_n 2, 1) := by decide +kernel
theorem d_Big_divideDown_13 : decode b_Big_divideDown 13 = .ok (.aload_n 0, 1) := by decide +kernel
theorem d_Big_divideDown_14 : decode b_Big_divideDown 14 = .ok (.iload_n 1, 1) := by decide +kernel
theorem d_Big_divideDown_15 : decode b_Big_divideDown 15 = .ok (.invokevirtual 56, 3) := by decide +kernel
theorem d_Big_divideDown_18 : decode b_Big_divideDown 18 = .ok (.ifCond .eq 11, 3) := by decide +kernel
theorem d_Big_divideDown_29 : decode b_Big_divideDown 29 = .ok (.return_, 1) := by decide +kernel
theorem d_Big_init_0 : decode b_Big_init 0 = .ok (.aload_n 0, 1) := by decide +kernel
theorem d_Big_init_1 : decode b_Big_init 1 = .ok (.invokespecial 1, 3) := by decide +kernel
theorem d_Big_init_4 : decode b_Big_init 4 = .ok (.aload_n 0, 1) := by decide +kernel
theorem d_Big_init_5 : decode b_Big_init 5 = .ok (.iload_n 1, 1) := by decide +kernel
theorem d_Big_init_6 : decode b_Big_init 6 = .ok (.newarray .int, 2) := by decide +kernel
theorem d_Big_init_8 : decode b_Big_init 8 = .ok (.putfield 7, 3) := by decide +kernel
theorem d_Big_init_11 : decode b_Big_init 11 = .ok (.return_, 1) := by decide +kernel
theorem d_Big_scale_0 : decode b_Big_scale 0 = .ok (.iload_n 1, 1) := by decide +kernel
theorem d_Big_scale_1 : decode b_Big_scale 1 = .ok (.iconst 1, 1) := by decide +kernel
theorem d_Big_scale_2 : decode b_Big_scale 2 = .ok (.if_icmp .eq 10, 3) := by decide +kernel
theorem d_Big_scale_5 : decode b_Big_scale 5 = .ok (.aload_n 0, 1) := by decide +kernel
theorem d_Big_scale_6 : decode b_Big_scale 6 = .ok (.getfield 13, 3) := by decide +kernel
theorem d_Big_scale_9 : decode b_Big_scale 9 = .ok (.ifCond .ne 4, 3) := by decide +kernel
theorem d_Big_scale_12 : decode b_Big_scale 12 = .ok (.return_, 1) := by decide +kernel
theorem d_Big_set_0 : decode b_Big_set 0 = .ok (.aload_n 0, 1) := by decide +kernel
theorem d_Big_set_1 : decode b_Big_set 1 = .ok (.aload_n 1, 1) := by decide +kernel
theorem d_Big_set_2 : decode b_Big_set 2 = .ok (.getfield 17, 3) := by decide +kernel
theorem d_Big_set_5 : decode b_Big_set 5 = .ok (.aload_n 0, 1) := by decide +kernel
theorem d_Big_set_6 : decode b_Big_set 6 = .ok (.getfield 7, 3) := by decide +kernel
theorem d_Big_set_9 : decode b_Big_set 9 = .ok (.arraylength, 1) := by decide +kernel
theorem d_Big_set_10 : decode b_Big_set 10 = .ok (.invokestatic 20, 3) := by decide +kernel
theorem d_Big_set_13 : decode b_Big_set 13 = .ok (.putfield 17, 3) := by decide +kernel
theorem d_Big_set_16 : decode b_Big_set 16 = .ok (.aload_n 1, 1) := by decide +kernel
theorem d_Big_set_17 : decode b_Big_set 17 = .ok (.getfield 7, 3) := by decide +kernel
theorem d_Big_set_20 : decode b_Big_set 20 = .ok (.iconst 0, 1) := by decide +kernel
theorem d_Big_set_21 : decode b_Big_set 21 = .ok (.aload_n 0, 1) := by decide +kernel
theorem d_Big_set_22 : decode b_Big_set 22 = .ok (.getfield 7, 3) := by decide +kernel
theorem d_Big_set_25 : decode b_Big_set 25 = .ok (.iconst 0, 1) := by decide +kernel
theorem d_Big_set_26 : decode b_Big_set 26 = .ok (.aload_n 0, 1) := by decide +kernel
theorem d_Big_set_27 : decode b_Big_set 27 = .ok (.getfield 17, 3) := by decide +kernel
theorem d_Big_set_30 : decode b_Big_set 30 = .ok (.invokestatic 26, 3) := by decide +kernel
theorem d_Big_set_33 : decode b_Big_set 33 = .ok (.aload_n 0, 1) := by decide +kernel
theorem d_Big_set_34 : decode b_Big_set 34 = .ok (.aload_n 1, 1) := by decide +kernel
theorem d_Big_set_35 : decode b_Big_set 35 = .ok (.getfield 13, 3) := by decide +kernel
theorem d_Big_set_38 : decode b_Big_set 38 = .ok (.putfield 13, 3) := by decide +kernel
theorem d_Big_set_41 : decode b_Big_set 41 = .ok (.aload_n 0, 1) := by decide +kernel
theorem d_Big_set_42 : decode b_Big_set 42 = .ok (.invokevirtual 32, 3) := by decide +kernel
theorem d_Big_set_45 : decode b_Big_set 45 = .ok (.return_, 1) := by decide +kernel
theorem d_Big_setLong_0 : decode b_Big_setLong 0 = .ok (.aload_n 0, 1) := by decide +kernel
theorem d_Big_setLong_1 : decode b_Big_setLong 1 = .ok (.lload_n 1, 1) := by decide +kernel
theorem d_Big_setLong_2 : decode b_Big_setLong 2 = .ok (.lconst 0, 1) := by decide +kernel
theorem d_Big_setLong_3 : decode b_Big_setLong 3 = .ok (.lcmp, 1) := by decide +kernel
theorem d_Big_setLong_4 : decode b_Big_setLong 4 = .ok (.ifCond .ge 7, 3) := by decide +kernel
theorem d_Big_setLong_11 : decode b_Big_setLong 11 = .ok (.lload_n 1, 1) := by decide +kernel
theorem d_Big_setLong_12 : decode b_Big_setLong 12 = .ok (.lconst 0, 1) := by decide +kernel
theorem d_Big_setLong_13 : decode b_Big_setLong 13 = .ok (.lcmp, 1) := by decide +kernel
theorem d_Big_setLong_14 : decode b_Big_setLong 14 = .ok (.ifCond .le 7, 3) := by decide +kernel
theorem d_Big_setLong_17 : decode b_Big_setLong 17 = .ok (.iconst 1, 1) := by decide +kernel
theorem d_Big_setLong_18 : decode b_Big_setLong 18 = .ok (.goto 4, 3) := by decide +kernel
theorem d_Big_setLong_21 : decode b_Big_setLong 21 = .ok (.iconst 0, 1) := by decide +kernel
theorem d_Big_setLong_22 : decode b_Big_setLong 22 = .ok (.putfield 13, 3) := by decide +kernel
theorem d_Big_setLong_25 : decode b_Big_setLong 25 = .ok (.lload_n 1, 1) := by decide +kernel
theorem d_Big_setLong_26 : decode b_Big_setLong 26 = .ok (.lconst 0, 1) := by decide +kernel
theorem d_Big_setLong_27 : decode b_Big_setLong 27 = .ok (.lcmp, 1) := by decide +kernel
theorem d_Big_setLong_28 : decode b_Big_setLong 28 = .ok (.ifCond .ge 8, 3) := by decide +kernel
theorem d_Big_setLong_36 : decode b_Big_setLong 36 = .ok (.lload_n 1, 1) := by decide +kernel
theorem d_Big_setLong_37 : decode b_Big_setLong 37 = .ok (.lstore_n 3, 1) := by decide +kernel
theorem d_Big_setLong_38 : decode b_Big_setLong 38 = .ok (.aload_n 0, 1) := by decide +kernel
theorem d_Big_setLong_39 : decode b_Big_setLong 39 = .ok (.iconst 0, 1) := by decide +kernel
theorem d_Big_setLong_40 : decode b_Big_setLong 40 = .ok (.putfield 17, 3) := by decide +kernel
theorem d_Big_setLong_43 : decode b_Big_setLong 43 = .ok (.iconst 0, 1) := by decide +kernel
theorem d_Big_setLong_44 : decode b_Big_setLong 44 = .ok (.istore 5, 2) := by decide +kernel
theorem d_Big_setLong_46 : decode b_Big_setLong 46 = .ok (.iload 5, 2) := by decide +kernel
theorem d_Big_setLong_48 : decode b_Big_setLong 48 = .ok (.iconst 2, 1) := by decide +kernel
theorem d_Big_setLong_49 : decode b_Big_setLong 49 = .ok (.if_icmp .ge 47, 3) := by decide +kernel
theorem d_Big_setLong_52 : decode b_Big_setLong 52 = .ok (.iload 5, 2) := by decide +kernel
theorem d_Big_setLong_54 : decode b_Big_setLong 54 = .ok (.aload_n 0, 1) := by decide +kernel
theorem d_Big_setLong_55 : decode b_Big_setLong 55 = .ok (.getfield 7, 3) := by decide +kernel
theorem d_Big_setLong_58 : decode b_Big_setLong 58 = .ok (.arraylength, 1) := by decide +kernel
theorem d_Big_setLong_59 : decode b_Big_setLong 59 = .ok (.if_icmp .ge 37, 3) := by decide +kernel
theorem d_Big_setLong_62 : decode b_Big_setLong 62 = .ok (.lload_n 3, 1) := by decide +kernel
theorem d_Big_setLong_63 : decode b_Big_setLong 63 = .ok (.lconst 0, 1) := by decide +kernel
theorem d_Big_setLong_64 : decode b_Big_setLong 64 = .ok (.lcmp, 1) := by decide +kernel
theorem d_Big_setLong_65 : decode b_Big_setLong 65 = .ok (.ifCond .eq 31, 3) := by decide +kernel
theorem d_Big_setLong_68 : decode b_Big_setLong 68 = .ok (.aload_n 0, 1) := by decide +kernel
theorem d_Big_setLong_69 : decode b_Big_setLong 69 = .ok (.getfield 7, 3) := by decide +kernel
theorem d_Big_setLong_72 : decode b_Big_setLong 72 = .ok (.iload 5, 2) := by decide +kernel
theorem d_Big_setLong_74 : decode b_Big_setLong 74 = .ok (.lload_n 3, 1) := by decide +kernel
theorem d_Big_setLong_75 : decode b_Big_setLong 75 = .ok (.l2i, 1) := by decide +kernel
theorem d_Big_setLong_76 : decode b_Big_setLong 76 = .ok (.iastore, 1) := by decide +kernel
theorem d_Big_setLong_77 : decode b_Big_setLong 77 = .ok (.lload_n 3, 1) := by decide +kernel
theorem d_Big_setLong_78 : decode b_Big_setLong 78 = .ok (.bipush 32, 2) := by decide +kernel
theorem d_Big_setLong_80 : decode b_Big_setLong 80 = .ok (.lushr, 1) := by decide +kernel
theorem d_Big_setLong_81 : decode b_Big_setLong 81 = .ok (.lstore_n 3, 1) := by decide +kernel
theorem d_Big_setLong_82 : decode b_Big_setLong 82 = .ok (.aload_n 0, 1) := by decide +kernel
theorem d_Big_setLong_83 : decode b_Big_setLong 83 = .ok (.iload 5, 2) := by decide +kernel
theorem d_Big_setLong_85 : decode b_Big_setLong 85 = .ok (.iconst 1, 1) := by decide +kernel
theorem d_Big_setLong_86 : decode b_Big_setLong 86 = .ok (.iadd, 1) := by decide +kernel
theorem d_Big_setLong_87 : decode b_Big_setLong 87 = .ok (.putfield 17, 3) := by decide +kernel
theorem d_Big_setLong_90 : decode b_Big_setLong 90 = .ok (.iinc 5 1, 3) := by decide +kernel
theorem d_Big_setLong_93 : decode b_Big_setLong 93 = .ok (.goto (-47), 3) := by decide +kernel
theorem d_Big_setLong_96 : decode b_Big_setLong 96 = .ok (.return_, 1) := by decide +kernel
theorem d_Big_trim_0 : decode b_Big_trim 0 = .ok (.aload_n 0, 1) := by decide +kernel
theorem d_Big_trim_1 : decode b_Big_trim 1 = .ok (.getfield 17, 3) := by decide +kernel
theorem d_Big_trim_4 : decode b_Big_trim 4 = .ok (.ifCond .le 30, 3) := by decide +kernel
theorem d_Big_trim_7 : decode b_Big_trim 7 = .ok (.aload_n 0, 1) := by decide +kernel
theorem d_Big_trim_8 : decode b_Big_trim 8 = .ok (.getfield 7, 3) := by decide +kernel
theorem d_Big_trim_11 : decode b_Big_trim 11 = .ok (.aload_n 0, 1) := by decide +kernel
theorem d_Big_trim_12 : decode b_Big_trim 12 = .ok (.getfield 17, 3) := by decide +kernel
theorem d_Big_trim_15 : decode b_Big_trim 15 = .ok (.iconst 1, 1) := by decide +kernel
theorem d_Big_trim_16 : decode b_Big_trim 16 = .ok (.isub, 1) := by decide +kernel
theorem d_Big_trim_17 : decode b_Big_trim 17 = .ok (.iaload, 1) := by decide +kernel
theorem d_Big_trim_18 : decode b_Big_trim 18 = .ok (.ifCond .ne 16, 3) := by decide +kernel
theorem d_Big_trim_21 : decode b_Big_trim 21 = .ok (.aload_n 0, 1) := by decide +kernel
theorem d_Big_trim_22 : decode b_Big_trim 22 = .ok (.dup, 1) := by decide +kernel
theorem d_Big_trim_23 : decode b_Big_trim 23 = .ok (.getfield 17, 3) := by decide +kernel
theorem d_Big_trim_26 : decode b_Big_trim 26 = .ok (.iconst 1, 1) := by decide +kernel
theorem d_Big_trim_27 : decode b_Big_trim 27 = .ok (.isub, 1) := by decide +kernel
theorem d_Big_trim_28 : decode b_Big_trim 28 = .ok (.putfield 17, 3) := by decide +kernel
theorem d_Big_trim_31 : decode b_Big_trim 31 = .ok (.goto (-31), 3) := by decide +kernel
theorem d_Big_trim_34 : decode b_Big_trim 34 = .ok (.aload_n 0, 1) := by decide +kernel
theorem d_Big_trim_35 : decode b_Big_trim 35 = .ok (.getfield 17, 3) := by decide +kernel
theorem d_Big_trim_38 : decode b_Big_trim 38 = .ok (.ifCond .ne 8, 3) := by decide +kernel
theorem d_Big_trim_41 : decode b_Big_trim 41 = .ok (.aload_n 0, 1) := by decide +kernel
theorem d_Big_trim_42 : decode b_Big_trim 42 = .ok (.iconst 0, 1) := by decide +kernel
theorem d_Big_trim_43 : decode b_Big_trim 43 = .ok (.putfield 13, 3) := by decide +kernel
theorem d_Big_trim_46 : decode b_Big_trim 46 = .ok (.return_, 1) := by decide +kernel
theorem d_Desk_init_0 : decode b_Desk_init 0 = .ok (.aload_n 0, 1) := by decide +kernel
theorem d_Desk_init_1 : decode b_Desk_init 1 = .ok (.invokespecial 3, 3) := by decide +kernel
theorem d_Desk_init_4 : decode b_Desk_init 4 = .ok (.aload_n 0, 1) := by decide +kernel
theorem d_Desk_init_5 : decode b_Desk_init 5 = .ok (.bipush 32, 2) := by decide +kernel
theorem d_Desk_init_7 : decode b_Desk_init 7 = .ok (.anewarray 11, 3) := by decide +kernel
theorem d_Desk_init_10 : decode b_Desk_init 10 = .ok (.putfield 13, 3) := by decide +kernel
theorem d_Desk_init_13 : decode b_Desk_init 13 = .ok (.iconst 0, 1) := by decide +kernel
theorem d_Desk_init_14 : decode b_Desk_init 14 = .ok (.istore_n 1, 1) := by decide +kernel
theorem d_Desk_init_15 : decode b_Desk_init 15 = .ok (.iload_n 1, 1) := by decide +kernel
theorem d_Desk_init_16 : decode b_Desk_init 16 = .ok (.bipush 32, 2) := by decide +kernel
theorem d_Desk_init_18 : decode b_Desk_init 18 = .ok (.if_icmp .ge 22, 3) := by decide +kernel
theorem d_Desk_init_21 : decode b_Desk_init 21 = .ok (.aload_n 0, 1) := by decide +kernel
theorem d_Desk_init_22 : decode b_Desk_init 22 = .ok (.getfield 13, 3) := by decide +kernel
theorem d_Desk_init_25 : decode b_Desk_init 25 = .ok (.iload_n 1, 1) := by decide +kernel
theorem d_Desk_init_26 : decode b_Desk_init 26 = .ok (.new 11, 3) := by decide +kernel
theorem d_Desk_init_29 : decode b_Desk_init 29 = .ok (.dup, 1) := by decide +kernel
theorem d_Desk_init_30 : decode b_Desk_init 30 = .ok (.invokespecial 17, 3) := by decide +kernel
theorem d_Desk_init_33 : decode b_Desk_init 33 = .ok (.aastore, 1) := by decide +kernel
theorem d_Desk_init_34 : decode b_Desk_init 34 = .ok (.iinc 1 1, 3) := by decide +kernel
theorem d_Desk_init_37 : decode b_Desk_init 37 = .ok (.goto (-22), 3) := by decide +kernel
theorem d_Desk_init_40 : decode b_Desk_init 40 = .ok (.aload_n 0, 1) := by decide +kernel
theorem d_Desk_init_41 : decode b_Desk_init 41 = .ok (.new 11, 3) := by decide +kernel
theorem d_Desk_init_44 : decode b_Desk_init 44 = .ok (.dup, 1) := by decide +kernel
theorem d_Desk_init_45 : decode b_Desk_init 45 = .ok (.invokespecial 17, 3) := by decide +kernel
theorem d_Desk_init_48 : decode b_Desk_init 48 = .ok (.putfield 18, 3) := by decide +kernel
theorem d_Desk_init_51 : decode b_Desk_init 51 = .ok (.aload_n 0, 1) := by decide +kernel
theorem d_Desk_init_52 : decode b_Desk_init 52 = .ok (.new 22, 3) := by decide +kernel
theorem d_Desk_init_55 : decode b_Desk_init 55 = .ok (.dup, 1) := by decide +kernel
theorem d_Desk_init_56 : decode b_Desk_init 56 = .ok (.invokespecial 24, 3) := by decide +kernel
theorem d_Desk_init_59 : decode b_Desk_init 59 = .ok (.putfield 25, 3) := by decide +kernel
theorem d_Desk_init_62 : decode b_Desk_init 62 = .ok (.aload_n 0, 1) := by decide +kernel
theorem d_Desk_init_63 : decode b_Desk_init 63 = .ok (.new 22, 3) := by decide +kernel
theorem d_Desk_init_66 : decode b_Desk_init 66 = .ok (.dup, 1) := by decide +kernel
theorem d_Desk_init_67 : decode b_Desk_init 67 = .ok (.invokespecial 24, 3) := by decide +kernel
theorem d_Desk_init_70 : decode b_Desk_init 70 = .ok (.putfield 29, 3) := by decide +kernel
theorem d_Desk_init_73 : decode b_Desk_init 73 = .ok (.aload_n 0, 1) := by decide +kernel
theorem d_Desk_init_74 : decode b_Desk_init 74 = .ok (.new 22, 3) := by decide +kernel
theorem d_Desk_init_77 : decode b_Desk_init 77 = .ok (.dup, 1) := by decide +kernel
theorem d_Desk_init_78 : decode b_Desk_init 78 = .ok (.invokespecial 24, 3) := by decide +kernel
theorem d_Desk_init_81 : decode b_Desk_init 81 = .ok (.putfield 32, 3) := by decide +kernel
theorem d_Desk_init_84 : decode b_Desk_init 84 = .ok (.aload_n 0, 1) := by decide +kernel
theorem d_Desk_init_85 : decode b_Desk_init 85 = .ok (.new 35, 3) := by decide +kernel
theorem d_Desk_init_88 : decode b_Desk_init 88 = .ok (.dup, 1) := by decide +kernel
theorem d_Desk_init_89 : decode b_Desk_init 89 = .ok (.invokespecial 37, 3) := by decide +kernel
theorem d_Desk_init_92 : decode b_Desk_init 92 = .ok (.putfield 38, 3) := by decide +kernel
theorem d_Desk_init_95 : decode b_Desk_init 95 = .ok (.aload_n 0, 1) := by decide +kernel
theorem d_Desk_init_96 : decode b_Desk_init 96 = .ok (.new 42, 3) := by decide +kernel
theorem d_Desk_init_99 : decode b_Desk_init 99 = .ok (.dup, 1) := by decide +kernel
theorem d_Desk_init_100 : decode b_Desk_init 100 = .ok (.invokespecial 44, 3) := by decide +kernel
theorem d_Desk_init_103 : decode b_Desk_init 103 = .ok (.putfield 45, 3) := by decide +kernel
theorem d_Desk_init_106 : decode b_Desk_init 106 = .ok (.aload_n 0, 1) := by decide +kernel
theorem d_Desk_init_107 : decode b_Desk_init 107 = .ok (.new 49, 3) := by decide +kernel
theorem d_Desk_init_110 : decode b_Desk_init 110 = .ok (.dup, 1) := by decide +kernel
theorem d_Desk_init_111 : decode b_Desk_init 111 = .ok (.invokespecial 51, 3) := by decide +kernel
theorem d_Desk_init_114 : decode b_Desk_init 114 = .ok (.putfield 52, 3) := by decide +kernel
theorem d_Desk_init_117 : decode b_Desk_init 117 = .ok (.aload_n 0, 1) := by decide +kernel
theorem d_Desk_init_118 : decode b_Desk_init 118 = .ok (.new 56, 3) := by decide +kernel
theorem d_Desk_init_121 : decode b_Desk_init 121 = .ok (.dup, 1) := by decide +kernel
theorem d_Desk_init_122 : decode b_Desk_init 122 = .ok (.invokespecial 58, 3) := by decide +kernel
theorem d_Desk_init_125 : decode b_Desk_init 125 = .ok (.putfield 59, 3) := by decide +kernel
theorem d_Desk_init_128 : decode b_Desk_init 128 = .ok (.return_, 1) := by decide +kernel
theorem d_Factors_init_0 : decode b_Factors_init 0 = .ok (.aload_n 0, 1) := by decide +kernel
theorem d_Factors_init_1 : decode b_Factors_init 1 = .ok (.invokespecial 5, 3) := by decide +kernel
theorem d_Factors_init_4 : decode b_Factors_init 4 = .ok (.aload_n 0, 1) := by decide +kernel
theorem d_Factors_init_5 : decode b_Factors_init 5 = .ok (.new 11, 3) := by decide +kernel
theorem d_Factors_init_8 : decode b_Factors_init 8 = .ok (.dup, 1) := by decide +kernel
theorem d_Factors_init_9 : decode b_Factors_init 9 = .ok (.invokespecial 13, 3) := by decide +kernel
theorem d_Factors_init_12 : decode b_Factors_init 12 = .ok (.putfield 14, 3) := by decide +kernel
theorem d_Factors_init_15 : decode b_Factors_init 15 = .ok (.aload_n 0, 1) := by decide +kernel
theorem d_Factors_init_16 : decode b_Factors_init 16 = .ok (.new 20, 3) := by decide +kernel
theorem d_Factors_init_19 : decode b_Factors_init 19 = .ok (.dup, 1) := by decide +kernel
theorem d_Factors_init_20 : decode b_Factors_init 20 = .ok (.invokespecial 22, 3) := by decide +kernel
theorem d_Factors_init_23 : decode b_Factors_init 23 = .ok (.putfield 23, 3) := by decide +kernel
theorem d_Factors_init_26 : decode b_Factors_init 26 = .ok (.aload_n 0, 1) := by decide +kernel
theorem d_Factors_init_27 : decode b_Factors_init 27 = .ok (.new 27, 3) := by decide +kernel
theorem d_Factors_init_30 : decode b_Factors_init 30 = .ok (.dup, 1) := by decide +kernel
theorem d_Factors_init_31 : decode b_Factors_init 31 = .ok (.bipush 28, 2) := by decide +kernel
theorem d_Factors_init_33 : decode b_Factors_init 33 = .ok (.invokespecial 29, 3) := by decide +kernel
theorem d_Factors_init_36 : decode b_Factors_init 36 = .ok (.putfield 32, 3) := by decide +kernel
theorem d_Factors_init_39 : decode b_Factors_init 39 = .ok (.aload_n 0, 1) := by decide +kernel
theorem d_Factors_init_40 : decode b_Factors_init 40 = .ok (.bipush 52, 2) := by decide +kernel
theorem d_Factors_init_42 : decode b_Factors_init 42 = .ok (.newarray .long, 2) := by decide +kernel
theorem d_Factors_init_44 : decode b_Factors_init 44 = .ok (.putfield 36, 3) := by decide +kernel
theorem d_Factors_init_47 : decode b_Factors_init 47 = .ok (.aload_n 0, 1) := by decide +kernel
theorem d_Factors_init_48 : decode b_Factors_init 48 = .ok (.bipush 52, 2) := by decide +kernel
theorem d_Factors_init_50 : decode b_Factors_init 50 = .ok (.newarray .long, 2) := by decide +kernel
theorem d_Factors_init_52 : decode b_Factors_init 52 = .ok (.putfield 40, 3) := by decide +kernel
theorem d_Factors_init_55 : decode b_Factors_init 55 = .ok (.aload_n 0, 1) := by decide +kernel
theorem d_Factors_init_56 : decode b_Factors_init 56 = .ok (.bipush 28, 2) := by decide +kernel
theorem d_Factors_init_58 : decode b_Factors_init 58 = .ok (.newarray .long, 2) := by decide +kernel
theorem d_Factors_init_60 : decode b_Factors_init 60 = .ok (.putfield 43, 3) := by decide +kernel
theorem d_Factors_init_63 : decode b_Factors_init 63 = .ok (.aload_n 0, 1) := by decide +kernel
theorem d_Factors_init_64 : decode b_Factors_init 64 = .ok (.bipush 28, 2) := by decide +kernel
theorem d_Factors_init_66 : decode b_Factors_init 66 = .ok (.newarray .long, 2) := by decide +kernel
theorem d_Factors_init_68 : decode b_Factors_init 68 = .ok (.putfield 46, 3) := by decide +kernel
theorem d_Factors_init_71 : decode b_Factors_init 71 = .ok (.aload_n 0, 1) := by decide +kernel
theorem d_Factors_init_72 : decode b_Factors_init 72 = .ok (.bipush 28, 2) := by decide +kernel
theorem d_Factors_init_74 : decode b_Factors_init 74 = .ok (.newarray .long, 2) := by decide +kernel
theorem d_Factors_init_76 : decode b_Factors_init 76 = .ok (.putfield 49, 3) := by decide +kernel
theorem d_Factors_init_79 : decode b_Factors_init 79 = .ok (.aload_n 0, 1) := by decide +kernel
theorem d_Factors_init_80 : decode b_Factors_init 80 = .ok (.bipush 28, 2) := by decide +kernel
theorem d_Factors_init_82 : decode b_Factors_init 82 = .ok (.newarray .long, 2) := by decide +kernel
theorem d_Factors_init_84 : decode b_Factors_init 84 = .ok (.putfield 52, 3) := by decide +kernel
theorem d_Factors_init_87 : decode b_Factors_init 87 = .ok (.aload_n 0, 1) := by decide +kernel
theorem d_Factors_init_88 : decode b_Factors_init 88 = .ok (.bipush 12, 2) := by decide +kernel
theorem d_Factors_init_90 : decode b_Factors_init 90 = .ok (.bipush 12, 2) := by decide +kernel
theorem d_Factors_init_92 : decode b_Factors_init 92 = .ok (.multianewarray 55 2, 4) := by decide +kernel
theorem d_Factors_init_96 : decode b_Factors_init 96 = .ok (.putfield 57, 3) := by decide +kernel
theorem d_Factors_init_99 : decode b_Factors_init 99 = .ok (.aload_n 0, 1) := by decide +kernel
theorem d_Factors_init_100 : decode b_Factors_init 100 = .ok (.bipush 12, 2) := by decide +kernel
theorem d_Factors_init_102 : decode b_Factors_init 102 = .ok (.bipush 12, 2) := by decide +kernel
theorem d_Factors_init_104 : decode b_Factors_init 104 = .ok (.multianewarray 55 2, 4) := by decide +kernel
theorem d_Factors_init_108 : decode b_Factors_init 108 = .ok (.putfield 60, 3) := by decide +kernel
theorem d_Factors_init_111 : decode b_Factors_init 111 = .ok (.aload_n 0, 1) := by decide +kernel
theorem d_Factors_init_112 : decode b_Factors_init 112 = .ok (.bipush 12, 2) := by decide +kernel
theorem d_Factors_init_114 : decode b_Factors_init 114 = .ok (.bipush 13, 2) := by decide +kernel
theorem d_Factors_init_116 : decode b_Factors_init 116 = .ok (.multianewarray 55 2, 4) := by decide +kernel
theorem d_Factors_init_120 : decode b_Factors_init 120 = .ok (.putfield 63, 3) := by decide +kernel
theorem d_Factors_init_123 : decode b_Factors_init 123 = .ok (.aload_n 0, 1) := by decide +kernel
theorem d_Factors_init_124 : decode b_Factors_init 124 = .ok (.bipush 12, 2) := by decide +kernel
theorem d_Factors_init_126 : decode b_Factors_init 126 = .ok (.bipush 13, 2) := by decide +kernel
theorem d_Factors_init_128 : decode b_Factors_init 128 = .ok (.multianewarray 55 2, 4) := by decide +kernel
theorem d_Factors_init_132 : decode b_Factors_init 132 = .ok (.putfield 66, 3) := by decide +kernel
theorem d_Factors_init_135 : decode b_Factors_init 135 = .ok (.aload_n 0, 1) := by decide +kernel
theorem d_Factors_init_136 : decode b_Factors_init 136 = .ok (.bipush 12, 2) := by decide +kernel
theorem d_Factors_init_138 : decode b_Factors_init 138 = .ok (.bipush 52, 2) := by decide +kernel
theorem d_Factors_init_140 : decode b_Factors_init 140 = .ok (.multianewarray 55 2, 4) := by decide +kernel
theorem d_Factors_init_144 : decode b_Factors_init 144 = .ok (.putfield 69, 3) := by decide +kernel
theorem d_Factors_init_147 : decode b_Factors_init 147 = .ok (.aload_n 0, 1) := by decide +kernel
theorem d_Factors_init_148 : decode b_Factors_init 148 = .ok (.bipush 52, 2) := by decide +kernel
theorem d_Factors_init_150 : decode b_Factors_init 150 = .ok (.newarray .long, 2) := by decide +kernel
theorem d_Factors_init_152 : decode b_Factors_init 152 = .ok (.putfield 72, 3) := by decide +kernel
theorem d_Factors_init_155 : decode b_Factors_init 155 = .ok (.aload_n 0, 1) := by decide +kernel
theorem d_Factors_init_156 : decode b_Factors_init 156 = .ok (.bipush 12, 2) := by decide +kernel
theorem d_Factors_init_158 : decode b_Factors_init 158 = .ok (.newarray .int, 2) := by decide +kernel
theorem d_Factors_init_160 : decode b_Factors_init 160 = .ok (.putfield 75, 3) := by decide +kernel
theorem d_Factors_init_163 : decode b_Factors_init 163 = .ok (.return_, 1) := by decide +kernel
theorem d_Field_init_0 : decode b_Field_init 0 = .ok (.aload_n 0, 1) := by decide +kernel
theorem d_Field_init_1 : decode b_Field_init 1 = .ok (.invokespecial 1, 3) := by decide +kernel
theorem d_Field_init_4 : decode b_Field_init 4 = .ok (.aload_n 0, 1) := by decide +kernel
theorem d_Field_init_5 : decode b_Field_init 5 = .ok (.iconst 3, 1) := by decide +kernel
theorem d_Field_init_6 : decode b_Field_init 6 = .ok (.putfield 7, 3) := by decide +kernel
theorem d_Field_init_9 : decode b_Field_init 9 = .ok (.aload_n 0, 1) := by decide +kernel
theorem d_Field_init_10 : decode b_Field_init 10 = .ok (.bipush 28, 2) := by decide +kernel
theorem d_Field_init_12 : decode b_Field_init 12 = .ok (.newarray .long, 2) := by decide +kernel
theorem d_Field_init_14 : decode b_Field_init 14 = .ok (.putfield 13, 3) := by decide +kernel
theorem d_Field_init_17 : decode b_Field_init 17 = .ok (.aload_n 0, 1) := by decide +kernel
theorem d_Field_init_18 : decode b_Field_init 18 = .ok (.bipush 28, 2) := by decide +kernel
theorem d_Field_init_20 : decode b_Field_init 20 = .ok (.newarray .long, 2) := by decide +kernel
theorem d_Field_init_22 : decode b_Field_init 22 = .ok (.putfield 17, 3) := by decide +kernel
theorem d_Field_init_25 : decode b_Field_init 25 = .ok (.aload_n 0, 1) := by decide +kernel
theorem d_Field_init_26 : decode b_Field_init 26 = .ok (.bipush 28, 2) := by decide +kernel
theorem d_Field_init_28 : decode b_Field_init 28 = .ok (.newarray .long, 2) := by decide +kernel
theorem d_Field_init_30 : decode b_Field_init 30 = .ok (.putfield 20, 3) := by decide +kernel
theorem d_Field_init_33 : decode b_Field_init 33 = .ok (.aload_n 0, 1) := by decide +kernel
theorem d_Field_init_34 : decode b_Field_init 34 = .ok (.bipush 28, 2) := by decide +kernel
theorem d_Field_init_36 : decode b_Field_init 36 = .ok (.newarray .long, 2) := by decide +kernel
theorem d_Field_init_38 : decode b_Field_init 38 = .ok (.putfield 23, 3) := by decide +kernel
theorem d_Field_init_41 : decode b_Field_init 41 = .ok (.aload_n 0, 1) := by decide +kernel
theorem d_Field_init_42 : decode b_Field_init 42 = .ok (.bipush 28, 2) := by decide +kernel
theorem d_Field_init_44 : decode b_Field_init 44 = .ok (.newarray .long, 2) := by decide +kernel
theorem d_Field_init_46 : decode b_Field_init 46 = .ok (.putfield 26, 3) := by decide +kernel
theorem d_Field_init_49 : decode b_Field_init 49 = .ok (.aload_n 0, 1) := by decide +kernel
theorem d_Field_init_50 : decode b_Field_init 50 = .ok (.bipush 28, 2) := by decide +kernel
theorem d_Field_init_52 : decode b_Field_init 52 = .ok (.newarray .long, 2) := by decide +kernel
theorem d_Field_init_54 : decode b_Field_init 54 = .ok (.putfield 29, 3) := by decide +kernel
theorem d_Field_init_57 : decode b_Field_init 57 = .ok (.return_, 1) := by decide +kernel
theorem d_Gauge_init_0 : decode b_Gauge_init 0 = .ok (.aload_n 0, 1) := by decide +kernel
theorem d_Gauge_init_1 : decode b_Gauge_init 1 = .ok (.invokespecial 1, 3) := by decide +kernel
theorem d_Gauge_init_4 : decode b_Gauge_init 4 = .ok (.aload_n 0, 1) := by decide +kernel
theorem d_Gauge_init_5 : decode b_Gauge_init 5 = .ok (.new 7, 3) := by decide +kernel
theorem d_Gauge_init_8 : decode b_Gauge_init 8 = .ok (.dup, 1) := by decide +kernel
theorem d_Gauge_init_9 : decode b_Gauge_init 9 = .ok (.sipush 400, 3) := by decide +kernel
theorem d_Gauge_init_12 : decode b_Gauge_init 12 = .ok (.invokespecial 11, 3) := by decide +kernel
theorem d_Gauge_init_15 : decode b_Gauge_init 15 = .ok (.putfield 14, 3) := by decide +kernel
theorem d_Gauge_init_18 : decode b_Gauge_init 18 = .ok (.aload_n 0, 1) := by decide +kernel
theorem d_Gauge_init_19 : decode b_Gauge_init 19 = .ok (.new 7, 3) := by decide +kernel
theorem d_Gauge_init_22 : decode b_Gauge_init 22 = .ok (.dup, 1) := by decide +kernel
theorem d_Gauge_init_23 : decode b_Gauge_init 23 = .ok (.sipush 400, 3) := by decide +kernel
theorem d_Gauge_init_26 : decode b_Gauge_init 26 = .ok (.invokespecial 11, 3) := by decide +kernel
theorem d_Gauge_init_29 : decode b_Gauge_init 29 = .ok (.putfield 18, 3) := by decide +kernel
theorem d_Gauge_init_32 : decode b_Gauge_init 32 = .ok (.aload_n 0, 1) := by decide +kernel
theorem d_Gauge_init_33 : decode b_Gauge_init 33 = .ok (.new 7, 3) := by decide +kernel
theorem d_Gauge_init_36 : decode b_Gauge_init 36 = .ok (.dup, 1) := by decide +kernel
theorem d_Gauge_init_37 : decode b_Gauge_init 37 = .ok (.sipush 400, 3) := by decide +kernel
theorem d_Gauge_init_40 : decode b_Gauge_init 40 = .ok (.invokespecial 11, 3) := by decide +kernel
theorem d_Gauge_init_43 : decode b_Gauge_init 43 = .ok (.putfield 21, 3) := by decide +kernel
theorem d_Gauge_init_46 : decode b_Gauge_init 46 = .ok (.aload_n 0, 1) := by decide +kernel
theorem d_Gauge_init_47 : decode b_Gauge_init 47 = .ok (.new 7, 3) := by decide +kernel
theorem d_Gauge_init_50 : decode b_Gauge_init 50 = .ok (.dup, 1) := by decide +kernel
theorem d_Gauge_init_51 : decode b_Gauge_init 51 = .ok (.sipush 400, 3) := by decide +kernel
theorem d_Gauge_init_54 : decode b_Gauge_init 54 = .ok (.invokespecial 11, 3) := by decide +kernel
theorem d_Gauge_init_57 : decode b_Gauge_init 57 = .ok (.putfield 24, 3) := by decide +kernel
theorem d_Gauge_init_60 : decode b_Gauge_init 60 = .ok (.aload_n 0, 1) := by decide +kernel
theorem d_Gauge_init_61 : decode b_Gauge_init 61 = .ok (.new 7, 3) := by decide +kernel
theorem d_Gauge_init_64 : decode b_Gauge_init 64 = .ok (.dup, 1) := by decide +kernel
theorem d_Gauge_init_65 : decode b_Gauge_init 65 = .ok (.bipush 72, 2) := by decide +kernel
theorem d_Gauge_init_67 : decode b_Gauge_init 67 = .ok (.invokespecial 11, 3) := by decide +kernel
theorem d_Gauge_init_70 : decode b_Gauge_init 70 = .ok (.putfield 27, 3) := by decide +kernel
theorem d_Gauge_init_73 : decode b_Gauge_init 73 = .ok (.aload_n 0, 1) := by decide +kernel
theorem d_Gauge_init_74 : decode b_Gauge_init 74 = .ok (.new 7, 3) := by decide +kernel
theorem d_Gauge_init_77 : decode b_Gauge_init 77 = .ok (.dup, 1) := by decide +kernel
theorem d_Gauge_init_78 : decode b_Gauge_init 78 = .ok (.bipush 72, 2) := by decide +kernel
theorem d_Gauge_init_80 : decode b_Gauge_init 80 = .ok (.invokespecial 11, 3) := by decide +kernel
theorem d_Gauge_init_83 : decode b_Gauge_init 83 = .ok (.putfield 30, 3) := by decide +kernel
theorem d_Gauge_init_86 : decode b_Gauge_init 86 = .ok (.aload_n 0, 1) := by decide +kernel
theorem d_Gauge_init_87 : decode b_Gauge_init 87 = .ok (.new 7, 3) := by decide +kernel
theorem d_Gauge_init_90 : decode b_Gauge_init 90 = .ok (.dup, 1) := by decide +kernel
theorem d_Gauge_init_91 : decode b_Gauge_init 91 = .ok (.sipush 400, 3) := by decide +kernel
theorem d_Gauge_init_94 : decode b_Gauge_init 94 = .ok (.invokespecial 11, 3) := by decide +kernel
theorem d_Gauge_init_97 : decode b_Gauge_init 97 = .ok (.putfield 33, 3) := by decide +kernel
theorem d_Gauge_init_100 : decode b_Gauge_init 100 = .ok (.aload_n 0, 1) := by decide +kernel
theorem d_Gauge_init_101 : decode b_Gauge_init 101 = .ok (.new 7, 3) := by decide +kernel
theorem d_Gauge_init_104 : decode b_Gauge_init 104 = .ok (.dup, 1) := by decide +kernel
theorem d_Gauge_init_105 : decode b_Gauge_init 105 = .ok (.sipush 400, 3) := by decide +kernel
theorem d_Gauge_init_108 : decode b_Gauge_init 108 = .ok (.invokespecial 11, 3) := by decide +kernel
theorem d_Gauge_init_111 : decode b_Gauge_init 111 = .ok (.putfield 36, 3) := by decide +kernel
theorem d_Gauge_init_114 : decode b_Gauge_init 114 = .ok (.aload_n 0, 1) := by decide +kernel
theorem d_Gauge_init_115 : decode b_Gauge_init 115 = .ok (.new 7, 3) := by decide +kernel
theorem d_Gauge_init_118 : decode b_Gauge_init 118 = .ok (.dup, 1) := by decide +kernel
theorem d_Gauge_init_119 : decode b_Gauge_init 119 = .ok (.bipush 72, 2) := by decide +kernel
theorem d_Gauge_init_121 : decode b_Gauge_init 121 = .ok (.invokespecial 11, 3) := by decide +kernel
theorem d_Gauge_init_124 : decode b_Gauge_init 124 = .ok (.putfield 39, 3) := by decide +kernel
theorem d_Gauge_init_127 : decode b_Gauge_init 127 = .ok (.aload_n 0, 1) := by decide +kernel
theorem d_Gauge_init_128 : decode b_Gauge_init 128 = .ok (.new 7, 3) := by decide +kernel
theorem d_Gauge_init_131 : decode b_Gauge_init 131 = .ok (.dup, 1) := by decide +kernel
theorem d_Gauge_init_132 : decode b_Gauge_init 132 = .ok (.bipush 72, 2) := by decide +kernel
theorem d_Gauge_init_134 : decode b_Gauge_init 134 = .ok (.invokespecial 11, 3) := by decide +kernel
theorem d_Gauge_init_137 : decode b_Gauge_init 137 = .ok (.putfield 42, 3) := by decide +kernel
theorem d_Gauge_init_140 : decode b_Gauge_init 140 = .ok (.aload_n 0, 1) := by decide +kernel
theorem d_Gauge_init_141 : decode b_Gauge_init 141 = .ok (.new 7, 3) := by decide +kernel
theorem d_Gauge_init_144 : decode b_Gauge_init 144 = .ok (.dup, 1) := by decide +kernel
theorem d_Gauge_init_145 : decode b_Gauge_init 145 = .ok (.bipush 72, 2) := by decide +kernel
theorem d_Gauge_init_147 : decode b_Gauge_init 147 = .ok (.invokespecial 11, 3) := by decide +kernel
theorem d_Gauge_init_150 : decode b_Gauge_init 150 = .ok (.putfield 45, 3) := by decide +kernel
theorem d_Gauge_init_153 : decode b_Gauge_init 153 = .ok (.return_, 1) := by decide +kernel
theorem d_Gauge_order_0 : decode b_Gauge_order 0 = .ok (.aload_n 1, 1) := by decide +kernel
theorem d_Gauge_order_1 : decode b_Gauge_order 1 = .ok (.aload_n 2, 1) := by decide +kernel
theorem d_Gauge_order_2 : decode b_Gauge_order 2 = .ok (.invokevirtual 127, 3) := by decide +kernel
theorem d_Gauge_order_5 : decode b_Gauge_order 5 = .ok (.ifCond .eq 15, 3) := by decide +kernel
theorem d_Gauge_order_8 : decode b_Gauge_order 8 = .ok (.aload_n 1, 1) := by decide +kernel
theorem d_Gauge_order_9 : decode b_Gauge_order 9 = .ok (.getfield 131, 3) := by decide +kernel
theorem d_Gauge_order_12 : decode b_Gauge_order 12 = .ok (.aload_n 2, 1) := by decide +kernel
theorem d_Gauge_order_13 : decode b_Gauge_order 13 = .ok (.getfield 131, 3) := by decide +kernel
theorem d_Gauge_order_16 : decode b_Gauge_order 16 = .ok (.invokestatic 134, 3) := by decide +kernel
theorem d_Gauge_order_19 : decode b_Gauge_order 19 = .ok (.ireturn, 1) := by decide +kernel
theorem d_Gauge_timesTen_0 : decode b_Gauge_timesTen 0 = .ok (.iconst 0, 1) := by decide +kernel
theorem d_Gauge_timesTen_1 : decode b_Gauge_timesTen 1 = .ok (.istore_n 3, 1) := by decide +kernel
theorem d_Gauge_timesTen_2 : decode b_Gauge_timesTen 2 = .ok (.iload_n 3, 1) := by decide +kernel
theorem d_Gauge_timesTen_3 : decode b_Gauge_timesTen 3 = .ok (.iload_n 2, 1) := by decide +kernel
theorem d_Gauge_timesTen_4 : decode b_Gauge_timesTen 4 = .ok (.if_icmp .ge 15, 3) := by decide +kernel
theorem d_Gauge_timesTen_7 : decode b_Gauge_timesTen 7 = .ok (.aload_n 1, 1) := by decide +kernel
theorem d_Gauge_timesTen_8 : decode b_Gauge_timesTen 8 = .ok (.bipush 10, 2) := by decide +kernel
theorem d_Gauge_timesTen_10 : decode b_Gauge_timesTen 10 = .ok (.invokevirtual 150, 3) := by decide +kernel
theorem d_Gauge_timesTen_13 : decode b_Gauge_timesTen 13 = .ok (.iinc 3 1, 3) := by decide +kernel
theorem d_Gauge_timesTen_16 : decode b_Gauge_timesTen 16 = .ok (.goto (-14), 3) := by decide +kernel
theorem d_Gauge_timesTen_19 : decode b_Gauge_timesTen 19 = .ok (.return_, 1) := by decide +kernel
theorem d_Gauge_wholePart_0 : decode b_Gauge_wholePart 0 = .ok (.aload_n 1, 1) := by decide +kernel
theorem d_Gauge_wholePart_1 : decode b_Gauge_wholePart 1 = .ok (.getfield 48, 3) := by decide +kernel
theorem d_Gauge_wholePart_4 : decode b_Gauge_wholePart 4 = .ok (.iconst 1, 1) := by decide +kernel
theorem d_Gauge_wholePart_5 : decode b_Gauge_wholePart 5 = .ok (.if_icmp .ne 45, 3) := by decide +kernel
theorem d_Gauge_wholePart_8 : decode b_Gauge_wholePart 8 = .ok (.aload_n 0, 1) := by decide +kernel
theorem d_Gauge_wholePart_9 : decode b_Gauge_wholePart 9 = .ok (.getfield 42, 3) := by decide +kernel
theorem d_Gauge_wholePart_12 : decode b_Gauge_wholePart 12 = .ok (.aload_n 1, 1) := by decide +kernel
end
section
/-! what each instruction is; laid by program -/
theorem d_Gauge_wholePart_13 : decode b_Gauge_wholePart 13 = .ok (.getfield 54, 3) := by decide +kernel
theorem d_Gauge_wholePart_16 : decode b_Gauge_wholePart 16 = .ok (.iconst 0, 1) := by decide +kernel
theorem d_Gauge_wholePart_17 : decode b_Gauge_wholePart 17 = .ok (.iaload, 1) := by decide +kernel
theorem d_Gauge_wholePart_18 : decode b_Gauge_wholePart 18 = .ok (.i2l, 1) := by decide +kernel
theorem d_Gauge_wholePart_19 : decode b_Gauge_wholePart 19 = .ok (.lneg, 1) := by decide +kernel
theorem d_Gauge_wholePart_20 : decode b_Gauge_wholePart 20 = .ok (.invokevirtual 58, 3) := by decide +kernel
theorem d_Gauge_wholePart_23 : decode b_Gauge_wholePart 23 = .ok (.aload_n 0, 1) := by decide +kernel
theorem d_Gauge_wholePart_24 : decode b_Gauge_wholePart 24 = .ok (.aload_n 0, 1) := by decide +kernel
theorem d_Gauge_wholePart_25 : decode b_Gauge_wholePart 25 = .ok (.getfield 42, 3) := by decide +kernel
theorem d_Gauge_wholePart_28 : decode b_Gauge_wholePart 28 = .ok (.iload_n 2, 1) := by decide +kernel
theorem d_Gauge_wholePart_29 : decode b_Gauge_wholePart 29 = .ok (.invokevirtual 147, 3) := by decide +kernel
theorem d_Gauge_wholePart_32 : decode b_Gauge_wholePart 32 = .ok (.aload_n 0, 1) := by decide +kernel
theorem d_Gauge_wholePart_33 : decode b_Gauge_wholePart 33 = .ok (.getfield 42, 3) := by decide +kernel
theorem d_Gauge_wholePart_36 : decode b_Gauge_wholePart 36 = .ok (.aload_n 1, 1) := by decide +kernel
theorem d_Gauge_wholePart_37 : decode b_Gauge_wholePart 37 = .ok (.getfield 54, 3) := by decide +kernel
theorem d_Gauge_wholePart_40 : decode b_Gauge_wholePart 40 = .ok (.iconst 1, 1) := by decide +kernel
theorem d_Gauge_wholePart_41 : decode b_Gauge_wholePart 41 = .ok (.iaload, 1) := by decide +kernel
theorem d_Gauge_wholePart_42 : decode b_Gauge_wholePart 42 = .ok (.invokevirtual 65, 3) := by decide +kernel
theorem d_Gauge_wholePart_45 : decode b_Gauge_wholePart 45 = .ok (.aload_n 0, 1) := by decide +kernel
theorem d_Gauge_wholePart_46 : decode b_Gauge_wholePart 46 = .ok (.getfield 42, 3) := by decide +kernel
theorem d_Gauge_wholePart_49 : decode b_Gauge_wholePart 49 = .ok (.areturn, 1) := by decide +kernel
theorem d_Integer_compare_0 : decode b_Integer_compare 0 = .ok (.iload_n 0, 1) := by decide +kernel
theorem d_Integer_compare_1 : decode b_Integer_compare 1 = .ok (.iload_n 1, 1) := by decide +kernel
theorem d_Integer_compare_2 : decode b_Integer_compare 2 = .ok (.if_icmp .ge 7, 3) := by decide +kernel
theorem d_Integer_compare_9 : decode b_Integer_compare 9 = .ok (.iload_n 0, 1) := by decide +kernel
theorem d_Integer_compare_10 : decode b_Integer_compare 10 = .ok (.iload_n 1, 1) := by decide +kernel
theorem d_Integer_compare_11 : decode b_Integer_compare 11 = .ok (.if_icmp .ne 7, 3) := by decide +kernel
theorem d_Integer_compare_14 : decode b_Integer_compare 14 = .ok (.iconst 0, 1) := by decide +kernel
theorem d_Integer_compare_15 : decode b_Integer_compare 15 = .ok (.goto 4, 3) := by decide +kernel
theorem d_Integer_compare_19 : decode b_Integer_compare 19 = .ok (.ireturn, 1) := by decide +kernel
theorem d_Isolator_init_0 : decode b_Isolator_init 0 = .ok (.aload_n 0, 1) := by decide +kernel
theorem d_Isolator_init_1 : decode b_Isolator_init 1 = .ok (.invokespecial 1, 3) := by decide +kernel
theorem d_Isolator_init_4 : decode b_Isolator_init 4 = .ok (.aload_n 0, 1) := by decide +kernel
theorem d_Isolator_init_5 : decode b_Isolator_init 5 = .ok (.bipush 13, 2) := by decide +kernel
theorem d_Isolator_init_7 : decode b_Isolator_init 7 = .ok (.anewarray 9, 3) := by decide +kernel
theorem d_Isolator_init_10 : decode b_Isolator_init 10 = .ok (.putfield 11, 3) := by decide +kernel
theorem d_Isolator_init_13 : decode b_Isolator_init 13 = .ok (.aload_n 0, 1) := by decide +kernel
theorem d_Isolator_init_14 : decode b_Isolator_init 14 = .ok (.bipush 13, 2) := by decide +kernel
theorem d_Isolator_init_16 : decode b_Isolator_init 16 = .ok (.anewarray 9, 3) := by decide +kernel
theorem d_Isolator_init_19 : decode b_Isolator_init 19 = .ok (.putfield 17, 3) := by decide +kernel
theorem d_Isolator_init_22 : decode b_Isolator_init 22 = .ok (.iconst 0, 1) := by decide +kernel
theorem d_Isolator_init_23 : decode b_Isolator_init 23 = .ok (.istore_n 1, 1) := by decide +kernel
theorem d_Isolator_init_24 : decode b_Isolator_init 24 = .ok (.iload_n 1, 1) := by decide +kernel
theorem d_Isolator_init_25 : decode b_Isolator_init 25 = .ok (.bipush 12, 2) := by decide +kernel
theorem d_Isolator_init_27 : decode b_Isolator_init 27 = .ok (.if_icmp .gt 39, 3) := by decide +kernel
theorem d_Isolator_init_30 : decode b_Isolator_init 30 = .ok (.aload_n 0, 1) := by decide +kernel
theorem d_Isolator_init_31 : decode b_Isolator_init 31 = .ok (.getfield 11, 3) := by decide +kernel
theorem d_Isolator_init_34 : decode b_Isolator_init 34 = .ok (.iload_n 1, 1) := by decide +kernel
theorem d_Isolator_init_35 : decode b_Isolator_init 35 = .ok (.new 9, 3) := by decide +kernel
theorem d_Isolator_init_38 : decode b_Isolator_init 38 = .ok (.dup, 1) := by decide +kernel
theorem d_Isolator_init_39 : decode b_Isolator_init 39 = .ok (.bipush 96, 2) := by decide +kernel
theorem d_Isolator_init_41 : decode b_Isolator_init 41 = .ok (.invokespecial 20, 3) := by decide +kernel
theorem d_Isolator_init_44 : decode b_Isolator_init 44 = .ok (.aastore, 1) := by decide +kernel
theorem d_Isolator_init_45 : decode b_Isolator_init 45 = .ok (.aload_n 0, 1) := by decide +kernel
theorem d_Isolator_init_46 : decode b_Isolator_init 46 = .ok (.getfield 17, 3) := by decide +kernel
theorem d_Isolator_init_49 : decode b_Isolator_init 49 = .ok (.iload_n 1, 1) := by decide +kernel
theorem d_Isolator_init_50 : decode b_Isolator_init 50 = .ok (.new 9, 3) := by decide +kernel
theorem d_Isolator_init_53 : decode b_Isolator_init 53 = .ok (.dup, 1) := by decide +kernel
theorem d_Isolator_init_54 : decode b_Isolator_init 54 = .ok (.bipush 96, 2) := by decide +kernel
theorem d_Isolator_init_56 : decode b_Isolator_init 56 = .ok (.invokespecial 20, 3) := by decide +kernel
theorem d_Isolator_init_59 : decode b_Isolator_init 59 = .ok (.aastore, 1) := by decide +kernel
theorem d_Isolator_init_60 : decode b_Isolator_init 60 = .ok (.iinc 1 1, 3) := by decide +kernel
theorem d_Isolator_init_63 : decode b_Isolator_init 63 = .ok (.goto (-39), 3) := by decide +kernel
theorem d_Isolator_init_66 : decode b_Isolator_init 66 = .ok (.aload_n 0, 1) := by decide +kernel
theorem d_Isolator_init_67 : decode b_Isolator_init 67 = .ok (.new 9, 3) := by decide +kernel
theorem d_Isolator_init_70 : decode b_Isolator_init 70 = .ok (.dup, 1) := by decide +kernel
theorem d_Isolator_init_71 : decode b_Isolator_init 71 = .ok (.bipush 12, 2) := by decide +kernel
theorem d_Isolator_init_73 : decode b_Isolator_init 73 = .ok (.invokespecial 20, 3) := by decide +kernel
theorem d_Isolator_init_76 : decode b_Isolator_init 76 = .ok (.putfield 25, 3) := by decide +kernel
theorem d_Isolator_init_79 : decode b_Isolator_init 79 = .ok (.aload_n 0, 1) := by decide +kernel
theorem d_Isolator_init_80 : decode b_Isolator_init 80 = .ok (.bipush 12, 2) := by decide +kernel
theorem d_Isolator_init_82 : decode b_Isolator_init 82 = .ok (.anewarray 9, 3) := by decide +kernel
theorem d_Isolator_init_85 : decode b_Isolator_init 85 = .ok (.putfield 29, 3) := by decide +kernel
theorem d_Isolator_init_88 : decode b_Isolator_init 88 = .ok (.iconst 0, 1) := by decide +kernel
theorem d_Isolator_init_89 : decode b_Isolator_init 89 = .ok (.istore_n 1, 1) := by decide +kernel
theorem d_Isolator_init_90 : decode b_Isolator_init 90 = .ok (.iload_n 1, 1) := by decide +kernel
theorem d_Isolator_init_91 : decode b_Isolator_init 91 = .ok (.bipush 12, 2) := by decide +kernel
theorem d_Isolator_init_93 : decode b_Isolator_init 93 = .ok (.if_icmp .ge 24, 3) := by decide +kernel
theorem d_Isolator_init_96 : decode b_Isolator_init 96 = .ok (.aload_n 0, 1) := by decide +kernel
theorem d_Isolator_init_97 : decode b_Isolator_init 97 = .ok (.getfield 29, 3) := by decide +kernel
theorem d_Isolator_init_100 : decode b_Isolator_init 100 = .ok (.iload_n 1, 1) := by decide +kernel
theorem d_Isolator_init_101 : decode b_Isolator_init 101 = .ok (.new 9, 3) := by decide +kernel
theorem d_Isolator_init_104 : decode b_Isolator_init 104 = .ok (.dup, 1) := by decide +kernel
theorem d_Isolator_init_105 : decode b_Isolator_init 105 = .ok (.bipush 12, 2) := by decide +kernel
theorem d_Isolator_init_107 : decode b_Isolator_init 107 = .ok (.invokespecial 20, 3) := by decide +kernel
theorem d_Isolator_init_110 : decode b_Isolator_init 110 = .ok (.aastore, 1) := by decide +kernel
theorem d_Isolator_init_111 : decode b_Isolator_init 111 = .ok (.iinc 1 1, 3) := by decide +kernel
theorem d_Isolator_init_114 : decode b_Isolator_init 114 = .ok (.goto (-24), 3) := by decide +kernel
theorem d_Isolator_init_117 : decode b_Isolator_init 117 = .ok (.aload_n 0, 1) := by decide +kernel
theorem d_Isolator_init_118 : decode b_Isolator_init 118 = .ok (.bipush 12, 2) := by decide +kernel
theorem d_Isolator_init_120 : decode b_Isolator_init 120 = .ok (.newarray .int, 2) := by decide +kernel
theorem d_Isolator_init_122 : decode b_Isolator_init 122 = .ok (.putfield 32, 3) := by decide +kernel
theorem d_Isolator_init_125 : decode b_Isolator_init 125 = .ok (.aload_n 0, 1) := by decide +kernel
theorem d_Isolator_init_126 : decode b_Isolator_init 126 = .ok (.bipush 12, 2) := by decide +kernel
theorem d_Isolator_init_128 : decode b_Isolator_init 128 = .ok (.newarray .boolean, 2) := by decide +kernel
theorem d_Isolator_init_130 : decode b_Isolator_init 130 = .ok (.putfield 36, 3) := by decide +kernel
theorem d_Isolator_init_133 : decode b_Isolator_init 133 = .ok (.return_, 1) := by decide +kernel
theorem d_Md_against_0 : decode b_Md_against 0 = .ok (.aload_n 0, 1) := by decide +kernel
theorem d_Md_against_1 : decode b_Md_against 1 = .ok (.getfield 24, 3) := by decide +kernel
theorem d_Md_against_4 : decode b_Md_against 4 = .ok (.iload_n 1, 1) := by decide +kernel
theorem d_Md_against_5 : decode b_Md_against 5 = .ok (.iaload, 1) := by decide +kernel
theorem d_Md_against_6 : decode b_Md_against 6 = .ok (.aload_n 0, 1) := by decide +kernel
theorem d_Md_against_7 : decode b_Md_against 7 = .ok (.getfield 24, 3) := by decide +kernel
theorem d_Md_against_10 : decode b_Md_against 10 = .ok (.iload_n 2, 1) := by decide +kernel
theorem d_Md_against_11 : decode b_Md_against 11 = .ok (.iaload, 1) := by decide +kernel
theorem d_Md_against_12 : decode b_Md_against 12 = .ok (.if_icmp .ne 7, 3) := by decide +kernel
theorem d_Md_against_15 : decode b_Md_against 15 = .ok (.iconst 1, 1) := by decide +kernel
theorem d_Md_against_16 : decode b_Md_against 16 = .ok (.goto 4, 3) := by decide +kernel
theorem d_Md_against_20 : decode b_Md_against 20 = .ok (.istore_n 3, 1) := by decide +kernel
theorem d_Md_against_21 : decode b_Md_against 21 = .ok (.iconst 0, 1) := by decide +kernel
theorem d_Md_against_22 : decode b_Md_against 22 = .ok (.istore 4, 2) := by decide +kernel
theorem d_Md_against_24 : decode b_Md_against 24 = .ok (.iload 4, 2) := by decide +kernel
theorem d_Md_against_26 : decode b_Md_against 26 = .ok (.bipush 7, 2) := by decide +kernel
theorem d_Md_against_28 : decode b_Md_against 28 = .ok (.if_icmp .ge 58, 3) := by decide +kernel
theorem d_Md_against_31 : decode b_Md_against 31 = .ok (.iload_n 3, 1) := by decide +kernel
theorem d_Md_against_32 : decode b_Md_against 32 = .ok (.ifCond .eq 46, 3) := by decide +kernel
theorem d_Md_against_35 : decode b_Md_against 35 = .ok (.iload 4, 2) := by decide +kernel
theorem d_Md_against_37 : decode b_Md_against 37 = .ok (.aload_n 0, 1) := by decide +kernel
theorem d_Md_against_38 : decode b_Md_against 38 = .ok (.getfield 24, 3) := by decide +kernel
theorem d_Md_against_41 : decode b_Md_against 41 = .ok (.iload_n 1, 1) := by decide +kernel
theorem d_Md_against_42 : decode b_Md_against 42 = .ok (.iaload, 1) := by decide +kernel
theorem d_Md_against_43 : decode b_Md_against 43 = .ok (.if_icmp .gt 31, 3) := by decide +kernel
theorem d_Md_against_46 : decode b_Md_against 46 = .ok (.aload_n 0, 1) := by decide +kernel
theorem d_Md_against_47 : decode b_Md_against 47 = .ok (.getfield 27, 3) := by decide +kernel
theorem d_Md_against_50 : decode b_Md_against 50 = .ok (.bipush 7, 2) := by decide +kernel
theorem d_Md_against_52 : decode b_Md_against 52 = .ok (.iload_n 1, 1) := by decide +kernel
theorem d_Md_against_53 : decode b_Md_against 53 = .ok (.imul, 1) := by decide +kernel
theorem d_Md_against_54 : decode b_Md_against 54 = .ok (.iload 4, 2) := by decide +kernel
theorem d_Md_against_56 : decode b_Md_against 56 = .ok (.iadd, 1) := by decide +kernel
theorem d_Md_against_57 : decode b_Md_against 57 = .ok (.laload, 1) := by decide +kernel
theorem d_Md_against_58 : decode b_Md_against 58 = .ok (.aload_n 0, 1) := by decide +kernel
theorem d_Md_against_59 : decode b_Md_against 59 = .ok (.getfield 27, 3) := by decide +kernel
theorem d_Md_against_62 : decode b_Md_against 62 = .ok (.bipush 7, 2) := by decide +kernel
theorem d_Md_against_64 : decode b_Md_against 64 = .ok (.iload_n 2, 1) := by decide +kernel
theorem d_Md_against_65 : decode b_Md_against 65 = .ok (.imul, 1) := by decide +kernel
theorem d_Md_against_66 : decode b_Md_against 66 = .ok (.iload 4, 2) := by decide +kernel
theorem d_Md_against_68 : decode b_Md_against 68 = .ok (.iadd, 1) := by decide +kernel
theorem d_Md_against_69 : decode b_Md_against 69 = .ok (.laload, 1) := by decide +kernel
theorem d_Md_against_70 : decode b_Md_against 70 = .ok (.lcmp, 1) := by decide +kernel
theorem d_Md_against_71 : decode b_Md_against 71 = .ok (.ifCond .ne 7, 3) := by decide +kernel
theorem d_Md_against_74 : decode b_Md_against 74 = .ok (.iconst 1, 1) := by decide +kernel
theorem d_Md_against_75 : decode b_Md_against 75 = .ok (.goto 4, 3) := by decide +kernel
theorem d_Md_against_79 : decode b_Md_against 79 = .ok (.istore_n 3, 1) := by decide +kernel
theorem d_Md_against_80 : decode b_Md_against 80 = .ok (.iinc 4 1, 3) := by decide +kernel
theorem d_Md_against_83 : decode b_Md_against 83 = .ok (.goto (-59), 3) := by decide +kernel
theorem d_Md_against_86 : decode b_Md_against 86 = .ok (.iload_n 3, 1) := by decide +kernel
theorem d_Md_against_87 : decode b_Md_against 87 = .ok (.ifCond .eq 43, 3) := by decide +kernel
theorem d_Md_against_90 : decode b_Md_against 90 = .ok (.aload_n 0, 1) := by decide +kernel
theorem d_Md_against_91 : decode b_Md_against 91 = .ok (.getfield 31, 3) := by decide +kernel
theorem d_Md_against_94 : decode b_Md_against 94 = .ok (.iload_n 1, 1) := by decide +kernel
theorem d_Md_against_95 : decode b_Md_against 95 = .ok (.iaload, 1) := by decide +kernel
theorem d_Md_against_96 : decode b_Md_against 96 = .ok (.aload_n 0, 1) := by decide +kernel
theorem d_Md_against_97 : decode b_Md_against 97 = .ok (.getfield 31, 3) := by decide +kernel
theorem d_Md_against_100 : decode b_Md_against 100 = .ok (.iload_n 2, 1) := by decide +kernel
theorem d_Md_against_101 : decode b_Md_against 101 = .ok (.iaload, 1) := by decide +kernel
theorem d_Md_against_102 : decode b_Md_against 102 = .ok (.if_icmp .ge 7, 3) := by decide +kernel
theorem d_Md_against_109 : decode b_Md_against 109 = .ok (.aload_n 0, 1) := by decide +kernel
theorem d_Md_against_110 : decode b_Md_against 110 = .ok (.getfield 31, 3) := by decide +kernel
theorem d_Md_against_113 : decode b_Md_against 113 = .ok (.iload_n 1, 1) := by decide +kernel
theorem d_Md_against_114 : decode b_Md_against 114 = .ok (.iaload, 1) := by decide +kernel
theorem d_Md_against_115 : decode b_Md_against 115 = .ok (.aload_n 0, 1) := by decide +kernel
theorem d_Md_against_116 : decode b_Md_against 116 = .ok (.getfield 31, 3) := by decide +kernel
theorem d_Md_against_119 : decode b_Md_against 119 = .ok (.iload_n 2, 1) := by decide +kernel
theorem d_Md_against_120 : decode b_Md_against 120 = .ok (.iaload, 1) := by decide +kernel
theorem d_Md_against_121 : decode b_Md_against 121 = .ok (.if_icmp .le 7, 3) := by decide +kernel
theorem d_Md_against_128 : decode b_Md_against 128 = .ok (.iconst 0, 1) := by decide +kernel
theorem d_Md_against_129 : decode b_Md_against 129 = .ok (.ireturn, 1) := by decide +kernel
theorem d_Md_bars_0 : decode b_Md_bars 0 = .ok (.aload_n 0, 1) := by decide +kernel
theorem d_Md_bars_1 : decode b_Md_bars 1 = .ok (.iload_n 1, 1) := by decide +kernel
theorem d_Md_bars_2 : decode b_Md_bars 2 = .ok (.invokestatic 594, 3) := by decide +kernel
theorem d_Md_bars_5 : decode b_Md_bars 5 = .ok (.ifCond .ne 7, 3) := by decide +kernel
theorem d_Md_bars_8 : decode b_Md_bars 8 = .ok (.iconst 1, 1) := by decide +kernel
theorem d_Md_bars_9 : decode b_Md_bars 9 = .ok (.goto 4, 3) := by decide +kernel
theorem d_Md_bars_12 : decode b_Md_bars 12 = .ok (.iconst 0, 1) := by decide +kernel
theorem d_Md_bars_13 : decode b_Md_bars 13 = .ok (.iconst 1, 1) := by decide +kernel
theorem d_Md_bars_14 : decode b_Md_bars 14 = .ok (.invokevirtual 581, 3) := by decide +kernel
theorem d_Md_bars_17 : decode b_Md_bars 17 = .ok (.ifCond .ne 25, 3) := by decide +kernel
theorem d_Md_bars_20 : decode b_Md_bars 20 = .ok (.aload_n 0, 1) := by decide +kernel
theorem d_Md_bars_21 : decode b_Md_bars 21 = .ok (.aload_n 0, 1) := by decide +kernel
theorem d_Md_bars_22 : decode b_Md_bars 22 = .ok (.getfield 20, 3) := by decide +kernel
theorem d_Md_bars_25 : decode b_Md_bars 25 = .ok (.iload_n 1, 1) := by decide +kernel
theorem d_Md_bars_26 : decode b_Md_bars 26 = .ok (.baload, 1) := by decide +kernel
theorem d_Md_bars_27 : decode b_Md_bars 27 = .ok (.ifCond .ne 7, 3) := by decide +kernel
theorem d_Md_bars_30 : decode b_Md_bars 30 = .ok (.iconst 1, 1) := by decide +kernel
theorem d_Md_bars_31 : decode b_Md_bars 31 = .ok (.goto 4, 3) := by decide +kernel
theorem d_Md_bars_34 : decode b_Md_bars 34 = .ok (.iconst 0, 1) := by decide +kernel
theorem d_Md_bars_35 : decode b_Md_bars 35 = .ok (.iconst 2, 1) := by decide +kernel
theorem d_Md_bars_36 : decode b_Md_bars 36 = .ok (.invokevirtual 581, 3) := by decide +kernel
theorem d_Md_bars_39 : decode b_Md_bars 39 = .ok (.ifCond .eq 7, 3) := by decide +kernel
theorem d_Md_bars_42 : decode b_Md_bars 42 = .ok (.iconst 1, 1) := by decide +kernel
theorem d_Md_bars_43 : decode b_Md_bars 43 = .ok (.goto 4, 3) := by decide +kernel
theorem d_Md_bars_46 : decode b_Md_bars 46 = .ok (.iconst 0, 1) := by decide +kernel
theorem d_Md_bars_47 : decode b_Md_bars 47 = .ok (.ireturn, 1) := by decide +kernel
theorem d_Md_coefficient_0 : decode b_Md_coefficient 0 = .ok (.aload_n 0, 1) := by decide +kernel
theorem d_Md_coefficient_1 : decode b_Md_coefficient 1 = .ok (.iload_n 1, 1) := by decide +kernel
theorem d_Md_coefficient_2 : decode b_Md_coefficient 2 = .ok (.invokevirtual 597, 3) := by decide +kernel
theorem d_Md_coefficient_5 : decode b_Md_coefficient 5 = .ok (.ifCond .ne 32, 3) := by decide +kernel
theorem d_Md_coefficient_8 : decode b_Md_coefficient 8 = .ok (.aload_n 0, 1) := by decide +kernel
theorem d_Md_coefficient_9 : decode b_Md_coefficient 9 = .ok (.iload_n 2, 1) := by decide +kernel
theorem d_Md_coefficient_10 : decode b_Md_coefficient 10 = .ok (.i2l, 1) := by decide +kernel
theorem d_Md_coefficient_11 : decode b_Md_coefficient 11 = .ok (.lconst 0, 1) := by decide +kernel
theorem d_Md_coefficient_12 : decode b_Md_coefficient 12 = .ok (.aload_n 0, 1) := by decide +kernel
theorem d_Md_coefficient_13 : decode b_Md_coefficient 13 = .ok (.getfield 24, 3) := by decide +kernel
theorem d_Md_coefficient_16 : decode b_Md_coefficient 16 = .ok (.iload_n 1, 1) := by decide +kernel
theorem d_Md_coefficient_17 : decode b_Md_coefficient 17 = .ok (.iaload, 1) := by decide +kernel
theorem d_Md_coefficient_18 : decode b_Md_coefficient 18 = .ok (.i2l, 1) := by decide +kernel
theorem d_Md_coefficient_19 : decode b_Md_coefficient 19 = .ok (.invokestatic 446, 3) := by decide +kernel
theorem d_Md_coefficient_22 : decode b_Md_coefficient 22 = .ok (.ifCond .ne 7, 3) := by decide +kernel
theorem d_Md_coefficient_25 : decode b_Md_coefficient 25 = .ok (.iconst 1, 1) := by decide +kernel
theorem d_Md_coefficient_26 : decode b_Md_coefficient 26 = .ok (.goto 4, 3) := by decide +kernel
theorem d_Md_coefficient_29 : decode b_Md_coefficient 29 = .ok (.iconst 0, 1) := by decide +kernel
theorem d_Md_coefficient_30 : decode b_Md_coefficient 30 = .ok (.iconst 2, 1) := by decide +kernel
theorem d_Md_coefficient_31 : decode b_Md_coefficient 31 = .ok (.invokevirtual 581, 3) := by decide +kernel
theorem d_Md_coefficient_34 : decode b_Md_coefficient 34 = .ok (.ifCond .eq 5, 3) := by decide +kernel
theorem d_Md_coefficient_37 : decode b_Md_coefficient 37 = .ok (.iconst 0, 1) := by decide +kernel
theorem d_Md_coefficient_38 : decode b_Md_coefficient 38 = .ok (.ireturn, 1) := by decide +kernel
theorem d_Md_coefficient_39 : decode b_Md_coefficient 39 = .ok (.aload_n 0, 1) := by decide +kernel
theorem d_Md_coefficient_40 : decode b_Md_coefficient 40 = .ok (.getfield 27, 3) := by decide +kernel
theorem d_Md_coefficient_43 : decode b_Md_coefficient 43 = .ok (.bipush 7, 2) := by decide +kernel
theorem d_Md_coefficient_45 : decode b_Md_coefficient 45 = .ok (.iload_n 1, 1) := by decide +kernel
theorem d_Md_coefficient_46 : decode b_Md_coefficient 46 = .ok (.imul, 1) := by decide +kernel
theorem d_Md_coefficient_47 : decode b_Md_coefficient 47 = .ok (.iload_n 2, 1) := by decide +kernel
theorem d_Md_coefficient_48 : decode b_Md_coefficient 48 = .ok (.iadd, 1) := by decide +kernel
theorem d_Md_coefficient_49 : decode b_Md_coefficient 49 = .ok (.laload, 1) := by decide +kernel
theorem d_Md_coefficient_50 : decode b_Md_coefficient 50 = .ok (.l2i, 1) := by decide +kernel
theorem d_Md_coefficient_51 : decode b_Md_coefficient 51 = .ok (.ireturn, 1) := by decide +kernel
theorem d_Md_compare_0 : decode b_Md_compare 0 = .ok (.aload_n 0, 1) := by decide +kernel
theorem d_Md_compare_1 : decode b_Md_compare 1 = .ok (.iload_n 1, 1) := by decide +kernel
theorem d_Md_compare_2 : decode b_Md_compare 2 = .ok (.invokestatic 594, 3) := by decide +kernel
theorem d_Md_compare_5 : decode b_Md_compare 5 = .ok (.ifCond .eq 10, 3) := by decide +kernel
theorem d_Md_compare_8 : decode b_Md_compare 8 = .ok (.iload_n 2, 1) := by decide +kernel
theorem d_Md_compare_9 : decode b_Md_compare 9 = .ok (.invokestatic 594, 3) := by decide +kernel
theorem d_Md_compare_12 : decode b_Md_compare 12 = .ok (.ifCond .ne 7, 3) := by decide +kernel
theorem d_Md_compare_15 : decode b_Md_compare 15 = .ok (.iconst 1, 1) := by decide +kernel
theorem d_Md_compare_16 : decode b_Md_compare 16 = .ok (.goto 4, 3) := by decide +kernel
theorem d_Md_compare_19 : decode b_Md_compare 19 = .ok (.iconst 0, 1) := by decide +kernel
theorem d_Md_compare_20 : decode b_Md_compare 20 = .ok (.iconst 1, 1) := by decide +kernel
theorem d_Md_compare_21 : decode b_Md_compare 21 = .ok (.invokevirtual 581, 3) := by decide +kernel
theorem d_Md_compare_24 : decode b_Md_compare 24 = .ok (.ifCond .ne 34, 3) := by decide +kernel
theorem d_Md_compare_27 : decode b_Md_compare 27 = .ok (.aload_n 0, 1) := by decide +kernel
theorem d_Md_compare_28 : decode b_Md_compare 28 = .ok (.aload_n 0, 1) := by decide +kernel
theorem d_Md_compare_29 : decode b_Md_compare 29 = .ok (.getfield 20, 3) := by decide +kernel
theorem d_Md_compare_32 : decode b_Md_compare 32 = .ok (.iload_n 1, 1) := by decide +kernel
theorem d_Md_compare_33 : decode b_Md_compare 33 = .ok (.baload, 1) := by decide +kernel
theorem d_Md_compare_34 : decode b_Md_compare 34 = .ok (.ifCond .eq 12, 3) := by decide +kernel
theorem d_Md_compare_37 : decode b_Md_compare 37 = .ok (.aload_n 0, 1) := by decide +kernel
theorem d_Md_compare_38 : decode b_Md_compare 38 = .ok (.getfield 20, 3) := by decide +kernel
theorem d_Md_compare_41 : decode b_Md_compare 41 = .ok (.iload_n 2, 1) := by decide +kernel
theorem d_Md_compare_42 : decode b_Md_compare 42 = .ok (.baload, 1) := by decide +kernel
theorem d_Md_compare_43 : decode b_Md_compare 43 = .ok (.ifCond .ne 7, 3) := by decide +kernel
theorem d_Md_compare_46 : decode b_Md_compare 46 = .ok (.iconst 1, 1) := by decide +kernel
theorem d_Md_compare_47 : decode b_Md_compare 47 = .ok (.goto 4, 3) := by decide +kernel
theorem d_Md_compare_50 : decode b_Md_compare 50 = .ok (.iconst 0, 1) := by decide +kernel
theorem d_Md_compare_51 : decode b_Md_compare 51 = .ok (.iconst 2, 1) := by decide +kernel
theorem d_Md_compare_52 : decode b_Md_compare 52 = .ok (.invokevirtual 581, 3) := by decide +kernel
theorem d_Md_compare_55 : decode b_Md_compare 55 = .ok (.ifCond .eq 5, 3) := by decide +kernel
theorem d_Md_compare_58 : decode b_Md_compare 58 = .ok (.iconst 0, 1) := by decide +kernel
theorem d_Md_compare_59 : decode b_Md_compare 59 = .ok (.ireturn, 1) := by decide +kernel
theorem d_Md_compare_60 : decode b_Md_compare 60 = .ok (.aload_n 0, 1) := by decide +kernel
theorem d_Md_compare_61 : decode b_Md_compare 61 = .ok (.iload_n 1, 1) := by decide +kernel
theorem d_Md_compare_62 : decode b_Md_compare 62 = .ok (.iload_n 2, 1) := by decide +kernel
theorem d_Md_compare_63 : decode b_Md_compare 63 = .ok (.invokevirtual 475, 3) := by decide +kernel
theorem d_Md_compare_66 : decode b_Md_compare 66 = .ok (.ireturn, 1) := by decide +kernel
theorem d_Md_degree_0 : decode b_Md_degree 0 = .ok (.aload_n 0, 1) := by decide +kernel
theorem d_Md_degree_1 : decode b_Md_degree 1 = .ok (.iload_n 1, 1) := by decide +kernel
theorem d_Md_degree_2 : decode b_Md_degree 2 = .ok (.invokestatic 594, 3) := by decide +kernel
theorem d_Md_degree_5 : decode b_Md_degree 5 = .ok (.ifCond .ne 7, 3) := by decide +kernel
theorem d_Md_degree_8 : decode b_Md_degree 8 = .ok (.iconst 1, 1) := by decide +kernel
theorem d_Md_degree_9 : decode b_Md_degree 9 = .ok (.goto 4, 3) := by decide +kernel
theorem d_Md_degree_12 : decode b_Md_degree 12 = .ok (.iconst 0, 1) := by decide +kernel
theorem d_Md_degree_13 : decode b_Md_degree 13 = .ok (.iconst 1, 1) := by decide +kernel
theorem d_Md_degree_14 : decode b_Md_degree 14 = .ok (.invokevirtual 581, 3) := by decide +kernel
theorem d_Md_degree_17 : decode b_Md_degree 17 = .ok (.ifCond .eq 5, 3) := by decide +kernel
theorem d_Md_degree_20 : decode b_Md_degree 20 = .ok (.iconst 0, 1) := by decide +kernel
theorem d_Md_degree_21 : decode b_Md_degree 21 = .ok (.ireturn, 1) := by decide +kernel
theorem d_Md_degree_22 : decode b_Md_degree 22 = .ok (.aload_n 0, 1) := by decide +kernel
theorem d_Md_degree_23 : decode b_Md_degree 23 = .ok (.getfield 20, 3) := by decide +kernel
theorem d_Md_degree_26 : decode b_Md_degree 26 = .ok (.iload_n 1, 1) := by decide +kernel
theorem d_Md_degree_27 : decode b_Md_degree 27 = .ok (.baload, 1) := by decide +kernel
theorem d_Md_degree_28 : decode b_Md_degree 28 = .ok (.ifCond .eq 12, 3) := by decide +kernel
theorem d_Md_degree_31 : decode b_Md_degree 31 = .ok (.aload_n 0, 1) := by decide +kernel
theorem d_Md_degree_32 : decode b_Md_degree 32 = .ok (.getfield 24, 3) := by decide +kernel
theorem d_Md_degree_35 : decode b_Md_degree 35 = .ok (.iload_n 1, 1) := by decide +kernel
theorem d_Md_degree_36 : decode b_Md_degree 36 = .ok (.iaload, 1) := by decide +kernel
theorem d_Md_degree_37 : decode b_Md_degree 37 = .ok (.goto 4, 3) := by decide +kernel
theorem d_Md_degree_40 : decode b_Md_degree 40 = .ok (.iconst 0, 1) := by decide +kernel
theorem d_Md_degree_41 : decode b_Md_degree 41 = .ok (.ireturn, 1) := by decide +kernel
theorem d_Md_digit_0 : decode b_Md_digit 0 = .ok (.iload_n 2, 1) := by decide +kernel
theorem d_Md_digit_1 : decode b_Md_digit 1 = .ok (.ifCond .lt 28, 3) := by decide +kernel
theorem d_Md_digit_4 : decode b_Md_digit 4 = .ok (.iload_n 2, 1) := by decide +kernel
theorem d_Md_digit_5 : decode b_Md_digit 5 = .ok (.aload_n 0, 1) := by decide +kernel
theorem d_Md_digit_6 : decode b_Md_digit 6 = .ok (.getfield 41, 3) := by decide +kernel
theorem d_Md_digit_9 : decode b_Md_digit 9 = .ok (.iload_n 1, 1) := by decide +kernel
theorem d_Md_digit_10 : decode b_Md_digit 10 = .ok (.iaload, 1) := by decide +kernel
theorem d_Md_digit_11 : decode b_Md_digit 11 = .ok (.if_icmp .ge 18, 3) := by decide +kernel
theorem d_Md_digit_14 : decode b_Md_digit 14 = .ok (.aload_n 0, 1) := by decide +kernel
theorem d_Md_digit_15 : decode b_Md_digit 15 = .ok (.getfield 38, 3) := by decide +kernel
theorem d_Md_digit_18 : decode b_Md_digit 18 = .ok (.sipush 660, 3) := by decide +kernel
theorem d_Md_digit_21 : decode b_Md_digit 21 = .ok (.iload_n 1, 1) := by decide +kernel
theorem d_Md_digit_22 : decode b_Md_digit 22 = .ok (.imul, 1) := by decide +kernel
theorem d_Md_digit_23 : decode b_Md_digit 23 = .ok (.iload_n 2, 1) := by decide +kernel
theorem d_Md_digit_24 : decode b_Md_digit 24 = .ok (.iadd, 1) := by decide +kernel
theorem d_Md_digit_25 : decode b_Md_digit 25 = .ok (.laload, 1) := by decide +kernel
theorem d_Md_digit_26 : decode b_Md_digit 26 = .ok (.goto 4, 3) := by decide +kernel
theorem d_Md_digit_29 : decode b_Md_digit 29 = .ok (.lconst 0, 1) := by decide +kernel
theorem d_Md_digit_30 : decode b_Md_digit 30 = .ok (.lreturn, 1) := by decide +kernel
theorem d_Md_divided_0 : decode b_Md_divided 0 = .ok (.aload_n 0, 1) := by decide +kernel
theorem d_Md_divided_1 : decode b_Md_divided 1 = .ok (.getfield 44, 3) := by decide +kernel
theorem d_Md_divided_4 : decode b_Md_divided 4 = .ok (.iload_n 3, 1) := by decide +kernel
theorem d_Md_divided_5 : decode b_Md_divided 5 = .ok (.iaload, 1) := by decide +kernel
theorem d_Md_divided_6 : decode b_Md_divided 6 = .ok (.istore 5, 2) := by decide +kernel
theorem d_Md_divided_8 : decode b_Md_divided 8 = .ok (.aload_n 0, 1) := by decide +kernel
theorem d_Md_divided_9 : decode b_Md_divided 9 = .ok (.getfield 44, 3) := by decide +kernel
theorem d_Md_divided_12 : decode b_Md_divided 12 = .ok (.iload 4, 2) := by decide +kernel
theorem d_Md_divided_14 : decode b_Md_divided 14 = .ok (.iaload, 1) := by decide +kernel
theorem d_Md_divided_15 : decode b_Md_divided 15 = .ok (.istore 6, 2) := by decide +kernel
theorem d_Md_divided_17 : decode b_Md_divided 17 = .ok (.aload_n 0, 1) := by decide +kernel
theorem d_Md_divided_18 : decode b_Md_divided 18 = .ok (.getfield 41, 3) := by decide +kernel
theorem d_Md_divided_21 : decode b_Md_divided 21 = .ok (.iload 4, 2) := by decide +kernel
theorem d_Md_divided_23 : decode b_Md_divided 23 = .ok (.iaload, 1) := by decide +kernel
theorem d_Md_divided_24 : decode b_Md_divided 24 = .ok (.istore 7, 2) := by decide +kernel
theorem d_Md_divided_26 : decode b_Md_divided 26 = .ok (.aload_n 0, 1) := by decide +kernel
theorem d_Md_divided_27 : decode b_Md_divided 27 = .ok (.getfield 41, 3) := by decide +kernel
theorem d_Md_divided_30 : decode b_Md_divided 30 = .ok (.iload_n 3, 1) := by decide +kernel
theorem d_Md_divided_31 : decode b_Md_divided 31 = .ok (.iaload, 1) := by decide +kernel
theorem d_Md_divided_32 : decode b_Md_divided 32 = .ok (.istore 8, 2) := by decide +kernel
theorem d_Md_divided_34 : decode b_Md_divided 34 = .ok (.iconst 0, 1) := by decide +kernel
theorem d_Md_divided_35 : decode b_Md_divided 35 = .ok (.istore 9, 2) := by decide +kernel
theorem d_Md_divided_37 : decode b_Md_divided 37 = .ok (.aload_n 0, 1) := by decide +kernel
theorem d_Md_divided_38 : decode b_Md_divided 38 = .ok (.getfield 38, 3) := by decide +kernel
theorem d_Md_divided_41 : decode b_Md_divided 41 = .ok (.sipush 660, 3) := by decide +kernel
theorem d_Md_divided_44 : decode b_Md_divided 44 = .ok (.iload 4, 2) := by decide +kernel
theorem d_Md_divided_46 : decode b_Md_divided 46 = .ok (.imul, 1) := by decide +kernel
theorem d_Md_divided_47 : decode b_Md_divided 47 = .ok (.iload 7, 2) := by decide +kernel
theorem d_Md_divided_49 : decode b_Md_divided 49 = .ok (.iadd, 1) := by decide +kernel
theorem d_Md_divided_50 : decode b_Md_divided 50 = .ok (.iconst 1, 1) := by decide +kernel
theorem d_Md_divided_51 : decode b_Md_divided 51 = .ok (.isub, 1) := by decide +kernel
theorem d_Md_divided_52 : decode b_Md_divided 52 = .ok (.laload, 1) := by decide +kernel
theorem d_Md_divided_53 : decode b_Md_divided 53 = .ok (.iload 9, 2) := by decide +kernel
theorem d_Md_divided_55 : decode b_Md_divided 55 = .ok (.lshl, 1) := by decide +kernel
theorem d_Md_divided_56 : decode b_Md_divided 56 = .ok (.ldc2_w 182, 3) := by decide +kernel
theorem d_Md_divided_59 : decode b_Md_divided 59 = .ok (.lcmp, 1) := by decide +kernel
theorem d_Md_divided_60 : decode b_Md_divided 60 = .ok (.ifCond .ge 9, 3) := by decide +kernel
theorem d_Md_divided_63 : decode b_Md_divided 63 = .ok (.iinc 9 1, 3) := by decide +kernel
theorem d_Md_divided_66 : decode b_Md_divided 66 = .ok (.goto (-29), 3) := by decide +kernel
theorem d_Md_divided_69 : decode b_Md_divided 69 = .ok (.iconst 0, 1) := by decide +kernel
theorem d_Md_divided_70 : decode b_Md_divided 70 = .ok (.istore 10, 2) := by decide +kernel
theorem d_Md_divided_72 : decode b_Md_divided 72 = .ok (.iload 10, 2) := by decide +kernel
theorem d_Md_divided_74 : decode b_Md_divided 74 = .ok (.iload 7, 2) := by decide +kernel
theorem d_Md_divided_76 : decode b_Md_divided 76 = .ok (.if_icmp .ge 48, 3) := by decide +kernel
theorem d_Md_divided_79 : decode b_Md_divided 79 = .ok (.aload_n 0, 1) := by decide +kernel
theorem d_Md_divided_80 : decode b_Md_divided 80 = .ok (.getfield 50, 3) := by decide +kernel
theorem d_Md_divided_83 : decode b_Md_divided 83 = .ok (.iload 10, 2) := by decide +kernel
theorem d_Md_divided_85 : decode b_Md_divided 85 = .ok (.aload_n 0, 1) := by decide +kernel
theorem d_Md_divided_86 : decode b_Md_divided 86 = .ok (.iload 4, 2) := by decide +kernel
theorem d_Md_divided_88 : decode b_Md_divided 88 = .ok (.iload 10, 2) := by decide +kernel
theorem d_Md_divided_90 : decode b_Md_divided 90 = .ok (.invokevirtual 167, 3) := by decide +kernel
theorem d_Md_divided_93 : decode b_Md_divided 93 = .ok (.iload 9, 2) := by decide +kernel
theorem d_Md_divided_95 : decode b_Md_divided 95 = .ok (.lshl, 1) := by decide +kernel
theorem d_Md_divided_96 : decode b_Md_divided 96 = .ok (.aload_n 0, 1) := by decide +kernel
theorem d_Md_divided_97 : decode b_Md_divided 97 = .ok (.iload 4, 2) := by decide +kernel
theorem d_Md_divided_99 : decode b_Md_divided 99 = .ok (.iload 10, 2) := by decide +kernel
theorem d_Md_divided_101 : decode b_Md_divided 101 = .ok (.iconst 1, 1) := by decide +kernel
theorem d_Md_divided_102 : decode b_Md_divided 102 = .ok (.isub, 1) := by decide +kernel
theorem d_Md_divided_103 : decode b_Md_divided 103 = .ok (.invokevirtual 167, 3) := by decide +kernel
theorem d_Md_divided_106 : decode b_Md_divided 106 = .ok (.bipush 28, 2) := by decide +kernel
theorem d_Md_divided_108 : decode b_Md_divided 108 = .ok (.iload 9, 2) := by decide +kernel
theorem d_Md_divided_110 : decode b_Md_divided 110 = .ok (.isub, 1) := by decide +kernel
theorem d_Md_divided_111 : decode b_Md_divided 111 = .ok (.lshr, 1) := by decide +kernel
theorem d_Md_divided_112 : decode b_Md_divided 112 = .ok (.lor, 1) := by decide +kernel
theorem d_Md_divided_113 : decode b_Md_divided 113 = .ok (.ldc2_w 157, 3) := by decide +kernel
theorem d_Md_divided_116 : decode b_Md_divided 116 = .ok (.land, 1) := by decide +kernel
theorem d_Md_divided_117 : decode b_Md_divided 117 = .ok (.lastore, 1) := by decide +kernel
theorem d_Md_divided_118 : decode b_Md_divided 118 = .ok (.iinc 10 1, 3) := by decide +kernel
theorem d_Md_divided_121 : decode b_Md_divided 121 = .ok (.goto (-49), 3) := by decide +kernel
theorem d_Md_divided_124 : decode b_Md_divided 124 = .ok (.iconst 0, 1) := by decide +kernel
theorem d_Md_divided_125 : decode b_Md_divided 125 = .ok (.istore 10, 2) := by decide +kernel
theorem d_Md_divided_127 : decode b_Md_divided 127 = .ok (.iload 10, 2) := by decide +kernel
theorem d_Md_divided_129 : decode b_Md_divided 129 = .ok (.iload 8, 2) := by decide +kernel
theorem d_Md_divided_131 : decode b_Md_divided 131 = .ok (.if_icmp .gt 46, 3) := by decide +kernel
theorem d_Md_divided_134 : decode b_Md_divided 134 = .ok (.aload_n 0, 1) := by decide +kernel
theorem d_Md_divided_135 : decode b_Md_divided 135 = .ok (.getfield 53, 3) := by decide +kernel
theorem d_Md_divided_138 : decode b_Md_divided 138 = .ok (.iload 10, 2) := by decide +kernel
theorem d_Md_divided_140 : decode b_Md_divided 140 = .ok (.aload_n 0, 1) := by decide +kernel
theorem d_Md_divided_141 : decode b_Md_divided 141 = .ok (.iload_n 3, 1) := by decide +kernel
theorem d_Md_divided_142 : decode b_Md_divided 142 = .ok (.iload 10, 2) := by decide +kernel
theorem d_Md_divided_144 : decode b_Md_divided 144 = .ok (.invokevirtual 167, 3) := by decide +kernel
theorem d_Md_divided_147 : decode b_Md_divided 147 = .ok (.iload 9, 2) := by decide +kernel
theorem d_Md_divided_149 : decode b_Md_divided 149 = .ok (.lshl, 1) := by decide +kernel
theorem d_Md_divided_150 : decode b_Md_divided 150 = .ok (.aload_n 0, 1) := by decide +kernel
theorem d_Md_divided_151 : decode b_Md_divided 151 = .ok (.iload_n 3, 1) := by decide +kernel
theorem d_Md_divided_152 : decode b_Md_divided 152 = .ok (.iload 10, 2) := by decide +kernel
theorem d_Md_divided_154 : decode b_Md_divided 154 = .ok (.iconst 1, 1) := by decide +kernel
theorem d_Md_divided_155 : decode b_Md_divided 155 = .ok (.isub, 1) := by decide +kernel
theorem d_Md_divided_156 : decode b_Md_divided 156 = .ok (.invokevirtual 167, 3) := by decide +kernel
theorem d_Md_divided_159 : decode b_Md_divided 159 = .ok (.bipush 28, 2) := by decide +kernel
theorem d_Md_divided_161 : decode b_Md_divided 161 = .ok (.iload 9, 2) := by decide +kernel
theorem d_Md_divided_163 : decode b_Md_divided 163 = .ok (.isub, 1) := by decide +kernel
theorem d_Md_divided_164 : decode b_Md_divided 164 = .ok (.lshr, 1) := by decide +kernel
theorem d_Md_divided_165 : decode b_Md_divided 165 = .ok (.lor, 1) := by decide +kernel
theorem d_Md_divided_166 : decode b_Md_divided 166 = .ok (.ldc2_w 157, 3) := by decide +kernel
theorem d_Md_divided_169 : decode b_Md_divided 169 = .ok (.land, 1) := by decide +kernel
theorem d_Md_divided_170 : decode b_Md_divided 170 = .ok (.lastore, 1) := by decide +kernel
theorem d_Md_divided_171 : decode b_Md_divided 171 = .ok (.iinc 10 1, 3) := by decide +kernel
theorem d_Md_divided_174 : decode b_Md_divided 174 = .ok (.goto (-47), 3) := by decide +kernel
theorem d_Md_divided_177 : decode b_Md_divided 177 = .ok (.iload 8, 2) := by decide +kernel
theorem d_Md_divided_179 : decode b_Md_divided 179 = .ok (.iload 7, 2) := by decide +kernel
theorem d_Md_divided_181 : decode b_Md_divided 181 = .ok (.isub, 1) := by decide +kernel
theorem d_Md_divided_182 : decode b_Md_divided 182 = .ok (.istore 10, 2) := by decide +kernel
theorem d_Md_divided_184 : decode b_Md_divided 184 = .ok (.iload 10, 2) := by decide +kernel
theorem d_Md_divided_186 : decode b_Md_divided 186 = .ok (.istore 11, 2) := by decide +kernel
theorem d_Md_divided_188 : decode b_Md_divided 188 = .ok (.iload 11, 2) := by decide +kernel
theorem d_Md_divided_190 : decode b_Md_divided 190 = .ok (.ifCond .lt 266, 3) := by decide +kernel
theorem d_Md_divided_193 : decode b_Md_divided 193 = .ok (.aload_n 0, 1) := by decide +kernel
theorem d_Md_divided_194 : decode b_Md_divided 194 = .ok (.getfield 53, 3) := by decide +kernel
theorem d_Md_divided_197 : decode b_Md_divided 197 = .ok (.iload 11, 2) := by decide +kernel
theorem d_Md_divided_199 : decode b_Md_divided 199 = .ok (.iload 7, 2) := by decide +kernel
theorem d_Md_divided_201 : decode b_Md_divided 201 = .ok (.iadd, 1) := by decide +kernel
theorem d_Md_divided_202 : decode b_Md_divided 202 = .ok (.laload, 1) := by decide +kernel
theorem d_Md_divided_203 : decode b_Md_divided 203 = .ok (.bipush 28, 2) := by decide +kernel
theorem d_Md_divided_205 : decode b_Md_divided 205 = .ok (.lshl, 1) := by decide +kernel
theorem d_Md_divided_206 : decode b_Md_divided 206 = .ok (.aload_n 0, 1) := by decide +kernel
theorem d_Md_divided_207 : decode b_Md_divided 207 = .ok (.getfield 53, 3) := by decide +kernel
theorem d_Md_divided_210 : decode b_Md_divided 210 = .ok (.iload 11, 2) := by decide +kernel
theorem d_Md_divided_212 : decode b_Md_divided 212 = .ok (.iload 7, 2) := by decide +kernel
theorem d_Md_divided_214 : decode b_Md_divided 214 = .ok (.iadd, 1) := by decide +kernel
theorem d_Md_divided_215 : decode b_Md_divided 215 = .ok (.iconst 1, 1) := by decide +kernel
theorem d_Md_divided_216 : decode b_Md_divided 216 = .ok (.isub, 1) := by decide +kernel
theorem d_Md_divided_217 : decode b_Md_divided 217 = .ok (.laload, 1) := by decide +kernel
theorem d_Md_divided_218 : decode b_Md_divided 218 = .ok (.lor, 1) := by decide +kernel
theorem d_Md_divided_219 : decode b_Md_divided 219 = .ok (.lstore 12, 2) := by decide +kernel
theorem d_Md_divided_221 : decode b_Md_divided 221 = .ok (.lload 12, 2) := by decide +kernel
end
section
/-! what each instruction is; laid by program -/
theorem d_Md_divided_223 : decode b_Md_divided 223 = .ok (.aload_n 0, 1) := by decide +kernel
theorem d_Md_divided_224 : decode b_Md_divided 224 = .ok (.getfield 50, 3) := by decide +kernel
theorem d_Md_divided_227 : decode b_Md_divided 227 = .ok (.iload 7, 2) := by decide +kernel
theorem d_Md_divided_229 : decode b_Md_divided 229 = .ok (.iconst 1, 1) := by decide +kernel
theorem d_Md_divided_230 : decode b_Md_divided 230 = .ok (.isub, 1) := by decide +kernel
theorem d_Md_divided_231 : decode b_Md_divided 231 = .ok (.laload, 1) := by decide +kernel
theorem d_Md_divided_232 : decode b_Md_divided 232 = .ok (.ldiv, 1) := by decide +kernel
theorem d_Md_divided_233 : decode b_Md_divided 233 = .ok (.lstore 14, 2) := by decide +kernel
theorem d_Md_divided_235 : decode b_Md_divided 235 = .ok (.lload 14, 2) := by decide +kernel
theorem d_Md_divided_237 : decode b_Md_divided 237 = .ok (.ldc2_w 157, 3) := by decide +kernel
theorem d_Md_divided_240 : decode b_Md_divided 240 = .ok (.lcmp, 1) := by decide +kernel
theorem d_Md_divided_241 : decode b_Md_divided 241 = .ok (.ifCond .le 9, 3) := by decide +kernel
theorem d_Md_divided_250 : decode b_Md_divided 250 = .ok (.lload 14, 2) := by decide +kernel
theorem d_Md_divided_252 : decode b_Md_divided 252 = .ok (.lstore 14, 2) := by decide +kernel
theorem d_Md_divided_254 : decode b_Md_divided 254 = .ok (.lconst 0, 1) := by decide +kernel
theorem d_Md_divided_255 : decode b_Md_divided 255 = .ok (.lstore 16, 2) := by decide +kernel
theorem d_Md_divided_257 : decode b_Md_divided 257 = .ok (.iconst 0, 1) := by decide +kernel
theorem d_Md_divided_258 : decode b_Md_divided 258 = .ok (.istore 18, 2) := by decide +kernel
theorem d_Md_divided_260 : decode b_Md_divided 260 = .ok (.iload 18, 2) := by decide +kernel
theorem d_Md_divided_262 : decode b_Md_divided 262 = .ok (.iload 7, 2) := by decide +kernel
theorem d_Md_divided_264 : decode b_Md_divided 264 = .ok (.if_icmp .ge 58, 3) := by decide +kernel
theorem d_Md_divided_267 : decode b_Md_divided 267 = .ok (.lload 16, 2) := by decide +kernel
theorem d_Md_divided_269 : decode b_Md_divided 269 = .ok (.aload_n 0, 1) := by decide +kernel
theorem d_Md_divided_270 : decode b_Md_divided 270 = .ok (.getfield 53, 3) := by decide +kernel
theorem d_Md_divided_273 : decode b_Md_divided 273 = .ok (.iload 11, 2) := by decide +kernel
theorem d_Md_divided_275 : decode b_Md_divided 275 = .ok (.iload 18, 2) := by decide +kernel
theorem d_Md_divided_277 : decode b_Md_divided 277 = .ok (.iadd, 1) := by decide +kernel
theorem d_Md_divided_278 : decode b_Md_divided 278 = .ok (.laload, 1) := by decide +kernel
theorem d_Md_divided_279 : decode b_Md_divided 279 = .ok (.lload 14, 2) := by decide +kernel
theorem d_Md_divided_281 : decode b_Md_divided 281 = .ok (.aload_n 0, 1) := by decide +kernel
theorem d_Md_divided_282 : decode b_Md_divided 282 = .ok (.getfield 50, 3) := by decide +kernel
theorem d_Md_divided_285 : decode b_Md_divided 285 = .ok (.iload 18, 2) := by decide +kernel
theorem d_Md_divided_287 : decode b_Md_divided 287 = .ok (.laload, 1) := by decide +kernel
theorem d_Md_divided_288 : decode b_Md_divided 288 = .ok (.lmul, 1) := by decide +kernel
theorem d_Md_divided_289 : decode b_Md_divided 289 = .ok (.lsub, 1) := by decide +kernel
theorem d_Md_divided_290 : decode b_Md_divided 290 = .ok (.ladd, 1) := by decide +kernel
theorem d_Md_divided_291 : decode b_Md_divided 291 = .ok (.lstore 16, 2) := by decide +kernel
theorem d_Md_divided_293 : decode b_Md_divided 293 = .ok (.aload_n 0, 1) := by decide +kernel
theorem d_Md_divided_294 : decode b_Md_divided 294 = .ok (.getfield 53, 3) := by decide +kernel
theorem d_Md_divided_297 : decode b_Md_divided 297 = .ok (.iload 11, 2) := by decide +kernel
theorem d_Md_divided_299 : decode b_Md_divided 299 = .ok (.iload 18, 2) := by decide +kernel
theorem d_Md_divided_301 : decode b_Md_divided 301 = .ok (.iadd, 1) := by decide +kernel
theorem d_Md_divided_302 : decode b_Md_divided 302 = .ok (.lload 16, 2) := by decide +kernel
theorem d_Md_divided_304 : decode b_Md_divided 304 = .ok (.ldc2_w 157, 3) := by decide +kernel
theorem d_Md_divided_307 : decode b_Md_divided 307 = .ok (.land, 1) := by decide +kernel
theorem d_Md_divided_308 : decode b_Md_divided 308 = .ok (.lastore, 1) := by decide +kernel
theorem d_Md_divided_309 : decode b_Md_divided 309 = .ok (.lload 16, 2) := by decide +kernel
theorem d_Md_divided_311 : decode b_Md_divided 311 = .ok (.bipush 28, 2) := by decide +kernel
theorem d_Md_divided_313 : decode b_Md_divided 313 = .ok (.lshr, 1) := by decide +kernel
theorem d_Md_divided_314 : decode b_Md_divided 314 = .ok (.lstore 16, 2) := by decide +kernel
theorem d_Md_divided_316 : decode b_Md_divided 316 = .ok (.iinc 18 1, 3) := by decide +kernel
theorem d_Md_divided_319 : decode b_Md_divided 319 = .ok (.goto (-59), 3) := by decide +kernel
theorem d_Md_divided_322 : decode b_Md_divided 322 = .ok (.aload_n 0, 1) := by decide +kernel
theorem d_Md_divided_323 : decode b_Md_divided 323 = .ok (.getfield 53, 3) := by decide +kernel
theorem d_Md_divided_326 : decode b_Md_divided 326 = .ok (.iload 11, 2) := by decide +kernel
theorem d_Md_divided_328 : decode b_Md_divided 328 = .ok (.iload 7, 2) := by decide +kernel
theorem d_Md_divided_330 : decode b_Md_divided 330 = .ok (.iadd, 1) := by decide +kernel
theorem d_Md_divided_331 : decode b_Md_divided 331 = .ok (.dup2, 1) := by decide +kernel
theorem d_Md_divided_332 : decode b_Md_divided 332 = .ok (.laload, 1) := by decide +kernel
theorem d_Md_divided_333 : decode b_Md_divided 333 = .ok (.lload 16, 2) := by decide +kernel
theorem d_Md_divided_335 : decode b_Md_divided 335 = .ok (.ladd, 1) := by decide +kernel
theorem d_Md_divided_336 : decode b_Md_divided 336 = .ok (.lastore, 1) := by decide +kernel
theorem d_Md_divided_337 : decode b_Md_divided 337 = .ok (.aload_n 0, 1) := by decide +kernel
theorem d_Md_divided_338 : decode b_Md_divided 338 = .ok (.getfield 53, 3) := by decide +kernel
theorem d_Md_divided_341 : decode b_Md_divided 341 = .ok (.iload 11, 2) := by decide +kernel
theorem d_Md_divided_343 : decode b_Md_divided 343 = .ok (.iload 7, 2) := by decide +kernel
theorem d_Md_divided_345 : decode b_Md_divided 345 = .ok (.iadd, 1) := by decide +kernel
theorem d_Md_divided_346 : decode b_Md_divided 346 = .ok (.laload, 1) := by decide +kernel
theorem d_Md_divided_347 : decode b_Md_divided 347 = .ok (.lconst 0, 1) := by decide +kernel
theorem d_Md_divided_348 : decode b_Md_divided 348 = .ok (.lcmp, 1) := by decide +kernel
theorem d_Md_divided_349 : decode b_Md_divided 349 = .ok (.ifCond .ge 92, 3) := by decide +kernel
theorem d_Md_divided_441 : decode b_Md_divided 441 = .ok (.aload_n 0, 1) := by decide +kernel
theorem d_Md_divided_442 : decode b_Md_divided 442 = .ok (.getfield 47, 3) := by decide +kernel
theorem d_Md_divided_445 : decode b_Md_divided 445 = .ok (.iload 11, 2) := by decide +kernel
theorem d_Md_divided_447 : decode b_Md_divided 447 = .ok (.lload 14, 2) := by decide +kernel
theorem d_Md_divided_449 : decode b_Md_divided 449 = .ok (.lastore, 1) := by decide +kernel
theorem d_Md_divided_450 : decode b_Md_divided 450 = .ok (.iinc 11 (-1), 3) := by decide +kernel
theorem d_Md_divided_453 : decode b_Md_divided 453 = .ok (.goto (-265), 3) := by decide +kernel
theorem d_Md_divided_456 : decode b_Md_divided 456 = .ok (.aload_n 0, 1) := by decide +kernel
theorem d_Md_divided_457 : decode b_Md_divided 457 = .ok (.iload_n 1, 1) := by decide +kernel
theorem d_Md_divided_458 : decode b_Md_divided 458 = .ok (.iload 10, 2) := by decide +kernel
theorem d_Md_divided_460 : decode b_Md_divided 460 = .ok (.ifCond .ge 7, 3) := by decide +kernel
theorem d_Md_divided_463 : decode b_Md_divided 463 = .ok (.iconst 0, 1) := by decide +kernel
theorem d_Md_divided_464 : decode b_Md_divided 464 = .ok (.goto 7, 3) := by decide +kernel
theorem d_Md_divided_467 : decode b_Md_divided 467 = .ok (.iload 10, 2) := by decide +kernel
theorem d_Md_divided_469 : decode b_Md_divided 469 = .ok (.iconst 1, 1) := by decide +kernel
theorem d_Md_divided_470 : decode b_Md_divided 470 = .ok (.iadd, 1) := by decide +kernel
theorem d_Md_divided_471 : decode b_Md_divided 471 = .ok (.iload 5, 2) := by decide +kernel
theorem d_Md_divided_473 : decode b_Md_divided 473 = .ok (.iload 6, 2) := by decide +kernel
theorem d_Md_divided_475 : decode b_Md_divided 475 = .ok (.imul, 1) := by decide +kernel
theorem d_Md_divided_476 : decode b_Md_divided 476 = .ok (.invokevirtual 171, 3) := by decide +kernel
theorem d_Md_divided_479 : decode b_Md_divided 479 = .ok (.iload 8, 2) := by decide +kernel
theorem d_Md_divided_481 : decode b_Md_divided 481 = .ok (.iload 7, 2) := by decide +kernel
theorem d_Md_divided_483 : decode b_Md_divided 483 = .ok (.if_icmp .ge 10, 3) := by decide +kernel
theorem d_Md_divided_486 : decode b_Md_divided 486 = .ok (.iload 8, 2) := by decide +kernel
theorem d_Md_divided_488 : decode b_Md_divided 488 = .ok (.iconst 1, 1) := by decide +kernel
theorem d_Md_divided_489 : decode b_Md_divided 489 = .ok (.iadd, 1) := by decide +kernel
theorem d_Md_divided_490 : decode b_Md_divided 490 = .ok (.goto 5, 3) := by decide +kernel
theorem d_Md_divided_493 : decode b_Md_divided 493 = .ok (.iload 7, 2) := by decide +kernel
theorem d_Md_divided_495 : decode b_Md_divided 495 = .ok (.istore 11, 2) := by decide +kernel
theorem d_Md_divided_497 : decode b_Md_divided 497 = .ok (.iconst 0, 1) := by decide +kernel
theorem d_Md_divided_498 : decode b_Md_divided 498 = .ok (.istore 12, 2) := by decide +kernel
theorem d_Md_divided_500 : decode b_Md_divided 500 = .ok (.iload 12, 2) := by decide +kernel
theorem d_Md_divided_502 : decode b_Md_divided 502 = .ok (.iload 11, 2) := by decide +kernel
theorem d_Md_divided_504 : decode b_Md_divided 504 = .ok (.if_icmp .ge 59, 3) := by decide +kernel
theorem d_Md_divided_507 : decode b_Md_divided 507 = .ok (.aload_n 0, 1) := by decide +kernel
theorem d_Md_divided_508 : decode b_Md_divided 508 = .ok (.getfield 47, 3) := by decide +kernel
theorem d_Md_divided_511 : decode b_Md_divided 511 = .ok (.iload 12, 2) := by decide +kernel
theorem d_Md_divided_513 : decode b_Md_divided 513 = .ok (.aload_n 0, 1) := by decide +kernel
theorem d_Md_divided_514 : decode b_Md_divided 514 = .ok (.getfield 53, 3) := by decide +kernel
theorem d_Md_divided_517 : decode b_Md_divided 517 = .ok (.iload 12, 2) := by decide +kernel
theorem d_Md_divided_519 : decode b_Md_divided 519 = .ok (.laload, 1) := by decide +kernel
theorem d_Md_divided_520 : decode b_Md_divided 520 = .ok (.iload 9, 2) := by decide +kernel
theorem d_Md_divided_522 : decode b_Md_divided 522 = .ok (.lshr, 1) := by decide +kernel
theorem d_Md_divided_523 : decode b_Md_divided 523 = .ok (.iload 12, 2) := by decide +kernel
theorem d_Md_divided_525 : decode b_Md_divided 525 = .ok (.iconst 1, 1) := by decide +kernel
theorem d_Md_divided_526 : decode b_Md_divided 526 = .ok (.iadd, 1) := by decide +kernel
theorem d_Md_divided_527 : decode b_Md_divided 527 = .ok (.iload 11, 2) := by decide +kernel
theorem d_Md_divided_529 : decode b_Md_divided 529 = .ok (.if_icmp .ge 15, 3) := by decide +kernel
theorem d_Md_divided_544 : decode b_Md_divided 544 = .ok (.lconst 0, 1) := by decide +kernel
theorem d_Md_divided_545 : decode b_Md_divided 545 = .ok (.bipush 28, 2) := by decide +kernel
theorem d_Md_divided_547 : decode b_Md_divided 547 = .ok (.iload 9, 2) := by decide +kernel
theorem d_Md_divided_549 : decode b_Md_divided 549 = .ok (.isub, 1) := by decide +kernel
theorem d_Md_divided_550 : decode b_Md_divided 550 = .ok (.lshl, 1) := by decide +kernel
theorem d_Md_divided_551 : decode b_Md_divided 551 = .ok (.lor, 1) := by decide +kernel
theorem d_Md_divided_552 : decode b_Md_divided 552 = .ok (.ldc2_w 157, 3) := by decide +kernel
theorem d_Md_divided_555 : decode b_Md_divided 555 = .ok (.land, 1) := by decide +kernel
theorem d_Md_divided_556 : decode b_Md_divided 556 = .ok (.lastore, 1) := by decide +kernel
theorem d_Md_divided_557 : decode b_Md_divided 557 = .ok (.iinc 12 1, 3) := by decide +kernel
theorem d_Md_divided_560 : decode b_Md_divided 560 = .ok (.goto (-60), 3) := by decide +kernel
theorem d_Md_divided_563 : decode b_Md_divided 563 = .ok (.aload_n 0, 1) := by decide +kernel
theorem d_Md_divided_564 : decode b_Md_divided 564 = .ok (.iload_n 2, 1) := by decide +kernel
theorem d_Md_divided_565 : decode b_Md_divided 565 = .ok (.iload 11, 2) := by decide +kernel
theorem d_Md_divided_567 : decode b_Md_divided 567 = .ok (.iload 5, 2) := by decide +kernel
theorem d_Md_divided_569 : decode b_Md_divided 569 = .ok (.invokevirtual 171, 3) := by decide +kernel
theorem d_Md_divided_572 : decode b_Md_divided 572 = .ok (.aload_n 0, 1) := by decide +kernel
theorem d_Md_divided_573 : decode b_Md_divided 573 = .ok (.getfield 44, 3) := by decide +kernel
theorem d_Md_divided_576 : decode b_Md_divided 576 = .ok (.iload_n 2, 1) := by decide +kernel
theorem d_Md_divided_577 : decode b_Md_divided 577 = .ok (.iaload, 1) := by decide +kernel
theorem d_Md_divided_578 : decode b_Md_divided 578 = .ok (.ifCond .eq 10, 3) := by decide +kernel
theorem d_Md_divided_581 : decode b_Md_divided 581 = .ok (.iload 5, 2) := by decide +kernel
theorem d_Md_divided_583 : decode b_Md_divided 583 = .ok (.iload 6, 2) := by decide +kernel
theorem d_Md_divided_585 : decode b_Md_divided 585 = .ok (.if_icmp .ne 4, 3) := by decide +kernel
theorem d_Md_divided_588 : decode b_Md_divided 588 = .ok (.return_, 1) := by decide +kernel
theorem d_Md_drop_0 : decode b_Md_drop 0 = .ok (.aload_n 0, 1) := by decide +kernel
theorem d_Md_drop_1 : decode b_Md_drop 1 = .ok (.iload_n 1, 1) := by decide +kernel
theorem d_Md_drop_2 : decode b_Md_drop 2 = .ok (.i2l, 1) := by decide +kernel
theorem d_Md_drop_3 : decode b_Md_drop 3 = .ok (.lconst 0, 1) := by decide +kernel
theorem d_Md_drop_4 : decode b_Md_drop 4 = .ok (.ldc2_w 611, 3) := by decide +kernel
theorem d_Md_drop_7 : decode b_Md_drop 7 = .ok (.invokestatic 446, 3) := by decide +kernel
theorem d_Md_drop_10 : decode b_Md_drop 10 = .ok (.ifCond .ne 7, 3) := by decide +kernel
theorem d_Md_drop_13 : decode b_Md_drop 13 = .ok (.iconst 1, 1) := by decide +kernel
theorem d_Md_drop_14 : decode b_Md_drop 14 = .ok (.goto 4, 3) := by decide +kernel
theorem d_Md_drop_17 : decode b_Md_drop 17 = .ok (.iconst 0, 1) := by decide +kernel
theorem d_Md_drop_18 : decode b_Md_drop 18 = .ok (.iconst 1, 1) := by decide +kernel
theorem d_Md_drop_19 : decode b_Md_drop 19 = .ok (.invokevirtual 581, 3) := by decide +kernel
theorem d_Md_drop_22 : decode b_Md_drop 22 = .ok (.ifCond .eq 5, 3) := by decide +kernel
theorem d_Md_drop_25 : decode b_Md_drop 25 = .ok (.iconst 0, 1) := by decide +kernel
theorem d_Md_drop_26 : decode b_Md_drop 26 = .ok (.ireturn, 1) := by decide +kernel
theorem d_Md_drop_27 : decode b_Md_drop 27 = .ok (.aload_n 0, 1) := by decide +kernel
theorem d_Md_drop_28 : decode b_Md_drop 28 = .ok (.getfield 20, 3) := by decide +kernel
theorem d_Md_drop_31 : decode b_Md_drop 31 = .ok (.iload_n 1, 1) := by decide +kernel
theorem d_Md_drop_32 : decode b_Md_drop 32 = .ok (.baload, 1) := by decide +kernel
theorem d_Md_drop_33 : decode b_Md_drop 33 = .ok (.istore_n 2, 1) := by decide +kernel
theorem d_Md_drop_34 : decode b_Md_drop 34 = .ok (.aload_n 0, 1) := by decide +kernel
theorem d_Md_drop_35 : decode b_Md_drop 35 = .ok (.getfield 20, 3) := by decide +kernel
theorem d_Md_drop_38 : decode b_Md_drop 38 = .ok (.iload_n 1, 1) := by decide +kernel
theorem d_Md_drop_39 : decode b_Md_drop 39 = .ok (.iconst 0, 1) := by decide +kernel
theorem d_Md_drop_40 : decode b_Md_drop 40 = .ok (.bastore, 1) := by decide +kernel
theorem d_Md_drop_41 : decode b_Md_drop 41 = .ok (.iload_n 2, 1) := by decide +kernel
theorem d_Md_drop_42 : decode b_Md_drop 42 = .ok (.ireturn, 1) := by decide +kernel
theorem d_Md_fails_0 : decode b_Md_fails 0 = .ok (.aload_n 0, 1) := by decide +kernel
theorem d_Md_fails_1 : decode b_Md_fails 1 = .ok (.iload_n 1, 1) := by decide +kernel
theorem d_Md_fails_2 : decode b_Md_fails 2 = .ok (.ifCond .eq 7, 3) := by decide +kernel
theorem d_Md_fails_5 : decode b_Md_fails 5 = .ok (.iload_n 2, 1) := by decide +kernel
theorem d_Md_fails_6 : decode b_Md_fails 6 = .ok (.goto 4, 3) := by decide +kernel
theorem d_Md_fails_9 : decode b_Md_fails 9 = .ok (.iconst 0, 1) := by decide +kernel
theorem d_Md_fails_10 : decode b_Md_fails 10 = .ok (.putfield 154, 3) := by decide +kernel
theorem d_Md_fails_13 : decode b_Md_fails 13 = .ok (.iload_n 1, 1) := by decide +kernel
theorem d_Md_fails_14 : decode b_Md_fails 14 = .ok (.ireturn, 1) := by decide +kernel
theorem d_Md_feed_0 : decode b_Md_feed 0 = .ok (.aload_n 0, 1) := by decide +kernel
theorem d_Md_feed_1 : decode b_Md_feed 1 = .ok (.iload_n 1, 1) := by decide +kernel
theorem d_Md_feed_2 : decode b_Md_feed 2 = .ok (.i2l, 1) := by decide +kernel
theorem d_Md_feed_3 : decode b_Md_feed 3 = .ok (.lconst 1, 1) := by decide +kernel
theorem d_Md_feed_4 : decode b_Md_feed 4 = .ok (.ldc2_w 579, 3) := by decide +kernel
theorem d_Md_feed_7 : decode b_Md_feed 7 = .ok (.invokestatic 446, 3) := by decide +kernel
theorem d_Md_feed_10 : decode b_Md_feed 10 = .ok (.ifCond .ne 7, 3) := by decide +kernel
theorem d_Md_feed_13 : decode b_Md_feed 13 = .ok (.iconst 1, 1) := by decide +kernel
theorem d_Md_feed_14 : decode b_Md_feed 14 = .ok (.goto 4, 3) := by decide +kernel
theorem d_Md_feed_17 : decode b_Md_feed 17 = .ok (.iconst 0, 1) := by decide +kernel
theorem d_Md_feed_18 : decode b_Md_feed 18 = .ok (.iconst 1, 1) := by decide +kernel
theorem d_Md_feed_19 : decode b_Md_feed 19 = .ok (.invokevirtual 581, 3) := by decide +kernel
theorem d_Md_feed_22 : decode b_Md_feed 22 = .ok (.ifCond .ne 28, 3) := by decide +kernel
theorem d_Md_feed_25 : decode b_Md_feed 25 = .ok (.aload_n 0, 1) := by decide +kernel
theorem d_Md_feed_26 : decode b_Md_feed 26 = .ok (.aload_n 0, 1) := by decide +kernel
theorem d_Md_feed_27 : decode b_Md_feed 27 = .ok (.getfield 484, 3) := by decide +kernel
theorem d_Md_feed_30 : decode b_Md_feed 30 = .ok (.iload_n 1, 1) := by decide +kernel
theorem d_Md_feed_31 : decode b_Md_feed 31 = .ok (.iadd, 1) := by decide +kernel
theorem d_Md_feed_32 : decode b_Md_feed 32 = .ok (.sipush 400, 3) := by decide +kernel
theorem d_Md_feed_35 : decode b_Md_feed 35 = .ok (.if_icmp .le 7, 3) := by decide +kernel
theorem d_Md_feed_42 : decode b_Md_feed 42 = .ok (.iconst 0, 1) := by decide +kernel
theorem d_Md_feed_43 : decode b_Md_feed 43 = .ok (.iconst 2, 1) := by decide +kernel
theorem d_Md_feed_44 : decode b_Md_feed 44 = .ok (.invokevirtual 581, 3) := by decide +kernel
theorem d_Md_feed_47 : decode b_Md_feed 47 = .ok (.ifCond .eq 5, 3) := by decide +kernel
theorem d_Md_feed_50 : decode b_Md_feed 50 = .ok (.iconst 0, 1) := by decide +kernel
theorem d_Md_feed_51 : decode b_Md_feed 51 = .ok (.ireturn, 1) := by decide +kernel
theorem d_Md_feed_52 : decode b_Md_feed 52 = .ok (.iconst 0, 1) := by decide +kernel
theorem d_Md_feed_53 : decode b_Md_feed 53 = .ok (.istore 4, 2) := by decide +kernel
theorem d_Md_feed_55 : decode b_Md_feed 55 = .ok (.iload 4, 2) := by decide +kernel
theorem d_Md_feed_57 : decode b_Md_feed 57 = .ok (.iload_n 1, 1) := by decide +kernel
theorem d_Md_feed_58 : decode b_Md_feed 58 = .ok (.if_icmp .ge 33, 3) := by decide +kernel
theorem d_Md_feed_61 : decode b_Md_feed 61 = .ok (.aload_n 0, 1) := by decide +kernel
theorem d_Md_feed_62 : decode b_Md_feed 62 = .ok (.getfield 7, 3) := by decide +kernel
theorem d_Md_feed_65 : decode b_Md_feed 65 = .ok (.aload_n 0, 1) := by decide +kernel
theorem d_Md_feed_66 : decode b_Md_feed 66 = .ok (.getfield 484, 3) := by decide +kernel
theorem d_Md_feed_69 : decode b_Md_feed 69 = .ok (.iload 4, 2) := by decide +kernel
theorem d_Md_feed_71 : decode b_Md_feed 71 = .ok (.iadd, 1) := by decide +kernel
theorem d_Md_feed_72 : decode b_Md_feed 72 = .ok (.lload_n 2, 1) := by decide +kernel
theorem d_Md_feed_73 : decode b_Md_feed 73 = .ok (.bipush 8, 2) := by decide +kernel
theorem d_Md_feed_75 : decode b_Md_feed 75 = .ok (.iload 4, 2) := by decide +kernel
theorem d_Md_feed_77 : decode b_Md_feed 77 = .ok (.imul, 1) := by decide +kernel
theorem d_Md_feed_78 : decode b_Md_feed 78 = .ok (.lshr, 1) := by decide +kernel
theorem d_Md_feed_79 : decode b_Md_feed 79 = .ok (.ldc2_w 585, 3) := by decide +kernel
theorem d_Md_feed_82 : decode b_Md_feed 82 = .ok (.land, 1) := by decide +kernel
theorem d_Md_feed_83 : decode b_Md_feed 83 = .ok (.l2i, 1) := by decide +kernel
theorem d_Md_feed_84 : decode b_Md_feed 84 = .ok (.iastore, 1) := by decide +kernel
theorem d_Md_feed_85 : decode b_Md_feed 85 = .ok (.iinc 4 1, 3) := by decide +kernel
theorem d_Md_feed_88 : decode b_Md_feed 88 = .ok (.goto (-33), 3) := by decide +kernel
theorem d_Md_feed_91 : decode b_Md_feed 91 = .ok (.aload_n 0, 1) := by decide +kernel
theorem d_Md_feed_92 : decode b_Md_feed 92 = .ok (.dup, 1) := by decide +kernel
theorem d_Md_feed_93 : decode b_Md_feed 93 = .ok (.getfield 484, 3) := by decide +kernel
theorem d_Md_feed_96 : decode b_Md_feed 96 = .ok (.iload_n 1, 1) := by decide +kernel
theorem d_Md_feed_97 : decode b_Md_feed 97 = .ok (.iadd, 1) := by decide +kernel
theorem d_Md_feed_98 : decode b_Md_feed 98 = .ok (.putfield 484, 3) := by decide +kernel
theorem d_Md_feed_101 : decode b_Md_feed 101 = .ok (.aload_n 0, 1) := by decide +kernel
theorem d_Md_feed_102 : decode b_Md_feed 102 = .ok (.getfield 484, 3) := by decide +kernel
theorem d_Md_feed_105 : decode b_Md_feed 105 = .ok (.ireturn, 1) := by decide +kernel
theorem d_Md_fix_0 : decode b_Md_fix 0 = .ok (.aload_n 0, 1) := by decide +kernel
theorem d_Md_fix_1 : decode b_Md_fix 1 = .ok (.getfield 41, 3) := by decide +kernel
theorem d_Md_fix_4 : decode b_Md_fix 4 = .ok (.iload_n 1, 1) := by decide +kernel
theorem d_Md_fix_5 : decode b_Md_fix 5 = .ok (.iaload, 1) := by decide +kernel
theorem d_Md_fix_6 : decode b_Md_fix 6 = .ok (.ifCond .le 40, 3) := by decide +kernel
theorem d_Md_fix_9 : decode b_Md_fix 9 = .ok (.aload_n 0, 1) := by decide +kernel
theorem d_Md_fix_10 : decode b_Md_fix 10 = .ok (.getfield 38, 3) := by decide +kernel
theorem d_Md_fix_13 : decode b_Md_fix 13 = .ok (.sipush 660, 3) := by decide +kernel
theorem d_Md_fix_16 : decode b_Md_fix 16 = .ok (.iload_n 1, 1) := by decide +kernel
theorem d_Md_fix_17 : decode b_Md_fix 17 = .ok (.imul, 1) := by decide +kernel
theorem d_Md_fix_18 : decode b_Md_fix 18 = .ok (.aload_n 0, 1) := by decide +kernel
theorem d_Md_fix_19 : decode b_Md_fix 19 = .ok (.getfield 41, 3) := by decide +kernel
theorem d_Md_fix_22 : decode b_Md_fix 22 = .ok (.iload_n 1, 1) := by decide +kernel
theorem d_Md_fix_23 : decode b_Md_fix 23 = .ok (.iaload, 1) := by decide +kernel
theorem d_Md_fix_24 : decode b_Md_fix 24 = .ok (.iadd, 1) := by decide +kernel
theorem d_Md_fix_25 : decode b_Md_fix 25 = .ok (.iconst 1, 1) := by decide +kernel
theorem d_Md_fix_26 : decode b_Md_fix 26 = .ok (.isub, 1) := by decide +kernel
theorem d_Md_fix_27 : decode b_Md_fix 27 = .ok (.laload, 1) := by decide +kernel
theorem d_Md_fix_28 : decode b_Md_fix 28 = .ok (.lconst 0, 1) := by decide +kernel
theorem d_Md_fix_29 : decode b_Md_fix 29 = .ok (.lcmp, 1) := by decide +kernel
theorem d_Md_fix_30 : decode b_Md_fix 30 = .ok (.ifCond .ne 16, 3) := by decide +kernel
theorem d_Md_fix_33 : decode b_Md_fix 33 = .ok (.aload_n 0, 1) := by decide +kernel
theorem d_Md_fix_34 : decode b_Md_fix 34 = .ok (.getfield 41, 3) := by decide +kernel
theorem d_Md_fix_37 : decode b_Md_fix 37 = .ok (.iload_n 1, 1) := by decide +kernel
theorem d_Md_fix_38 : decode b_Md_fix 38 = .ok (.dup2, 1) := by decide +kernel
theorem d_Md_fix_39 : decode b_Md_fix 39 = .ok (.iaload, 1) := by decide +kernel
theorem d_Md_fix_40 : decode b_Md_fix 40 = .ok (.iconst 1, 1) := by decide +kernel
theorem d_Md_fix_41 : decode b_Md_fix 41 = .ok (.isub, 1) := by decide +kernel
theorem d_Md_fix_42 : decode b_Md_fix 42 = .ok (.iastore, 1) := by decide +kernel
theorem d_Md_fix_43 : decode b_Md_fix 43 = .ok (.goto (-43), 3) := by decide +kernel
theorem d_Md_fix_46 : decode b_Md_fix 46 = .ok (.aload_n 0, 1) := by decide +kernel
theorem d_Md_fix_47 : decode b_Md_fix 47 = .ok (.getfield 41, 3) := by decide +kernel
theorem d_Md_fix_50 : decode b_Md_fix 50 = .ok (.iload_n 1, 1) := by decide +kernel
theorem d_Md_fix_51 : decode b_Md_fix 51 = .ok (.iaload, 1) := by decide +kernel
theorem d_Md_fix_52 : decode b_Md_fix 52 = .ok (.ifCond .ne 10, 3) := by decide +kernel
theorem d_Md_fix_55 : decode b_Md_fix 55 = .ok (.aload_n 0, 1) := by decide +kernel
theorem d_Md_fix_56 : decode b_Md_fix 56 = .ok (.getfield 44, 3) := by decide +kernel
theorem d_Md_fix_59 : decode b_Md_fix 59 = .ok (.iload_n 1, 1) := by decide +kernel
theorem d_Md_fix_60 : decode b_Md_fix 60 = .ok (.iconst 0, 1) := by decide +kernel
theorem d_Md_fix_61 : decode b_Md_fix 61 = .ok (.iastore, 1) := by decide +kernel
theorem d_Md_fix_62 : decode b_Md_fix 62 = .ok (.return_, 1) := by decide +kernel
theorem d_Md_floor_0 : decode b_Md_floor 0 = .ok (.aload_n 0, 1) := by decide +kernel
theorem d_Md_floor_1 : decode b_Md_floor 1 = .ok (.iload_n 1, 1) := by decide +kernel
theorem d_Md_floor_2 : decode b_Md_floor 2 = .ok (.invokestatic 594, 3) := by decide +kernel
theorem d_Md_floor_5 : decode b_Md_floor 5 = .ok (.ifCond .eq 15, 3) := by decide +kernel
theorem d_Md_floor_8 : decode b_Md_floor 8 = .ok (.iload_n 2, 1) := by decide +kernel
theorem d_Md_floor_9 : decode b_Md_floor 9 = .ok (.i2l, 1) := by decide +kernel
theorem d_Md_floor_10 : decode b_Md_floor 10 = .ok (.lconst 0, 1) := by decide +kernel
theorem d_Md_floor_11 : decode b_Md_floor 11 = .ok (.ldc2_w 600, 3) := by decide +kernel
theorem d_Md_floor_14 : decode b_Md_floor 14 = .ok (.invokestatic 446, 3) := by decide +kernel
theorem d_Md_floor_17 : decode b_Md_floor 17 = .ok (.ifCond .ne 7, 3) := by decide +kernel
theorem d_Md_floor_20 : decode b_Md_floor 20 = .ok (.iconst 1, 1) := by decide +kernel
theorem d_Md_floor_21 : decode b_Md_floor 21 = .ok (.goto 4, 3) := by decide +kernel
theorem d_Md_floor_24 : decode b_Md_floor 24 = .ok (.iconst 0, 1) := by decide +kernel
theorem d_Md_floor_25 : decode b_Md_floor 25 = .ok (.iconst 1, 1) := by decide +kernel
theorem d_Md_floor_26 : decode b_Md_floor 26 = .ok (.invokevirtual 581, 3) := by decide +kernel
theorem d_Md_floor_29 : decode b_Md_floor 29 = .ok (.ifCond .ne 25, 3) := by decide +kernel
theorem d_Md_floor_32 : decode b_Md_floor 32 = .ok (.aload_n 0, 1) := by decide +kernel
theorem d_Md_floor_33 : decode b_Md_floor 33 = .ok (.aload_n 0, 1) := by decide +kernel
theorem d_Md_floor_34 : decode b_Md_floor 34 = .ok (.getfield 20, 3) := by decide +kernel
theorem d_Md_floor_37 : decode b_Md_floor 37 = .ok (.iload_n 1, 1) := by decide +kernel
theorem d_Md_floor_38 : decode b_Md_floor 38 = .ok (.baload, 1) := by decide +kernel
theorem d_Md_floor_39 : decode b_Md_floor 39 = .ok (.ifCond .ne 7, 3) := by decide +kernel
theorem d_Md_floor_42 : decode b_Md_floor 42 = .ok (.iconst 1, 1) := by decide +kernel
theorem d_Md_floor_43 : decode b_Md_floor 43 = .ok (.goto 4, 3) := by decide +kernel
theorem d_Md_floor_46 : decode b_Md_floor 46 = .ok (.iconst 0, 1) := by decide +kernel
theorem d_Md_floor_47 : decode b_Md_floor 47 = .ok (.iconst 2, 1) := by decide +kernel
theorem d_Md_floor_48 : decode b_Md_floor 48 = .ok (.invokevirtual 581, 3) := by decide +kernel
theorem d_Md_floor_51 : decode b_Md_floor 51 = .ok (.ifCond .eq 5, 3) := by decide +kernel
theorem d_Md_floor_54 : decode b_Md_floor 54 = .ok (.iconst 0, 1) := by decide +kernel
theorem d_Md_floor_55 : decode b_Md_floor 55 = .ok (.ireturn, 1) := by decide +kernel
theorem d_Md_floor_56 : decode b_Md_floor 56 = .ok (.aload_n 0, 1) := by decide +kernel
theorem d_Md_floor_57 : decode b_Md_floor 57 = .ok (.getfield 24, 3) := by decide +kernel
theorem d_Md_floor_60 : decode b_Md_floor 60 = .ok (.iload_n 1, 1) := by decide +kernel
theorem d_Md_floor_61 : decode b_Md_floor 61 = .ok (.iaload, 1) := by decide +kernel
theorem d_Md_floor_62 : decode b_Md_floor 62 = .ok (.iconst 1, 1) := by decide +kernel
theorem d_Md_floor_63 : decode b_Md_floor 63 = .ok (.if_icmp .ne 78, 3) := by decide +kernel
theorem d_Md_floor_66 : decode b_Md_floor 66 = .ok (.aload_n 0, 1) := by decide +kernel
theorem d_Md_floor_67 : decode b_Md_floor 67 = .ok (.bipush 19, 2) := by decide +kernel
theorem d_Md_floor_69 : decode b_Md_floor 69 = .ok (.aload_n 0, 1) := by decide +kernel
theorem d_Md_floor_70 : decode b_Md_floor 70 = .ok (.getfield 27, 3) := by decide +kernel
theorem d_Md_floor_73 : decode b_Md_floor 73 = .ok (.bipush 7, 2) := by decide +kernel
theorem d_Md_floor_75 : decode b_Md_floor 75 = .ok (.iload_n 1, 1) := by decide +kernel
theorem d_Md_floor_76 : decode b_Md_floor 76 = .ok (.imul, 1) := by decide +kernel
theorem d_Md_floor_77 : decode b_Md_floor 77 = .ok (.laload, 1) := by decide +kernel
theorem d_Md_floor_78 : decode b_Md_floor 78 = .ok (.lneg, 1) := by decide +kernel
theorem d_Md_floor_79 : decode b_Md_floor 79 = .ok (.invokevirtual 175, 3) := by decide +kernel
theorem d_Md_floor_82 : decode b_Md_floor 82 = .ok (.aload_n 0, 1) := by decide +kernel
theorem d_Md_floor_83 : decode b_Md_floor 83 = .ok (.iconst 1, 1) := by decide +kernel
theorem d_Md_floor_84 : decode b_Md_floor 84 = .ok (.ldc2_w 499, 3) := by decide +kernel
theorem d_Md_floor_87 : decode b_Md_floor 87 = .ok (.invokevirtual 175, 3) := by decide +kernel
theorem d_Md_floor_90 : decode b_Md_floor 90 = .ok (.iconst 0, 1) := by decide +kernel
theorem d_Md_floor_91 : decode b_Md_floor 91 = .ok (.istore_n 3, 1) := by decide +kernel
theorem d_Md_floor_92 : decode b_Md_floor 92 = .ok (.iload_n 3, 1) := by decide +kernel
theorem d_Md_floor_93 : decode b_Md_floor 93 = .ok (.iload_n 2, 1) := by decide +kernel
theorem d_Md_floor_94 : decode b_Md_floor 94 = .ok (.if_icmp .ge 18, 3) := by decide +kernel
theorem d_Md_floor_97 : decode b_Md_floor 97 = .ok (.aload_n 0, 1) := by decide +kernel
theorem d_Md_floor_98 : decode b_Md_floor 98 = .ok (.bipush 19, 2) := by decide +kernel
theorem d_Md_floor_100 : decode b_Md_floor 100 = .ok (.bipush 19, 2) := by decide +kernel
theorem d_Md_floor_102 : decode b_Md_floor 102 = .ok (.iconst 1, 1) := by decide +kernel
theorem d_Md_floor_103 : decode b_Md_floor 103 = .ok (.invokevirtual 194, 3) := by decide +kernel
theorem d_Md_floor_106 : decode b_Md_floor 106 = .ok (.iinc 3 1, 3) := by decide +kernel
theorem d_Md_floor_109 : decode b_Md_floor 109 = .ok (.goto (-17), 3) := by decide +kernel
theorem d_Md_floor_112 : decode b_Md_floor 112 = .ok (.aload_n 0, 1) := by decide +kernel
theorem d_Md_floor_113 : decode b_Md_floor 113 = .ok (.iconst 1, 1) := by decide +kernel
theorem d_Md_floor_114 : decode b_Md_floor 114 = .ok (.aload_n 0, 1) := by decide +kernel
theorem d_Md_floor_115 : decode b_Md_floor 115 = .ok (.getfield 27, 3) := by decide +kernel
theorem d_Md_floor_118 : decode b_Md_floor 118 = .ok (.bipush 7, 2) := by decide +kernel
theorem d_Md_floor_120 : decode b_Md_floor 120 = .ok (.iload_n 1, 1) := by decide +kernel
theorem d_Md_floor_121 : decode b_Md_floor 121 = .ok (.imul, 1) := by decide +kernel
theorem d_Md_floor_122 : decode b_Md_floor 122 = .ok (.iconst 1, 1) := by decide +kernel
theorem d_Md_floor_123 : decode b_Md_floor 123 = .ok (.iadd, 1) := by decide +kernel
theorem d_Md_floor_124 : decode b_Md_floor 124 = .ok (.laload, 1) := by decide +kernel
theorem d_Md_floor_125 : decode b_Md_floor 125 = .ok (.invokevirtual 175, 3) := by decide +kernel
theorem d_Md_floor_128 : decode b_Md_floor 128 = .ok (.aload_n 0, 1) := by decide +kernel
theorem d_Md_floor_129 : decode b_Md_floor 129 = .ok (.bipush 19, 2) := by decide +kernel
theorem d_Md_floor_131 : decode b_Md_floor 131 = .ok (.iconst 2, 1) := by decide +kernel
theorem d_Md_floor_132 : decode b_Md_floor 132 = .ok (.bipush 19, 2) := by decide +kernel
theorem d_Md_floor_134 : decode b_Md_floor 134 = .ok (.iconst 1, 1) := by decide +kernel
theorem d_Md_floor_135 : decode b_Md_floor 135 = .ok (.invokevirtual 188, 3) := by decide +kernel
theorem d_Md_floor_138 : decode b_Md_floor 138 = .ok (.goto 69, 3) := by decide +kernel
theorem d_Md_floor_207 : decode b_Md_floor 207 = .ok (.aload_n 0, 1) := by decide +kernel
theorem d_Md_floor_208 : decode b_Md_floor 208 = .ok (.iconst 0, 1) := by decide +kernel
theorem d_Md_floor_209 : decode b_Md_floor 209 = .ok (.putfield 589, 3) := by decide +kernel
theorem d_Md_floor_212 : decode b_Md_floor 212 = .ok (.aload_n 0, 1) := by decide +kernel
theorem d_Md_floor_213 : decode b_Md_floor 213 = .ok (.invokevirtual 605, 3) := by decide +kernel
theorem d_Md_floor_216 : decode b_Md_floor 216 = .ok (.aload_n 0, 1) := by decide +kernel
theorem d_Md_floor_217 : decode b_Md_floor 217 = .ok (.getfield 589, 3) := by decide +kernel
theorem d_Md_floor_220 : decode b_Md_floor 220 = .ok (.ireturn, 1) := by decide +kernel
theorem d_Md_in_0 : decode b_Md_in 0 = .ok (.lload_n 0, 1) := by decide +kernel
theorem d_Md_in_1 : decode b_Md_in 1 = .ok (.lload_n 2, 1) := by decide +kernel
theorem d_Md_in_2 : decode b_Md_in 2 = .ok (.lcmp, 1) := by decide +kernel
theorem d_Md_in_3 : decode b_Md_in 3 = .ok (.ifCond .lt 14, 3) := by decide +kernel
theorem d_Md_in_6 : decode b_Md_in 6 = .ok (.lload_n 0, 1) := by decide +kernel
theorem d_Md_in_7 : decode b_Md_in 7 = .ok (.lload 4, 2) := by decide +kernel
theorem d_Md_in_9 : decode b_Md_in 9 = .ok (.lcmp, 1) := by decide +kernel
theorem d_Md_in_10 : decode b_Md_in 10 = .ok (.ifCond .gt 7, 3) := by decide +kernel
theorem d_Md_in_13 : decode b_Md_in 13 = .ok (.iconst 1, 1) := by decide +kernel
theorem d_Md_in_14 : decode b_Md_in 14 = .ok (.goto 4, 3) := by decide +kernel
theorem d_Md_in_17 : decode b_Md_in 17 = .ok (.iconst 0, 1) := by decide +kernel
theorem d_Md_in_18 : decode b_Md_in 18 = .ok (.ireturn, 1) := by decide +kernel
theorem d_Md_index_0 : decode b_Md_index 0 = .ok (.aload_n 0, 1) := by decide +kernel
theorem d_Md_index_1 : decode b_Md_index 1 = .ok (.iload_n 1, 1) := by decide +kernel
theorem d_Md_index_2 : decode b_Md_index 2 = .ok (.invokevirtual 597, 3) := by decide +kernel
theorem d_Md_index_5 : decode b_Md_index 5 = .ok (.ifCond .eq 7, 3) := by decide +kernel
theorem d_Md_index_8 : decode b_Md_index 8 = .ok (.iconst 0, 1) := by decide +kernel
theorem d_Md_index_9 : decode b_Md_index 9 = .ok (.goto 9, 3) := by decide +kernel
theorem d_Md_index_12 : decode b_Md_index 12 = .ok (.aload_n 0, 1) := by decide +kernel
theorem d_Md_index_13 : decode b_Md_index 13 = .ok (.getfield 31, 3) := by decide +kernel
theorem d_Md_index_16 : decode b_Md_index 16 = .ok (.iload_n 1, 1) := by decide +kernel
theorem d_Md_index_17 : decode b_Md_index 17 = .ok (.iaload, 1) := by decide +kernel
theorem d_Md_index_18 : decode b_Md_index 18 = .ok (.ireturn, 1) := by decide +kernel
theorem d_Md_init_0 : decode b_Md_init 0 = .ok (.aload_n 0, 1) := by decide +kernel
theorem d_Md_init_1 : decode b_Md_init 1 = .ok (.invokespecial 1, 3) := by decide +kernel
theorem d_Md_init_4 : decode b_Md_init 4 = .ok (.aload_n 0, 1) := by decide +kernel
theorem d_Md_init_5 : decode b_Md_init 5 = .ok (.sipush 400, 3) := by decide +kernel
theorem d_Md_init_8 : decode b_Md_init 8 = .ok (.newarray .int, 2) := by decide +kernel
theorem d_Md_init_10 : decode b_Md_init 10 = .ok (.putfield 7, 3) := by decide +kernel
theorem d_Md_init_13 : decode b_Md_init 13 = .ok (.aload_n 0, 1) := by decide +kernel
theorem d_Md_init_14 : decode b_Md_init 14 = .ok (.sipush 400, 3) := by decide +kernel
theorem d_Md_init_17 : decode b_Md_init 17 = .ok (.newarray .int, 2) := by decide +kernel
theorem d_Md_init_19 : decode b_Md_init 19 = .ok (.putfield 13, 3) := by decide +kernel
theorem d_Md_init_22 : decode b_Md_init 22 = .ok (.aload_n 0, 1) := by decide +kernel
theorem d_Md_init_23 : decode b_Md_init 23 = .ok (.iconst (-1), 1) := by decide +kernel
theorem d_Md_init_24 : decode b_Md_init 24 = .ok (.putfield 16, 3) := by decide +kernel
theorem d_Md_init_27 : decode b_Md_init 27 = .ok (.aload_n 0, 1) := by decide +kernel
theorem d_Md_init_28 : decode b_Md_init 28 = .ok (.bipush 80, 2) := by decide +kernel
theorem d_Md_init_30 : decode b_Md_init 30 = .ok (.newarray .boolean, 2) := by decide +kernel
theorem d_Md_init_32 : decode b_Md_init 32 = .ok (.putfield 20, 3) := by decide +kernel
theorem d_Md_init_35 : decode b_Md_init 35 = .ok (.aload_n 0, 1) := by decide +kernel
theorem d_Md_init_36 : decode b_Md_init 36 = .ok (.bipush 80, 2) := by decide +kernel
theorem d_Md_init_38 : decode b_Md_init 38 = .ok (.newarray .int, 2) := by decide +kernel
theorem d_Md_init_40 : decode b_Md_init 40 = .ok (.putfield 24, 3) := by decide +kernel
theorem d_Md_init_43 : decode b_Md_init 43 = .ok (.aload_n 0, 1) := by decide +kernel
theorem d_Md_init_44 : decode b_Md_init 44 = .ok (.sipush 560, 3) := by decide +kernel
theorem d_Md_init_47 : decode b_Md_init 47 = .ok (.newarray .long, 2) := by decide +kernel
theorem d_Md_init_49 : decode b_Md_init 49 = .ok (.putfield 27, 3) := by decide +kernel
theorem d_Md_init_52 : decode b_Md_init 52 = .ok (.aload_n 0, 1) := by decide +kernel
theorem d_Md_init_53 : decode b_Md_init 53 = .ok (.bipush 80, 2) := by decide +kernel
theorem d_Md_init_55 : decode b_Md_init 55 = .ok (.newarray .int, 2) := by decide +kernel
theorem d_Md_init_57 : decode b_Md_init 57 = .ok (.putfield 31, 3) := by decide +kernel
theorem d_Md_init_60 : decode b_Md_init 60 = .ok (.aload_n 0, 1) := by decide +kernel
theorem d_Md_init_61 : decode b_Md_init 61 = .ok (.bipush 80, 2) := by decide +kernel
theorem d_Md_init_63 : decode b_Md_init 63 = .ok (.newarray .int, 2) := by decide +kernel
theorem d_Md_init_65 : decode b_Md_init 65 = .ok (.putfield 34, 3) := by decide +kernel
theorem d_Md_init_68 : decode b_Md_init 68 = .ok (.aload_n 0, 1) := by decide +kernel
theorem d_Md_init_69 : decode b_Md_init 69 = .ok (.ldc 37, 2) := by decide +kernel
theorem d_Md_init_71 : decode b_Md_init 71 = .ok (.newarray .long, 2) := by decide +kernel
theorem d_Md_init_73 : decode b_Md_init 73 = .ok (.putfield 38, 3) := by decide +kernel
theorem d_Md_init_76 : decode b_Md_init 76 = .ok (.aload_n 0, 1) := by decide +kernel
theorem d_Md_init_77 : decode b_Md_init 77 = .ok (.bipush 124, 2) := by decide +kernel
theorem d_Md_init_79 : decode b_Md_init 79 = .ok (.newarray .int, 2) := by decide +kernel
theorem d_Md_init_81 : decode b_Md_init 81 = .ok (.putfield 41, 3) := by decide +kernel
theorem d_Md_init_84 : decode b_Md_init 84 = .ok (.aload_n 0, 1) := by decide +kernel
theorem d_Md_init_85 : decode b_Md_init 85 = .ok (.bipush 124, 2) := by decide +kernel
theorem d_Md_init_87 : decode b_Md_init 87 = .ok (.newarray .int, 2) := by decide +kernel
theorem d_Md_init_89 : decode b_Md_init 89 = .ok (.putfield 44, 3) := by decide +kernel
theorem d_Md_init_92 : decode b_Md_init 92 = .ok (.aload_n 0, 1) := by decide +kernel
theorem d_Md_init_93 : decode b_Md_init 93 = .ok (.sipush 1400, 3) := by decide +kernel
theorem d_Md_init_96 : decode b_Md_init 96 = .ok (.newarray .long, 2) := by decide +kernel
theorem d_Md_init_98 : decode b_Md_init 98 = .ok (.putfield 47, 3) := by decide +kernel
theorem d_Md_init_101 : decode b_Md_init 101 = .ok (.aload_n 0, 1) := by decide +kernel
theorem d_Md_init_102 : decode b_Md_init 102 = .ok (.sipush 700, 3) := by decide +kernel
theorem d_Md_init_105 : decode b_Md_init 105 = .ok (.newarray .long, 2) := by decide +kernel
theorem d_Md_init_107 : decode b_Md_init 107 = .ok (.putfield 50, 3) := by decide +kernel
theorem d_Md_init_110 : decode b_Md_init 110 = .ok (.aload_n 0, 1) := by decide +kernel
theorem d_Md_init_111 : decode b_Md_init 111 = .ok (.sipush 1400, 3) := by decide +kernel
theorem d_Md_init_114 : decode b_Md_init 114 = .ok (.newarray .long, 2) := by decide +kernel
theorem d_Md_init_116 : decode b_Md_init 116 = .ok (.putfield 53, 3) := by decide +kernel
theorem d_Md_init_119 : decode b_Md_init 119 = .ok (.aload_n 0, 1) := by decide +kernel
theorem d_Md_init_120 : decode b_Md_init 120 = .ok (.bipush 16, 2) := by decide +kernel
theorem d_Md_init_122 : decode b_Md_init 122 = .ok (.newarray .int, 2) := by decide +kernel
theorem d_Md_init_124 : decode b_Md_init 124 = .ok (.putfield 56, 3) := by decide +kernel
theorem d_Md_init_127 : decode b_Md_init 127 = .ok (.aload_n 0, 1) := by decide +kernel
theorem d_Md_init_128 : decode b_Md_init 128 = .ok (.iconst 2, 1) := by decide +kernel
theorem d_Md_init_129 : decode b_Md_init 129 = .ok (.newarray .int, 2) := by decide +kernel
theorem d_Md_init_131 : decode b_Md_init 131 = .ok (.putfield 59, 3) := by decide +kernel
theorem d_Md_init_134 : decode b_Md_init 134 = .ok (.aload_n 0, 1) := by decide +kernel
theorem d_Md_init_135 : decode b_Md_init 135 = .ok (.iconst 2, 1) := by decide +kernel
theorem d_Md_init_136 : decode b_Md_init 136 = .ok (.newarray .int, 2) := by decide +kernel
end
section
/-! what each instruction is; laid by program -/
theorem d_Md_init_138 : decode b_Md_init 138 = .ok (.putfield 62, 3) := by decide +kernel
theorem d_Md_init_141 : decode b_Md_init 141 = .ok (.aload_n 0, 1) := by decide +kernel
theorem d_Md_init_142 : decode b_Md_init 142 = .ok (.iconst 2, 1) := by decide +kernel
theorem d_Md_init_143 : decode b_Md_init 143 = .ok (.newarray .int, 2) := by decide +kernel
theorem d_Md_init_145 : decode b_Md_init 145 = .ok (.putfield 65, 3) := by decide +kernel
theorem d_Md_init_148 : decode b_Md_init 148 = .ok (.aload_n 0, 1) := by decide +kernel
theorem d_Md_init_149 : decode b_Md_init 149 = .ok (.iconst 2, 1) := by decide +kernel
theorem d_Md_init_150 : decode b_Md_init 150 = .ok (.newarray .int, 2) := by decide +kernel
theorem d_Md_init_152 : decode b_Md_init 152 = .ok (.putfield 68, 3) := by decide +kernel
theorem d_Md_init_155 : decode b_Md_init 155 = .ok (.aload_n 0, 1) := by decide +kernel
theorem d_Md_init_156 : decode b_Md_init 156 = .ok (.bipush 64, 2) := by decide +kernel
theorem d_Md_init_158 : decode b_Md_init 158 = .ok (.newarray .long, 2) := by decide +kernel
theorem d_Md_init_160 : decode b_Md_init 160 = .ok (.putfield 71, 3) := by decide +kernel
theorem d_Md_init_163 : decode b_Md_init 163 = .ok (.aload_n 0, 1) := by decide +kernel
theorem d_Md_init_164 : decode b_Md_init 164 = .ok (.bipush 64, 2) := by decide +kernel
theorem d_Md_init_166 : decode b_Md_init 166 = .ok (.newarray .long, 2) := by decide +kernel
theorem d_Md_init_168 : decode b_Md_init 168 = .ok (.putfield 74, 3) := by decide +kernel
theorem d_Md_init_171 : decode b_Md_init 171 = .ok (.aload_n 0, 1) := by decide +kernel
theorem d_Md_init_172 : decode b_Md_init 172 = .ok (.bipush 64, 2) := by decide +kernel
theorem d_Md_init_174 : decode b_Md_init 174 = .ok (.newarray .long, 2) := by decide +kernel
theorem d_Md_init_176 : decode b_Md_init 176 = .ok (.putfield 77, 3) := by decide +kernel
theorem d_Md_init_179 : decode b_Md_init 179 = .ok (.aload_n 0, 1) := by decide +kernel
theorem d_Md_init_180 : decode b_Md_init 180 = .ok (.bipush 64, 2) := by decide +kernel
theorem d_Md_init_182 : decode b_Md_init 182 = .ok (.newarray .long, 2) := by decide +kernel
theorem d_Md_init_184 : decode b_Md_init 184 = .ok (.putfield 80, 3) := by decide +kernel
theorem d_Md_init_187 : decode b_Md_init 187 = .ok (.aload_n 0, 1) := by decide +kernel
theorem d_Md_init_188 : decode b_Md_init 188 = .ok (.sipush 2600, 3) := by decide +kernel
theorem d_Md_init_191 : decode b_Md_init 191 = .ok (.newarray .long, 2) := by decide +kernel
theorem d_Md_init_193 : decode b_Md_init 193 = .ok (.putfield 83, 3) := by decide +kernel
theorem d_Md_init_196 : decode b_Md_init 196 = .ok (.aload_n 0, 1) := by decide +kernel
theorem d_Md_init_197 : decode b_Md_init 197 = .ok (.bipush 26, 2) := by decide +kernel
theorem d_Md_init_199 : decode b_Md_init 199 = .ok (.newarray .int, 2) := by decide +kernel
theorem d_Md_init_201 : decode b_Md_init 201 = .ok (.putfield 86, 3) := by decide +kernel
theorem d_Md_init_204 : decode b_Md_init 204 = .ok (.aload_n 0, 1) := by decide +kernel
theorem d_Md_init_205 : decode b_Md_init 205 = .ok (.lconst 1, 1) := by decide +kernel
theorem d_Md_init_206 : decode b_Md_init 206 = .ok (.putfield 89, 3) := by decide +kernel
theorem d_Md_init_209 : decode b_Md_init 209 = .ok (.aload_n 0, 1) := by decide +kernel
theorem d_Md_init_210 : decode b_Md_init 210 = .ok (.bipush 13, 2) := by decide +kernel
theorem d_Md_init_212 : decode b_Md_init 212 = .ok (.newarray .int, 2) := by decide +kernel
theorem d_Md_init_214 : decode b_Md_init 214 = .ok (.putfield 93, 3) := by decide +kernel
theorem d_Md_init_217 : decode b_Md_init 217 = .ok (.aload_n 0, 1) := by decide +kernel
theorem d_Md_init_218 : decode b_Md_init 218 = .ok (.bipush 13, 2) := by decide +kernel
theorem d_Md_init_220 : decode b_Md_init 220 = .ok (.newarray .int, 2) := by decide +kernel
theorem d_Md_init_222 : decode b_Md_init 222 = .ok (.putfield 96, 3) := by decide +kernel
theorem d_Md_init_225 : decode b_Md_init 225 = .ok (.aload_n 0, 1) := by decide +kernel
theorem d_Md_init_226 : decode b_Md_init 226 = .ok (.bipush 64, 2) := by decide +kernel
theorem d_Md_init_228 : decode b_Md_init 228 = .ok (.newarray .long, 2) := by decide +kernel
theorem d_Md_init_230 : decode b_Md_init 230 = .ok (.putfield 99, 3) := by decide +kernel
theorem d_Md_init_233 : decode b_Md_init 233 = .ok (.aload_n 0, 1) := by decide +kernel
theorem d_Md_init_234 : decode b_Md_init 234 = .ok (.sipush 576, 3) := by decide +kernel
theorem d_Md_init_237 : decode b_Md_init 237 = .ok (.newarray .long, 2) := by decide +kernel
theorem d_Md_init_239 : decode b_Md_init 239 = .ok (.putfield 102, 3) := by decide +kernel
theorem d_Md_init_242 : decode b_Md_init 242 = .ok (.aload_n 0, 1) := by decide +kernel
theorem d_Md_init_243 : decode b_Md_init 243 = .ok (.sipush 576, 3) := by decide +kernel
theorem d_Md_init_246 : decode b_Md_init 246 = .ok (.newarray .long, 2) := by decide +kernel
theorem d_Md_init_248 : decode b_Md_init 248 = .ok (.putfield 105, 3) := by decide +kernel
theorem d_Md_init_251 : decode b_Md_init 251 = .ok (.aload_n 0, 1) := by decide +kernel
theorem d_Md_init_252 : decode b_Md_init 252 = .ok (.sipush 576, 3) := by decide +kernel
theorem d_Md_init_255 : decode b_Md_init 255 = .ok (.newarray .long, 2) := by decide +kernel
theorem d_Md_init_257 : decode b_Md_init 257 = .ok (.putfield 108, 3) := by decide +kernel
theorem d_Md_init_260 : decode b_Md_init 260 = .ok (.aload_n 0, 1) := by decide +kernel
theorem d_Md_init_261 : decode b_Md_init 261 = .ok (.bipush 64, 2) := by decide +kernel
theorem d_Md_init_263 : decode b_Md_init 263 = .ok (.newarray .long, 2) := by decide +kernel
theorem d_Md_init_265 : decode b_Md_init 265 = .ok (.putfield 111, 3) := by decide +kernel
theorem d_Md_init_268 : decode b_Md_init 268 = .ok (.aload_n 0, 1) := by decide +kernel
theorem d_Md_init_269 : decode b_Md_init 269 = .ok (.bipush 64, 2) := by decide +kernel
theorem d_Md_init_271 : decode b_Md_init 271 = .ok (.newarray .long, 2) := by decide +kernel
theorem d_Md_init_273 : decode b_Md_init 273 = .ok (.putfield 114, 3) := by decide +kernel
theorem d_Md_init_276 : decode b_Md_init 276 = .ok (.aload_n 0, 1) := by decide +kernel
theorem d_Md_init_277 : decode b_Md_init 277 = .ok (.bipush 9, 2) := by decide +kernel
theorem d_Md_init_279 : decode b_Md_init 279 = .ok (.newarray .long, 2) := by decide +kernel
theorem d_Md_init_281 : decode b_Md_init 281 = .ok (.putfield 117, 3) := by decide +kernel
theorem d_Md_init_284 : decode b_Md_init 284 = .ok (.aload_n 0, 1) := by decide +kernel
theorem d_Md_init_285 : decode b_Md_init 285 = .ok (.bipush 9, 2) := by decide +kernel
theorem d_Md_init_287 : decode b_Md_init 287 = .ok (.newarray .long, 2) := by decide +kernel
theorem d_Md_init_289 : decode b_Md_init 289 = .ok (.putfield 120, 3) := by decide +kernel
theorem d_Md_init_292 : decode b_Md_init 292 = .ok (.aload_n 0, 1) := by decide +kernel
theorem d_Md_init_293 : decode b_Md_init 293 = .ok (.bipush 9, 2) := by decide +kernel
theorem d_Md_init_295 : decode b_Md_init 295 = .ok (.newarray .long, 2) := by decide +kernel
theorem d_Md_init_297 : decode b_Md_init 297 = .ok (.putfield 123, 3) := by decide +kernel
theorem d_Md_init_300 : decode b_Md_init 300 = .ok (.aload_n 0, 1) := by decide +kernel
theorem d_Md_init_301 : decode b_Md_init 301 = .ok (.bipush 9, 2) := by decide +kernel
theorem d_Md_init_303 : decode b_Md_init 303 = .ok (.newarray .long, 2) := by decide +kernel
theorem d_Md_init_305 : decode b_Md_init 305 = .ok (.putfield 126, 3) := by decide +kernel
theorem d_Md_init_308 : decode b_Md_init 308 = .ok (.aload_n 0, 1) := by decide +kernel
theorem d_Md_init_309 : decode b_Md_init 309 = .ok (.sipush 400, 3) := by decide +kernel
theorem d_Md_init_312 : decode b_Md_init 312 = .ok (.newarray .int, 2) := by decide +kernel
theorem d_Md_init_314 : decode b_Md_init 314 = .ok (.putfield 129, 3) := by decide +kernel
theorem d_Md_init_317 : decode b_Md_init 317 = .ok (.aload_n 0, 1) := by decide +kernel
theorem d_Md_init_318 : decode b_Md_init 318 = .ok (.sipush 400, 3) := by decide +kernel
theorem d_Md_init_321 : decode b_Md_init 321 = .ok (.newarray .long, 2) := by decide +kernel
theorem d_Md_init_323 : decode b_Md_init 323 = .ok (.putfield 132, 3) := by decide +kernel
theorem d_Md_init_326 : decode b_Md_init 326 = .ok (.aload_n 0, 1) := by decide +kernel
theorem d_Md_init_327 : decode b_Md_init 327 = .ok (.sipush 400, 3) := by decide +kernel
theorem d_Md_init_330 : decode b_Md_init 330 = .ok (.newarray .long, 2) := by decide +kernel
theorem d_Md_init_332 : decode b_Md_init 332 = .ok (.putfield 135, 3) := by decide +kernel
theorem d_Md_init_335 : decode b_Md_init 335 = .ok (.aload_n 0, 1) := by decide +kernel
theorem d_Md_init_336 : decode b_Md_init 336 = .ok (.sipush 400, 3) := by decide +kernel
theorem d_Md_init_339 : decode b_Md_init 339 = .ok (.newarray .int, 2) := by decide +kernel
theorem d_Md_init_341 : decode b_Md_init 341 = .ok (.putfield 138, 3) := by decide +kernel
theorem d_Md_init_344 : decode b_Md_init 344 = .ok (.aload_n 0, 1) := by decide +kernel
theorem d_Md_init_345 : decode b_Md_init 345 = .ok (.sipush 420, 3) := by decide +kernel
theorem d_Md_init_348 : decode b_Md_init 348 = .ok (.newarray .int, 2) := by decide +kernel
theorem d_Md_init_350 : decode b_Md_init 350 = .ok (.putfield 141, 3) := by decide +kernel
theorem d_Md_init_353 : decode b_Md_init 353 = .ok (.aload_n 0, 1) := by decide +kernel
theorem d_Md_init_354 : decode b_Md_init 354 = .ok (.sipush 420, 3) := by decide +kernel
theorem d_Md_init_357 : decode b_Md_init 357 = .ok (.newarray .long, 2) := by decide +kernel
theorem d_Md_init_359 : decode b_Md_init 359 = .ok (.putfield 144, 3) := by decide +kernel
theorem d_Md_init_362 : decode b_Md_init 362 = .ok (.aload_n 0, 1) := by decide +kernel
theorem d_Md_init_363 : decode b_Md_init 363 = .ok (.bipush 16, 2) := by decide +kernel
theorem d_Md_init_365 : decode b_Md_init 365 = .ok (.lconst 0, 1) := by decide +kernel
theorem d_Md_init_366 : decode b_Md_init 366 = .ok (.invokevirtual 147, 3) := by decide +kernel
theorem d_Md_init_369 : decode b_Md_init 369 = .ok (.aload_n 0, 1) := by decide +kernel
theorem d_Md_init_370 : decode b_Md_init 370 = .ok (.invokevirtual 151, 3) := by decide +kernel
theorem d_Md_init_373 : decode b_Md_init 373 = .ok (.return_, 1) := by decide +kernel
theorem d_Md_isLine_0 : decode b_Md_isLine 0 = .ok (.aload_n 0, 1) := by decide +kernel
theorem d_Md_isLine_1 : decode b_Md_isLine 1 = .ok (.iconst 0, 1) := by decide +kernel
theorem d_Md_isLine_2 : decode b_Md_isLine 2 = .ok (.putfield 481, 3) := by decide +kernel
theorem d_Md_isLine_5 : decode b_Md_isLine 5 = .ok (.aload_n 0, 1) := by decide +kernel
theorem d_Md_isLine_6 : decode b_Md_isLine 6 = .ok (.iconst 0, 1) := by decide +kernel
theorem d_Md_isLine_7 : decode b_Md_isLine 7 = .ok (.putfield 487, 3) := by decide +kernel
theorem d_Md_isLine_10 : decode b_Md_isLine 10 = .ok (.aload_n 0, 1) := by decide +kernel
theorem d_Md_isLine_11 : decode b_Md_isLine 11 = .ok (.iconst 0, 1) := by decide +kernel
theorem d_Md_isLine_12 : decode b_Md_isLine 12 = .ok (.putfield 501, 3) := by decide +kernel
theorem d_Md_isLine_15 : decode b_Md_isLine 15 = .ok (.aload_n 0, 1) := by decide +kernel
theorem d_Md_isLine_16 : decode b_Md_isLine 16 = .ok (.iconst (-1), 1) := by decide +kernel
theorem d_Md_isLine_17 : decode b_Md_isLine 17 = .ok (.putfield 504, 3) := by decide +kernel
theorem d_Md_isLine_20 : decode b_Md_isLine 20 = .ok (.aload_n 0, 1) := by decide +kernel
theorem d_Md_isLine_21 : decode b_Md_isLine 21 = .ok (.iconst 0, 1) := by decide +kernel
theorem d_Md_isLine_22 : decode b_Md_isLine 22 = .ok (.putfield 507, 3) := by decide +kernel
theorem d_Md_isLine_25 : decode b_Md_isLine 25 = .ok (.iconst 0, 1) := by decide +kernel
theorem d_Md_isLine_26 : decode b_Md_isLine 26 = .ok (.istore_n 1, 1) := by decide +kernel
theorem d_Md_isLine_27 : decode b_Md_isLine 27 = .ok (.aload_n 0, 1) := by decide +kernel
theorem d_Md_isLine_28 : decode b_Md_isLine 28 = .ok (.invokevirtual 490, 3) := by decide +kernel
theorem d_Md_isLine_31 : decode b_Md_isLine 31 = .ok (.i2l, 1) := by decide +kernel
theorem d_Md_isLine_32 : decode b_Md_isLine 32 = .ok (.ldc2_w 510, 3) := by decide +kernel
theorem d_Md_isLine_35 : decode b_Md_isLine 35 = .ok (.ldc2_w 512, 3) := by decide +kernel
theorem d_Md_isLine_38 : decode b_Md_isLine 38 = .ok (.invokestatic 446, 3) := by decide +kernel
theorem d_Md_isLine_41 : decode b_Md_isLine 41 = .ok (.ifCond .eq 63, 3) := by decide +kernel
theorem d_Md_isLine_104 : decode b_Md_isLine 104 = .ok (.iconst 1, 1) := by decide +kernel
theorem d_Md_isLine_105 : decode b_Md_isLine 105 = .ok (.istore_n 2, 1) := by decide +kernel
theorem d_Md_isLine_106 : decode b_Md_isLine 106 = .ok (.aload_n 0, 1) := by decide +kernel
theorem d_Md_isLine_107 : decode b_Md_isLine 107 = .ok (.invokevirtual 490, 3) := by decide +kernel
theorem d_Md_isLine_110 : decode b_Md_isLine 110 = .ok (.istore_n 3, 1) := by decide +kernel
theorem d_Md_isLine_111 : decode b_Md_isLine 111 = .ok (.iload_n 2, 1) := by decide +kernel
theorem d_Md_isLine_112 : decode b_Md_isLine 112 = .ok (.ifCond .eq 40, 3) := by decide +kernel
theorem d_Md_isLine_115 : decode b_Md_isLine 115 = .ok (.aload_n 0, 1) := by decide +kernel
theorem d_Md_isLine_116 : decode b_Md_isLine 116 = .ok (.iload_n 3, 1) := by decide +kernel
theorem d_Md_isLine_117 : decode b_Md_isLine 117 = .ok (.invokevirtual 514, 3) := by decide +kernel
theorem d_Md_isLine_120 : decode b_Md_isLine 120 = .ok (.ifCond .ne 5, 3) := by decide +kernel
theorem d_Md_isLine_123 : decode b_Md_isLine 123 = .ok (.iconst 0, 1) := by decide +kernel
theorem d_Md_isLine_124 : decode b_Md_isLine 124 = .ok (.ireturn, 1) := by decide +kernel
theorem d_Md_isName_0 : decode b_Md_isName 0 = .ok (.iload_n 0, 1) := by decide +kernel
theorem d_Md_isName_1 : decode b_Md_isName 1 = .ok (.i2l, 1) := by decide +kernel
theorem d_Md_isName_2 : decode b_Md_isName 2 = .ok (.lconst 0, 1) := by decide +kernel
theorem d_Md_isName_3 : decode b_Md_isName 3 = .ok (.ldc2_w 592, 3) := by decide +kernel
theorem d_Md_isName_6 : decode b_Md_isName 6 = .ok (.invokestatic 446, 3) := by decide +kernel
theorem d_Md_isName_9 : decode b_Md_isName 9 = .ok (.ireturn, 1) := by decide +kernel
theorem d_Md_lands_0 : decode b_Md_lands 0 = .ok (.iconst 0, 1) := by decide +kernel
theorem d_Md_lands_1 : decode b_Md_lands 1 = .ok (.istore 4, 2) := by decide +kernel
theorem d_Md_lands_3 : decode b_Md_lands 3 = .ok (.iload 4, 2) := by decide +kernel
theorem d_Md_lands_5 : decode b_Md_lands 5 = .ok (.iload_n 2, 1) := by decide +kernel
theorem d_Md_lands_6 : decode b_Md_lands 6 = .ok (.if_icmp .ge 37, 3) := by decide +kernel
theorem d_Md_lands_9 : decode b_Md_lands 9 = .ok (.iload 4, 2) := by decide +kernel
theorem d_Md_lands_11 : decode b_Md_lands 11 = .ok (.sipush 660, 3) := by decide +kernel
theorem d_Md_lands_14 : decode b_Md_lands 14 = .ok (.if_icmp .ge 29, 3) := by decide +kernel
theorem d_Md_lands_17 : decode b_Md_lands 17 = .ok (.aload_n 0, 1) := by decide +kernel
theorem d_Md_lands_18 : decode b_Md_lands 18 = .ok (.getfield 38, 3) := by decide +kernel
theorem d_Md_lands_21 : decode b_Md_lands 21 = .ok (.sipush 660, 3) := by decide +kernel
theorem d_Md_lands_24 : decode b_Md_lands 24 = .ok (.iload_n 1, 1) := by decide +kernel
theorem d_Md_lands_25 : decode b_Md_lands 25 = .ok (.imul, 1) := by decide +kernel
theorem d_Md_lands_26 : decode b_Md_lands 26 = .ok (.iload 4, 2) := by decide +kernel
theorem d_Md_lands_28 : decode b_Md_lands 28 = .ok (.iadd, 1) := by decide +kernel
theorem d_Md_lands_29 : decode b_Md_lands 29 = .ok (.aload_n 0, 1) := by decide +kernel
theorem d_Md_lands_30 : decode b_Md_lands 30 = .ok (.getfield 47, 3) := by decide +kernel
theorem d_Md_lands_33 : decode b_Md_lands 33 = .ok (.iload 4, 2) := by decide +kernel
theorem d_Md_lands_35 : decode b_Md_lands 35 = .ok (.laload, 1) := by decide +kernel
theorem d_Md_lands_36 : decode b_Md_lands 36 = .ok (.lastore, 1) := by decide +kernel
theorem d_Md_lands_37 : decode b_Md_lands 37 = .ok (.iinc 4 1, 3) := by decide +kernel
theorem d_Md_lands_40 : decode b_Md_lands 40 = .ok (.goto (-37), 3) := by decide +kernel
theorem d_Md_lands_43 : decode b_Md_lands 43 = .ok (.aload_n 0, 1) := by decide +kernel
theorem d_Md_lands_44 : decode b_Md_lands 44 = .ok (.getfield 41, 3) := by decide +kernel
theorem d_Md_lands_47 : decode b_Md_lands 47 = .ok (.iload_n 1, 1) := by decide +kernel
theorem d_Md_lands_48 : decode b_Md_lands 48 = .ok (.iload_n 2, 1) := by decide +kernel
theorem d_Md_lands_49 : decode b_Md_lands 49 = .ok (.sipush 660, 3) := by decide +kernel
theorem d_Md_lands_52 : decode b_Md_lands 52 = .ok (.if_icmp .ge 7, 3) := by decide +kernel
theorem d_Md_lands_55 : decode b_Md_lands 55 = .ok (.iload_n 2, 1) := by decide +kernel
theorem d_Md_lands_56 : decode b_Md_lands 56 = .ok (.goto 6, 3) := by decide +kernel
theorem d_Md_lands_62 : decode b_Md_lands 62 = .ok (.iastore, 1) := by decide +kernel
theorem d_Md_lands_63 : decode b_Md_lands 63 = .ok (.aload_n 0, 1) := by decide +kernel
theorem d_Md_lands_64 : decode b_Md_lands 64 = .ok (.getfield 44, 3) := by decide +kernel
theorem d_Md_lands_67 : decode b_Md_lands 67 = .ok (.iload_n 1, 1) := by decide +kernel
theorem d_Md_lands_68 : decode b_Md_lands 68 = .ok (.iload_n 3, 1) := by decide +kernel
theorem d_Md_lands_69 : decode b_Md_lands 69 = .ok (.iastore, 1) := by decide +kernel
theorem d_Md_lands_70 : decode b_Md_lands 70 = .ok (.aload_n 0, 1) := by decide +kernel
theorem d_Md_lands_71 : decode b_Md_lands 71 = .ok (.iload_n 1, 1) := by decide +kernel
theorem d_Md_lands_72 : decode b_Md_lands 72 = .ok (.invokevirtual 159, 3) := by decide +kernel
theorem d_Md_lands_75 : decode b_Md_lands 75 = .ok (.return_, 1) := by decide +kernel
theorem d_Md_letter_0 : decode b_Md_letter 0 = .ok (.aload_n 0, 1) := by decide +kernel
theorem d_Md_letter_1 : decode b_Md_letter 1 = .ok (.getfield 13, 3) := by decide +kernel
theorem d_Md_letter_4 : decode b_Md_letter 4 = .ok (.aload_n 0, 1) := by decide +kernel
theorem d_Md_letter_5 : decode b_Md_letter 5 = .ok (.getfield 589, 3) := by decide +kernel
theorem d_Md_letter_8 : decode b_Md_letter 8 = .ok (.iload_n 1, 1) := by decide +kernel
theorem d_Md_letter_9 : decode b_Md_letter 9 = .ok (.iastore, 1) := by decide +kernel
theorem d_Md_letter_10 : decode b_Md_letter 10 = .ok (.aload_n 0, 1) := by decide +kernel
theorem d_Md_letter_11 : decode b_Md_letter 11 = .ok (.dup, 1) := by decide +kernel
theorem d_Md_letter_12 : decode b_Md_letter 12 = .ok (.getfield 589, 3) := by decide +kernel
theorem d_Md_letter_15 : decode b_Md_letter 15 = .ok (.iconst 1, 1) := by decide +kernel
theorem d_Md_letter_16 : decode b_Md_letter 16 = .ok (.iadd, 1) := by decide +kernel
theorem d_Md_letter_17 : decode b_Md_letter 17 = .ok (.putfield 589, 3) := by decide +kernel
theorem d_Md_letter_20 : decode b_Md_letter 20 = .ok (.return_, 1) := by decide +kernel
theorem d_Md_line_0 : decode b_Md_line 0 = .ok (.aload_n 0, 1) := by decide +kernel
theorem d_Md_line_1 : decode b_Md_line 1 = .ok (.iconst 0, 1) := by decide +kernel
theorem d_Md_line_2 : decode b_Md_line 2 = .ok (.putfield 154, 3) := by decide +kernel
theorem d_Md_line_5 : decode b_Md_line 5 = .ok (.aload_n 0, 1) := by decide +kernel
theorem d_Md_line_6 : decode b_Md_line 6 = .ok (.invokevirtual 570, 3) := by decide +kernel
theorem d_Md_line_9 : decode b_Md_line 9 = .ok (.istore_n 1, 1) := by decide +kernel
theorem d_Md_line_10 : decode b_Md_line 10 = .ok (.iload_n 1, 1) := by decide +kernel
theorem d_Md_line_11 : decode b_Md_line 11 = .ok (.ifCond .ne 11, 3) := by decide +kernel
theorem d_Md_line_14 : decode b_Md_line 14 = .ok (.aload_n 0, 1) := by decide +kernel
theorem d_Md_line_15 : decode b_Md_line 15 = .ok (.aload_n 0, 1) := by decide +kernel
theorem d_Md_line_16 : decode b_Md_line 16 = .ok (.getfield 481, 3) := by decide +kernel
theorem d_Md_line_19 : decode b_Md_line 19 = .ok (.putfield 16, 3) := by decide +kernel
theorem d_Md_line_22 : decode b_Md_line 22 = .ok (.aload_n 0, 1) := by decide +kernel
theorem d_Md_line_23 : decode b_Md_line 23 = .ok (.iconst 0, 1) := by decide +kernel
theorem d_Md_line_24 : decode b_Md_line 24 = .ok (.putfield 484, 3) := by decide +kernel
theorem d_Md_line_27 : decode b_Md_line 27 = .ok (.iload_n 1, 1) := by decide +kernel
theorem d_Md_line_28 : decode b_Md_line 28 = .ok (.ifCond .ne 5, 3) := by decide +kernel
theorem d_Md_line_31 : decode b_Md_line 31 = .ok (.iconst (-1), 1) := by decide +kernel
theorem d_Md_line_32 : decode b_Md_line 32 = .ok (.ireturn, 1) := by decide +kernel
theorem d_Md_look_0 : decode b_Md_look 0 = .ok (.aload_n 0, 1) := by decide +kernel
theorem d_Md_look_1 : decode b_Md_look 1 = .ok (.iload_n 1, 1) := by decide +kernel
theorem d_Md_look_2 : decode b_Md_look 2 = .ok (.i2l, 1) := by decide +kernel
theorem d_Md_look_3 : decode b_Md_look 3 = .ok (.lconst 0, 1) := by decide +kernel
theorem d_Md_look_4 : decode b_Md_look 4 = .ok (.ldc2_w 587, 3) := by decide +kernel
theorem d_Md_look_7 : decode b_Md_look 7 = .ok (.invokestatic 446, 3) := by decide +kernel
theorem d_Md_look_10 : decode b_Md_look 10 = .ok (.ifCond .ne 7, 3) := by decide +kernel
theorem d_Md_look_13 : decode b_Md_look 13 = .ok (.iconst 1, 1) := by decide +kernel
theorem d_Md_look_14 : decode b_Md_look 14 = .ok (.goto 4, 3) := by decide +kernel
theorem d_Md_look_17 : decode b_Md_look 17 = .ok (.iconst 0, 1) := by decide +kernel
theorem d_Md_look_18 : decode b_Md_look 18 = .ok (.iconst 1, 1) := by decide +kernel
theorem d_Md_look_19 : decode b_Md_look 19 = .ok (.invokevirtual 581, 3) := by decide +kernel
theorem d_Md_look_22 : decode b_Md_look 22 = .ok (.ifCond .eq 5, 3) := by decide +kernel
theorem d_Md_look_25 : decode b_Md_look 25 = .ok (.iconst 0, 1) := by decide +kernel
theorem d_Md_look_26 : decode b_Md_look 26 = .ok (.ireturn, 1) := by decide +kernel
theorem d_Md_look_27 : decode b_Md_look 27 = .ok (.iconst 0, 1) := by decide +kernel
theorem d_Md_look_28 : decode b_Md_look 28 = .ok (.istore_n 2, 1) := by decide +kernel
theorem d_Md_look_29 : decode b_Md_look 29 = .ok (.iconst 0, 1) := by decide +kernel
theorem d_Md_look_30 : decode b_Md_look 30 = .ok (.istore_n 3, 1) := by decide +kernel
theorem d_Md_look_31 : decode b_Md_look 31 = .ok (.iload_n 3, 1) := by decide +kernel
theorem d_Md_look_32 : decode b_Md_look 32 = .ok (.bipush 16, 2) := by decide +kernel
theorem d_Md_look_34 : decode b_Md_look 34 = .ok (.if_icmp .ge 26, 3) := by decide +kernel
theorem d_Md_look_37 : decode b_Md_look 37 = .ok (.iload_n 2, 1) := by decide +kernel
theorem d_Md_look_38 : decode b_Md_look 38 = .ok (.aload_n 0, 1) := by decide +kernel
theorem d_Md_look_39 : decode b_Md_look 39 = .ok (.getfield 20, 3) := by decide +kernel
theorem d_Md_look_42 : decode b_Md_look 42 = .ok (.iload_n 3, 1) := by decide +kernel
theorem d_Md_look_43 : decode b_Md_look 43 = .ok (.baload, 1) := by decide +kernel
theorem d_Md_look_44 : decode b_Md_look 44 = .ok (.ifCond .eq 7, 3) := by decide +kernel
theorem d_Md_look_51 : decode b_Md_look 51 = .ok (.iconst 0, 1) := by decide +kernel
theorem d_Md_look_52 : decode b_Md_look 52 = .ok (.iadd, 1) := by decide +kernel
theorem d_Md_look_53 : decode b_Md_look 53 = .ok (.istore_n 2, 1) := by decide +kernel
theorem d_Md_look_54 : decode b_Md_look 54 = .ok (.iinc 3 1, 3) := by decide +kernel
theorem d_Md_look_57 : decode b_Md_look 57 = .ok (.goto (-26), 3) := by decide +kernel
theorem d_Md_look_60 : decode b_Md_look 60 = .ok (.iload_n 1, 1) := by decide +kernel
theorem d_Md_look_61 : decode b_Md_look 61 = .ok (.ifCond .ne 7, 3) := by decide +kernel
theorem d_Md_look_64 : decode b_Md_look 64 = .ok (.iload_n 2, 1) := by decide +kernel
theorem d_Md_look_65 : decode b_Md_look 65 = .ok (.goto 43, 3) := by decide +kernel
theorem d_Md_look_68 : decode b_Md_look 68 = .ok (.iload_n 1, 1) := by decide +kernel
theorem d_Md_look_69 : decode b_Md_look 69 = .ok (.iconst 1, 1) := by decide +kernel
theorem d_Md_look_70 : decode b_Md_look 70 = .ok (.if_icmp .ne 10, 3) := by decide +kernel
theorem d_Md_look_73 : decode b_Md_look 73 = .ok (.aload_n 0, 1) := by decide +kernel
theorem d_Md_look_74 : decode b_Md_look 74 = .ok (.getfield 16, 3) := by decide +kernel
theorem d_Md_look_77 : decode b_Md_look 77 = .ok (.goto 31, 3) := by decide +kernel
theorem d_Md_look_80 : decode b_Md_look 80 = .ok (.iload_n 1, 1) := by decide +kernel
theorem d_Md_look_81 : decode b_Md_look 81 = .ok (.iconst 2, 1) := by decide +kernel
theorem d_Md_look_82 : decode b_Md_look 82 = .ok (.if_icmp .ne 10, 3) := by decide +kernel
theorem d_Md_look_85 : decode b_Md_look 85 = .ok (.aload_n 0, 1) := by decide +kernel
theorem d_Md_look_86 : decode b_Md_look 86 = .ok (.getfield 484, 3) := by decide +kernel
theorem d_Md_look_89 : decode b_Md_look 89 = .ok (.goto 19, 3) := by decide +kernel
theorem d_Md_look_92 : decode b_Md_look 92 = .ok (.iload_n 1, 1) := by decide +kernel
theorem d_Md_look_93 : decode b_Md_look 93 = .ok (.iconst 3, 1) := by decide +kernel
theorem d_Md_look_94 : decode b_Md_look 94 = .ok (.if_icmp .ne 10, 3) := by decide +kernel
theorem d_Md_look_97 : decode b_Md_look 97 = .ok (.aload_n 0, 1) := by decide +kernel
theorem d_Md_look_98 : decode b_Md_look 98 = .ok (.getfield 589, 3) := by decide +kernel
theorem d_Md_look_101 : decode b_Md_look 101 = .ok (.goto 7, 3) := by decide +kernel
theorem d_Md_look_104 : decode b_Md_look 104 = .ok (.aload_n 0, 1) := by decide +kernel
theorem d_Md_look_105 : decode b_Md_look 105 = .ok (.getfield 576, 3) := by decide +kernel
theorem d_Md_look_108 : decode b_Md_look 108 = .ok (.ireturn, 1) := by decide +kernel
theorem d_Md_multiplied_0 : decode b_Md_multiplied 0 = .ok (.aload_n 0, 1) := by decide +kernel
theorem d_Md_multiplied_1 : decode b_Md_multiplied 1 = .ok (.getfield 41, 3) := by decide +kernel
theorem d_Md_multiplied_4 : decode b_Md_multiplied 4 = .ok (.iload_n 2, 1) := by decide +kernel
theorem d_Md_multiplied_5 : decode b_Md_multiplied 5 = .ok (.iaload, 1) := by decide +kernel
theorem d_Md_multiplied_6 : decode b_Md_multiplied 6 = .ok (.aload_n 0, 1) := by decide +kernel
theorem d_Md_multiplied_7 : decode b_Md_multiplied 7 = .ok (.getfield 41, 3) := by decide +kernel
theorem d_Md_multiplied_10 : decode b_Md_multiplied 10 = .ok (.iload_n 3, 1) := by decide +kernel
theorem d_Md_multiplied_11 : decode b_Md_multiplied 11 = .ok (.iaload, 1) := by decide +kernel
theorem d_Md_multiplied_12 : decode b_Md_multiplied 12 = .ok (.iadd, 1) := by decide +kernel
theorem d_Md_multiplied_13 : decode b_Md_multiplied 13 = .ok (.istore 4, 2) := by decide +kernel
theorem d_Md_multiplied_15 : decode b_Md_multiplied 15 = .ok (.aload_n 0, 1) := by decide +kernel
theorem d_Md_multiplied_16 : decode b_Md_multiplied 16 = .ok (.getfield 44, 3) := by decide +kernel
theorem d_Md_multiplied_19 : decode b_Md_multiplied 19 = .ok (.iload_n 2, 1) := by decide +kernel
theorem d_Md_multiplied_20 : decode b_Md_multiplied 20 = .ok (.iaload, 1) := by decide +kernel
theorem d_Md_multiplied_21 : decode b_Md_multiplied 21 = .ok (.aload_n 0, 1) := by decide +kernel
theorem d_Md_multiplied_22 : decode b_Md_multiplied 22 = .ok (.getfield 44, 3) := by decide +kernel
theorem d_Md_multiplied_25 : decode b_Md_multiplied 25 = .ok (.iload_n 3, 1) := by decide +kernel
theorem d_Md_multiplied_26 : decode b_Md_multiplied 26 = .ok (.iaload, 1) := by decide +kernel
theorem d_Md_multiplied_27 : decode b_Md_multiplied 27 = .ok (.imul, 1) := by decide +kernel
theorem d_Md_multiplied_28 : decode b_Md_multiplied 28 = .ok (.istore 5, 2) := by decide +kernel
theorem d_Md_multiplied_30 : decode b_Md_multiplied 30 = .ok (.iconst 0, 1) := by decide +kernel
theorem d_Md_multiplied_31 : decode b_Md_multiplied 31 = .ok (.istore 6, 2) := by decide +kernel
theorem d_Md_multiplied_33 : decode b_Md_multiplied 33 = .ok (.iload 6, 2) := by decide +kernel
theorem d_Md_multiplied_35 : decode b_Md_multiplied 35 = .ok (.iload 4, 2) := by decide +kernel
theorem d_Md_multiplied_37 : decode b_Md_multiplied 37 = .ok (.if_icmp .ge 17, 3) := by decide +kernel
theorem d_Md_multiplied_40 : decode b_Md_multiplied 40 = .ok (.aload_n 0, 1) := by decide +kernel
theorem d_Md_multiplied_41 : decode b_Md_multiplied 41 = .ok (.getfield 47, 3) := by decide +kernel
theorem d_Md_multiplied_44 : decode b_Md_multiplied 44 = .ok (.iload 6, 2) := by decide +kernel
theorem d_Md_multiplied_46 : decode b_Md_multiplied 46 = .ok (.lconst 0, 1) := by decide +kernel
theorem d_Md_multiplied_47 : decode b_Md_multiplied 47 = .ok (.lastore, 1) := by decide +kernel
theorem d_Md_multiplied_48 : decode b_Md_multiplied 48 = .ok (.iinc 6 1, 3) := by decide +kernel
theorem d_Md_multiplied_51 : decode b_Md_multiplied 51 = .ok (.goto (-18), 3) := by decide +kernel
theorem d_Md_multiplied_54 : decode b_Md_multiplied 54 = .ok (.iconst 0, 1) := by decide +kernel
theorem d_Md_multiplied_55 : decode b_Md_multiplied 55 = .ok (.istore 6, 2) := by decide +kernel
theorem d_Md_multiplied_57 : decode b_Md_multiplied 57 = .ok (.iload 6, 2) := by decide +kernel
theorem d_Md_multiplied_59 : decode b_Md_multiplied 59 = .ok (.aload_n 0, 1) := by decide +kernel
theorem d_Md_multiplied_60 : decode b_Md_multiplied 60 = .ok (.getfield 41, 3) := by decide +kernel
theorem d_Md_multiplied_63 : decode b_Md_multiplied 63 = .ok (.iload_n 2, 1) := by decide +kernel
theorem d_Md_multiplied_64 : decode b_Md_multiplied 64 = .ok (.iaload, 1) := by decide +kernel
theorem d_Md_multiplied_65 : decode b_Md_multiplied 65 = .ok (.if_icmp .ge 114, 3) := by decide +kernel
theorem d_Md_multiplied_179 : decode b_Md_multiplied 179 = .ok (.aload_n 0, 1) := by decide +kernel
theorem d_Md_multiplied_180 : decode b_Md_multiplied 180 = .ok (.iload_n 1, 1) := by decide +kernel
theorem d_Md_multiplied_181 : decode b_Md_multiplied 181 = .ok (.iload 4, 2) := by decide +kernel
theorem d_Md_multiplied_183 : decode b_Md_multiplied 183 = .ok (.iload 5, 2) := by decide +kernel
theorem d_Md_multiplied_185 : decode b_Md_multiplied 185 = .ok (.invokevirtual 171, 3) := by decide +kernel
theorem d_Md_multiplied_188 : decode b_Md_multiplied 188 = .ok (.return_, 1) := by decide +kernel
theorem d_Md_number_0 : decode b_Md_number 0 = .ok (.aload_n 0, 1) := by decide +kernel
theorem d_Md_number_1 : decode b_Md_number 1 = .ok (.getfield 20, 3) := by decide +kernel
theorem d_Md_number_4 : decode b_Md_number 4 = .ok (.iload_n 1, 1) := by decide +kernel
theorem d_Md_number_5 : decode b_Md_number 5 = .ok (.iconst 1, 1) := by decide +kernel
theorem d_Md_number_6 : decode b_Md_number 6 = .ok (.bastore, 1) := by decide +kernel
theorem d_Md_number_7 : decode b_Md_number 7 = .ok (.aload_n 0, 1) := by decide +kernel
theorem d_Md_number_8 : decode b_Md_number 8 = .ok (.getfield 24, 3) := by decide +kernel
theorem d_Md_number_11 : decode b_Md_number 11 = .ok (.iload_n 1, 1) := by decide +kernel
theorem d_Md_number_12 : decode b_Md_number 12 = .ok (.iconst 1, 1) := by decide +kernel
theorem d_Md_number_13 : decode b_Md_number 13 = .ok (.iastore, 1) := by decide +kernel
theorem d_Md_number_14 : decode b_Md_number 14 = .ok (.aload_n 0, 1) := by decide +kernel
theorem d_Md_number_15 : decode b_Md_number 15 = .ok (.getfield 27, 3) := by decide +kernel
theorem d_Md_number_18 : decode b_Md_number 18 = .ok (.bipush 7, 2) := by decide +kernel
theorem d_Md_number_20 : decode b_Md_number 20 = .ok (.iload_n 1, 1) := by decide +kernel
theorem d_Md_number_21 : decode b_Md_number 21 = .ok (.imul, 1) := by decide +kernel
theorem d_Md_number_22 : decode b_Md_number 22 = .ok (.lload_n 2, 1) := by decide +kernel
theorem d_Md_number_23 : decode b_Md_number 23 = .ok (.lneg, 1) := by decide +kernel
theorem d_Md_number_24 : decode b_Md_number 24 = .ok (.lastore, 1) := by decide +kernel
theorem d_Md_number_25 : decode b_Md_number 25 = .ok (.aload_n 0, 1) := by decide +kernel
theorem d_Md_number_26 : decode b_Md_number 26 = .ok (.getfield 27, 3) := by decide +kernel
theorem d_Md_number_29 : decode b_Md_number 29 = .ok (.bipush 7, 2) := by decide +kernel
theorem d_Md_number_31 : decode b_Md_number 31 = .ok (.iload_n 1, 1) := by decide +kernel
theorem d_Md_number_32 : decode b_Md_number 32 = .ok (.imul, 1) := by decide +kernel
theorem d_Md_number_33 : decode b_Md_number 33 = .ok (.iconst 1, 1) := by decide +kernel
theorem d_Md_number_34 : decode b_Md_number 34 = .ok (.iadd, 1) := by decide +kernel
theorem d_Md_number_35 : decode b_Md_number 35 = .ok (.lconst 1, 1) := by decide +kernel
theorem d_Md_number_36 : decode b_Md_number 36 = .ok (.lastore, 1) := by decide +kernel
theorem d_Md_number_37 : decode b_Md_number 37 = .ok (.aload_n 0, 1) := by decide +kernel
theorem d_Md_number_38 : decode b_Md_number 38 = .ok (.getfield 31, 3) := by decide +kernel
theorem d_Md_number_41 : decode b_Md_number 41 = .ok (.iload_n 1, 1) := by decide +kernel
theorem d_Md_number_42 : decode b_Md_number 42 = .ok (.iconst 0, 1) := by decide +kernel
theorem d_Md_number_43 : decode b_Md_number 43 = .ok (.iastore, 1) := by decide +kernel
theorem d_Md_number_44 : decode b_Md_number 44 = .ok (.aload_n 0, 1) := by decide +kernel
theorem d_Md_number_45 : decode b_Md_number 45 = .ok (.getfield 34, 3) := by decide +kernel
theorem d_Md_number_48 : decode b_Md_number 48 = .ok (.iload_n 1, 1) := by decide +kernel
theorem d_Md_number_49 : decode b_Md_number 49 = .ok (.iconst 1, 1) := by decide +kernel
theorem d_Md_number_50 : decode b_Md_number 50 = .ok (.iastore, 1) := by decide +kernel
theorem d_Md_number_51 : decode b_Md_number 51 = .ok (.return_, 1) := by decide +kernel
theorem d_Md_opens_0 : decode b_Md_opens 0 = .ok (.iload_n 1, 1) := by decide +kernel
theorem d_Md_opens_1 : decode b_Md_opens 1 = .ok (.i2l, 1) := by decide +kernel
theorem d_Md_opens_2 : decode b_Md_opens 2 = .ok (.ldc2_w 493, 3) := by decide +kernel
theorem d_Md_opens_5 : decode b_Md_opens 5 = .ok (.ldc2_w 495, 3) := by decide +kernel
theorem d_Md_opens_8 : decode b_Md_opens 8 = .ok (.invokestatic 446, 3) := by decide +kernel
theorem d_Md_opens_11 : decode b_Md_opens 11 = .ok (.ifCond .eq 26, 3) := by decide +kernel
theorem d_Md_opens_37 : decode b_Md_opens 37 = .ok (.iload_n 1, 1) := by decide +kernel
theorem d_Md_opens_38 : decode b_Md_opens 38 = .ok (.i2l, 1) := by decide +kernel
theorem d_Md_opens_39 : decode b_Md_opens 39 = .ok (.ldc2_w 510, 3) := by decide +kernel
theorem d_Md_opens_42 : decode b_Md_opens 42 = .ok (.ldc2_w 512, 3) := by decide +kernel
theorem d_Md_opens_45 : decode b_Md_opens 45 = .ok (.invokestatic 446, 3) := by decide +kernel
theorem d_Md_opens_48 : decode b_Md_opens 48 = .ok (.ifCond .eq 25, 3) := by decide +kernel
theorem d_Md_opens_73 : decode b_Md_opens 73 = .ok (.iload_n 1, 1) := by decide +kernel
theorem d_Md_opens_74 : decode b_Md_opens 74 = .ok (.bipush 45, 2) := by decide +kernel
theorem d_Md_opens_76 : decode b_Md_opens 76 = .ok (.if_icmp .ne 22, 3) := by decide +kernel
theorem d_Md_opens_98 : decode b_Md_opens 98 = .ok (.iload_n 1, 1) := by decide +kernel
theorem d_Md_opens_99 : decode b_Md_opens 99 = .ok (.bipush 35, 2) := by decide +kernel
theorem d_Md_opens_101 : decode b_Md_opens 101 = .ok (.if_icmp .ne 66, 3) := by decide +kernel
theorem d_Md_opens_167 : decode b_Md_opens 167 = .ok (.iload_n 1, 1) := by decide +kernel
theorem d_Md_opens_168 : decode b_Md_opens 168 = .ok (.bipush 40, 2) := by decide +kernel
theorem d_Md_opens_170 : decode b_Md_opens 170 = .ok (.if_icmp .ne 10, 3) := by decide +kernel
theorem d_Md_opens_180 : decode b_Md_opens 180 = .ok (.iload_n 1, 1) := by decide +kernel
theorem d_Md_opens_181 : decode b_Md_opens 181 = .ok (.bipush 64, 2) := by decide +kernel
theorem d_Md_opens_183 : decode b_Md_opens 183 = .ok (.if_icmp .ne 14, 3) := by decide +kernel
theorem d_Md_opens_197 : decode b_Md_opens 197 = .ok (.iconst 0, 1) := by decide +kernel
theorem d_Md_opens_198 : decode b_Md_opens 198 = .ok (.ireturn, 1) := by decide +kernel
theorem d_Md_out_0 : decode b_Md_out 0 = .ok (.aload_n 0, 1) := by decide +kernel
theorem d_Md_out_1 : decode b_Md_out 1 = .ok (.iload_n 1, 1) := by decide +kernel
theorem d_Md_out_2 : decode b_Md_out 2 = .ok (.i2l, 1) := by decide +kernel
theorem d_Md_out_3 : decode b_Md_out 3 = .ok (.lconst 0, 1) := by decide +kernel
theorem d_Md_out_4 : decode b_Md_out 4 = .ok (.aload_n 0, 1) := by decide +kernel
theorem d_Md_out_5 : decode b_Md_out 5 = .ok (.getfield 589, 3) := by decide +kernel
theorem d_Md_out_8 : decode b_Md_out 8 = .ok (.iconst 1, 1) := by decide +kernel
theorem d_Md_out_9 : decode b_Md_out 9 = .ok (.isub, 1) := by decide +kernel
theorem d_Md_out_10 : decode b_Md_out 10 = .ok (.i2l, 1) := by decide +kernel
theorem d_Md_out_11 : decode b_Md_out 11 = .ok (.invokestatic 446, 3) := by decide +kernel
theorem d_Md_out_14 : decode b_Md_out 14 = .ok (.ifCond .ne 7, 3) := by decide +kernel
theorem d_Md_out_17 : decode b_Md_out 17 = .ok (.iconst 1, 1) := by decide +kernel
theorem d_Md_out_18 : decode b_Md_out 18 = .ok (.goto 4, 3) := by decide +kernel
theorem d_Md_out_22 : decode b_Md_out 22 = .ok (.iconst 1, 1) := by decide +kernel
theorem d_Md_out_23 : decode b_Md_out 23 = .ok (.invokevirtual 581, 3) := by decide +kernel
theorem d_Md_out_26 : decode b_Md_out 26 = .ok (.ifCond .eq 5, 3) := by decide +kernel
theorem d_Md_out_29 : decode b_Md_out 29 = .ok (.lconst 0, 1) := by decide +kernel
theorem d_Md_out_30 : decode b_Md_out 30 = .ok (.lreturn, 1) := by decide +kernel
theorem d_Md_peek_0 : decode b_Md_peek 0 = .ok (.aload_n 0, 1) := by decide +kernel
theorem d_Md_peek_1 : decode b_Md_peek 1 = .ok (.getfield 481, 3) := by decide +kernel
theorem d_Md_peek_4 : decode b_Md_peek 4 = .ok (.aload_n 0, 1) := by decide +kernel
theorem d_Md_peek_5 : decode b_Md_peek 5 = .ok (.getfield 484, 3) := by decide +kernel
theorem d_Md_peek_8 : decode b_Md_peek 8 = .ok (.if_icmp .ge 30, 3) := by decide +kernel
theorem d_Md_peek_38 : decode b_Md_peek 38 = .ok (.aload_n 0, 1) := by decide +kernel
theorem d_Md_peek_39 : decode b_Md_peek 39 = .ok (.getfield 481, 3) := by decide +kernel
theorem d_Md_peek_42 : decode b_Md_peek 42 = .ok (.aload_n 0, 1) := by decide +kernel
theorem d_Md_peek_43 : decode b_Md_peek 43 = .ok (.getfield 484, 3) := by decide +kernel
theorem d_Md_peek_46 : decode b_Md_peek 46 = .ok (.if_icmp .ge 15, 3) := by decide +kernel
theorem d_Md_peek_61 : decode b_Md_peek 61 = .ok (.iconst (-1), 1) := by decide +kernel
theorem d_Md_peek_62 : decode b_Md_peek 62 = .ok (.ireturn, 1) := by decide +kernel
theorem d_Md_put_0 : decode b_Md_put 0 = .ok (.lload_n 2, 1) := by decide +kernel
theorem d_Md_put_1 : decode b_Md_put 1 = .ok (.lconst 0, 1) := by decide +kernel
theorem d_Md_put_2 : decode b_Md_put 2 = .ok (.lcmp, 1) := by decide +kernel
theorem d_Md_put_3 : decode b_Md_put 3 = .ok (.ifCond .ge 8, 3) := by decide +kernel
theorem d_Md_put_11 : decode b_Md_put 11 = .ok (.lload_n 2, 1) := by decide +kernel
theorem d_Md_put_12 : decode b_Md_put 12 = .ok (.lstore 4, 2) := by decide +kernel
theorem d_Md_put_14 : decode b_Md_put 14 = .ok (.aload_n 0, 1) := by decide +kernel
theorem d_Md_put_15 : decode b_Md_put 15 = .ok (.getfield 41, 3) := by decide +kernel
theorem d_Md_put_18 : decode b_Md_put 18 = .ok (.iload_n 1, 1) := by decide +kernel
theorem d_Md_put_19 : decode b_Md_put 19 = .ok (.iconst 3, 1) := by decide +kernel
theorem d_Md_put_20 : decode b_Md_put 20 = .ok (.iastore, 1) := by decide +kernel
theorem d_Md_put_21 : decode b_Md_put 21 = .ok (.aload_n 0, 1) := by decide +kernel
theorem d_Md_put_22 : decode b_Md_put 22 = .ok (.getfield 44, 3) := by decide +kernel
theorem d_Md_put_25 : decode b_Md_put 25 = .ok (.iload_n 1, 1) := by decide +kernel
theorem d_Md_put_26 : decode b_Md_put 26 = .ok (.lload_n 2, 1) := by decide +kernel
theorem d_Md_put_27 : decode b_Md_put 27 = .ok (.lconst 0, 1) := by decide +kernel
theorem d_Md_put_28 : decode b_Md_put 28 = .ok (.lcmp, 1) := by decide +kernel
theorem d_Md_put_29 : decode b_Md_put 29 = .ok (.ifCond .ge 7, 3) := by decide +kernel
theorem d_Md_put_36 : decode b_Md_put 36 = .ok (.iconst 1, 1) := by decide +kernel
theorem d_Md_put_37 : decode b_Md_put 37 = .ok (.iastore, 1) := by decide +kernel
theorem d_Md_put_38 : decode b_Md_put 38 = .ok (.iconst 0, 1) := by decide +kernel
theorem d_Md_put_39 : decode b_Md_put 39 = .ok (.istore 6, 2) := by decide +kernel
theorem d_Md_put_41 : decode b_Md_put 41 = .ok (.iload 6, 2) := by decide +kernel
theorem d_Md_put_43 : decode b_Md_put 43 = .ok (.iconst 3, 1) := by decide +kernel
theorem d_Md_put_44 : decode b_Md_put 44 = .ok (.if_icmp .ge 34, 3) := by decide +kernel
theorem d_Md_put_47 : decode b_Md_put 47 = .ok (.aload_n 0, 1) := by decide +kernel
end
section
/-! what each instruction is; laid by program -/
theorem d_Md_put_48 : decode b_Md_put 48 = .ok (.getfield 38, 3) := by decide +kernel
theorem d_Md_put_51 : decode b_Md_put 51 = .ok (.sipush 660, 3) := by decide +kernel
theorem d_Md_put_54 : decode b_Md_put 54 = .ok (.iload_n 1, 1) := by decide +kernel
theorem d_Md_put_55 : decode b_Md_put 55 = .ok (.imul, 1) := by decide +kernel
theorem d_Md_put_56 : decode b_Md_put 56 = .ok (.iload 6, 2) := by decide +kernel
theorem d_Md_put_58 : decode b_Md_put 58 = .ok (.iadd, 1) := by decide +kernel
theorem d_Md_put_59 : decode b_Md_put 59 = .ok (.lload 4, 2) := by decide +kernel
theorem d_Md_put_61 : decode b_Md_put 61 = .ok (.bipush 28, 2) := by decide +kernel
theorem d_Md_put_63 : decode b_Md_put 63 = .ok (.iload 6, 2) := by decide +kernel
theorem d_Md_put_65 : decode b_Md_put 65 = .ok (.imul, 1) := by decide +kernel
theorem d_Md_put_66 : decode b_Md_put 66 = .ok (.lushr, 1) := by decide +kernel
theorem d_Md_put_67 : decode b_Md_put 67 = .ok (.ldc2_w 157, 3) := by decide +kernel
theorem d_Md_put_70 : decode b_Md_put 70 = .ok (.land, 1) := by decide +kernel
theorem d_Md_put_71 : decode b_Md_put 71 = .ok (.lastore, 1) := by decide +kernel
theorem d_Md_put_72 : decode b_Md_put 72 = .ok (.iinc 6 1, 3) := by decide +kernel
theorem d_Md_put_75 : decode b_Md_put 75 = .ok (.goto (-34), 3) := by decide +kernel
theorem d_Md_put_78 : decode b_Md_put 78 = .ok (.aload_n 0, 1) := by decide +kernel
theorem d_Md_put_79 : decode b_Md_put 79 = .ok (.iload_n 1, 1) := by decide +kernel
theorem d_Md_put_80 : decode b_Md_put 80 = .ok (.invokevirtual 159, 3) := by decide +kernel
theorem d_Md_put_83 : decode b_Md_put 83 = .ok (.return_, 1) := by decide +kernel
theorem d_Md_roots_0 : decode b_Md_roots 0 = .ok (.aload_n 0, 1) := by decide +kernel
theorem d_Md_roots_1 : decode b_Md_roots 1 = .ok (.iload_n 1, 1) := by decide +kernel
theorem d_Md_roots_2 : decode b_Md_roots 2 = .ok (.invokevirtual 597, 3) := by decide +kernel
theorem d_Md_roots_5 : decode b_Md_roots 5 = .ok (.ifCond .eq 7, 3) := by decide +kernel
theorem d_Md_roots_8 : decode b_Md_roots 8 = .ok (.iconst 0, 1) := by decide +kernel
theorem d_Md_roots_9 : decode b_Md_roots 9 = .ok (.goto 9, 3) := by decide +kernel
theorem d_Md_roots_12 : decode b_Md_roots 12 = .ok (.aload_n 0, 1) := by decide +kernel
theorem d_Md_roots_13 : decode b_Md_roots 13 = .ok (.getfield 34, 3) := by decide +kernel
theorem d_Md_roots_16 : decode b_Md_roots 16 = .ok (.iload_n 1, 1) := by decide +kernel
theorem d_Md_roots_17 : decode b_Md_roots 17 = .ok (.iaload, 1) := by decide +kernel
theorem d_Md_roots_18 : decode b_Md_roots 18 = .ok (.ireturn, 1) := by decide +kernel
theorem d_Md_says_0 : decode b_Md_says 0 = .ok (.aload_n 0, 1) := by decide +kernel
theorem d_Md_says_1 : decode b_Md_says 1 = .ok (.getfield 44, 3) := by decide +kernel
theorem d_Md_says_4 : decode b_Md_says 4 = .ok (.bipush 19, 2) := by decide +kernel
theorem d_Md_says_6 : decode b_Md_says 6 = .ok (.iaload, 1) := by decide +kernel
theorem d_Md_says_7 : decode b_Md_says 7 = .ok (.ifCond .ge 9, 3) := by decide +kernel
theorem d_Md_says_16 : decode b_Md_says 16 = .ok (.aload_n 0, 1) := by decide +kernel
theorem d_Md_says_17 : decode b_Md_says 17 = .ok (.getfield 44, 3) := by decide +kernel
theorem d_Md_says_20 : decode b_Md_says 20 = .ok (.bipush 19, 2) := by decide +kernel
theorem d_Md_says_22 : decode b_Md_says 22 = .ok (.aload_n 0, 1) := by decide +kernel
theorem d_Md_says_23 : decode b_Md_says 23 = .ok (.getfield 44, 3) := by decide +kernel
theorem d_Md_says_26 : decode b_Md_says 26 = .ok (.bipush 19, 2) := by decide +kernel
theorem d_Md_says_28 : decode b_Md_says 28 = .ok (.iaload, 1) := by decide +kernel
theorem d_Md_says_29 : decode b_Md_says 29 = .ok (.ifCond .ne 7, 3) := by decide +kernel
theorem d_Md_says_32 : decode b_Md_says 32 = .ok (.iconst 0, 1) := by decide +kernel
theorem d_Md_says_33 : decode b_Md_says 33 = .ok (.goto 4, 3) := by decide +kernel
theorem d_Md_says_36 : decode b_Md_says 36 = .ok (.iconst 1, 1) := by decide +kernel
theorem d_Md_says_37 : decode b_Md_says 37 = .ok (.iastore, 1) := by decide +kernel
theorem d_Md_says_38 : decode b_Md_says 38 = .ok (.aload_n 0, 1) := by decide +kernel
theorem d_Md_says_39 : decode b_Md_says 39 = .ok (.getfield 589, 3) := by decide +kernel
theorem d_Md_says_42 : decode b_Md_says 42 = .ok (.istore_n 1, 1) := by decide +kernel
theorem d_Md_says_43 : decode b_Md_says 43 = .ok (.aload_n 0, 1) := by decide +kernel
theorem d_Md_says_44 : decode b_Md_says 44 = .ok (.iconst 1, 1) := by decide +kernel
theorem d_Md_says_45 : decode b_Md_says 45 = .ok (.ldc2_w 499, 3) := by decide +kernel
theorem d_Md_says_48 : decode b_Md_says 48 = .ok (.invokevirtual 175, 3) := by decide +kernel
theorem d_Md_says_51 : decode b_Md_says 51 = .ok (.iconst 1, 1) := by decide +kernel
theorem d_Md_says_52 : decode b_Md_says 52 = .ok (.istore_n 2, 1) := by decide +kernel
theorem d_Md_says_53 : decode b_Md_says 53 = .ok (.iload_n 2, 1) := by decide +kernel
theorem d_Md_says_54 : decode b_Md_says 54 = .ok (.ifCond .eq 46, 3) := by decide +kernel
theorem d_Md_says_57 : decode b_Md_says 57 = .ok (.aload_n 0, 1) := by decide +kernel
theorem d_Md_says_58 : decode b_Md_says 58 = .ok (.bipush 19, 2) := by decide +kernel
theorem d_Md_says_60 : decode b_Md_says 60 = .ok (.iconst 2, 1) := by decide +kernel
theorem d_Md_says_61 : decode b_Md_says 61 = .ok (.bipush 19, 2) := by decide +kernel
theorem d_Md_says_63 : decode b_Md_says 63 = .ok (.iconst 1, 1) := by decide +kernel
theorem d_Md_says_64 : decode b_Md_says 64 = .ok (.invokevirtual 188, 3) := by decide +kernel
theorem d_Md_says_67 : decode b_Md_says 67 = .ok (.aload_n 0, 1) := by decide +kernel
theorem d_Md_says_68 : decode b_Md_says 68 = .ok (.bipush 48, 2) := by decide +kernel
theorem d_Md_says_70 : decode b_Md_says 70 = .ok (.aload_n 0, 1) := by decide +kernel
theorem d_Md_says_71 : decode b_Md_says 71 = .ok (.iconst 2, 1) := by decide +kernel
theorem d_Md_says_72 : decode b_Md_says 72 = .ok (.iconst 0, 1) := by decide +kernel
theorem d_Md_says_73 : decode b_Md_says 73 = .ok (.invokevirtual 167, 3) := by decide +kernel
theorem d_Md_says_76 : decode b_Md_says 76 = .ok (.l2i, 1) := by decide +kernel
theorem d_Md_says_77 : decode b_Md_says 77 = .ok (.iadd, 1) := by decide +kernel
theorem d_Md_says_78 : decode b_Md_says 78 = .ok (.invokevirtual 608, 3) := by decide +kernel
theorem d_Md_says_81 : decode b_Md_says 81 = .ok (.aload_n 0, 1) := by decide +kernel
theorem d_Md_says_82 : decode b_Md_says 82 = .ok (.getfield 44, 3) := by decide +kernel
theorem d_Md_says_85 : decode b_Md_says 85 = .ok (.bipush 19, 2) := by decide +kernel
theorem d_Md_says_87 : decode b_Md_says 87 = .ok (.iaload, 1) := by decide +kernel
theorem d_Md_says_88 : decode b_Md_says 88 = .ok (.ifCond .eq 7, 3) := by decide +kernel
theorem d_Md_says_95 : decode b_Md_says 95 = .ok (.iconst 0, 1) := by decide +kernel
theorem d_Md_says_96 : decode b_Md_says 96 = .ok (.istore_n 2, 1) := by decide +kernel
theorem d_Md_says_97 : decode b_Md_says 97 = .ok (.goto (-44), 3) := by decide +kernel
theorem d_Md_says_100 : decode b_Md_says 100 = .ok (.iload_n 1, 1) := by decide +kernel
theorem d_Md_says_101 : decode b_Md_says 101 = .ok (.istore_n 3, 1) := by decide +kernel
theorem d_Md_says_102 : decode b_Md_says 102 = .ok (.aload_n 0, 1) := by decide +kernel
theorem d_Md_says_103 : decode b_Md_says 103 = .ok (.getfield 589, 3) := by decide +kernel
theorem d_Md_says_106 : decode b_Md_says 106 = .ok (.iconst 1, 1) := by decide +kernel
theorem d_Md_says_107 : decode b_Md_says 107 = .ok (.isub, 1) := by decide +kernel
theorem d_Md_says_108 : decode b_Md_says 108 = .ok (.istore 4, 2) := by decide +kernel
theorem d_Md_says_110 : decode b_Md_says 110 = .ok (.iload_n 3, 1) := by decide +kernel
theorem d_Md_says_111 : decode b_Md_says 111 = .ok (.iload 4, 2) := by decide +kernel
theorem d_Md_says_113 : decode b_Md_says 113 = .ok (.if_icmp .ge 42, 3) := by decide +kernel
theorem d_Md_says_155 : decode b_Md_says 155 = .ok (.return_, 1) := by decide +kernel
theorem d_Md_seats_0 : decode b_Md_seats 0 = .ok (.aload_n 0, 1) := by decide +kernel
theorem d_Md_seats_1 : decode b_Md_seats 1 = .ok (.getfield 59, 3) := by decide +kernel
theorem d_Md_seats_4 : decode b_Md_seats 4 = .ok (.iconst 0, 1) := by decide +kernel
theorem d_Md_seats_5 : decode b_Md_seats 5 = .ok (.bipush 101, 2) := by decide +kernel
theorem d_Md_seats_7 : decode b_Md_seats 7 = .ok (.iastore, 1) := by decide +kernel
theorem d_Md_seats_8 : decode b_Md_seats 8 = .ok (.aload_n 0, 1) := by decide +kernel
theorem d_Md_seats_9 : decode b_Md_seats 9 = .ok (.getfield 59, 3) := by decide +kernel
theorem d_Md_seats_12 : decode b_Md_seats 12 = .ok (.iconst 1, 1) := by decide +kernel
theorem d_Md_seats_13 : decode b_Md_seats 13 = .ok (.bipush 110, 2) := by decide +kernel
theorem d_Md_seats_15 : decode b_Md_seats 15 = .ok (.iastore, 1) := by decide +kernel
theorem d_Md_seats_16 : decode b_Md_seats 16 = .ok (.aload_n 0, 1) := by decide +kernel
theorem d_Md_seats_17 : decode b_Md_seats 17 = .ok (.getfield 65, 3) := by decide +kernel
theorem d_Md_seats_20 : decode b_Md_seats 20 = .ok (.iconst 0, 1) := by decide +kernel
theorem d_Md_seats_21 : decode b_Md_seats 21 = .ok (.bipush 119, 2) := by decide +kernel
theorem d_Md_seats_23 : decode b_Md_seats 23 = .ok (.iastore, 1) := by decide +kernel
theorem d_Md_seats_24 : decode b_Md_seats 24 = .ok (.aload_n 0, 1) := by decide +kernel
theorem d_Md_seats_25 : decode b_Md_seats 25 = .ok (.getfield 65, 3) := by decide +kernel
theorem d_Md_seats_28 : decode b_Md_seats 28 = .ok (.iconst 1, 1) := by decide +kernel
theorem d_Md_seats_29 : decode b_Md_seats 29 = .ok (.bipush 120, 2) := by decide +kernel
theorem d_Md_seats_31 : decode b_Md_seats 31 = .ok (.iastore, 1) := by decide +kernel
theorem d_Md_seats_32 : decode b_Md_seats 32 = .ok (.return_, 1) := by decide +kernel
theorem d_Md_thrown_0 : decode b_Md_thrown 0 = .ok (.aload_n 0, 1) := by decide +kernel
theorem d_Md_thrown_1 : decode b_Md_thrown 1 = .ok (.getfield 154, 3) := by decide +kernel
theorem d_Md_thrown_4 : decode b_Md_thrown 4 = .ok (.ireturn, 1) := by decide +kernel
theorem d_Md_write_0 : decode b_Md_write 0 = .ok (.aload_n 0, 1) := by decide +kernel
theorem d_Md_write_1 : decode b_Md_write 1 = .ok (.iload_n 1, 1) := by decide +kernel
theorem d_Md_write_2 : decode b_Md_write 2 = .ok (.invokevirtual 597, 3) := by decide +kernel
theorem d_Md_write_5 : decode b_Md_write 5 = .ok (.ifCond .eq 5, 3) := by decide +kernel
theorem d_Md_write_8 : decode b_Md_write 8 = .ok (.iconst 0, 1) := by decide +kernel
theorem d_Md_write_9 : decode b_Md_write 9 = .ok (.ireturn, 1) := by decide +kernel
theorem d_Md_write_10 : decode b_Md_write 10 = .ok (.aload_n 0, 1) := by decide +kernel
theorem d_Md_write_11 : decode b_Md_write 11 = .ok (.iconst 0, 1) := by decide +kernel
theorem d_Md_write_12 : decode b_Md_write 12 = .ok (.putfield 589, 3) := by decide +kernel
theorem d_Md_write_15 : decode b_Md_write 15 = .ok (.aload_n 0, 1) := by decide +kernel
theorem d_Md_write_16 : decode b_Md_write 16 = .ok (.bipush 91, 2) := by decide +kernel
theorem d_Md_write_18 : decode b_Md_write 18 = .ok (.invokevirtual 608, 3) := by decide +kernel
theorem d_Md_write_21 : decode b_Md_write 21 = .ok (.iconst 0, 1) := by decide +kernel
theorem d_Md_write_22 : decode b_Md_write 22 = .ok (.istore_n 2, 1) := by decide +kernel
theorem d_Md_write_23 : decode b_Md_write 23 = .ok (.iload_n 2, 1) := by decide +kernel
theorem d_Md_write_24 : decode b_Md_write 24 = .ok (.aload_n 0, 1) := by decide +kernel
theorem d_Md_write_25 : decode b_Md_write 25 = .ok (.getfield 24, 3) := by decide +kernel
theorem d_Md_write_28 : decode b_Md_write 28 = .ok (.iload_n 1, 1) := by decide +kernel
theorem d_Md_write_29 : decode b_Md_write 29 = .ok (.iaload, 1) := by decide +kernel
theorem d_Md_write_30 : decode b_Md_write 30 = .ok (.if_icmp .gt 40, 3) := by decide +kernel
theorem d_Md_write_33 : decode b_Md_write 33 = .ok (.iload_n 2, 1) := by decide +kernel
theorem d_Md_write_34 : decode b_Md_write 34 = .ok (.ifCond .le 9, 3) := by decide +kernel
theorem d_Md_write_37 : decode b_Md_write 37 = .ok (.aload_n 0, 1) := by decide +kernel
theorem d_Md_write_38 : decode b_Md_write 38 = .ok (.bipush 44, 2) := by decide +kernel
theorem d_Md_write_40 : decode b_Md_write 40 = .ok (.invokevirtual 608, 3) := by decide +kernel
theorem d_Md_write_43 : decode b_Md_write 43 = .ok (.aload_n 0, 1) := by decide +kernel
theorem d_Md_write_44 : decode b_Md_write 44 = .ok (.bipush 19, 2) := by decide +kernel
theorem d_Md_write_46 : decode b_Md_write 46 = .ok (.aload_n 0, 1) := by decide +kernel
theorem d_Md_write_47 : decode b_Md_write 47 = .ok (.getfield 27, 3) := by decide +kernel
theorem d_Md_write_50 : decode b_Md_write 50 = .ok (.bipush 7, 2) := by decide +kernel
theorem d_Md_write_52 : decode b_Md_write 52 = .ok (.iload_n 1, 1) := by decide +kernel
theorem d_Md_write_53 : decode b_Md_write 53 = .ok (.imul, 1) := by decide +kernel
theorem d_Md_write_54 : decode b_Md_write 54 = .ok (.iload_n 2, 1) := by decide +kernel
theorem d_Md_write_55 : decode b_Md_write 55 = .ok (.iadd, 1) := by decide +kernel
theorem d_Md_write_56 : decode b_Md_write 56 = .ok (.laload, 1) := by decide +kernel
theorem d_Md_write_57 : decode b_Md_write 57 = .ok (.invokevirtual 175, 3) := by decide +kernel
theorem d_Md_write_60 : decode b_Md_write 60 = .ok (.aload_n 0, 1) := by decide +kernel
theorem d_Md_write_61 : decode b_Md_write 61 = .ok (.invokevirtual 605, 3) := by decide +kernel
theorem d_Md_write_64 : decode b_Md_write 64 = .ok (.iinc 2 1, 3) := by decide +kernel
theorem d_Md_write_67 : decode b_Md_write 67 = .ok (.goto (-44), 3) := by decide +kernel
theorem d_Md_write_70 : decode b_Md_write 70 = .ok (.aload_n 0, 1) := by decide +kernel
theorem d_Md_write_71 : decode b_Md_write 71 = .ok (.bipush 93, 2) := by decide +kernel
theorem d_Md_write_73 : decode b_Md_write 73 = .ok (.invokevirtual 608, 3) := by decide +kernel
theorem d_Md_write_76 : decode b_Md_write 76 = .ok (.aload_n 0, 1) := by decide +kernel
theorem d_Md_write_77 : decode b_Md_write 77 = .ok (.bipush 35, 2) := by decide +kernel
theorem d_Md_write_79 : decode b_Md_write 79 = .ok (.invokevirtual 608, 3) := by decide +kernel
theorem d_Md_write_82 : decode b_Md_write 82 = .ok (.aload_n 0, 1) := by decide +kernel
theorem d_Md_write_83 : decode b_Md_write 83 = .ok (.bipush 19, 2) := by decide +kernel
theorem d_Md_write_85 : decode b_Md_write 85 = .ok (.aload_n 0, 1) := by decide +kernel
theorem d_Md_write_86 : decode b_Md_write 86 = .ok (.getfield 31, 3) := by decide +kernel
theorem d_Md_write_89 : decode b_Md_write 89 = .ok (.iload_n 1, 1) := by decide +kernel
theorem d_Md_write_90 : decode b_Md_write 90 = .ok (.iaload, 1) := by decide +kernel
theorem d_Md_write_91 : decode b_Md_write 91 = .ok (.i2l, 1) := by decide +kernel
theorem d_Md_write_92 : decode b_Md_write 92 = .ok (.invokevirtual 175, 3) := by decide +kernel
theorem d_Md_write_95 : decode b_Md_write 95 = .ok (.aload_n 0, 1) := by decide +kernel
theorem d_Md_write_96 : decode b_Md_write 96 = .ok (.invokevirtual 605, 3) := by decide +kernel
theorem d_Md_write_99 : decode b_Md_write 99 = .ok (.aload_n 0, 1) := by decide +kernel
theorem d_Md_write_100 : decode b_Md_write 100 = .ok (.getfield 589, 3) := by decide +kernel
theorem d_Md_write_103 : decode b_Md_write 103 = .ok (.ireturn, 1) := by decide +kernel
theorem d_Padic_init_0 : decode b_Padic_init 0 = .ok (.aload_n 0, 1) := by decide +kernel
theorem d_Padic_init_1 : decode b_Padic_init 1 = .ok (.invokespecial 7, 3) := by decide +kernel
theorem d_Padic_init_4 : decode b_Padic_init 4 = .ok (.aload_n 0, 1) := by decide +kernel
theorem d_Padic_init_5 : decode b_Padic_init 5 = .ok (.iconst 3, 1) := by decide +kernel
theorem d_Padic_init_6 : decode b_Padic_init 6 = .ok (.putfield 13, 3) := by decide +kernel
theorem d_Padic_init_9 : decode b_Padic_init 9 = .ok (.aload_n 0, 1) := by decide +kernel
theorem d_Padic_init_10 : decode b_Padic_init 10 = .ok (.new 17, 3) := by decide +kernel
theorem d_Padic_init_13 : decode b_Padic_init 13 = .ok (.dup, 1) := by decide +kernel
theorem d_Padic_init_14 : decode b_Padic_init 14 = .ok (.bipush 28, 2) := by decide +kernel
theorem d_Padic_init_16 : decode b_Padic_init 16 = .ok (.invokespecial 19, 3) := by decide +kernel
theorem d_Padic_init_19 : decode b_Padic_init 19 = .ok (.putfield 22, 3) := by decide +kernel
theorem d_Padic_init_22 : decode b_Padic_init 22 = .ok (.return_, 1) := by decide +kernel
theorem d_Poly_init_0 : decode b_Poly_init 0 = .ok (.aload_n 0, 1) := by decide +kernel
theorem d_Poly_init_1 : decode b_Poly_init 1 = .ok (.invokespecial 1, 3) := by decide +kernel
theorem d_Poly_init_4 : decode b_Poly_init 4 = .ok (.aload_n 0, 1) := by decide +kernel
theorem d_Poly_init_5 : decode b_Poly_init 5 = .ok (.bipush 13, 2) := by decide +kernel
theorem d_Poly_init_7 : decode b_Poly_init 7 = .ok (.anewarray 9, 3) := by decide +kernel
theorem d_Poly_init_10 : decode b_Poly_init 10 = .ok (.putfield 11, 3) := by decide +kernel
theorem d_Poly_init_13 : decode b_Poly_init 13 = .ok (.iconst 0, 1) := by decide +kernel
theorem d_Poly_init_14 : decode b_Poly_init 14 = .ok (.istore_n 1, 1) := by decide +kernel
theorem d_Poly_init_15 : decode b_Poly_init 15 = .ok (.iload_n 1, 1) := by decide +kernel
theorem d_Poly_init_16 : decode b_Poly_init 16 = .ok (.bipush 12, 2) := by decide +kernel
theorem d_Poly_init_18 : decode b_Poly_init 18 = .ok (.if_icmp .gt 24, 3) := by decide +kernel
theorem d_Poly_init_21 : decode b_Poly_init 21 = .ok (.aload_n 0, 1) := by decide +kernel
theorem d_Poly_init_22 : decode b_Poly_init 22 = .ok (.getfield 11, 3) := by decide +kernel
theorem d_Poly_init_25 : decode b_Poly_init 25 = .ok (.iload_n 1, 1) := by decide +kernel
theorem d_Poly_init_26 : decode b_Poly_init 26 = .ok (.new 9, 3) := by decide +kernel
theorem d_Poly_init_29 : decode b_Poly_init 29 = .ok (.dup, 1) := by decide +kernel
theorem d_Poly_init_30 : decode b_Poly_init 30 = .ok (.bipush 28, 2) := by decide +kernel
theorem d_Poly_init_32 : decode b_Poly_init 32 = .ok (.invokespecial 15, 3) := by decide +kernel
theorem d_Poly_init_35 : decode b_Poly_init 35 = .ok (.aastore, 1) := by decide +kernel
theorem d_Poly_init_36 : decode b_Poly_init 36 = .ok (.iinc 1 1, 3) := by decide +kernel
theorem d_Poly_init_39 : decode b_Poly_init 39 = .ok (.goto (-24), 3) := by decide +kernel
theorem d_Poly_init_42 : decode b_Poly_init 42 = .ok (.return_, 1) := by decide +kernel
theorem d_RA_coefficient_0 : decode b_RA_coefficient 0 = .ok (.aload_n 0, 1) := by decide +kernel
theorem d_RA_coefficient_1 : decode b_RA_coefficient 1 = .ok (.iload_n 1, 1) := by decide +kernel
theorem d_RA_coefficient_2 : decode b_RA_coefficient 2 = .ok (.invokevirtual 123, 3) := by decide +kernel
theorem d_RA_coefficient_5 : decode b_RA_coefficient 5 = .ok (.ifCond .ne 11, 3) := by decide +kernel
theorem d_RA_coefficient_16 : decode b_RA_coefficient 16 = .ok (.aload_n 0, 1) := by decide +kernel
theorem d_RA_coefficient_17 : decode b_RA_coefficient 17 = .ok (.getfield 30, 3) := by decide +kernel
theorem d_RA_coefficient_20 : decode b_RA_coefficient 20 = .ok (.iload_n 1, 1) := by decide +kernel
theorem d_RA_coefficient_21 : decode b_RA_coefficient 21 = .ok (.aaload, 1) := by decide +kernel
theorem d_RA_coefficient_22 : decode b_RA_coefficient 22 = .ok (.astore_n 3, 1) := by decide +kernel
theorem d_RA_coefficient_23 : decode b_RA_coefficient 23 = .ok (.aload_n 3, 1) := by decide +kernel
theorem d_RA_coefficient_24 : decode b_RA_coefficient 24 = .ok (.getfield 126, 3) := by decide +kernel
theorem d_RA_coefficient_27 : decode b_RA_coefficient 27 = .ok (.ifCond .eq 15, 3) := by decide +kernel
theorem d_RA_coefficient_30 : decode b_RA_coefficient 30 = .ok (.iload_n 2, 1) := by decide +kernel
theorem d_RA_coefficient_31 : decode b_RA_coefficient 31 = .ok (.ifCond .lt 11, 3) := by decide +kernel
theorem d_RA_coefficient_34 : decode b_RA_coefficient 34 = .ok (.iload_n 2, 1) := by decide +kernel
theorem d_RA_coefficient_35 : decode b_RA_coefficient 35 = .ok (.aload_n 3, 1) := by decide +kernel
theorem d_RA_coefficient_36 : decode b_RA_coefficient 36 = .ok (.getfield 126, 3) := by decide +kernel
theorem d_RA_coefficient_39 : decode b_RA_coefficient 39 = .ok (.if_icmp .le 11, 3) := by decide +kernel
theorem d_RA_coefficient_50 : decode b_RA_coefficient 50 = .ok (.aload_n 3, 1) := by decide +kernel
theorem d_RA_coefficient_51 : decode b_RA_coefficient 51 = .ok (.getfield 132, 3) := by decide +kernel
theorem d_RA_coefficient_54 : decode b_RA_coefficient 54 = .ok (.iload_n 2, 1) := by decide +kernel
theorem d_RA_coefficient_55 : decode b_RA_coefficient 55 = .ok (.iaload, 1) := by decide +kernel
theorem d_RA_coefficient_56 : decode b_RA_coefficient 56 = .ok (.ireturn, 1) := by decide +kernel
theorem d_RA_compare_0 : decode b_RA_compare 0 = .ok (.aload_n 0, 1) := by decide +kernel
theorem d_RA_compare_1 : decode b_RA_compare 1 = .ok (.iload_n 1, 1) := by decide +kernel
theorem d_RA_compare_2 : decode b_RA_compare 2 = .ok (.invokevirtual 123, 3) := by decide +kernel
theorem d_RA_compare_5 : decode b_RA_compare 5 = .ok (.ifCond .eq 11, 3) := by decide +kernel
theorem d_RA_compare_8 : decode b_RA_compare 8 = .ok (.aload_n 0, 1) := by decide +kernel
theorem d_RA_compare_9 : decode b_RA_compare 9 = .ok (.iload_n 2, 1) := by decide +kernel
theorem d_RA_compare_10 : decode b_RA_compare 10 = .ok (.invokevirtual 123, 3) := by decide +kernel
theorem d_RA_compare_13 : decode b_RA_compare 13 = .ok (.ifCond .ne 11, 3) := by decide +kernel
theorem d_RA_compare_24 : decode b_RA_compare 24 = .ok (.aload_n 0, 1) := by decide +kernel
theorem d_RA_compare_25 : decode b_RA_compare 25 = .ok (.getfield 30, 3) := by decide +kernel
theorem d_RA_compare_28 : decode b_RA_compare 28 = .ok (.iload_n 1, 1) := by decide +kernel
theorem d_RA_compare_29 : decode b_RA_compare 29 = .ok (.aaload, 1) := by decide +kernel
theorem d_RA_compare_30 : decode b_RA_compare 30 = .ok (.getfield 126, 3) := by decide +kernel
theorem d_RA_compare_33 : decode b_RA_compare 33 = .ok (.ifCond .eq 15, 3) := by decide +kernel
theorem d_RA_compare_36 : decode b_RA_compare 36 = .ok (.aload_n 0, 1) := by decide +kernel
theorem d_RA_compare_37 : decode b_RA_compare 37 = .ok (.getfield 30, 3) := by decide +kernel
theorem d_RA_compare_40 : decode b_RA_compare 40 = .ok (.iload_n 2, 1) := by decide +kernel
theorem d_RA_compare_41 : decode b_RA_compare 41 = .ok (.aaload, 1) := by decide +kernel
theorem d_RA_compare_42 : decode b_RA_compare 42 = .ok (.getfield 126, 3) := by decide +kernel
theorem d_RA_compare_45 : decode b_RA_compare 45 = .ok (.ifCond .ne 11, 3) := by decide +kernel
theorem d_RA_compare_56 : decode b_RA_compare 56 = .ok (.aload_n 0, 1) := by decide +kernel
theorem d_RA_compare_57 : decode b_RA_compare 57 = .ok (.getfield 51, 3) := by decide +kernel
theorem d_RA_compare_60 : decode b_RA_compare 60 = .ok (.getfield 141, 3) := by decide +kernel
theorem d_RA_compare_63 : decode b_RA_compare 63 = .ok (.aload_n 0, 1) := by decide +kernel
theorem d_RA_compare_64 : decode b_RA_compare 64 = .ok (.getfield 30, 3) := by decide +kernel
theorem d_RA_compare_67 : decode b_RA_compare 67 = .ok (.iload_n 1, 1) := by decide +kernel
theorem d_RA_compare_68 : decode b_RA_compare 68 = .ok (.aaload, 1) := by decide +kernel
theorem d_RA_compare_69 : decode b_RA_compare 69 = .ok (.aload_n 0, 1) := by decide +kernel
theorem d_RA_compare_70 : decode b_RA_compare 70 = .ok (.getfield 30, 3) := by decide +kernel
theorem d_RA_compare_73 : decode b_RA_compare 73 = .ok (.iload_n 2, 1) := by decide +kernel
theorem d_RA_compare_74 : decode b_RA_compare 74 = .ok (.aaload, 1) := by decide +kernel
theorem d_RA_compare_75 : decode b_RA_compare 75 = .ok (.invokevirtual 145, 3) := by decide +kernel
theorem d_RA_compare_78 : decode b_RA_compare 78 = .ok (.ireturn, 1) := by decide +kernel
theorem d_RA_degree_0 : decode b_RA_degree 0 = .ok (.aload_n 0, 1) := by decide +kernel
theorem d_RA_degree_1 : decode b_RA_degree 1 = .ok (.iload_n 1, 1) := by decide +kernel
theorem d_RA_degree_2 : decode b_RA_degree 2 = .ok (.invokevirtual 123, 3) := by decide +kernel
theorem d_RA_degree_5 : decode b_RA_degree 5 = .ok (.ifCond .ne 11, 3) := by decide +kernel
theorem d_RA_degree_16 : decode b_RA_degree 16 = .ok (.aload_n 0, 1) := by decide +kernel
theorem d_RA_degree_17 : decode b_RA_degree 17 = .ok (.getfield 30, 3) := by decide +kernel
theorem d_RA_degree_20 : decode b_RA_degree 20 = .ok (.iload_n 1, 1) := by decide +kernel
theorem d_RA_degree_21 : decode b_RA_degree 21 = .ok (.aaload, 1) := by decide +kernel
theorem d_RA_degree_22 : decode b_RA_degree 22 = .ok (.getfield 126, 3) := by decide +kernel
theorem d_RA_degree_25 : decode b_RA_degree 25 = .ok (.ireturn, 1) := by decide +kernel
theorem d_RA_drop_0 : decode b_RA_drop 0 = .ok (.iload_n 1, 1) := by decide +kernel
theorem d_RA_drop_1 : decode b_RA_drop 1 = .ok (.ifCond .lt 9, 3) := by decide +kernel
theorem d_RA_drop_4 : decode b_RA_drop 4 = .ok (.iload_n 1, 1) := by decide +kernel
theorem d_RA_drop_5 : decode b_RA_drop 5 = .ok (.bipush 16, 2) := by decide +kernel
theorem d_RA_drop_7 : decode b_RA_drop 7 = .ok (.if_icmp .lt 11, 3) := by decide +kernel
theorem d_RA_drop_18 : decode b_RA_drop 18 = .ok (.aload_n 0, 1) := by decide +kernel
theorem d_RA_drop_19 : decode b_RA_drop 19 = .ok (.getfield 30, 3) := by decide +kernel
theorem d_RA_drop_22 : decode b_RA_drop 22 = .ok (.iload_n 1, 1) := by decide +kernel
theorem d_RA_drop_23 : decode b_RA_drop 23 = .ok (.aaload, 1) := by decide +kernel
theorem d_RA_drop_24 : decode b_RA_drop 24 = .ok (.getfield 126, 3) := by decide +kernel
theorem d_RA_drop_27 : decode b_RA_drop 27 = .ok (.ifCond .eq 7, 3) := by decide +kernel
theorem d_RA_drop_34 : decode b_RA_drop 34 = .ok (.iconst 0, 1) := by decide +kernel
theorem d_RA_drop_35 : decode b_RA_drop 35 = .ok (.istore_n 2, 1) := by decide +kernel
theorem d_RA_drop_36 : decode b_RA_drop 36 = .ok (.aload_n 0, 1) := by decide +kernel
theorem d_RA_drop_37 : decode b_RA_drop 37 = .ok (.getfield 30, 3) := by decide +kernel
theorem d_RA_drop_40 : decode b_RA_drop 40 = .ok (.iload_n 1, 1) := by decide +kernel
theorem d_RA_drop_41 : decode b_RA_drop 41 = .ok (.aaload, 1) := by decide +kernel
theorem d_RA_drop_42 : decode b_RA_drop 42 = .ok (.iconst 0, 1) := by decide +kernel
theorem d_RA_drop_43 : decode b_RA_drop 43 = .ok (.putfield 126, 3) := by decide +kernel
theorem d_RA_drop_46 : decode b_RA_drop 46 = .ok (.iload_n 2, 1) := by decide +kernel
theorem d_RA_drop_47 : decode b_RA_drop 47 = .ok (.ireturn, 1) := by decide +kernel
theorem d_RA_feed_0 : decode b_RA_feed 0 = .ok (.iload_n 1, 1) := by decide +kernel
theorem d_RA_feed_1 : decode b_RA_feed 1 = .ok (.iconst 1, 1) := by decide +kernel
theorem d_RA_feed_2 : decode b_RA_feed 2 = .ok (.if_icmp .lt 9, 3) := by decide +kernel
theorem d_RA_feed_5 : decode b_RA_feed 5 = .ok (.iload_n 1, 1) := by decide +kernel
theorem d_RA_feed_6 : decode b_RA_feed 6 = .ok (.bipush 8, 2) := by decide +kernel
theorem d_RA_feed_8 : decode b_RA_feed 8 = .ok (.if_icmp .le 11, 3) := by decide +kernel
theorem d_RA_feed_19 : decode b_RA_feed 19 = .ok (.aload_n 0, 1) := by decide +kernel
theorem d_RA_feed_20 : decode b_RA_feed 20 = .ok (.getfield 62, 3) := by decide +kernel
theorem d_RA_feed_23 : decode b_RA_feed 23 = .ok (.iload_n 1, 1) := by decide +kernel
theorem d_RA_feed_24 : decode b_RA_feed 24 = .ok (.iadd, 1) := by decide +kernel
theorem d_RA_feed_25 : decode b_RA_feed 25 = .ok (.sipush 400, 3) := by decide +kernel
theorem d_RA_feed_28 : decode b_RA_feed 28 = .ok (.if_icmp .le 11, 3) := by decide +kernel
theorem d_RA_feed_39 : decode b_RA_feed 39 = .ok (.iconst 0, 1) := by decide +kernel
theorem d_RA_feed_40 : decode b_RA_feed 40 = .ok (.istore 4, 2) := by decide +kernel
theorem d_RA_feed_42 : decode b_RA_feed 42 = .ok (.iload 4, 2) := by decide +kernel
theorem d_RA_feed_44 : decode b_RA_feed 44 = .ok (.iload_n 1, 1) := by decide +kernel
theorem d_RA_feed_45 : decode b_RA_feed 45 = .ok (.if_icmp .ge 30, 3) := by decide +kernel
theorem d_RA_feed_48 : decode b_RA_feed 48 = .ok (.aload_n 0, 1) := by decide +kernel
theorem d_RA_feed_49 : decode b_RA_feed 49 = .ok (.getfield 9, 3) := by decide +kernel
theorem d_RA_feed_52 : decode b_RA_feed 52 = .ok (.aload_n 0, 1) := by decide +kernel
theorem d_RA_feed_53 : decode b_RA_feed 53 = .ok (.getfield 62, 3) := by decide +kernel
theorem d_RA_feed_56 : decode b_RA_feed 56 = .ok (.iload 4, 2) := by decide +kernel
theorem d_RA_feed_58 : decode b_RA_feed 58 = .ok (.iadd, 1) := by decide +kernel
theorem d_RA_feed_59 : decode b_RA_feed 59 = .ok (.lload_n 2, 1) := by decide +kernel
theorem d_RA_feed_60 : decode b_RA_feed 60 = .ok (.bipush 8, 2) := by decide +kernel
theorem d_RA_feed_62 : decode b_RA_feed 62 = .ok (.iload 4, 2) := by decide +kernel
theorem d_RA_feed_64 : decode b_RA_feed 64 = .ok (.imul, 1) := by decide +kernel
theorem d_RA_feed_65 : decode b_RA_feed 65 = .ok (.lushr, 1) := by decide +kernel
theorem d_RA_feed_66 : decode b_RA_feed 66 = .ok (.l2i, 1) := by decide +kernel
theorem d_RA_feed_67 : decode b_RA_feed 67 = .ok (.i2b, 1) := by decide +kernel
theorem d_RA_feed_68 : decode b_RA_feed 68 = .ok (.bastore, 1) := by decide +kernel
theorem d_RA_feed_69 : decode b_RA_feed 69 = .ok (.iinc 4 1, 3) := by decide +kernel
theorem d_RA_feed_72 : decode b_RA_feed 72 = .ok (.goto (-30), 3) := by decide +kernel
theorem d_RA_feed_75 : decode b_RA_feed 75 = .ok (.aload_n 0, 1) := by decide +kernel
theorem d_RA_feed_76 : decode b_RA_feed 76 = .ok (.dup, 1) := by decide +kernel
theorem d_RA_feed_77 : decode b_RA_feed 77 = .ok (.getfield 62, 3) := by decide +kernel
theorem d_RA_feed_80 : decode b_RA_feed 80 = .ok (.iload_n 1, 1) := by decide +kernel
theorem d_RA_feed_81 : decode b_RA_feed 81 = .ok (.iadd, 1) := by decide +kernel
theorem d_RA_feed_82 : decode b_RA_feed 82 = .ok (.putfield 62, 3) := by decide +kernel
theorem d_RA_feed_85 : decode b_RA_feed 85 = .ok (.aload_n 0, 1) := by decide +kernel
theorem d_RA_feed_86 : decode b_RA_feed 86 = .ok (.getfield 62, 3) := by decide +kernel
theorem d_RA_feed_89 : decode b_RA_feed 89 = .ok (.ireturn, 1) := by decide +kernel
theorem d_RA_floor_0 : decode b_RA_floor 0 = .ok (.aload_n 0, 1) := by decide +kernel
theorem d_RA_floor_1 : decode b_RA_floor 1 = .ok (.iload_n 1, 1) := by decide +kernel
theorem d_RA_floor_2 : decode b_RA_floor 2 = .ok (.invokevirtual 123, 3) := by decide +kernel
theorem d_RA_floor_5 : decode b_RA_floor 5 = .ok (.ifCond .eq 13, 3) := by decide +kernel
theorem d_RA_floor_8 : decode b_RA_floor 8 = .ok (.iload_n 2, 1) := by decide +kernel
theorem d_RA_floor_9 : decode b_RA_floor 9 = .ok (.ifCond .lt 9, 3) := by decide +kernel
theorem d_RA_floor_12 : decode b_RA_floor 12 = .ok (.iload_n 2, 1) := by decide +kernel
theorem d_RA_floor_13 : decode b_RA_floor 13 = .ok (.bipush 30, 2) := by decide +kernel
theorem d_RA_floor_15 : decode b_RA_floor 15 = .ok (.if_icmp .le 11, 3) := by decide +kernel
theorem d_RA_floor_26 : decode b_RA_floor 26 = .ok (.aload_n 0, 1) := by decide +kernel
theorem d_RA_floor_27 : decode b_RA_floor 27 = .ok (.getfield 30, 3) := by decide +kernel
theorem d_RA_floor_30 : decode b_RA_floor 30 = .ok (.iload_n 1, 1) := by decide +kernel
theorem d_RA_floor_31 : decode b_RA_floor 31 = .ok (.aaload, 1) := by decide +kernel
theorem d_RA_floor_32 : decode b_RA_floor 32 = .ok (.getfield 126, 3) := by decide +kernel
theorem d_RA_floor_35 : decode b_RA_floor 35 = .ok (.ifCond .ne 11, 3) := by decide +kernel
theorem d_RA_floor_46 : decode b_RA_floor 46 = .ok (.aload_n 0, 1) := by decide +kernel
theorem d_RA_floor_47 : decode b_RA_floor 47 = .ok (.iconst 0, 1) := by decide +kernel
theorem d_RA_floor_48 : decode b_RA_floor 48 = .ok (.putfield 120, 3) := by decide +kernel
theorem d_RA_floor_51 : decode b_RA_floor 51 = .ok (.aload_n 0, 1) := by decide +kernel
theorem d_RA_floor_52 : decode b_RA_floor 52 = .ok (.getfield 24, 3) := by decide +kernel
theorem d_RA_floor_55 : decode b_RA_floor 55 = .ok (.aload_n 0, 1) := by decide +kernel
theorem d_RA_floor_56 : decode b_RA_floor 56 = .ok (.getfield 51, 3) := by decide +kernel
theorem d_RA_floor_59 : decode b_RA_floor 59 = .ok (.getfield 141, 3) := by decide +kernel
theorem d_RA_floor_62 : decode b_RA_floor 62 = .ok (.aload_n 0, 1) := by decide +kernel
theorem d_RA_floor_63 : decode b_RA_floor 63 = .ok (.getfield 30, 3) := by decide +kernel
theorem d_RA_floor_66 : decode b_RA_floor 66 = .ok (.iload_n 1, 1) := by decide +kernel
theorem d_RA_floor_67 : decode b_RA_floor 67 = .ok (.aaload, 1) := by decide +kernel
theorem d_RA_floor_68 : decode b_RA_floor 68 = .ok (.iload_n 2, 1) := by decide +kernel
theorem d_RA_floor_69 : decode b_RA_floor 69 = .ok (.invokevirtual 151, 3) := by decide +kernel
theorem d_RA_floor_72 : decode b_RA_floor 72 = .ok (.invokevirtual 155, 3) := by decide +kernel
theorem d_RA_floor_75 : decode b_RA_floor 75 = .ok (.aload_n 0, 1) := by decide +kernel
theorem d_RA_floor_76 : decode b_RA_floor 76 = .ok (.invokevirtual 159, 3) := by decide +kernel
theorem d_RA_floor_79 : decode b_RA_floor 79 = .ok (.aload_n 0, 1) := by decide +kernel
theorem d_RA_floor_80 : decode b_RA_floor 80 = .ok (.getfield 120, 3) := by decide +kernel
theorem d_RA_floor_83 : decode b_RA_floor 83 = .ok (.ireturn, 1) := by decide +kernel
theorem d_RA_index_0 : decode b_RA_index 0 = .ok (.aload_n 0, 1) := by decide +kernel
theorem d_RA_index_1 : decode b_RA_index 1 = .ok (.iload_n 1, 1) := by decide +kernel
theorem d_RA_index_2 : decode b_RA_index 2 = .ok (.invokevirtual 123, 3) := by decide +kernel
theorem d_RA_index_5 : decode b_RA_index 5 = .ok (.ifCond .ne 11, 3) := by decide +kernel
theorem d_RA_index_16 : decode b_RA_index 16 = .ok (.aload_n 0, 1) := by decide +kernel
theorem d_RA_index_17 : decode b_RA_index 17 = .ok (.getfield 30, 3) := by decide +kernel
theorem d_RA_index_20 : decode b_RA_index 20 = .ok (.iload_n 1, 1) := by decide +kernel
theorem d_RA_index_21 : decode b_RA_index 21 = .ok (.aaload, 1) := by decide +kernel
theorem d_RA_index_22 : decode b_RA_index 22 = .ok (.getfield 126, 3) := by decide +kernel
theorem d_RA_index_25 : decode b_RA_index 25 = .ok (.ifCond .ne 11, 3) := by decide +kernel
theorem d_RA_index_36 : decode b_RA_index 36 = .ok (.aload_n 0, 1) := by decide +kernel
theorem d_RA_index_37 : decode b_RA_index 37 = .ok (.getfield 30, 3) := by decide +kernel
theorem d_RA_index_40 : decode b_RA_index 40 = .ok (.iload_n 1, 1) := by decide +kernel
theorem d_RA_index_41 : decode b_RA_index 41 = .ok (.aaload, 1) := by decide +kernel
theorem d_RA_index_42 : decode b_RA_index 42 = .ok (.getfield 135, 3) := by decide +kernel
theorem d_RA_index_45 : decode b_RA_index 45 = .ok (.ireturn, 1) := by decide +kernel
theorem d_RA_init_0 : decode b_RA_init 0 = .ok (.aload_n 0, 1) := by decide +kernel
theorem d_RA_init_1 : decode b_RA_init 1 = .ok (.invokespecial 1, 3) := by decide +kernel
theorem d_RA_init_4 : decode b_RA_init 4 = .ok (.aload_n 0, 1) := by decide +kernel
theorem d_RA_init_5 : decode b_RA_init 5 = .ok (.sipush 400, 3) := by decide +kernel
theorem d_RA_init_8 : decode b_RA_init 8 = .ok (.newarray .byte, 2) := by decide +kernel
theorem d_RA_init_10 : decode b_RA_init 10 = .ok (.putfield 9, 3) := by decide +kernel
theorem d_RA_init_13 : decode b_RA_init 13 = .ok (.aload_n 0, 1) := by decide +kernel
theorem d_RA_init_14 : decode b_RA_init 14 = .ok (.sipush 128, 3) := by decide +kernel
theorem d_RA_init_17 : decode b_RA_init 17 = .ok (.newarray .byte, 2) := by decide +kernel
theorem d_RA_init_19 : decode b_RA_init 19 = .ok (.putfield 13, 3) := by decide +kernel
theorem d_RA_init_22 : decode b_RA_init 22 = .ok (.aload_n 0, 1) := by decide +kernel
theorem d_RA_init_23 : decode b_RA_init 23 = .ok (.sipush 128, 3) := by decide +kernel
theorem d_RA_init_26 : decode b_RA_init 26 = .ok (.newarray .byte, 2) := by decide +kernel
theorem d_RA_init_28 : decode b_RA_init 28 = .ok (.putfield 16, 3) := by decide +kernel
theorem d_RA_init_31 : decode b_RA_init 31 = .ok (.aload_n 0, 1) := by decide +kernel
theorem d_RA_init_32 : decode b_RA_init 32 = .ok (.new 19, 3) := by decide +kernel
theorem d_RA_init_35 : decode b_RA_init 35 = .ok (.dup, 1) := by decide +kernel
theorem d_RA_init_36 : decode b_RA_init 36 = .ok (.bipush 8, 2) := by decide +kernel
theorem d_RA_init_38 : decode b_RA_init 38 = .ok (.invokespecial 21, 3) := by decide +kernel
theorem d_RA_init_41 : decode b_RA_init 41 = .ok (.putfield 24, 3) := by decide +kernel
theorem d_RA_init_44 : decode b_RA_init 44 = .ok (.aload_n 0, 1) := by decide +kernel
theorem d_RA_init_45 : decode b_RA_init 45 = .ok (.bipush 17, 2) := by decide +kernel
theorem d_RA_init_47 : decode b_RA_init 47 = .ok (.anewarray 28, 3) := by decide +kernel
theorem d_RA_init_50 : decode b_RA_init 50 = .ok (.putfield 30, 3) := by decide +kernel
theorem d_RA_init_53 : decode b_RA_init 53 = .ok (.iconst 0, 1) := by decide +kernel
theorem d_RA_init_54 : decode b_RA_init 54 = .ok (.istore_n 1, 1) := by decide +kernel
theorem d_RA_init_55 : decode b_RA_init 55 = .ok (.iload_n 1, 1) := by decide +kernel
theorem d_RA_init_56 : decode b_RA_init 56 = .ok (.bipush 16, 2) := by decide +kernel
theorem d_RA_init_58 : decode b_RA_init 58 = .ok (.if_icmp .gt 22, 3) := by decide +kernel
theorem d_RA_init_61 : decode b_RA_init 61 = .ok (.aload_n 0, 1) := by decide +kernel
theorem d_RA_init_62 : decode b_RA_init 62 = .ok (.getfield 30, 3) := by decide +kernel
theorem d_RA_init_65 : decode b_RA_init 65 = .ok (.iload_n 1, 1) := by decide +kernel
theorem d_RA_init_66 : decode b_RA_init 66 = .ok (.new 28, 3) := by decide +kernel
theorem d_RA_init_69 : decode b_RA_init 69 = .ok (.dup, 1) := by decide +kernel
theorem d_RA_init_70 : decode b_RA_init 70 = .ok (.invokespecial 34, 3) := by decide +kernel
theorem d_RA_init_73 : decode b_RA_init 73 = .ok (.aastore, 1) := by decide +kernel
theorem d_RA_init_74 : decode b_RA_init 74 = .ok (.iinc 1 1, 3) := by decide +kernel
theorem d_RA_init_77 : decode b_RA_init 77 = .ok (.goto (-22), 3) := by decide +kernel
theorem d_RA_init_80 : decode b_RA_init 80 = .ok (.aload_n 0, 1) := by decide +kernel
theorem d_RA_init_81 : decode b_RA_init 81 = .ok (.getfield 30, 3) := by decide +kernel
theorem d_RA_init_84 : decode b_RA_init 84 = .ok (.bipush 16, 2) := by decide +kernel
theorem d_RA_init_86 : decode b_RA_init 86 = .ok (.aaload, 1) := by decide +kernel
theorem d_RA_init_87 : decode b_RA_init 87 = .ok (.iconst 0, 1) := by decide +kernel
theorem d_RA_init_88 : decode b_RA_init 88 = .ok (.iconst 1, 1) := by decide +kernel
theorem d_RA_init_89 : decode b_RA_init 89 = .ok (.invokevirtual 35, 3) := by decide +kernel
theorem d_RA_init_92 : decode b_RA_init 92 = .ok (.aload_n 0, 1) := by decide +kernel
theorem d_RA_init_93 : decode b_RA_init 93 = .ok (.new 39, 3) := by decide +kernel
theorem d_RA_init_96 : decode b_RA_init 96 = .ok (.dup, 1) := by decide +kernel
theorem d_RA_init_97 : decode b_RA_init 97 = .ok (.aload_n 0, 1) := by decide +kernel
theorem d_RA_init_98 : decode b_RA_init 98 = .ok (.getfield 9, 3) := by decide +kernel
theorem d_RA_init_101 : decode b_RA_init 101 = .ok (.invokespecial 41, 3) := by decide +kernel
theorem d_RA_init_104 : decode b_RA_init 104 = .ok (.putfield 44, 3) := by decide +kernel
theorem d_RA_init_107 : decode b_RA_init 107 = .ok (.aload_n 0, 1) := by decide +kernel
theorem d_RA_init_108 : decode b_RA_init 108 = .ok (.new 48, 3) := by decide +kernel
theorem d_RA_init_111 : decode b_RA_init 111 = .ok (.dup, 1) := by decide +kernel
theorem d_RA_init_112 : decode b_RA_init 112 = .ok (.invokespecial 50, 3) := by decide +kernel
theorem d_RA_init_115 : decode b_RA_init 115 = .ok (.putfield 51, 3) := by decide +kernel
theorem d_RA_init_118 : decode b_RA_init 118 = .ok (.aload_n 0, 1) := by decide +kernel
theorem d_RA_init_119 : decode b_RA_init 119 = .ok (.iconst (-1), 1) := by decide +kernel
theorem d_RA_init_120 : decode b_RA_init 120 = .ok (.putfield 55, 3) := by decide +kernel
theorem d_RA_init_123 : decode b_RA_init 123 = .ok (.return_, 1) := by decide +kernel
theorem d_RA_isName_0 : decode b_RA_isName 0 = .ok (.iload_n 1, 1) := by decide +kernel
theorem d_RA_isName_1 : decode b_RA_isName 1 = .ok (.ifCond .lt 13, 3) := by decide +kernel
theorem d_RA_isName_4 : decode b_RA_isName 4 = .ok (.iload_n 1, 1) := by decide +kernel
theorem d_RA_isName_5 : decode b_RA_isName 5 = .ok (.bipush 16, 2) := by decide +kernel
theorem d_RA_isName_7 : decode b_RA_isName 7 = .ok (.if_icmp .gt 7, 3) := by decide +kernel
theorem d_RA_isName_10 : decode b_RA_isName 10 = .ok (.iconst 1, 1) := by decide +kernel
end
section
/-! what each instruction is; laid by program -/
theorem d_RA_isName_11 : decode b_RA_isName 11 = .ok (.goto 4, 3) := by decide +kernel
theorem d_RA_isName_15 : decode b_RA_isName 15 = .ok (.ireturn, 1) := by decide +kernel
theorem d_RA_line_0 : decode b_RA_line 0 = .ok (.aload_n 0, 1) := by decide +kernel
theorem d_RA_line_1 : decode b_RA_line 1 = .ok (.getfield 62, 3) := by decide +kernel
theorem d_RA_line_4 : decode b_RA_line 4 = .ok (.istore_n 1, 1) := by decide +kernel
theorem d_RA_line_5 : decode b_RA_line 5 = .ok (.aload_n 0, 1) := by decide +kernel
theorem d_RA_line_6 : decode b_RA_line 6 = .ok (.iconst 0, 1) := by decide +kernel
theorem d_RA_line_7 : decode b_RA_line 7 = .ok (.putfield 62, 3) := by decide +kernel
theorem d_RA_line_10 : decode b_RA_line 10 = .ok (.aload_n 0, 1) := by decide +kernel
theorem d_RA_line_11 : decode b_RA_line 11 = .ok (.getfield 44, 3) := by decide +kernel
theorem d_RA_line_14 : decode b_RA_line 14 = .ok (.iload_n 1, 1) := by decide +kernel
theorem d_RA_line_15 : decode b_RA_line 15 = .ok (.invokevirtual 68, 3) := by decide +kernel
theorem d_RA_line_18 : decode b_RA_line 18 = .ok (.ifCond .ne 16, 3) := by decide +kernel
theorem d_RA_line_21 : decode b_RA_line 21 = .ok (.aload_n 0, 1) := by decide +kernel
theorem d_RA_line_22 : decode b_RA_line 22 = .ok (.aload_n 0, 1) := by decide +kernel
theorem d_RA_line_23 : decode b_RA_line 23 = .ok (.getfield 44, 3) := by decide +kernel
theorem d_RA_line_26 : decode b_RA_line 26 = .ok (.getfield 72, 3) := by decide +kernel
theorem d_RA_line_29 : decode b_RA_line 29 = .ok (.putfield 55, 3) := by decide +kernel
theorem d_RA_line_32 : decode b_RA_line 32 = .ok (.iconst (-1), 1) := by decide +kernel
theorem d_RA_line_33 : decode b_RA_line 33 = .ok (.ireturn, 1) := by decide +kernel
theorem d_RA_look_0 : decode b_RA_look 0 = .ok (.iload_n 1, 1) := by decide +kernel
theorem d_RA_look_1 : decode b_RA_look 1 = .ok (.tableswitch 60 0 4 #[35, 40, 45, 50, 55], 35) := by decide +kernel
theorem d_RA_look_36 : decode b_RA_look 36 = .ok (.aload_n 0, 1) := by decide +kernel
theorem d_RA_look_37 : decode b_RA_look 37 = .ok (.invokevirtual 117, 3) := by decide +kernel
theorem d_RA_look_40 : decode b_RA_look 40 = .ok (.ireturn, 1) := by decide +kernel
theorem d_RA_look_41 : decode b_RA_look 41 = .ok (.aload_n 0, 1) := by decide +kernel
theorem d_RA_look_42 : decode b_RA_look 42 = .ok (.getfield 55, 3) := by decide +kernel
theorem d_RA_look_45 : decode b_RA_look 45 = .ok (.ireturn, 1) := by decide +kernel
theorem d_RA_look_46 : decode b_RA_look 46 = .ok (.aload_n 0, 1) := by decide +kernel
theorem d_RA_look_47 : decode b_RA_look 47 = .ok (.getfield 62, 3) := by decide +kernel
theorem d_RA_look_50 : decode b_RA_look 50 = .ok (.ireturn, 1) := by decide +kernel
theorem d_RA_look_51 : decode b_RA_look 51 = .ok (.aload_n 0, 1) := by decide +kernel
theorem d_RA_look_52 : decode b_RA_look 52 = .ok (.getfield 120, 3) := by decide +kernel
theorem d_RA_look_55 : decode b_RA_look 55 = .ok (.ireturn, 1) := by decide +kernel
theorem d_RA_look_56 : decode b_RA_look 56 = .ok (.aload_n 0, 1) := by decide +kernel
theorem d_RA_look_57 : decode b_RA_look 57 = .ok (.getfield 114, 3) := by decide +kernel
theorem d_RA_look_60 : decode b_RA_look 60 = .ok (.ireturn, 1) := by decide +kernel
theorem d_RA_namesWithValue_0 : decode b_RA_namesWithValue 0 = .ok (.iconst 0, 1) := by decide +kernel
theorem d_RA_namesWithValue_1 : decode b_RA_namesWithValue 1 = .ok (.istore_n 1, 1) := by decide +kernel
theorem d_RA_namesWithValue_2 : decode b_RA_namesWithValue 2 = .ok (.iconst 0, 1) := by decide +kernel
theorem d_RA_namesWithValue_3 : decode b_RA_namesWithValue 3 = .ok (.istore_n 2, 1) := by decide +kernel
theorem d_RA_namesWithValue_4 : decode b_RA_namesWithValue 4 = .ok (.iload_n 2, 1) := by decide +kernel
theorem d_RA_namesWithValue_5 : decode b_RA_namesWithValue 5 = .ok (.bipush 16, 2) := by decide +kernel
theorem d_RA_namesWithValue_7 : decode b_RA_namesWithValue 7 = .ok (.if_icmp .ge 24, 3) := by decide +kernel
theorem d_RA_namesWithValue_10 : decode b_RA_namesWithValue 10 = .ok (.aload_n 0, 1) := by decide +kernel
theorem d_RA_namesWithValue_11 : decode b_RA_namesWithValue 11 = .ok (.getfield 30, 3) := by decide +kernel
theorem d_RA_namesWithValue_14 : decode b_RA_namesWithValue 14 = .ok (.iload_n 2, 1) := by decide +kernel
theorem d_RA_namesWithValue_15 : decode b_RA_namesWithValue 15 = .ok (.aaload, 1) := by decide +kernel
theorem d_RA_namesWithValue_16 : decode b_RA_namesWithValue 16 = .ok (.getfield 126, 3) := by decide +kernel
theorem d_RA_namesWithValue_19 : decode b_RA_namesWithValue 19 = .ok (.ifCond .eq 6, 3) := by decide +kernel
theorem d_RA_namesWithValue_25 : decode b_RA_namesWithValue 25 = .ok (.iinc 2 1, 3) := by decide +kernel
theorem d_RA_namesWithValue_28 : decode b_RA_namesWithValue 28 = .ok (.goto (-24), 3) := by decide +kernel
theorem d_RA_namesWithValue_31 : decode b_RA_namesWithValue 31 = .ok (.iload_n 1, 1) := by decide +kernel
theorem d_RA_namesWithValue_32 : decode b_RA_namesWithValue 32 = .ok (.ireturn, 1) := by decide +kernel
theorem d_RA_put_0 : decode b_RA_put 0 = .ok (.aload_n 0, 1) := by decide +kernel
theorem d_RA_put_1 : decode b_RA_put 1 = .ok (.getfield 120, 3) := by decide +kernel
theorem d_RA_put_4 : decode b_RA_put 4 = .ok (.sipush 128, 3) := by decide +kernel
theorem d_RA_put_7 : decode b_RA_put 7 = .ok (.if_icmp .ge 24, 3) := by decide +kernel
theorem d_RA_put_10 : decode b_RA_put 10 = .ok (.aload_n 0, 1) := by decide +kernel
theorem d_RA_put_11 : decode b_RA_put 11 = .ok (.getfield 13, 3) := by decide +kernel
theorem d_RA_put_14 : decode b_RA_put 14 = .ok (.aload_n 0, 1) := by decide +kernel
theorem d_RA_put_15 : decode b_RA_put 15 = .ok (.getfield 120, 3) := by decide +kernel
theorem d_RA_put_18 : decode b_RA_put 18 = .ok (.iload_n 1, 1) := by decide +kernel
theorem d_RA_put_19 : decode b_RA_put 19 = .ok (.i2b, 1) := by decide +kernel
theorem d_RA_put_20 : decode b_RA_put 20 = .ok (.bastore, 1) := by decide +kernel
theorem d_RA_put_21 : decode b_RA_put 21 = .ok (.aload_n 0, 1) := by decide +kernel
theorem d_RA_put_22 : decode b_RA_put 22 = .ok (.dup, 1) := by decide +kernel
theorem d_RA_put_23 : decode b_RA_put 23 = .ok (.getfield 120, 3) := by decide +kernel
theorem d_RA_put_26 : decode b_RA_put 26 = .ok (.iconst 1, 1) := by decide +kernel
theorem d_RA_put_27 : decode b_RA_put 27 = .ok (.iadd, 1) := by decide +kernel
theorem d_RA_put_28 : decode b_RA_put 28 = .ok (.putfield 120, 3) := by decide +kernel
theorem d_RA_put_31 : decode b_RA_put 31 = .ok (.return_, 1) := by decide +kernel
theorem d_RA_putRest_0 : decode b_RA_putRest 0 = .ok (.aload_n 0, 1) := by decide +kernel
theorem d_RA_putRest_1 : decode b_RA_putRest 1 = .ok (.getfield 24, 3) := by decide +kernel
theorem d_RA_putRest_4 : decode b_RA_putRest 4 = .ok (.getfield 169, 3) := by decide +kernel
theorem d_RA_putRest_7 : decode b_RA_putRest 7 = .ok (.ifCond .ge 9, 3) := by decide +kernel
theorem d_RA_putRest_16 : decode b_RA_putRest 16 = .ok (.iconst 0, 1) := by decide +kernel
theorem d_RA_putRest_17 : decode b_RA_putRest 17 = .ok (.istore_n 1, 1) := by decide +kernel
theorem d_RA_putRest_18 : decode b_RA_putRest 18 = .ok (.iconst 0, 1) := by decide +kernel
theorem d_RA_putRest_19 : decode b_RA_putRest 19 = .ok (.istore_n 2, 1) := by decide +kernel
theorem d_RA_putRest_20 : decode b_RA_putRest 20 = .ok (.iload_n 2, 1) := by decide +kernel
theorem d_RA_putRest_21 : decode b_RA_putRest 21 = .ok (.bipush 9, 2) := by decide +kernel
theorem d_RA_putRest_23 : decode b_RA_putRest 23 = .ok (.if_icmp .ge 89, 3) := by decide +kernel
theorem d_RA_putRest_26 : decode b_RA_putRest 26 = .ok (.aload_n 0, 1) := by decide +kernel
theorem d_RA_putRest_27 : decode b_RA_putRest 27 = .ok (.getfield 24, 3) := by decide +kernel
theorem d_RA_putRest_30 : decode b_RA_putRest 30 = .ok (.getfield 169, 3) := by decide +kernel
theorem d_RA_putRest_33 : decode b_RA_putRest 33 = .ok (.ifCond .ne 7, 3) := by decide +kernel
theorem d_RA_putRest_36 : decode b_RA_putRest 36 = .ok (.iload_n 2, 1) := by decide +kernel
theorem d_RA_putRest_37 : decode b_RA_putRest 37 = .ok (.ifCond .ne 75, 3) := by decide +kernel
theorem d_RA_putRest_40 : decode b_RA_putRest 40 = .ok (.aload_n 0, 1) := by decide +kernel
theorem d_RA_putRest_41 : decode b_RA_putRest 41 = .ok (.getfield 24, 3) := by decide +kernel
theorem d_RA_putRest_44 : decode b_RA_putRest 44 = .ok (.ldc 172, 2) := by decide +kernel
theorem d_RA_putRest_46 : decode b_RA_putRest 46 = .ok (.invokevirtual 173, 3) := by decide +kernel
theorem d_RA_putRest_49 : decode b_RA_putRest 49 = .ok (.istore_n 3, 1) := by decide +kernel
theorem d_RA_putRest_50 : decode b_RA_putRest 50 = .ok (.iconst 0, 1) := by decide +kernel
theorem d_RA_putRest_51 : decode b_RA_putRest 51 = .ok (.istore 4, 2) := by decide +kernel
theorem d_RA_putRest_53 : decode b_RA_putRest 53 = .ok (.iload 4, 2) := by decide +kernel
theorem d_RA_putRest_55 : decode b_RA_putRest 55 = .ok (.bipush 9, 2) := by decide +kernel
theorem d_RA_putRest_57 : decode b_RA_putRest 57 = .ok (.if_icmp .ge 49, 3) := by decide +kernel
theorem d_RA_putRest_60 : decode b_RA_putRest 60 = .ok (.iload_n 3, 1) := by decide +kernel
theorem d_RA_putRest_61 : decode b_RA_putRest 61 = .ok (.ifCond .ne 17, 3) := by decide +kernel
theorem d_RA_putRest_64 : decode b_RA_putRest 64 = .ok (.aload_n 0, 1) := by decide +kernel
theorem d_RA_putRest_65 : decode b_RA_putRest 65 = .ok (.getfield 24, 3) := by decide +kernel
theorem d_RA_putRest_68 : decode b_RA_putRest 68 = .ok (.getfield 169, 3) := by decide +kernel
theorem d_RA_putRest_71 : decode b_RA_putRest 71 = .ok (.ifCond .ne 7, 3) := by decide +kernel
theorem d_RA_putRest_74 : decode b_RA_putRest 74 = .ok (.iload_n 1, 1) := by decide +kernel
theorem d_RA_putRest_75 : decode b_RA_putRest 75 = .ok (.ifCond .ne 31, 3) := by decide +kernel
theorem d_RA_putRest_78 : decode b_RA_putRest 78 = .ok (.aload_n 0, 1) := by decide +kernel
theorem d_RA_putRest_79 : decode b_RA_putRest 79 = .ok (.getfield 16, 3) := by decide +kernel
theorem d_RA_putRest_82 : decode b_RA_putRest 82 = .ok (.iload_n 1, 1) := by decide +kernel
theorem d_RA_putRest_83 : decode b_RA_putRest 83 = .ok (.bipush 48, 2) := by decide +kernel
theorem d_RA_putRest_85 : decode b_RA_putRest 85 = .ok (.iload_n 3, 1) := by decide +kernel
theorem d_RA_putRest_86 : decode b_RA_putRest 86 = .ok (.bipush 10, 2) := by decide +kernel
theorem d_RA_putRest_88 : decode b_RA_putRest 88 = .ok (.irem, 1) := by decide +kernel
theorem d_RA_putRest_89 : decode b_RA_putRest 89 = .ok (.iadd, 1) := by decide +kernel
theorem d_RA_putRest_90 : decode b_RA_putRest 90 = .ok (.i2b, 1) := by decide +kernel
theorem d_RA_putRest_91 : decode b_RA_putRest 91 = .ok (.bastore, 1) := by decide +kernel
theorem d_RA_putRest_92 : decode b_RA_putRest 92 = .ok (.iload_n 3, 1) := by decide +kernel
theorem d_RA_putRest_93 : decode b_RA_putRest 93 = .ok (.bipush 10, 2) := by decide +kernel
theorem d_RA_putRest_95 : decode b_RA_putRest 95 = .ok (.idiv, 1) := by decide +kernel
theorem d_RA_putRest_96 : decode b_RA_putRest 96 = .ok (.istore_n 3, 1) := by decide +kernel
theorem d_RA_putRest_97 : decode b_RA_putRest 97 = .ok (.iinc 1 1, 3) := by decide +kernel
theorem d_RA_putRest_100 : decode b_RA_putRest 100 = .ok (.iinc 4 1, 3) := by decide +kernel
theorem d_RA_putRest_103 : decode b_RA_putRest 103 = .ok (.goto (-50), 3) := by decide +kernel
theorem d_RA_putRest_106 : decode b_RA_putRest 106 = .ok (.iinc 2 1, 3) := by decide +kernel
theorem d_RA_putRest_109 : decode b_RA_putRest 109 = .ok (.goto (-89), 3) := by decide +kernel
theorem d_RA_putRest_112 : decode b_RA_putRest 112 = .ok (.iload_n 1, 1) := by decide +kernel
theorem d_RA_putRest_113 : decode b_RA_putRest 113 = .ok (.iconst 1, 1) := by decide +kernel
theorem d_RA_putRest_114 : decode b_RA_putRest 114 = .ok (.isub, 1) := by decide +kernel
theorem d_RA_putRest_115 : decode b_RA_putRest 115 = .ok (.istore_n 2, 1) := by decide +kernel
theorem d_RA_putRest_116 : decode b_RA_putRest 116 = .ok (.iload_n 2, 1) := by decide +kernel
theorem d_RA_putRest_117 : decode b_RA_putRest 117 = .ok (.ifCond .lt 19, 3) := by decide +kernel
theorem d_RA_putRest_120 : decode b_RA_putRest 120 = .ok (.aload_n 0, 1) := by decide +kernel
theorem d_RA_putRest_121 : decode b_RA_putRest 121 = .ok (.aload_n 0, 1) := by decide +kernel
theorem d_RA_putRest_122 : decode b_RA_putRest 122 = .ok (.getfield 16, 3) := by decide +kernel
theorem d_RA_putRest_125 : decode b_RA_putRest 125 = .ok (.iload_n 2, 1) := by decide +kernel
theorem d_RA_putRest_126 : decode b_RA_putRest 126 = .ok (.baload, 1) := by decide +kernel
theorem d_RA_putRest_127 : decode b_RA_putRest 127 = .ok (.invokevirtual 162, 3) := by decide +kernel
theorem d_RA_putRest_130 : decode b_RA_putRest 130 = .ok (.iinc 2 (-1), 3) := by decide +kernel
theorem d_RA_putRest_133 : decode b_RA_putRest 133 = .ok (.goto (-17), 3) := by decide +kernel
theorem d_RA_putRest_136 : decode b_RA_putRest 136 = .ok (.return_, 1) := by decide +kernel
theorem d_RA_roots_0 : decode b_RA_roots 0 = .ok (.aload_n 0, 1) := by decide +kernel
theorem d_RA_roots_1 : decode b_RA_roots 1 = .ok (.iload_n 1, 1) := by decide +kernel
theorem d_RA_roots_2 : decode b_RA_roots 2 = .ok (.invokevirtual 123, 3) := by decide +kernel
theorem d_RA_roots_5 : decode b_RA_roots 5 = .ok (.ifCond .ne 11, 3) := by decide +kernel
theorem d_RA_roots_16 : decode b_RA_roots 16 = .ok (.aload_n 0, 1) := by decide +kernel
theorem d_RA_roots_17 : decode b_RA_roots 17 = .ok (.getfield 30, 3) := by decide +kernel
theorem d_RA_roots_20 : decode b_RA_roots 20 = .ok (.iload_n 1, 1) := by decide +kernel
theorem d_RA_roots_21 : decode b_RA_roots 21 = .ok (.aaload, 1) := by decide +kernel
theorem d_RA_roots_22 : decode b_RA_roots 22 = .ok (.getfield 126, 3) := by decide +kernel
theorem d_RA_roots_25 : decode b_RA_roots 25 = .ok (.ifCond .ne 11, 3) := by decide +kernel
theorem d_RA_roots_36 : decode b_RA_roots 36 = .ok (.aload_n 0, 1) := by decide +kernel
theorem d_RA_roots_37 : decode b_RA_roots 37 = .ok (.getfield 30, 3) := by decide +kernel
theorem d_RA_roots_40 : decode b_RA_roots 40 = .ok (.iload_n 1, 1) := by decide +kernel
theorem d_RA_roots_41 : decode b_RA_roots 41 = .ok (.aaload, 1) := by decide +kernel
theorem d_RA_roots_42 : decode b_RA_roots 42 = .ok (.getfield 138, 3) := by decide +kernel
theorem d_RA_roots_45 : decode b_RA_roots 45 = .ok (.ireturn, 1) := by decide +kernel
theorem d_RA_write_0 : decode b_RA_write 0 = .ok (.aload_n 0, 1) := by decide +kernel
theorem d_RA_write_1 : decode b_RA_write 1 = .ok (.iload_n 1, 1) := by decide +kernel
theorem d_RA_write_2 : decode b_RA_write 2 = .ok (.invokevirtual 123, 3) := by decide +kernel
theorem d_RA_write_5 : decode b_RA_write 5 = .ok (.ifCond .ne 11, 3) := by decide +kernel
theorem d_RA_write_16 : decode b_RA_write 16 = .ok (.aload_n 0, 1) := by decide +kernel
theorem d_RA_write_17 : decode b_RA_write 17 = .ok (.getfield 30, 3) := by decide +kernel
theorem d_RA_write_20 : decode b_RA_write 20 = .ok (.iload_n 1, 1) := by decide +kernel
theorem d_RA_write_21 : decode b_RA_write 21 = .ok (.aaload, 1) := by decide +kernel
theorem d_RA_write_22 : decode b_RA_write 22 = .ok (.astore_n 2, 1) := by decide +kernel
theorem d_RA_write_23 : decode b_RA_write 23 = .ok (.aload_n 2, 1) := by decide +kernel
theorem d_RA_write_24 : decode b_RA_write 24 = .ok (.getfield 126, 3) := by decide +kernel
theorem d_RA_write_27 : decode b_RA_write 27 = .ok (.ifCond .ne 11, 3) := by decide +kernel
theorem d_RA_write_38 : decode b_RA_write 38 = .ok (.aload_n 0, 1) := by decide +kernel
theorem d_RA_write_39 : decode b_RA_write 39 = .ok (.iconst 0, 1) := by decide +kernel
theorem d_RA_write_40 : decode b_RA_write 40 = .ok (.putfield 120, 3) := by decide +kernel
theorem d_RA_write_43 : decode b_RA_write 43 = .ok (.iconst 0, 1) := by decide +kernel
theorem d_RA_write_44 : decode b_RA_write 44 = .ok (.istore_n 3, 1) := by decide +kernel
theorem d_RA_write_45 : decode b_RA_write 45 = .ok (.iload_n 3, 1) := by decide +kernel
theorem d_RA_write_46 : decode b_RA_write 46 = .ok (.aload_n 2, 1) := by decide +kernel
theorem d_RA_write_47 : decode b_RA_write 47 = .ok (.getfield 126, 3) := by decide +kernel
theorem d_RA_write_50 : decode b_RA_write 50 = .ok (.if_icmp .gt 42, 3) := by decide +kernel
theorem d_RA_write_53 : decode b_RA_write 53 = .ok (.aload_n 0, 1) := by decide +kernel
theorem d_RA_write_54 : decode b_RA_write 54 = .ok (.iload_n 3, 1) := by decide +kernel
theorem d_RA_write_55 : decode b_RA_write 55 = .ok (.ifCond .ne 8, 3) := by decide +kernel
theorem d_RA_write_58 : decode b_RA_write 58 = .ok (.bipush 91, 2) := by decide +kernel
theorem d_RA_write_60 : decode b_RA_write 60 = .ok (.goto 5, 3) := by decide +kernel
theorem d_RA_write_63 : decode b_RA_write 63 = .ok (.bipush 44, 2) := by decide +kernel
theorem d_RA_write_65 : decode b_RA_write 65 = .ok (.invokevirtual 162, 3) := by decide +kernel
theorem d_RA_write_68 : decode b_RA_write 68 = .ok (.aload_n 0, 1) := by decide +kernel
theorem d_RA_write_69 : decode b_RA_write 69 = .ok (.getfield 24, 3) := by decide +kernel
theorem d_RA_write_72 : decode b_RA_write 72 = .ok (.aload_n 2, 1) := by decide +kernel
theorem d_RA_write_73 : decode b_RA_write 73 = .ok (.getfield 132, 3) := by decide +kernel
theorem d_RA_write_76 : decode b_RA_write 76 = .ok (.iload_n 3, 1) := by decide +kernel
theorem d_RA_write_77 : decode b_RA_write 77 = .ok (.iaload, 1) := by decide +kernel
theorem d_RA_write_78 : decode b_RA_write 78 = .ok (.i2l, 1) := by decide +kernel
theorem d_RA_write_79 : decode b_RA_write 79 = .ok (.invokevirtual 165, 3) := by decide +kernel
theorem d_RA_write_82 : decode b_RA_write 82 = .ok (.aload_n 0, 1) := by decide +kernel
theorem d_RA_write_83 : decode b_RA_write 83 = .ok (.invokevirtual 159, 3) := by decide +kernel
theorem d_RA_write_86 : decode b_RA_write 86 = .ok (.iinc 3 1, 3) := by decide +kernel
theorem d_RA_write_89 : decode b_RA_write 89 = .ok (.goto (-44), 3) := by decide +kernel
theorem d_RA_write_92 : decode b_RA_write 92 = .ok (.aload_n 0, 1) := by decide +kernel
theorem d_RA_write_93 : decode b_RA_write 93 = .ok (.bipush 93, 2) := by decide +kernel
theorem d_RA_write_95 : decode b_RA_write 95 = .ok (.invokevirtual 162, 3) := by decide +kernel
theorem d_RA_write_98 : decode b_RA_write 98 = .ok (.aload_n 0, 1) := by decide +kernel
theorem d_RA_write_99 : decode b_RA_write 99 = .ok (.bipush 35, 2) := by decide +kernel
theorem d_RA_write_101 : decode b_RA_write 101 = .ok (.invokevirtual 162, 3) := by decide +kernel
theorem d_RA_write_104 : decode b_RA_write 104 = .ok (.aload_n 0, 1) := by decide +kernel
theorem d_RA_write_105 : decode b_RA_write 105 = .ok (.getfield 24, 3) := by decide +kernel
theorem d_RA_write_108 : decode b_RA_write 108 = .ok (.aload_n 2, 1) := by decide +kernel
theorem d_RA_write_109 : decode b_RA_write 109 = .ok (.getfield 135, 3) := by decide +kernel
theorem d_RA_write_112 : decode b_RA_write 112 = .ok (.i2l, 1) := by decide +kernel
theorem d_RA_write_113 : decode b_RA_write 113 = .ok (.invokevirtual 165, 3) := by decide +kernel
theorem d_RA_write_116 : decode b_RA_write 116 = .ok (.aload_n 0, 1) := by decide +kernel
theorem d_RA_write_117 : decode b_RA_write 117 = .ok (.invokevirtual 159, 3) := by decide +kernel
theorem d_RA_write_120 : decode b_RA_write 120 = .ok (.aload_n 0, 1) := by decide +kernel
theorem d_RA_write_121 : decode b_RA_write 121 = .ok (.getfield 120, 3) := by decide +kernel
theorem d_RA_write_124 : decode b_RA_write 124 = .ok (.ireturn, 1) := by decide +kernel
theorem d_Reader_factor_0 : decode b_Reader_factor 0 = .ok (.iconst 0, 1) := by decide +kernel
theorem d_Reader_factor_1 : decode b_Reader_factor 1 = .ok (.istore_n 2, 1) := by decide +kernel
theorem d_Reader_factor_2 : decode b_Reader_factor 2 = .ok (.aload_n 0, 1) := by decide +kernel
theorem d_Reader_factor_3 : decode b_Reader_factor 3 = .ok (.invokevirtual 42, 3) := by decide +kernel
theorem d_Reader_factor_6 : decode b_Reader_factor 6 = .ok (.istore_n 3, 1) := by decide +kernel
theorem d_Reader_factor_7 : decode b_Reader_factor 7 = .ok (.iconst 0, 1) := by decide +kernel
theorem d_Reader_factor_8 : decode b_Reader_factor 8 = .ok (.istore 4, 2) := by decide +kernel
theorem d_Reader_factor_10 : decode b_Reader_factor 10 = .ok (.iload 4, 2) := by decide +kernel
theorem d_Reader_factor_12 : decode b_Reader_factor 12 = .ok (.sipush 400, 3) := by decide +kernel
theorem d_Reader_factor_15 : decode b_Reader_factor 15 = .ok (.if_icmp .ge 40, 3) := by decide +kernel
theorem d_Reader_factor_18 : decode b_Reader_factor 18 = .ok (.iload_n 3, 1) := by decide +kernel
theorem d_Reader_factor_19 : decode b_Reader_factor 19 = .ok (.bipush 45, 2) := by decide +kernel
theorem d_Reader_factor_21 : decode b_Reader_factor 21 = .ok (.if_icmp .ne 34, 3) := by decide +kernel
theorem d_Reader_factor_55 : decode b_Reader_factor 55 = .ok (.iconst 0, 1) := by decide +kernel
theorem d_Reader_factor_56 : decode b_Reader_factor 56 = .ok (.istore 4, 2) := by decide +kernel
theorem d_Reader_factor_58 : decode b_Reader_factor 58 = .ok (.iload_n 3, 1) := by decide +kernel
theorem d_Reader_factor_59 : decode b_Reader_factor 59 = .ok (.bipush 48, 2) := by decide +kernel
theorem d_Reader_factor_61 : decode b_Reader_factor 61 = .ok (.if_icmp .lt 31, 3) := by decide +kernel
theorem d_Reader_factor_92 : decode b_Reader_factor 92 = .ok (.iload_n 3, 1) := by decide +kernel
theorem d_Reader_factor_93 : decode b_Reader_factor 93 = .ok (.bipush 97, 2) := by decide +kernel
theorem d_Reader_factor_95 : decode b_Reader_factor 95 = .ok (.if_icmp .lt 38, 3) := by decide +kernel
theorem d_Reader_factor_133 : decode b_Reader_factor 133 = .ok (.iload_n 3, 1) := by decide +kernel
theorem d_Reader_factor_134 : decode b_Reader_factor 134 = .ok (.bipush 40, 2) := by decide +kernel
theorem d_Reader_factor_136 : decode b_Reader_factor 136 = .ok (.if_icmp .ne 13, 3) := by decide +kernel
theorem d_Reader_factor_149 : decode b_Reader_factor 149 = .ok (.iload_n 3, 1) := by decide +kernel
theorem d_Reader_factor_150 : decode b_Reader_factor 150 = .ok (.bipush 35, 2) := by decide +kernel
theorem d_Reader_factor_152 : decode b_Reader_factor 152 = .ok (.if_icmp .ne 13, 3) := by decide +kernel
theorem d_Reader_factor_165 : decode b_Reader_factor 165 = .ok (.iload_n 3, 1) := by decide +kernel
theorem d_Reader_factor_166 : decode b_Reader_factor 166 = .ok (.bipush 64, 2) := by decide +kernel
theorem d_Reader_factor_168 : decode b_Reader_factor 168 = .ok (.if_icmp .ne 10, 3) := by decide +kernel
theorem d_Reader_factor_178 : decode b_Reader_factor 178 = .ok (.iload_n 2, 1) := by decide +kernel
theorem d_Reader_factor_179 : decode b_Reader_factor 179 = .ok (.ifCond .eq 8, 3) := by decide +kernel
theorem d_Reader_factor_187 : decode b_Reader_factor 187 = .ok (.iload 4, 2) := by decide +kernel
theorem d_Reader_factor_189 : decode b_Reader_factor 189 = .ok (.ireturn, 1) := by decide +kernel
theorem d_Reader_init_0 : decode b_Reader_init 0 = .ok (.aload_n 0, 1) := by decide +kernel
theorem d_Reader_init_1 : decode b_Reader_init 1 = .ok (.invokespecial 3, 3) := by decide +kernel
theorem d_Reader_init_4 : decode b_Reader_init 4 = .ok (.aload_n 0, 1) := by decide +kernel
theorem d_Reader_init_5 : decode b_Reader_init 5 = .ok (.aload_n 1, 1) := by decide +kernel
theorem d_Reader_init_6 : decode b_Reader_init 6 = .ok (.putfield 9, 3) := by decide +kernel
theorem d_Reader_init_9 : decode b_Reader_init 9 = .ok (.aload_n 0, 1) := by decide +kernel
theorem d_Reader_init_10 : decode b_Reader_init 10 = .ok (.sipush 820, 3) := by decide +kernel
theorem d_Reader_init_13 : decode b_Reader_init 13 = .ok (.newarray .int, 2) := by decide +kernel
theorem d_Reader_init_15 : decode b_Reader_init 15 = .ok (.putfield 15, 3) := by decide +kernel
theorem d_Reader_init_18 : decode b_Reader_init 18 = .ok (.return_, 1) := by decide +kernel
theorem d_Reader_next_0 : decode b_Reader_next 0 = .ok (.aload_n 0, 1) := by decide +kernel
theorem d_Reader_next_1 : decode b_Reader_next 1 = .ok (.getfield 29, 3) := by decide +kernel
theorem d_Reader_next_4 : decode b_Reader_next 4 = .ok (.aload_n 0, 1) := by decide +kernel
theorem d_Reader_next_5 : decode b_Reader_next 5 = .ok (.getfield 25, 3) := by decide +kernel
theorem d_Reader_next_8 : decode b_Reader_next 8 = .ok (.if_icmp .ge 30, 3) := by decide +kernel
theorem d_Reader_next_38 : decode b_Reader_next 38 = .ok (.aload_n 0, 1) := by decide +kernel
theorem d_Reader_next_39 : decode b_Reader_next 39 = .ok (.getfield 29, 3) := by decide +kernel
theorem d_Reader_next_42 : decode b_Reader_next 42 = .ok (.aload_n 0, 1) := by decide +kernel
theorem d_Reader_next_43 : decode b_Reader_next 43 = .ok (.getfield 25, 3) := by decide +kernel
theorem d_Reader_next_46 : decode b_Reader_next 46 = .ok (.if_icmp .ge 19, 3) := by decide +kernel
theorem d_Reader_next_65 : decode b_Reader_next 65 = .ok (.iconst (-1), 1) := by decide +kernel
theorem d_Reader_next_66 : decode b_Reader_next 66 = .ok (.ireturn, 1) := by decide +kernel
theorem d_Reader_product_0 : decode b_Reader_product 0 = .ok (.aload_n 0, 1) := by decide +kernel
theorem d_Reader_product_1 : decode b_Reader_product 1 = .ok (.iload_n 1, 1) := by decide +kernel
theorem d_Reader_product_2 : decode b_Reader_product 2 = .ok (.invokevirtual 56, 3) := by decide +kernel
theorem d_Reader_product_5 : decode b_Reader_product 5 = .ok (.ifCond .ne 5, 3) := by decide +kernel
theorem d_Reader_product_8 : decode b_Reader_product 8 = .ok (.iconst 0, 1) := by decide +kernel
theorem d_Reader_product_9 : decode b_Reader_product 9 = .ok (.ireturn, 1) := by decide +kernel
theorem d_Reader_readTarget_0 : decode b_Reader_readTarget 0 = .ok (.aload_n 0, 1) := by decide +kernel
theorem d_Reader_readTarget_1 : decode b_Reader_readTarget 1 = .ok (.iconst (-1), 1) := by decide +kernel
theorem d_Reader_readTarget_2 : decode b_Reader_readTarget 2 = .ok (.putfield 50, 3) := by decide +kernel
theorem d_Reader_readTarget_5 : decode b_Reader_readTarget 5 = .ok (.aload_n 0, 1) := by decide +kernel
theorem d_Reader_readTarget_6 : decode b_Reader_readTarget 6 = .ok (.invokevirtual 42, 3) := by decide +kernel
theorem d_Reader_readTarget_9 : decode b_Reader_readTarget 9 = .ok (.istore_n 1, 1) := by decide +kernel
theorem d_Reader_readTarget_10 : decode b_Reader_readTarget 10 = .ok (.iload_n 1, 1) := by decide +kernel
theorem d_Reader_readTarget_11 : decode b_Reader_readTarget 11 = .ok (.bipush 97, 2) := by decide +kernel
theorem d_Reader_readTarget_13 : decode b_Reader_readTarget 13 = .ok (.if_icmp .lt 9, 3) := by decide +kernel
theorem d_Reader_readTarget_22 : decode b_Reader_readTarget 22 = .ok (.return_, 1) := by decide +kernel
theorem d_Reader_reads_0 : decode b_Reader_reads 0 = .ok (.aload_n 0, 1) := by decide +kernel
theorem d_Reader_reads_1 : decode b_Reader_reads 1 = .ok (.iload_n 1, 1) := by decide +kernel
theorem d_Reader_reads_2 : decode b_Reader_reads 2 = .ok (.aload_n 0, 1) := by decide +kernel
theorem d_Reader_reads_3 : decode b_Reader_reads 3 = .ok (.getfield 9, 3) := by decide +kernel
theorem d_Reader_reads_6 : decode b_Reader_reads 6 = .ok (.arraylength, 1) := by decide +kernel
theorem d_Reader_reads_7 : decode b_Reader_reads 7 = .ok (.invokestatic 19, 3) := by decide +kernel
theorem d_Reader_reads_10 : decode b_Reader_reads 10 = .ok (.putfield 25, 3) := by decide +kernel
theorem d_Reader_reads_13 : decode b_Reader_reads 13 = .ok (.aload_n 0, 1) := by decide +kernel
theorem d_Reader_reads_14 : decode b_Reader_reads 14 = .ok (.iconst 0, 1) := by decide +kernel
theorem d_Reader_reads_15 : decode b_Reader_reads 15 = .ok (.putfield 29, 3) := by decide +kernel
theorem d_Reader_reads_18 : decode b_Reader_reads 18 = .ok (.aload_n 0, 1) := by decide +kernel
theorem d_Reader_reads_19 : decode b_Reader_reads 19 = .ok (.iconst 0, 1) := by decide +kernel
theorem d_Reader_reads_20 : decode b_Reader_reads 20 = .ok (.putfield 32, 3) := by decide +kernel
theorem d_Reader_reads_23 : decode b_Reader_reads 23 = .ok (.aload_n 0, 1) := by decide +kernel
theorem d_Reader_reads_24 : decode b_Reader_reads 24 = .ok (.invokevirtual 35, 3) := by decide +kernel
theorem d_Reader_reads_27 : decode b_Reader_reads 27 = .ok (.aload_n 0, 1) := by decide +kernel
theorem d_Reader_reads_28 : decode b_Reader_reads 28 = .ok (.iconst 0, 1) := by decide +kernel
theorem d_Reader_reads_29 : decode b_Reader_reads 29 = .ok (.invokevirtual 38, 3) := by decide +kernel
theorem d_Reader_reads_32 : decode b_Reader_reads 32 = .ok (.ifCond .ne 5, 3) := by decide +kernel
theorem d_Reader_reads_35 : decode b_Reader_reads 35 = .ok (.iconst 0, 1) := by decide +kernel
theorem d_Reader_reads_36 : decode b_Reader_reads 36 = .ok (.ireturn, 1) := by decide +kernel
theorem d_Reader_sum_0 : decode b_Reader_sum 0 = .ok (.aload_n 0, 1) := by decide +kernel
theorem d_Reader_sum_1 : decode b_Reader_sum 1 = .ok (.iload_n 1, 1) := by decide +kernel
theorem d_Reader_sum_2 : decode b_Reader_sum 2 = .ok (.invokevirtual 53, 3) := by decide +kernel
theorem d_Reader_sum_5 : decode b_Reader_sum 5 = .ok (.ifCond .ne 5, 3) := by decide +kernel
theorem d_Reader_sum_8 : decode b_Reader_sum 8 = .ok (.iconst 0, 1) := by decide +kernel
theorem d_Reader_sum_9 : decode b_Reader_sum 9 = .ok (.ireturn, 1) := by decide +kernel
theorem d_Sums_init_0 : decode b_Sums_init 0 = .ok (.aload_n 0, 1) := by decide +kernel
theorem d_Sums_init_1 : decode b_Sums_init 1 = .ok (.invokespecial 1, 3) := by decide +kernel
theorem d_Sums_init_4 : decode b_Sums_init 4 = .ok (.aload_n 0, 1) := by decide +kernel
theorem d_Sums_init_5 : decode b_Sums_init 5 = .ok (.bipush 13, 2) := by decide +kernel
theorem d_Sums_init_7 : decode b_Sums_init 7 = .ok (.anewarray 9, 3) := by decide +kernel
theorem d_Sums_init_10 : decode b_Sums_init 10 = .ok (.putfield 11, 3) := by decide +kernel
theorem d_Sums_init_13 : decode b_Sums_init 13 = .ok (.aload_n 0, 1) := by decide +kernel
theorem d_Sums_init_14 : decode b_Sums_init 14 = .ok (.bipush 13, 2) := by decide +kernel
theorem d_Sums_init_16 : decode b_Sums_init 16 = .ok (.anewarray 9, 3) := by decide +kernel
theorem d_Sums_init_19 : decode b_Sums_init 19 = .ok (.putfield 17, 3) := by decide +kernel
theorem d_Sums_init_22 : decode b_Sums_init 22 = .ok (.aload_n 0, 1) := by decide +kernel
theorem d_Sums_init_23 : decode b_Sums_init 23 = .ok (.bipush 13, 2) := by decide +kernel
theorem d_Sums_init_25 : decode b_Sums_init 25 = .ok (.anewarray 9, 3) := by decide +kernel
theorem d_Sums_init_28 : decode b_Sums_init 28 = .ok (.putfield 20, 3) := by decide +kernel
theorem d_Sums_init_31 : decode b_Sums_init 31 = .ok (.iconst 0, 1) := by decide +kernel
theorem d_Sums_init_32 : decode b_Sums_init 32 = .ok (.istore_n 1, 1) := by decide +kernel
theorem d_Sums_init_33 : decode b_Sums_init 33 = .ok (.iload_n 1, 1) := by decide +kernel
theorem d_Sums_init_34 : decode b_Sums_init 34 = .ok (.bipush 12, 2) := by decide +kernel
theorem d_Sums_init_36 : decode b_Sums_init 36 = .ok (.if_icmp .gt 54, 3) := by decide +kernel
theorem d_Sums_init_39 : decode b_Sums_init 39 = .ok (.aload_n 0, 1) := by decide +kernel
theorem d_Sums_init_40 : decode b_Sums_init 40 = .ok (.getfield 11, 3) := by decide +kernel
theorem d_Sums_init_43 : decode b_Sums_init 43 = .ok (.iload_n 1, 1) := by decide +kernel
theorem d_Sums_init_44 : decode b_Sums_init 44 = .ok (.new 9, 3) := by decide +kernel
theorem d_Sums_init_47 : decode b_Sums_init 47 = .ok (.dup, 1) := by decide +kernel
theorem d_Sums_init_48 : decode b_Sums_init 48 = .ok (.bipush 28, 2) := by decide +kernel
theorem d_Sums_init_50 : decode b_Sums_init 50 = .ok (.invokespecial 23, 3) := by decide +kernel
theorem d_Sums_init_53 : decode b_Sums_init 53 = .ok (.aastore, 1) := by decide +kernel
theorem d_Sums_init_54 : decode b_Sums_init 54 = .ok (.aload_n 0, 1) := by decide +kernel
theorem d_Sums_init_55 : decode b_Sums_init 55 = .ok (.getfield 17, 3) := by decide +kernel
theorem d_Sums_init_58 : decode b_Sums_init 58 = .ok (.iload_n 1, 1) := by decide +kernel
theorem d_Sums_init_59 : decode b_Sums_init 59 = .ok (.new 9, 3) := by decide +kernel
theorem d_Sums_init_62 : decode b_Sums_init 62 = .ok (.dup, 1) := by decide +kernel
theorem d_Sums_init_63 : decode b_Sums_init 63 = .ok (.bipush 28, 2) := by decide +kernel
theorem d_Sums_init_65 : decode b_Sums_init 65 = .ok (.invokespecial 23, 3) := by decide +kernel
theorem d_Sums_init_68 : decode b_Sums_init 68 = .ok (.aastore, 1) := by decide +kernel
theorem d_Sums_init_69 : decode b_Sums_init 69 = .ok (.aload_n 0, 1) := by decide +kernel
theorem d_Sums_init_70 : decode b_Sums_init 70 = .ok (.getfield 20, 3) := by decide +kernel
theorem d_Sums_init_73 : decode b_Sums_init 73 = .ok (.iload_n 1, 1) := by decide +kernel
theorem d_Sums_init_74 : decode b_Sums_init 74 = .ok (.new 9, 3) := by decide +kernel
theorem d_Sums_init_77 : decode b_Sums_init 77 = .ok (.dup, 1) := by decide +kernel
theorem d_Sums_init_78 : decode b_Sums_init 78 = .ok (.bipush 28, 2) := by decide +kernel
theorem d_Sums_init_80 : decode b_Sums_init 80 = .ok (.invokespecial 23, 3) := by decide +kernel
theorem d_Sums_init_83 : decode b_Sums_init 83 = .ok (.aastore, 1) := by decide +kernel
theorem d_Sums_init_84 : decode b_Sums_init 84 = .ok (.iinc 1 1, 3) := by decide +kernel
theorem d_Sums_init_87 : decode b_Sums_init 87 = .ok (.goto (-54), 3) := by decide +kernel
theorem d_Sums_init_90 : decode b_Sums_init 90 = .ok (.aload_n 0, 1) := by decide +kernel
theorem d_Sums_init_91 : decode b_Sums_init 91 = .ok (.new 9, 3) := by decide +kernel
theorem d_Sums_init_94 : decode b_Sums_init 94 = .ok (.dup, 1) := by decide +kernel
theorem d_Sums_init_95 : decode b_Sums_init 95 = .ok (.bipush 56, 2) := by decide +kernel
theorem d_Sums_init_97 : decode b_Sums_init 97 = .ok (.invokespecial 23, 3) := by decide +kernel
theorem d_Sums_init_100 : decode b_Sums_init 100 = .ok (.putfield 26, 3) := by decide +kernel
theorem d_Sums_init_103 : decode b_Sums_init 103 = .ok (.return_, 1) := by decide +kernel
theorem d_Value_finishFraction_0 : decode b_Value_finishFraction 0 = .ok (.aload_n 0, 1) := by decide +kernel
theorem d_Value_finishFraction_1 : decode b_Value_finishFraction 1 = .ok (.iconst 0, 1) := by decide +kernel
theorem d_Value_finishFraction_2 : decode b_Value_finishFraction 2 = .ok (.putfield 31, 3) := by decide +kernel
theorem d_Value_finishFraction_5 : decode b_Value_finishFraction 5 = .ok (.aload_n 0, 1) := by decide +kernel
theorem d_Value_finishFraction_6 : decode b_Value_finishFraction 6 = .ok (.iconst 1, 1) := by decide +kernel
theorem d_Value_finishFraction_7 : decode b_Value_finishFraction 7 = .ok (.putfield 34, 3) := by decide +kernel
theorem d_Value_finishFraction_10 : decode b_Value_finishFraction 10 = .ok (.aload_n 0, 1) := by decide +kernel
theorem d_Value_finishFraction_11 : decode b_Value_finishFraction 11 = .ok (.aload_n 0, 1) := by decide +kernel
theorem d_Value_finishFraction_12 : decode b_Value_finishFraction 12 = .ok (.getfield 9, 3) := by decide +kernel
theorem d_Value_finishFraction_15 : decode b_Value_finishFraction 15 = .ok (.iconst 0, 1) := by decide +kernel
theorem d_Value_finishFraction_16 : decode b_Value_finishFraction 16 = .ok (.iaload, 1) := by decide +kernel
theorem d_Value_finishFraction_17 : decode b_Value_finishFraction 17 = .ok (.ifCond .le 7, 3) := by decide +kernel
theorem d_Value_finishFraction_24 : decode b_Value_finishFraction 24 = .ok (.iconst 0, 1) := by decide +kernel
theorem d_Value_finishFraction_25 : decode b_Value_finishFraction 25 = .ok (.putfield 37, 3) := by decide +kernel
theorem d_Value_finishFraction_28 : decode b_Value_finishFraction 28 = .ok (.aload_n 0, 1) := by decide +kernel
theorem d_Value_finishFraction_29 : decode b_Value_finishFraction 29 = .ok (.iconst 0, 1) := by decide +kernel
theorem d_Value_finishFraction_30 : decode b_Value_finishFraction 30 = .ok (.putfield 40, 3) := by decide +kernel
theorem d_Value_finishFraction_33 : decode b_Value_finishFraction 33 = .ok (.aload_n 0, 1) := by decide +kernel
theorem d_Value_finishFraction_34 : decode b_Value_finishFraction 34 = .ok (.getfield 20, 3) := by decide +kernel
theorem d_Value_finishFraction_37 : decode b_Value_finishFraction 37 = .ok (.lconst 0, 1) := by decide +kernel
theorem d_Value_finishFraction_38 : decode b_Value_finishFraction 38 = .ok (.invokevirtual 43, 3) := by decide +kernel
theorem d_Value_finishFraction_41 : decode b_Value_finishFraction 41 = .ok (.return_, 1) := by decide +kernel
theorem d_Value_hasPolynomialOf_0 : decode b_Value_hasPolynomialOf 0 = .ok (.aload_n 0, 1) := by decide +kernel
theorem d_Value_hasPolynomialOf_1 : decode b_Value_hasPolynomialOf 1 = .ok (.getfield 24, 3) := by decide +kernel
theorem d_Value_hasPolynomialOf_4 : decode b_Value_hasPolynomialOf 4 = .ok (.aload_n 1, 1) := by decide +kernel
theorem d_Value_hasPolynomialOf_5 : decode b_Value_hasPolynomialOf 5 = .ok (.getfield 24, 3) := by decide +kernel
theorem d_Value_hasPolynomialOf_8 : decode b_Value_hasPolynomialOf 8 = .ok (.if_icmp .eq 5, 3) := by decide +kernel
theorem d_Value_hasPolynomialOf_13 : decode b_Value_hasPolynomialOf 13 = .ok (.iconst 0, 1) := by decide +kernel
theorem d_Value_hasPolynomialOf_14 : decode b_Value_hasPolynomialOf 14 = .ok (.istore_n 2, 1) := by decide +kernel
theorem d_Value_hasPolynomialOf_15 : decode b_Value_hasPolynomialOf 15 = .ok (.iload_n 2, 1) := by decide +kernel
theorem d_Value_hasPolynomialOf_16 : decode b_Value_hasPolynomialOf 16 = .ok (.aload_n 0, 1) := by decide +kernel
theorem d_Value_hasPolynomialOf_17 : decode b_Value_hasPolynomialOf 17 = .ok (.getfield 24, 3) := by decide +kernel
theorem d_Value_hasPolynomialOf_20 : decode b_Value_hasPolynomialOf 20 = .ok (.if_icmp .gt 26, 3) := by decide +kernel
theorem d_Value_hasPolynomialOf_23 : decode b_Value_hasPolynomialOf 23 = .ok (.aload_n 0, 1) := by decide +kernel
theorem d_Value_hasPolynomialOf_24 : decode b_Value_hasPolynomialOf 24 = .ok (.getfield 9, 3) := by decide +kernel
theorem d_Value_hasPolynomialOf_27 : decode b_Value_hasPolynomialOf 27 = .ok (.iload_n 2, 1) := by decide +kernel
theorem d_Value_hasPolynomialOf_28 : decode b_Value_hasPolynomialOf 28 = .ok (.iaload, 1) := by decide +kernel
theorem d_Value_hasPolynomialOf_29 : decode b_Value_hasPolynomialOf 29 = .ok (.aload_n 1, 1) := by decide +kernel
theorem d_Value_hasPolynomialOf_30 : decode b_Value_hasPolynomialOf 30 = .ok (.getfield 9, 3) := by decide +kernel
theorem d_Value_hasPolynomialOf_33 : decode b_Value_hasPolynomialOf 33 = .ok (.iload_n 2, 1) := by decide +kernel
theorem d_Value_hasPolynomialOf_34 : decode b_Value_hasPolynomialOf 34 = .ok (.iaload, 1) := by decide +kernel
theorem d_Value_hasPolynomialOf_35 : decode b_Value_hasPolynomialOf 35 = .ok (.if_icmp .eq 5, 3) := by decide +kernel
theorem d_Value_hasPolynomialOf_40 : decode b_Value_hasPolynomialOf 40 = .ok (.iinc 2 1, 3) := by decide +kernel
theorem d_Value_hasPolynomialOf_43 : decode b_Value_hasPolynomialOf 43 = .ok (.goto (-28), 3) := by decide +kernel
theorem d_Value_hasPolynomialOf_46 : decode b_Value_hasPolynomialOf 46 = .ok (.iconst 1, 1) := by decide +kernel
theorem d_Value_hasPolynomialOf_47 : decode b_Value_hasPolynomialOf 47 = .ok (.ireturn, 1) := by decide +kernel
theorem d_Value_init_0 : decode b_Value_init 0 = .ok (.aload_n 0, 1) := by decide +kernel
theorem d_Value_init_1 : decode b_Value_init 1 = .ok (.invokespecial 3, 3) := by decide +kernel
theorem d_Value_init_4 : decode b_Value_init 4 = .ok (.aload_n 0, 1) := by decide +kernel
theorem d_Value_init_5 : decode b_Value_init 5 = .ok (.bipush 7, 2) := by decide +kernel
theorem d_Value_init_7 : decode b_Value_init 7 = .ok (.newarray .int, 2) := by decide +kernel
theorem d_Value_init_9 : decode b_Value_init 9 = .ok (.putfield 9, 3) := by decide +kernel
theorem d_Value_init_12 : decode b_Value_init 12 = .ok (.aload_n 0, 1) := by decide +kernel
theorem d_Value_init_13 : decode b_Value_init 13 = .ok (.new 15, 3) := by decide +kernel
theorem d_Value_init_16 : decode b_Value_init 16 = .ok (.dup, 1) := by decide +kernel
theorem d_Value_init_17 : decode b_Value_init 17 = .ok (.bipush 12, 2) := by decide +kernel
theorem d_Value_init_19 : decode b_Value_init 19 = .ok (.invokespecial 17, 3) := by decide +kernel
theorem d_Value_init_22 : decode b_Value_init 22 = .ok (.putfield 20, 3) := by decide +kernel
theorem d_Value_init_25 : decode b_Value_init 25 = .ok (.return_, 1) := by decide +kernel
theorem d_Value_setFraction_0 : decode b_Value_setFraction 0 = .ok (.aload_n 0, 1) := by decide +kernel
theorem d_Value_setFraction_1 : decode b_Value_setFraction 1 = .ok (.iconst 1, 1) := by decide +kernel
end
section
/-! what each instruction is; laid by program -/
theorem d_Value_setFraction_2 : decode b_Value_setFraction 2 = .ok (.putfield 24, 3) := by decide +kernel
theorem d_Value_setFraction_5 : decode b_Value_setFraction 5 = .ok (.aload_n 0, 1) := by decide +kernel
theorem d_Value_setFraction_6 : decode b_Value_setFraction 6 = .ok (.getfield 9, 3) := by decide +kernel
theorem d_Value_setFraction_9 : decode b_Value_setFraction 9 = .ok (.iconst 0, 1) := by decide +kernel
theorem d_Value_setFraction_10 : decode b_Value_setFraction 10 = .ok (.iload_n 1, 1) := by decide +kernel
theorem d_Value_setFraction_11 : decode b_Value_setFraction 11 = .ok (.ineg, 1) := by decide +kernel
theorem d_Value_setFraction_12 : decode b_Value_setFraction 12 = .ok (.iastore, 1) := by decide +kernel
theorem d_Value_setFraction_13 : decode b_Value_setFraction 13 = .ok (.aload_n 0, 1) := by decide +kernel
theorem d_Value_setFraction_14 : decode b_Value_setFraction 14 = .ok (.getfield 9, 3) := by decide +kernel
theorem d_Value_setFraction_17 : decode b_Value_setFraction 17 = .ok (.iconst 1, 1) := by decide +kernel
theorem d_Value_setFraction_18 : decode b_Value_setFraction 18 = .ok (.iload_n 2, 1) := by decide +kernel
theorem d_Value_setFraction_19 : decode b_Value_setFraction 19 = .ok (.iastore, 1) := by decide +kernel
theorem d_Value_setFraction_20 : decode b_Value_setFraction 20 = .ok (.aload_n 0, 1) := by decide +kernel
theorem d_Value_setFraction_21 : decode b_Value_setFraction 21 = .ok (.invokevirtual 28, 3) := by decide +kernel
theorem d_Value_setFraction_24 : decode b_Value_setFraction 24 = .ok (.return_, 1) := by decide +kernel
end
section
/-! own rows: the two statics of Throwable that a throw reads -/
def zTh : String := "java/lang/Throwable"
def zS (n d : String) (A : Nat → Prop) (U : State) (H : Heap) : Prop := ∃ (c : ClassId) (k : Class) (i : Nat) (f : Field) (x : Nat) (cell : Cell) (v : Value), U.vm.findClass zTh = some c ∧ U.fieldFound? zTh n d = some (c, k, i, f) ∧ f.isStatic = true ∧ k.statics = some x ∧ H[x]? = some cell ∧ cell.vm.isStatics = true ∧ cell.cls = c ∧ f.slot < cell.slots.size ∧ k.staticTypes[f.slot]? = some f.type ∧ cell.slots[f.slot]? = some v ∧ v.isRef = true ∧ ¬ A x
theorem zS.moved {n d : String} {A : Nat → Prop} {u U : State} {H : Heap} (hvm : u.vm.Alike U.vm) (h : zS n d A u H) : zS n d A U H := by
  obtain ⟨c, k, i, f, x, cell, v, h1, h2, h3, h4, h5, h6, h7, h8, h9, h10⟩ := h
  obtain ⟨k', hi', he⟩ := State.fieldFound?_setVm hvm h2
  exact ⟨c, k', i, f, x, cell, v, by rw [hvm.findClass]; exact h1, hi', h3, by rw [he]; exact h4, h5, h6, h7, h8, by rw [he]; exact h9, h10⟩
theorem zS.kept {n d : String} {A : Nat → Prop} {U : State} {H H1 : Heap} (h : zS n d A U H) (hq : ∀ a : Nat, a < H.size → ¬ A a → H1[a]? = H[a]?) : zS n d A U H1 := by
  obtain ⟨c, k, i, f, x, cell, v, h1, h2, h3, h4, h5, h6, h7, h8, h9, h10, h11, h12⟩ := h
  exact ⟨c, k, i, f, x, cell, v, h1, h2, h3, h4, by rw [hq x (Array.getElem?_eq_some_iff.mp h5).1 h12]; exact h5, h6, h7, h8, h9, h10, h11, h12⟩
theorem zS.narrow {n d : String} {A B : Nat → Prop} {U : State} {H : Heap} (h : zS n d A U H) (hAB : ∀ q, B q → A q) : zS n d B U H := by
  obtain ⟨c, k, i, f, x, cell, v, h1, h2, h3, h4, h5, h6, h7, h8, h9, h10, h11, h12⟩ := h
  exact ⟨c, k, i, f, x, cell, v, h1, h2, h3, h4, h5, h6, h7, h8, h9, h10, h11, fun z => h12 (hAB x z)⟩
theorem zS.lays {n d : String} {A : Nat → Prop} {s : State} {args : Array Value} (h : zS n d A s s.heap) : (Cond.laysStatic zTh n d).before args s = true := by
  obtain ⟨c, k, i, f, x, cell, v, h1, h2, h3, h4, h5, h6, h7, h8, h9, -⟩ := h
  show (Cond.laysStatic zTh n d).holds args s none s [] = true
  exact Cond.laysStatic_of h1 h2 h3 h4 h5 h6 h7 h8 h9
theorem zS.refs {n d : String} {A : Nat → Prop} {s : State} {args : Array Value} (h : zS n d A s s.heap) : (Cond.isRef (.static zTh n d)).before args s = true := by
  obtain ⟨c, k, i, f, x, cell, v, h1, h2, h3, h4, h5, h6, h7, h8, h9, h10, h11, -⟩ := h
  have he : (Term.static zTh n d).eval args s none [] s = some v := by
    simp [Term.eval, State.fieldNamed?, h2, h3, h4, h5, h6, h10]
  simp only [Cond.before, Cond.holds, Cond.value, he]
  cases v <;> simp_all [Value.isRef]
theorem zS.of {n d : String} {A : Nat → Prop} {s : State} {args : Array Value} (hl : (Cond.laysStatic zTh n d).before args s = true) (hr : (Cond.isRef (.static zTh n d)).before args s = true) (hA : ∀ a : Nat, a < s.heap.size → ¬ A a) : zS n d A s s.heap := by
  obtain ⟨c, k, i, f, x, cell, h1, h2, h3, h4, h5, h6, h7, h8, h9⟩ := Cond.laysStatic_spec hl
  simp only [Cond.before, Cond.holds, Cond.value] at hr
  cases he : (Term.static zTh n d).eval args s none [] s with
  | none => simp [he] at hr
  | some v =>
    obtain ⟨-, x', cell', g1, g2, -, g3⟩ := Term.static_spec h2 he
    cases h4.symm.trans g1
    cases h5.symm.trans g2
    refine ⟨c, k, i, f, x, cell, v, h1, h2, h3, h4, h5, h6, h7, h8, h9, g3, ?_, hA x (Array.getElem?_eq_some_iff.mp h5).1⟩
    rw [he] at hr
    cases v <;> simp_all [Value.isRef]
end
section
/-! own rows: one list of words for every method, one picture of a method's surroundings (kE), one of its world (kW); the kit's rows said over them -/
def wA : List Cond := lw_tbl.filter goodWord
theorem wA_in {w : Cond} (h : w ∈ lw_tbl) (hg : goodWord w = true) : w ∈ wA := List.mem_filter.mpr ⟨h, hg⟩
theorem wA_good : ∀ w ∈ wA, goodWord w = true := fun _ h => (List.mem_filter.mp h).2
theorem wA_sub : ∀ w ∈ wA, w ∈ lw_tbl := fun _ h => (List.mem_filter.mp h).1
theorem wA_GI {c0 : Cond} (h : c0 ∈ wA) : GoodIn wA (c0 :: wA) := fun w hw => by
  rcases List.mem_cons.mp hw with rfl | hw
  · exact ⟨h, good_of_word (wA_good _ h)⟩
  · exact ⟨hw, good_of_word (wA_good _ hw)⟩
abbrev kT (a : Nat → ClassId) : List (ClassId × FieldType) := [(a 0, .int), (a 1, .long), (a 2, .byte), (a 3, .boolean), (a 4, .object "RootAlgebra$Big"), (a 5, .object "RootAlgebra$Value")]
/-- arrays of rows of longs can be made -/
def kJJ (U : State) : Prop := ∃ (comp cA : ClassId) (kA : Class), U.vm.findClass "[J" = some comp ∧ U.vm.classes[cA]? = some kA ∧ kA.kind = .array comp (.array .long) ∧ U.vm.findClass "[[J" = some cA
theorem kJJ.moved {u U : State} (hvm : u.vm.Alike U.vm) (h : kJJ u) : kJJ U := by
  obtain ⟨comp, cA, kA, h1, h2, h3, h4⟩ := h
  obtain ⟨k', hk', he⟩ := hvm.2.2 _ _ h2
  exact ⟨comp, cA, k', by rw [hvm.findClass]; exact h1, hk', by rw [he]; exact h3, by rw [hvm.findClass]; exact h4⟩
/-- which handlers take which exceptions -/
def kCT (E T : String) (U : State) : Prop := va_Nw (.castable E T) U
theorem kCT.moved {E T : String} {u U : State} (hvm : u.vm.Alike U.vm) (h : kCT E T u) : kCT E T U := va_tabs rfl (rfl : (u.setVm U.vm).vm = U.vm) (by rw [Cond.castable_setVm hvm]; exact h)
def kHs (U : State) : Prop := kCT "java/lang/IllegalArgumentException" "java/lang/IllegalArgumentException" U ∧ kCT "java/lang/IllegalStateException" "java/lang/IllegalStateException" U ∧ kCT "java/util/NoSuchElementException" "java/util/NoSuchElementException" U ∧ va_Nc "java/lang/IllegalStateException" "java/lang/IllegalArgumentException" U ∧ va_Nc "java/util/NoSuchElementException" "java/lang/IllegalArgumentException" U
theorem kHs.moved {u U : State} (hvm : u.vm.Alike U.vm) (h : kHs u) : kHs U := ⟨h.1.moved hvm, h.2.1.moved hvm, h.2.2.1.moved hvm, h.2.2.2.1.moved hvm, h.2.2.2.2.moved hvm⟩
def kK (D : va_G) (a : Nat → ClassId) (U : State) : Prop := va_K D zCl (kT a) U ∧ va_AO "RootAlgebra$Big" U ∧ va_AO "RootAlgebra$Value" U ∧ kJJ U ∧ kHs U
theorem kK.moved {D : va_G} {a : Nat → ClassId} {u U : State} (h : u.vm.Alike U.vm) (k : kK D a u) : kK D a U := ⟨va_K.moved h k.1, va_AO.moved h k.2.1, va_AO.moved h k.2.2.1, k.2.2.2.1.moved h, k.2.2.2.2.moved h⟩
/-- the two statics of Throwable that a throw reads; their class's cell isn't ours -/
def kZ (A : Nat → Prop) (U : State) (H : Heap) : Prop := zS "UNASSIGNED_STACK" "[Ljava/lang/StackTraceElement;" A U H ∧ zS "SUPPRESSED_SENTINEL" "Ljava/util/List;" A U H
theorem kZ.moved {A : Nat → Prop} {u U : State} {H : Heap} (hvm : u.vm.Alike U.vm) (h : kZ A u H) : kZ A U H := ⟨h.1.moved hvm, h.2.moved hvm⟩
theorem kZ.kept {A : Nat → Prop} {U : State} {H H1 : Heap} (h : kZ A U H) (hq : ∀ a : Nat, a < H.size → ¬ A a → H1[a]? = H[a]?) : kZ A U H1 := ⟨h.1.kept hq, h.2.kept hq⟩
theorem kZ.narrow {A B : Nat → Prop} {U : State} {H : Heap} (h : kZ A U H) (hAB : ∀ q, B q → A q) : kZ B U H := ⟨h.1.narrow hAB, h.2.narrow hAB⟩
def kE (p : Program) (m : MethodId) (c : Code) (cc : ByteArray) (nL : Nat) (s : State) (args : Array Value) (own : String) (D : va_G) (a : Nat → ClassId) (A : Nat → Prop) : Prop :=
  CallFix p m c cc nL s args wA own ∧ kK D a s ∧ (∀ q : Nat, s.heap.size ≤ q → A q) ∧ kZ A s s.heap
def kW (D : va_G) (A : Nat → Prop) (s : State) (ws : va_W) (H : Heap) (locs : List Loc) : Prop := va_P D zCl ws H ∧ va_D A ws ∧ va_S A s.heap H locs
def kP (D : va_G) (a : Nat → ClassId) (ws : va_W) (sz : Nat) : State → Prop := fun U => U.heap.size = sz ∧ va_P D zCl ws U.heap ∧ kK D a U ∧ va_D (fun _ => True) ws ∧ kZ (va_A ws sz) U U.heap
def kB (D : va_G) (a : Nat → ClassId) (A : Nat → Prop) : va_W → State → Prop := fun ws t => va_P D zCl ws t.heap ∧ kK D a t ∧ va_D A ws
theorem kP_blind {av : List Value} {D : va_G} {a : Nat → ClassId} {ws : va_W} {sz : Nat} : FrameBlind (va_Pc av (kP D a ws sz)) := fun _ U g mk q => ⟨q.1, q.2.1, q.2.2.1, kK.moved (u := U) (U := U.calling g mk _) (Vm.Alike.refl U.vm) q.2.2.2.1, q.2.2.2.2.1, kZ.moved (u := U) (U := U.calling g mk _) (Vm.Alike.refl U.vm) q.2.2.2.2.2⟩
theorem kRA_inj {U : State} {c1 c2 : ClassId} {ty : FieldType} (h1 : va_RA U c1 ty) (h2 : va_RA U c2 ty) : c1 = c2 := by
  cases ty with
  | object C =>
    obtain ⟨_, _, _, _, _, e1⟩ := h1
    obtain ⟨_, _, _, _, _, e2⟩ := h2
    exact Option.some.inj (e1.symm.trans e2)
  | _ =>
    have e1 : U.vm.findClass _ = some c1 := h1
    have e2 : U.vm.findClass _ = some c2 := h2
    exact Option.some.inj (e1.symm.trans e2)
/-! worlds: fewer cells, in any order -/
theorem kW_sub {D : va_G} {A : Nat → Prop} {s : State} {ws ws' : va_W} {H : Heap} {locs : List Loc} (w : kW D A s ws H locs) (is : List Nat) (hn : va_nd is = true) (hs : is.map (fun i => ws[i]?) = ws'.map some) : kW D A s ws' H locs :=
  ⟨fun k q hk => by obtain ⟨i, _, hi⟩ := va_in_of is hs hk; exact w.1 i q hi, w.2.1.sub is hn hs, w.2.2⟩
theorem kW_drop {D : va_G} {A : Nat → Prop} {s : State} {ws x : va_W} {H : Heap} {locs : List Loc} (w : kW D A s (ws ++ x) H locs) : kW D A s ws H locs := by
  have key : ∀ (k : Nat) (q : Nat × va_E), ws[k]? = some q → (ws ++ x)[k]? = some q := fun k q hk => by
    rw [List.getElem?_append_left (List.getElem?_eq_some_iff.mp hk).1]; exact hk
  exact ⟨fun k q hk => w.1 k q (key k q hk), ⟨fun i j p q hi hj => w.2.1.1 i j p q (key i p hi) (key j q hj), fun k q hk => w.2.1.2 k q (key k q hk)⟩, w.2.2⟩
/-- what is known of a class of ours -/
def kCl (ci : Nat) (C : String) (T : u_T) (N : Nat) (ty : Nat → FieldType) : Prop := zCl[ci]? = some (C, T, N) ∧ (∀ w ∈ u_ws C T N, w ∈ wA) ∧ (∀ k, k < N → parseFieldDescriptor (T k).2.2.1 = some (ty k)) ∧ ∀ a, a < N → ∀ b, b < N → a ≠ b → (T a).2.1 ≠ (T b).2.1
section KX
variable {p : Program} {l : Launch} {e : Env} {R : Room} {s : State} {m : MethodId} {args : Array Value} {below : List Frame} {meth : Method} {c : Code} {H : Heap} {locs : List Loc} {cells slots : Nat} {Q : State → Prop}
variable {cc : ByteArray} {pc : Nat} {ls : Array Slot} {rest : List Value} {D : va_G} {a : Nat → ClassId} {A : Nat → Prop} {nL : Nat} {own : String} {ws : va_W}
/-! numbers -/
theorem kx_iadd (hx : p.tables.exec = Jvm.exec) (hb : c.code = cc) {x y v : Int32} (hdg : decode cc pc = .ok (.iadd, 1)) (hv : x + y = v) (k : W p l e R s m args below meth c H locs cells slots Q (F0 m (pc + 1) ls (.int v :: rest))) : W p l e R s m args below meth c H locs cells slots Q (F0 m pc ls (.int y :: .int x :: rest)) := by subst hv; exact lv_iadd hx hb hdg k
theorem kx_isub (hx : p.tables.exec = Jvm.exec) (hb : c.code = cc) {x y v : Int32} (hdg : decode cc pc = .ok (.isub, 1)) (hv : x - y = v) (k : W p l e R s m args below meth c H locs cells slots Q (F0 m (pc + 1) ls (.int v :: rest))) : W p l e R s m args below meth c H locs cells slots Q (F0 m pc ls (.int y :: .int x :: rest)) := by subst hv; exact lv_isub hx hb hdg k
theorem kx_imul (hx : p.tables.exec = Jvm.exec) (hb : c.code = cc) {x y v : Int32} (hdg : decode cc pc = .ok (.imul, 1)) (hv : x * y = v) (k : W p l e R s m args below meth c H locs cells slots Q (F0 m (pc + 1) ls (.int v :: rest))) : W p l e R s m args below meth c H locs cells slots Q (F0 m pc ls (.int y :: .int x :: rest)) := by subst hv; exact lv_imul hx hb hdg k
theorem kx_iand (hx : p.tables.exec = Jvm.exec) (hb : c.code = cc) {x y v : Int32} (hdg : decode cc pc = .ok (.iand, 1)) (hv : x &&& y = v) (k : W p l e R s m args below meth c H locs cells slots Q (F0 m (pc + 1) ls (.int v :: rest))) : W p l e R s m args below meth c H locs cells slots Q (F0 m pc ls (.int y :: .int x :: rest)) := by subst hv; exact lv_iand hx hb hdg k
theorem kx_idiv (hx : p.tables.exec = Jvm.exec) (hb : c.code = cc) {x y v : Int32} (hdg : decode cc pc = .ok (.idiv, 1)) (hne : ¬ y = 0) (hv : x / y = v) (k : W p l e R s m args below meth c H locs cells slots Q (F0 m (pc + 1) ls (.int v :: rest))) : W p l e R s m args below meth c H locs cells slots Q (F0 m pc ls (.int y :: .int x :: rest)) := by subst hv; exact lv_idiv hx hb hdg hne k
theorem kx_irem (hx : p.tables.exec = Jvm.exec) (hb : c.code = cc) {x y v : Int32} (hdg : decode cc pc = .ok (.irem, 1)) (hne : ¬ y = 0) (hv : x - x / y * y = v) (k : W p l e R s m args below meth c H locs cells slots Q (F0 m (pc + 1) ls (.int v :: rest))) : W p l e R s m args below meth c H locs cells slots Q (F0 m pc ls (.int y :: .int x :: rest)) := by subst hv; exact lv_irem hx hb hdg hne k
theorem kx_ineg (hx : p.tables.exec = Jvm.exec) (hb : c.code = cc) {x v : Int32} (hdg : decode cc pc = .ok (.ineg, 1)) (hv : -x = v) (k : W p l e R s m args below meth c H locs cells slots Q (F0 m (pc + 1) ls (.int v :: rest))) : W p l e R s m args below meth c H locs cells slots Q (F0 m pc ls (.int x :: rest)) := by subst hv; exact lv_ineg hx hb hdg k
theorem kx_ladd (hx : p.tables.exec = Jvm.exec) (hb : c.code = cc) {x y v : Int64} (hdg : decode cc pc = .ok (.ladd, 1)) (hv : x + y = v) (k : W p l e R s m args below meth c H locs cells slots Q (F0 m (pc + 1) ls (.long v :: rest))) : W p l e R s m args below meth c H locs cells slots Q (F0 m pc ls (.long y :: .long x :: rest)) := by subst hv; exact lv_ladd hx hb hdg k
theorem kx_lsub (hx : p.tables.exec = Jvm.exec) (hb : c.code = cc) {x y v : Int64} (hdg : decode cc pc = .ok (.lsub, 1)) (hv : x - y = v) (k : W p l e R s m args below meth c H locs cells slots Q (F0 m (pc + 1) ls (.long v :: rest))) : W p l e R s m args below meth c H locs cells slots Q (F0 m pc ls (.long y :: .long x :: rest)) := by subst hv; exact lv_lsub hx hb hdg k
theorem kx_lmul (hx : p.tables.exec = Jvm.exec) (hb : c.code = cc) {x y v : Int64} (hdg : decode cc pc = .ok (.lmul, 1)) (hv : x * y = v) (k : W p l e R s m args below meth c H locs cells slots Q (F0 m (pc + 1) ls (.long v :: rest))) : W p l e R s m args below meth c H locs cells slots Q (F0 m pc ls (.long y :: .long x :: rest)) := by subst hv; exact lv_lmul hx hb hdg k
theorem kx_land (hx : p.tables.exec = Jvm.exec) (hb : c.code = cc) {x y v : Int64} (hdg : decode cc pc = .ok (.land, 1)) (hv : x &&& y = v) (k : W p l e R s m args below meth c H locs cells slots Q (F0 m (pc + 1) ls (.long v :: rest))) : W p l e R s m args below meth c H locs cells slots Q (F0 m pc ls (.long y :: .long x :: rest)) := by subst hv; exact lv_land hx hb hdg k
theorem kx_lor (hx : p.tables.exec = Jvm.exec) (hb : c.code = cc) {x y v : Int64} (hdg : decode cc pc = .ok (.lor, 1)) (hv : x ||| y = v) (k : W p l e R s m args below meth c H locs cells slots Q (F0 m (pc + 1) ls (.long v :: rest))) : W p l e R s m args below meth c H locs cells slots Q (F0 m pc ls (.long y :: .long x :: rest)) := by subst hv; exact lv_lor hx hb hdg k
theorem kx_ldiv (hx : p.tables.exec = Jvm.exec) (hb : c.code = cc) {x y v : Int64} (hdg : decode cc pc = .ok (.ldiv, 1)) (hne : ¬ y = 0) (hv : x / y = v) (k : W p l e R s m args below meth c H locs cells slots Q (F0 m (pc + 1) ls (.long v :: rest))) : W p l e R s m args below meth c H locs cells slots Q (F0 m pc ls (.long y :: .long x :: rest)) := by subst hv; exact lv_ldiv hx hb hdg hne k
theorem kx_lrem (hx : p.tables.exec = Jvm.exec) (hb : c.code = cc) {x y v : Int64} (hdg : decode cc pc = .ok (.lrem, 1)) (hne : ¬ y = 0) (hv : x - x / y * y = v) (k : W p l e R s m args below meth c H locs cells slots Q (F0 m (pc + 1) ls (.long v :: rest))) : W p l e R s m args below meth c H locs cells slots Q (F0 m pc ls (.long y :: .long x :: rest)) := by subst hv; exact lv_lrem hx hb hdg hne k
theorem kx_lneg (hx : p.tables.exec = Jvm.exec) (hb : c.code = cc) {x v : Int64} (hdg : decode cc pc = .ok (.lneg, 1)) (hv : -x = v) (k : W p l e R s m args below meth c H locs cells slots Q (F0 m (pc + 1) ls (.long v :: rest))) : W p l e R s m args below meth c H locs cells slots Q (F0 m pc ls (.long x :: rest)) := by subst hv; exact lv_lneg hx hb hdg k
theorem kx_ishl (hx : p.tables.exec = Jvm.exec) (hb : c.code = cc) {x y v : Int32} (hdg : decode cc pc = .ok (.ishl, 1)) (hv : x <<< (y &&& 31) = v) (k : W p l e R s m args below meth c H locs cells slots Q (F0 m (pc + 1) ls (.int v :: rest))) : W p l e R s m args below meth c H locs cells slots Q (F0 m pc ls (.int y :: .int x :: rest)) := by subst hv; exact lv_ishl hx hb hdg k
theorem kx_ishr (hx : p.tables.exec = Jvm.exec) (hb : c.code = cc) {x y v : Int32} (hdg : decode cc pc = .ok (.ishr, 1)) (hv : x >>> (y &&& 31) = v) (k : W p l e R s m args below meth c H locs cells slots Q (F0 m (pc + 1) ls (.int v :: rest))) : W p l e R s m args below meth c H locs cells slots Q (F0 m pc ls (.int y :: .int x :: rest)) := by subst hv; exact lv_ishr hx hb hdg k
theorem kx_lcmp (hx : p.tables.exec = Jvm.exec) (hb : c.code = cc) {x y : Int64} {v : Int32} (hdg : decode cc pc = .ok (.lcmp, 1)) (hv : lg_cmp x y = v) (k : W p l e R s m args below meth c H locs cells slots Q (F0 m (pc + 1) ls (.int v :: rest))) : W p l e R s m args below meth c H locs cells slots Q (F0 m pc ls (.long y :: .long x :: rest)) := by subst hv; exact W.lcmp hx hb hdg k
/-! fields -/
theorem kx_get (E : kE p m c cc nL s args own D a A) (w : kW D A s ws H locs) {ci : Nat} {C : String} {T : u_T} {N : Nat} {ty : Nat → FieldType} (F : kCl ci C T N ty) (q0 : Nat) {x : Nat} {fs : List Value} (he : ws[q0]? = some (x, .inr (ci, fs))) (k : Nat) (hk : k < N) {index : Nat} (hl : Cond.fieldLink own index (T k).1 (T k).2.1 (T k).2.2.1 ∈ wA) {v : Value} (hv : fs[k]? = some v) (hdg : decode cc pc = .ok (.getfield index, 3))
    (kk : W p l e R s m args below meth c H locs cells slots Q (F0 m (pc + 3) ls (v :: rest))) : W p l e R s m args below meth c H locs cells slots Q (F0 m pc ls (.ref x :: rest)) :=
  va_get E.1.1 E.1.2.1 E.1.2.2.2.2 F.2.1 E.1.2.2.2.1 E.2.1.1 w.1 q0 he F.1 k hk (E.1.2.2.2.2 _ hl) (fun _ h => h) hv hdg kk
theorem kx_put (E : kE p m c cc nL s args own D a A) (w : kW D A s ws H locs) {ci : Nat} {C : String} {T : u_T} {N : Nat} {ty : Nat → FieldType} (F : kCl ci C T N ty) (q0 : Nat) {x : Nat} {fs : List Value} (he : ws[q0]? = some (x, .inr (ci, fs))) (k : Nat) (hk : k < N) {index : Nat} (hl : Cond.fieldLink own index (T k).1 (T k).2.1 (T k).2.2.1 ∈ wA) (hfin : (T k).2.2.2 = false) {v : Value} (hn : narrow (ty k) v = v) (hfit : fits (ty k) v = true) (hlen : k < fs.length) (hdg : decode cc pc = .ok (.putfield index, 3)) {ws' : va_W} (hws : ws.set q0 (x, .inr (ci, fs.set k v)) = ws')
    (kk : ∀ (H1 : Heap) (locs1 : List Loc), kW D A s ws' H1 locs1 → W p l e R s m args below meth c H1 locs1 cells slots Q (F0 m (pc + 3) ls rest)) : W p l e R s m args below meth c H locs cells slots Q (F0 m pc ls (v :: .ref x :: rest)) := by
  subst hws
  exact va_put E.1.1 E.1.2.1 E.1.2.2.2.2 F.2.1 ty F.2.2.1 F.2.2.2 E.1.2.2.2.1 E.2.1.1 w.1 w.2.1 w.2.2 q0 he F.1 k hk (E.1.2.2.2.2 _ hl) (fun _ h => h) hfin (F.2.2.1 k hk) hn hfit hlen hdg (fun H1 l1 hP hD hS => kk H1 l1 ⟨hP, hD, hS⟩)
theorem kx_putF (E : kE p m c cc nL s args own D a A) (w : kW D A s ws H locs) {ci : Nat} {C : String} {T : u_T} {N : Nat} {ty : Nat → FieldType} (F : kCl ci C T N ty) (hin2 : meth.name = "<init>") (q0 : Nat) {x : Nat} {fs : List Value} (he : ws[q0]? = some (x, .inr (ci, fs))) (k : Nat) (hk : k < N) {index : Nat} (hl : Cond.fieldLink own index (T k).1 (T k).2.1 (T k).2.2.1 ∈ wA) (hfin : (T k).2.2.2 = true) (hdecl : (T k).1 = own) {v : Value} (hn : narrow (ty k) v = v) (hfit : fits (ty k) v = true) (hlen : k < fs.length) (hdg : decode cc pc = .ok (.putfield index, 3)) {ws' : va_W} (hws : ws.set q0 (x, .inr (ci, fs.set k v)) = ws')
    (kk : ∀ (H1 : Heap) (locs1 : List Loc), kW D A s ws' H1 locs1 → W p l e R s m args below meth c H1 locs1 cells slots Q (F0 m (pc + 3) ls rest)) : W p l e R s m args below meth c H locs cells slots Q (F0 m pc ls (v :: .ref x :: rest)) := by
  subst hws
  exact va_putF E.1.1 E.1.2.1 E.1.2.2.2.2 F.2.1 ty F.2.2.1 F.2.2.2 E.1.2.2.2.1 E.2.1.1 w.1 w.2.1 w.2.2 q0 he F.1 k hk (E.1.2.2.2.2 _ hl) (fun _ h => h) hfin hin2 hdecl (F.2.2.1 k hk) hn hfit hlen hdg (fun H1 l1 hP hD hS => kk H1 l1 ⟨hP, hD, hS⟩)
/-! making -/
theorem kx_new (E : kE p m c cc nL s args own D a A) (w : kW D A s ws H locs) {ci : Nat} {C : String} {T : u_T} {N : Nat} {ty : Nat → FieldType} (F : kCl ci C T N ty) {index : Nat} (hcl : Cond.classLink own index C ∈ wA) (hinst : Cond.instantiable C N ∈ wA) (hini : Cond.initialized C ∈ wA) {fs : List Value} (hfs : ∀ j, j < N → defaultValue (ty j) = vp_V fs j) (hcells : cells + 1 ≤ R.cells) (hslots : slots + N ≤ R.slots) (hdg : decode cc pc = .ok (.new index, 3))
    (kk : ∀ (q : Nat) (H1 : Heap), kW D A s (ws ++ [(q, .inr (ci, fs))]) H1 locs → W p l e R s m args below meth c H1 locs (cells + 1) (slots + N) Q (F0 m (pc + 3) ls (.ref q :: rest))) : W p l e R s m args below meth c H locs cells slots Q (F0 m pc ls rest) :=
  va_new E.1.1 E.1.2.1 E.1.2.2.2.2 F.2.1 ty F.2.2.1 E.1.2.2.2.1 (E.1.2.2.2.2 _ hcl) (E.1.2.2.2.2 _ hinst) (E.1.2.2.2.2 _ hini) E.2.1.1 w.1 w.2.1 w.2.2 E.2.2.1 F.1 hfs hcells hslots hdg (fun q H1 hP hD hS => kk q H1 ⟨hP, hD, hS⟩)
theorem kx_newa (E : kE p m c cc nL s args own D a A) (w : kW D A s ws H locs) {atype : ArrayType} {ty : FieldType} (hty : newarray.typeOf atype = ty) (harr : Cond.arrayClass (newarray.typeOf atype) ∈ wA) (t0 : Nat) {cA : ClassId} (ht : (kT a)[t0]? = some (cA, ty)) {n : Int32} {N' : Nat} {a0 : vp_A} (ha : ∀ cA : ClassId, vp_cell cA a0 = arrV cA N' (fun _ => defaultValue ty)) (hn : ¬ n < 0) (hN : n.toNatClampNeg = N') (hbytes : N' * componentBytes ty ≤ 536870912) (hcells : cells + 1 ≤ R.cells) (hslots : slots + N' ≤ R.slots) (hdg : decode cc pc = .ok (.newarray atype, 2))
    (kk : ∀ (q : Nat) (H1 : Heap), kW D A s (ws ++ [(q, .inl (cA, a0))]) H1 locs → W p l e R s m args below meth c H1 locs (cells + 1) (slots + N') Q (F0 m (pc + 2) ls (.ref q :: rest))) : W p l e R s m args below meth c H locs cells slots Q (F0 m pc ls (.int n :: rest)) :=
  va_newa E.1.1 E.1.2.1 (E.1.2.2.2.2 _ harr) hty E.2.1.1 w.1 w.2.1 w.2.2 E.2.2.1 ha hn hN hbytes hcells hslots hdg (fun q c1 H1 hK hP hD hS => by
    have h1 : va_RA s c1 ty := (hK.2 6 (c1, ty) rfl).2
    have h2 : va_RA s cA ty := (E.2.1.1.2 t0 _ ht).2
    have e1 := kRA_inj h1 h2
    subst e1
    exact kk q H1 ⟨hP, hD, hS⟩)
/-- .. that nobody reads -/
theorem kx_newa0 (E : kE p m c cc nL s args own D a A) (w : kW D A s ws H locs) {atype : ArrayType} {ty : FieldType} (hty : newarray.typeOf atype = ty) (harr : Cond.arrayClass (newarray.typeOf atype) ∈ wA) {n : Int32} {N' : Nat} {a0 : vp_A} (ha : ∀ cA : ClassId, vp_cell cA a0 = arrV cA N' (fun _ => defaultValue ty)) (hn : ¬ n < 0) (hN : n.toNatClampNeg = N') (hbytes : N' * componentBytes ty ≤ 536870912) (hcells : cells + 1 ≤ R.cells) (hslots : slots + N' ≤ R.slots) (hdg : decode cc pc = .ok (.newarray atype, 2))
    (kk : ∀ (q : Nat) (H1 : Heap), kW D A s ws H1 locs → W p l e R s m args below meth c H1 locs (cells + 1) (slots + N') Q (F0 m (pc + 2) ls (.ref q :: rest))) : W p l e R s m args below meth c H locs cells slots Q (F0 m pc ls (.int n :: rest)) :=
  va_newa E.1.1 E.1.2.1 (E.1.2.2.2.2 _ harr) hty E.2.1.1 w.1 w.2.1 w.2.2 E.2.2.1 ha hn hN hbytes hcells hslots hdg (fun q c1 H1 hK hP hD hS => kk q H1 (kW_drop (x := [(q, .inl (c1, a0))]) ⟨hP, hD, hS⟩))
theorem kx_newq (E : kE p m c cc nL s args own D a A) (w : kW D A s ws H locs) {C : String} {index : Nat} (hcl : Cond.classLink own index C ∈ wA) (hover : va_AO C s) (t0 : Nat) {cA : ClassId} (ht : (kT a)[t0]? = some (cA, .object C)) {n : Int32} {N' : Nat} (hn : ¬ n < 0) (hN : n.toNatClampNeg = N') (hbytes : N' * 4 ≤ 536870912) (hcells : cells + 1 ≤ R.cells) (hslots : slots + N' ≤ R.slots) (hdg : decode cc pc = .ok (.anewarray index, 3))
    (kk : ∀ (q : Nat) (H1 : Heap), kW D A s (ws ++ [(q, .inl (cA, N', .inr (.inr (.inr (.inr (fun _ => none))))))]) H1 locs → W p l e R s m args below meth c H1 locs (cells + 1) (slots + N') Q (F0 m (pc + 3) ls (.ref q :: rest))) : W p l e R s m args below meth c H locs cells slots Q (F0 m pc ls (.int n :: rest)) :=
  va_newq E.1.1 E.1.2.1 E.1.2.2.2.1 (E.1.2.2.2.2 _ hcl) hover E.2.1.1 w.1 w.2.1 w.2.2 E.2.2.1 hn hN hbytes hcells hslots hdg (fun q c1 H1 hK hP hD hS => by
    have h1 : va_RA s c1 (.object C) := (hK.2 6 (c1, .object C) rfl).2
    have h2 : va_RA s cA (.object C) := (E.2.1.1.2 t0 _ ht).2
    have e1 := kRA_inj h1 h2
    subst e1
    exact kk q H1 ⟨hP, hD, hS⟩)
theorem kx_obj (E : kE p m c cc nL s args own D a A) (hl0 : ls.size = nL) {idx : Nat} (h1 : Cond.methodLink own idx Lib.objectInit ∈ wA) (h2 : Cond.instanceMethod Lib.objectInit ∈ wA) (h3 : Cond.code Lib.objectInit ⟨#[0xb1]⟩ 1 none ∈ wA) {x : Nat} (hdg : decode cc pc = .ok (.invokespecial idx, 3)) (hf : 1 ≤ R.frames) (hlo : 20 ≤ R.locals) (hr : (rest.map fun v => v.category).sum ≤ 8)
    (kk : W p l e R s m args below meth c H locs cells slots Q (F0 m (pc + 3) ls rest)) : W p l e R s m args below meth c H locs cells slots Q (F0 m pc ls (.ref x :: rest)) :=
  W.objInit E.1.1 E.1.2.1 E.1.2.2.2.1 (E.1.2.2.2.2 _ h1) (E.1.2.2.2.2 _ h2) (E.1.2.2.2.2 _ h3) rfl (hl0.trans E.1.2.2.1.symm) rfl hdg hf (by have := lv_room (m := m) (pc := pc) (ls := ls) (rest := .ref x :: rest) hr; omega) kk
/-! arrays -/
theorem kx_iald (E : kE p m c cc nL s args own D a A) (w : kW D A s ws H locs) (q0 : Nat) {x n : Nat} {f : Nat → Int32} (ha : ws[q0]? = some (x, .inl (a 0, n, .inl f))) {i : Int32} (hin : vp_in i n) {v : Int32} (hv : f i.toNatClampNeg = v) (hdg : decode cc pc = .ok (.iaload, 1)) (kk : W p l e R s m args below meth c H locs cells slots Q (F0 m (pc + 1) ls (.int v :: rest))) : W p l e R s m args below meth c H locs cells slots Q (F0 m pc ls (.int i :: .ref x :: rest)) := by
  subst hv; exact va_iald E.1.1 E.1.2.1 E.2.1.1 w.1 q0 0 ha rfl hin hdg kk
theorem kx_bald (E : kE p m c cc nL s args own D a A) (w : kW D A s ws H locs) (q0 : Nat) {x n : Nat} {f : Nat → Int32} (ha : ws[q0]? = some (x, .inl (a 2, n, .inl f))) {i : Int32} (hin : vp_in i n) {v : Int32} (hv : f i.toNatClampNeg = v) (hdg : decode cc pc = .ok (.baload, 1)) (kk : W p l e R s m args below meth c H locs cells slots Q (F0 m (pc + 1) ls (.int v :: rest))) : W p l e R s m args below meth c H locs cells slots Q (F0 m pc ls (.int i :: .ref x :: rest)) := by
  subst hv; exact va_bald E.1.1 E.1.2.1 E.2.1.1 w.1 q0 2 ha rfl hin hdg kk
theorem kx_zald (E : kE p m c cc nL s args own D a A) (w : kW D A s ws H locs) (q0 : Nat) {x n : Nat} {f : Nat → Int32} (ha : ws[q0]? = some (x, .inl (a 3, n, .inl f))) {i : Int32} (hin : vp_in i n) {v : Int32} (hv : f i.toNatClampNeg = v) (hdg : decode cc pc = .ok (.baload, 1)) (kk : W p l e R s m args below meth c H locs cells slots Q (F0 m (pc + 1) ls (.int v :: rest))) : W p l e R s m args below meth c H locs cells slots Q (F0 m pc ls (.int i :: .ref x :: rest)) := by
  subst hv; exact va_zald E.1.1 E.1.2.1 E.2.1.1 w.1 q0 3 ha rfl hin hdg kk
theorem kx_lald (E : kE p m c cc nL s args own D a A) (w : kW D A s ws H locs) (q0 : Nat) {x n : Nat} {f : Nat → Int64} (ha : ws[q0]? = some (x, .inl (a 1, n, .inr (.inl f)))) {i : Int32} (hin : vp_in i n) {v : Int64} (hv : f i.toNatClampNeg = v) (hdg : decode cc pc = .ok (.laload, 1)) (kk : W p l e R s m args below meth c H locs cells slots Q (F0 m (pc + 1) ls (.long v :: rest))) : W p l e R s m args below meth c H locs cells slots Q (F0 m pc ls (.int i :: .ref x :: rest)) := by
  subst hv; exact va_lald E.1.1 E.1.2.1 E.2.1.1 w.1 q0 1 ha rfl hin hdg kk
theorem kx_iast (E : kE p m c cc nL s args own D a A) (w : kW D A s ws H locs) (q0 : Nat) {x n : Nat} {f : Nat → Int32} (ha : ws[q0]? = some (x, .inl (a 0, n, .inl f))) {i z : Int32} (hin : vp_in i n) (k : Nat) (hk : i.toNatClampNeg = k) (hdg : decode cc pc = .ok (.iastore, 1)) {ws' : va_W} (hws : ws.set q0 (x, .inl (a 0, n, .inl (upd f k z))) = ws')
    (kk : ∀ (H1 : Heap) (locs1 : List Loc), kW D A s ws' H1 locs1 → W p l e R s m args below meth c H1 locs1 cells slots Q (F0 m (pc + 1) ls rest)) : W p l e R s m args below meth c H locs cells slots Q (F0 m pc ls (.int z :: .int i :: .ref x :: rest)) := by
  subst hk; subst hws; exact va_iast E.1.1 E.1.2.1 E.2.1.1 w.1 w.2.1 w.2.2 q0 0 ha rfl hin hdg (fun H1 l1 hP hD hS => kk H1 l1 ⟨hP, hD, hS⟩)
theorem kx_bast (E : kE p m c cc nL s args own D a A) (w : kW D A s ws H locs) (q0 : Nat) {x n : Nat} {f : Nat → Int32} (ha : ws[q0]? = some (x, .inl (a 2, n, .inl f))) {i z z' : Int32} (hin : vp_in i n) (k : Nat) (hk : i.toNatClampNeg = k) (hz : vp_nar .byte z = z') (hdg : decode cc pc = .ok (.bastore, 1)) {ws' : va_W} (hws : ws.set q0 (x, .inl (a 2, n, .inl (upd f k z'))) = ws')
    (kk : ∀ (H1 : Heap) (locs1 : List Loc), kW D A s ws' H1 locs1 → W p l e R s m args below meth c H1 locs1 cells slots Q (F0 m (pc + 1) ls rest)) : W p l e R s m args below meth c H locs cells slots Q (F0 m pc ls (.int z :: .int i :: .ref x :: rest)) := by
  subst hk; subst hz; subst hws; exact va_bast E.1.1 E.1.2.1 E.2.1.1 w.1 w.2.1 w.2.2 q0 2 ha rfl hin hdg (fun H1 l1 hP hD hS => kk H1 l1 ⟨hP, hD, hS⟩)
theorem kx_zast (E : kE p m c cc nL s args own D a A) (w : kW D A s ws H locs) (q0 : Nat) {x n : Nat} {f : Nat → Int32} (ha : ws[q0]? = some (x, .inl (a 3, n, .inl f))) {i z z' : Int32} (hin : vp_in i n) (k : Nat) (hk : i.toNatClampNeg = k) (hz : vp_nar .boolean z = z') (hdg : decode cc pc = .ok (.bastore, 1)) {ws' : va_W} (hws : ws.set q0 (x, .inl (a 3, n, .inl (upd f k z'))) = ws')
    (kk : ∀ (H1 : Heap) (locs1 : List Loc), kW D A s ws' H1 locs1 → W p l e R s m args below meth c H1 locs1 cells slots Q (F0 m (pc + 1) ls rest)) : W p l e R s m args below meth c H locs cells slots Q (F0 m pc ls (.int z :: .int i :: .ref x :: rest)) := by
  subst hk; subst hz; subst hws; exact va_zast E.1.1 E.1.2.1 E.2.1.1 w.1 w.2.1 w.2.2 q0 3 ha rfl hin hdg (fun H1 l1 hP hD hS => kk H1 l1 ⟨hP, hD, hS⟩)
theorem kx_last (E : kE p m c cc nL s args own D a A) (w : kW D A s ws H locs) (q0 : Nat) {x n : Nat} {f : Nat → Int64} (ha : ws[q0]? = some (x, .inl (a 1, n, .inr (.inl f)))) {i : Int32} {z : Int64} (hin : vp_in i n) (k : Nat) (hk : i.toNatClampNeg = k) (hdg : decode cc pc = .ok (.lastore, 1)) {ws' : va_W} (hws : ws.set q0 (x, .inl (a 1, n, .inr (.inl (vp_updL f k z)))) = ws')
    (kk : ∀ (H1 : Heap) (locs1 : List Loc), kW D A s ws' H1 locs1 → W p l e R s m args below meth c H1 locs1 cells slots Q (F0 m (pc + 1) ls rest)) : W p l e R s m args below meth c H locs cells slots Q (F0 m pc ls (.long z :: .int i :: .ref x :: rest)) := by
  subst hk; subst hws; exact va_last E.1.1 E.1.2.1 E.2.1.1 w.1 w.2.1 w.2.2 q0 1 ha rfl hin hdg (fun H1 l1 hP hD hS => kk H1 l1 ⟨hP, hD, hS⟩)
theorem kx_alen (E : kE p m c cc nL s args own D a A) (w : kW D A s ws H locs) (q0 t0 : Nat) {x : Nat} {cA : ClassId} {ar : vp_A} (ha : ws[q0]? = some (x, .inl (cA, ar))) {ty : FieldType} (ht : (kT a)[t0]? = some (cA, ty)) {v : Int32} (hv : Int32.ofNat ar.1 = v) (hdg : decode cc pc = .ok (.arraylength, 1)) (kk : W p l e R s m args below meth c H locs cells slots Q (F0 m (pc + 1) ls (.int v :: rest))) : W p l e R s m args below meth c H locs cells slots Q (F0 m pc ls (.ref x :: rest)) :=
  va_alen E.1.1 E.1.2.1 E.2.1.1 w.1 q0 t0 ha ht hv hdg kk
theorem kx_aald (E : kE p m c cc nL s args own D a A) (w : kW D A s ws H locs) (q0 t0 : Nat) {x n : Nat} {cA : ClassId} {C : String} {f : Nat → Option Nat} (ha : ws[q0]? = some (x, .inl (cA, n, .inr (.inr (.inr (.inr f)))))) (ht : (kT a)[t0]? = some (cA, .object C)) {i : Int32} (hin : vp_in i n) {y : Nat} (hv : f i.toNatClampNeg = some y) (hdg : decode cc pc = .ok (.aaload, 1)) (kk : W p l e R s m args below meth c H locs cells slots Q (F0 m (pc + 1) ls (.ref y :: rest))) : W p l e R s m args below meth c H locs cells slots Q (F0 m pc ls (.int i :: .ref x :: rest)) :=
  va_aldq E.1.1 E.1.2.1 E.2.1.1 w.1 q0 t0 ha ht hin hdg (by rw [hv]; exact kk)
theorem kx_aast (E : kE p m c cc nL s args own D a A) (w : kW D A s ws H locs) (q0 t0 qk ci : Nat) {x n : Nat} {cA : ClassId} {r : vw_C} {v : Nat} {vs : List Value} {f : Nat → Option Nat} (ha : ws[q0]? = some (x, .inl (cA, n, .inr (.inr (.inr (.inr f)))))) (ht : (kT a)[t0]? = some (cA, .object r.1)) (hv : ws[qk]? = some (v, .inr (ci, vs))) (hc : zCl[ci]? = some r) {i : Int32} (hin : vp_in i n) (k : Nat) (hk : i.toNatClampNeg = k) (hdg : decode cc pc = .ok (.aastore, 1)) {ws' : va_W} (hws : ws.set q0 (x, .inl (cA, n, .inr (.inr (.inr (.inr (va_up f k (some v))))))) = ws')
    (kk : ∀ (H1 : Heap) (locs1 : List Loc), kW D A s ws' H1 locs1 → W p l e R s m args below meth c H1 locs1 cells slots Q (F0 m (pc + 1) ls rest)) : W p l e R s m args below meth c H locs cells slots Q (F0 m pc ls (.ref v :: .int i :: .ref x :: rest)) := by
  subst hk; subst hws; exact va_astq E.1.1 E.1.2.1 E.2.1.1 w.1 w.2.1 w.2.2 q0 t0 qk ci ha ht hv hc hin hdg (fun H1 l1 hP hD hS => kk H1 l1 ⟨hP, hD, hS⟩)
end KX
theorem kx_inc (i : Nat) : nI i + Int32.ofInt 1 = nI (i + 1) := nI_1 i
theorem kx_0add (x : Int32) : 0 + x = x := Int32.zero_add x
end
section
/-! own rows: a method's contract begun, ended, used -/
def kCI (own : String) (index : Nat) (y : MethodName) (bytes : ByteArray) (maxL : Nat) (ret : Option FieldType) (n : Nat) : Prop :=
  Cond.code y bytes maxL ret ∈ wA ∧ Cond.initialized y.cls ∈ wA ∧ Cond.methodLink own index y ∈ wA ∧ (y.cls ≠ "java/lang/invoke/MethodHandle" ∧ y.cls ≠ "java/lang/invoke/VarHandle" ∧ (parseMethodDescriptor y.desc).map (fun d => d.parameters.length) = some n)
def kI (y : MethodName) : Prop := y.name = "<init>" ∧ Cond.instanceMethod y ∈ wA
def kV (C : String) (y : MethodName) : Prop := Cond.instanceMethod y ∈ wA ∧ Cond.selects C y y ∈ wA
def kS (y : MethodName) : Prop := Cond.static y ∈ wA
def kNd (isC isR : List Nat) : Prop := va_nd isC = true ∧ va_nd isR = true ∧ ∀ i ∈ isR, i ∉ isC
section KM
variable {p : Program} {l : Launch} {e : Env} {R : Room} {s : State} {m : MethodId} {args : Array Value} {below : List Frame} {meth : Method} {c : Code} {H : Heap} {locs : List Loc} {cells slots : Nat} {Q : State → Prop}
variable {cc : ByteArray} {pc : Nat} {ls : Array Slot} {rest st0 : List Value} {D : va_G} {a : Nat → ClassId} {A : Nat → Prop} {nL : Nat} {own : String} {ws : va_W}
variable {y : MethodName} {bytes : ByteArray} {maxL mc ms n index : Nat} {ret : Option FieldType} {rm : Room} {wc wr : va_W}
theorem kCI.b (E : kE p m c cc nL s args own D a A) (h : kCI own index y bytes maxL ret n) (hrc : rm.cells = mc) (hrs : rm.slots = ms) (hR : rm.frames + 1 ≤ R.frames ∧ 8 + (maxL + 11) + rm.locals ≤ R.locals) : CallB R s args own index y bytes maxL ret (Cond.code y bytes maxL ret :: wA) rm mc ms n :=
  callB_of n E.1.2.2.2.2 (wA_GI h.1) rfl hrc hrs (E.1.2.2.2.2 _ h.2.1) (E.1.2.2.2.2 _ h.2.2.1) h.2.2.2 hR
theorem kPc (E : kE p m c cc nL s args own D a A) (w : kW D A s ws H locs) {av : List Value} (isC : List Nat) (hC : isC.map (fun i => ws[i]?) = wc.map some) (hn : va_nd isC = true) : ∀ U : State, U.heap = H → s.WarmedH U.vm → va_Pc av (kP D a wc H.size) av.toArray U := fun U hU hW =>
  ⟨rfl, by rw [hU], by rw [hU]; exact fun k q hk => by obtain ⟨i, _, hi⟩ := va_in_of isC hC hk; exact w.1 i q hi, kK.moved hW.alike E.2.1, (w.2.1.sub isC hn hC).weaken (fun _ _ _ _ => trivial), by rw [hU]; exact ((E.2.2.2.kept w.2.2.2.1).moved hW.alike).narrow (va_free (wc := wc) w.2.1 w.2.2 E.2.2.1 isC hC)⟩
theorem kRecv (E : kE p m c cc nL s args own D a A) (w : kW D A s ws H locs) (ci q0 : Nat) {r : vw_C} {x : Nat} {fs : List Value} (hc : zCl[ci]? = some r) (he : ws[q0]? = some (x, .inr (ci, fs))) : ∃ cell : Cell, H[x]? = some cell ∧ cell.vm.isStatics = false ∧ s.vm.findClass r.1 = some cell.cls := va_recv E.2.1.1 w.1 hc he
/-! the call runs -/
theorem kx_rI (E : kE p m c cc nL s args own D a A) (w : kW D A s ws H locs) (hl0 : ls.size = nL) {b : Nat} {As : List Value} {Qc : Array Value → State → Outcome → State → Prop}
    (hM : Met l y (Cond.code y bytes maxL none :: wA) rm (va_Pc (.ref b :: As) (kP D a wc H.size)) Qc mc ms (va_A wc H.size)) (g1 : kCI own index y bytes maxL none n) (g2 : kI y) (isC : List Nat) (hC : isC.map (fun i => ws[i]?) = wc.map some) (hnd : va_nd isC = true) (hn : As.length = n) (hrc : rm.cells = mc) (hrs : rm.slots = ms) (hR : rm.frames + 1 ≤ R.frames ∧ 8 + (maxL + 11) + rm.locals ≤ R.locals) (hst : st0 = As.reverse ++ .ref b :: rest) (hro : (rest.map fun v => v.category).sum ≤ 8) (hdg : decode cc pc = .ok (.invokespecial index, 3)) (hf : cells + mc ≤ R.cells ∧ slots + ms ≤ R.slots) :
    va_Run p l e R s m args below meth c H locs cells slots mc ms (F0 m pc ls st0) rest (Qc (Value.ref b :: As).toArray) (va_A wc H.size) :=
  va_runI (As := As) (rest := rest) E.1 hM ⟨g1.b E hrc hrs hR, g2.1, E.1.2.2.2.2 _ g2.2⟩ ⟨kP_blind, kPc E w isC hC hnd⟩ rfl hn hl0 hst (lv_room hro) hdg hf
theorem kx_rV (E : kE p m c cc nL s args own D a A) (w : kW D A s ws H locs) (hl0 : ls.size = nL) {b : Nat} {As : List Value} {Qc : Array Value → State → Outcome → State → Prop}
    (hM : Met l y (Cond.code y bytes maxL ret :: wA) rm (va_Pc (.ref b :: As) (kP D a wc H.size)) Qc mc ms (va_A wc H.size)) {C : String} (g1 : kCI own index y bytes maxL ret n) (g2 : kV C y) (hre : ∃ cell : Cell, H[b]? = some cell ∧ cell.vm.isStatics = false ∧ s.vm.findClass C = some cell.cls) (isC : List Nat) (hC : isC.map (fun i => ws[i]?) = wc.map some) (hnd : va_nd isC = true) (hn : As.length = n) (hrc : rm.cells = mc) (hrs : rm.slots = ms) (hR : rm.frames + 1 ≤ R.frames ∧ 8 + (maxL + 11) + rm.locals ≤ R.locals) (hst : st0 = As.reverse ++ .ref b :: rest) (hro : (rest.map fun v => v.category).sum ≤ 8) (hdg : decode cc pc = .ok (.invokevirtual index, 3)) (hf : cells + mc ≤ R.cells ∧ slots + ms ≤ R.slots) :
    va_Run p l e R s m args below meth c H locs cells slots mc ms (F0 m pc ls st0) rest (Qc (Value.ref b :: As).toArray) (va_A wc H.size) :=
  va_runV (As := As) (rest := rest) E.1 hM ⟨g1.b E hrc hrs hR, E.1.2.2.2.2 _ g2.1, E.1.2.2.2.2 _ g2.2⟩ ⟨kP_blind, hre, kPc E w isC hC hnd⟩ rfl hn hl0 hst (lv_room hro) hdg hf
theorem kx_rS (E : kE p m c cc nL s args own D a A) (w : kW D A s ws H locs) (hl0 : ls.size = nL) {As : List Value} {Qc : Array Value → State → Outcome → State → Prop}
    (hM : Met l y (Cond.code y bytes maxL ret :: wA) rm (va_Pc As (kP D a wc H.size)) Qc mc ms (va_A wc H.size)) (g1 : kCI own index y bytes maxL ret n) (g2 : kS y) (isC : List Nat) (hC : isC.map (fun i => ws[i]?) = wc.map some) (hnd : va_nd isC = true) (hn : As.length = n) (hrc : rm.cells = mc) (hrs : rm.slots = ms) (hR : rm.frames + 1 ≤ R.frames ∧ 8 + (maxL + 11) + rm.locals ≤ R.locals) (hst : st0 = As.reverse ++ rest) (hro : (rest.map fun v => v.category).sum ≤ 8) (hdg : decode cc pc = .ok (.invokestatic index, 3)) (hf : cells + mc ≤ R.cells ∧ slots + ms ≤ R.slots) :
    va_Run p l e R s m args below meth c H locs cells slots mc ms (F0 m pc ls st0) rest (Qc As.toArray) (va_A wc H.size) :=
  va_runS (As := As) (rest := rest) E.1 hM ⟨g1.b E hrc hrs hR, E.1.2.2.2.2 _ g2⟩ ⟨kP_blind, kPc E w isC hC hnd⟩ rfl hn hl0 hst (lv_room hro) hdg hf
/-! behind it -/
theorem kx_v (E : kE p m c cc nL s args own D a A) (w : kW D A s ws H locs) {av : Array Value} {post : va_W → Prop} (isC isR : List Nat) (hC : isC.map (fun i => ws[i]?) = wc.map some) (hR : isR.map (fun i => ws[i]?) = wr.map some) (hnd : kNd isC isR)
    (hr : va_Run p l e R s m args below meth c H locs cells slots mc ms (F0 m pc ls st0) rest (va_Qv post (kB D a (va_A wc H.size)) (va_A wc H.size) av) (va_A wc H.size))
    (kk : ∀ (u : va_W) (H1 : Heap) (locs1 : List Loc), post u → kW D A s (wr ++ u) H1 locs1 → W p l e R s m args below meth c H1 locs1 (cells + mc) (slots + ms) Q (F0 m (pc + 3) ls rest)) : W p l e R s m args below meth c H locs cells slots Q (F0 m pc ls st0) := by
  have hFc := va_free (wc := wc) w.2.1 w.2.2 E.2.2.1 isC hC
  refine va_callv hr w.2.2 (fun q _ h => hFc q h) hFc (fun u t H1 locs1 ht hvm hw hB hz1 hk1 hS => ?_)
  obtain ⟨hP1, hK1, hD1⟩ := hB
  rw [ht] at hP1
  obtain ⟨hP', hD'⟩ := va_join (wr := wr) (w1 := u) w.1 w.2.1 isC isR hC hR hnd.2.1 hnd.2.2 hk1 hFc hP1 hD1
  exact kk u H1 locs1 hw ⟨hP', hD', hS⟩
theorem kx_i (E : kE p m c cc nL s args own D a A) (w : kW D A s ws H locs) {av : Array Value} {post : Int32 → va_W → Prop} (isC isR : List Nat) (hC : isC.map (fun i => ws[i]?) = wc.map some) (hR : isR.map (fun i => ws[i]?) = wr.map some) (hnd : kNd isC isR)
    (hr : va_Run p l e R s m args below meth c H locs cells slots mc ms (F0 m pc ls st0) rest (va_Qi post (kB D a (va_A wc H.size)) (va_A wc H.size) av) (va_A wc H.size))
    (kk : ∀ (r : Int32) (u : va_W) (H1 : Heap) (locs1 : List Loc), post r u → kW D A s (wr ++ u) H1 locs1 → W p l e R s m args below meth c H1 locs1 (cells + mc) (slots + ms) Q (F0 m (pc + 3) ls (.int r :: rest))) : W p l e R s m args below meth c H locs cells slots Q (F0 m pc ls st0) := by
  have hFc := va_free (wc := wc) w.2.1 w.2.2 E.2.2.1 isC hC
  refine va_calli hr w.2.2 (fun q _ h => hFc q h) hFc (fun r u t H1 locs1 ht hvm hw hB hz1 hk1 hS => ?_)
  obtain ⟨hP1, hK1, hD1⟩ := hB
  rw [ht] at hP1
  obtain ⟨hP', hD'⟩ := va_join (wr := wr) (w1 := u) w.1 w.2.1 isC isR hC hR hnd.2.1 hnd.2.2 hk1 hFc hP1 hD1
  exact kk r u H1 locs1 hw ⟨hP', hD', hS⟩
theorem kx_l (E : kE p m c cc nL s args own D a A) (w : kW D A s ws H locs) {av : Array Value} {post : Int64 → va_W → Prop} (isC isR : List Nat) (hC : isC.map (fun i => ws[i]?) = wc.map some) (hR : isR.map (fun i => ws[i]?) = wr.map some) (hnd : kNd isC isR)
    (hr : va_Run p l e R s m args below meth c H locs cells slots mc ms (F0 m pc ls st0) rest (va_Ql post (kB D a (va_A wc H.size)) (va_A wc H.size) av) (va_A wc H.size))
    (kk : ∀ (r : Int64) (u : va_W) (H1 : Heap) (locs1 : List Loc), post r u → kW D A s (wr ++ u) H1 locs1 → W p l e R s m args below meth c H1 locs1 (cells + mc) (slots + ms) Q (F0 m (pc + 3) ls (.long r :: rest))) : W p l e R s m args below meth c H locs cells slots Q (F0 m pc ls st0) := by
  have hFc := va_free (wc := wc) w.2.1 w.2.2 E.2.2.1 isC hC
  refine va_calll hr w.2.2 (fun q _ h => hFc q h) hFc (fun r u t H1 locs1 ht hvm hw hB hz1 hk1 hS => ?_)
  obtain ⟨hP1, hK1, hD1⟩ := hB
  rw [ht] at hP1
  obtain ⟨hP', hD'⟩ := va_join (wr := wr) (w1 := u) w.1 w.2.1 isC isR hC hR hnd.2.1 hnd.2.2 hk1 hFc hP1 hD1
  exact kk r u H1 locs1 hw ⟨hP', hD', hS⟩
/-- an answer that is a cell: post has its address -/
theorem kx_r (E : kE p m c cc nL s args own D a A) (w : kW D A s ws H locs) {av : Array Value} {post : Nat → va_W → Prop} (isC isR : List Nat) (hC : isC.map (fun i => ws[i]?) = wc.map some) (hR : isR.map (fun i => ws[i]?) = wr.map some) (hnd : kNd isC isR)
    (hr : va_Run p l e R s m args below meth c H locs cells slots mc ms (F0 m pc ls st0) rest (va_Qr (fun u : Nat × va_W => post u.1 u.2) (fun u x t => u.1 = x ∧ kB D a (va_A wc H.size) u.2 t) (va_A wc H.size) av) (va_A wc H.size))
    (kk : ∀ (r : Nat) (u : va_W) (H1 : Heap) (locs1 : List Loc), post r u → kW D A s (wr ++ u) H1 locs1 → W p l e R s m args below meth c H1 locs1 (cells + mc) (slots + ms) Q (F0 m (pc + 3) ls (.ref r :: rest))) : W p l e R s m args below meth c H locs cells slots Q (F0 m pc ls st0) := by
  have hFc := va_free (wc := wc) w.2.1 w.2.2 E.2.2.1 isC hC
  refine va_callr hr w.2.2 (fun q _ h => hFc q h) hFc (fun u ra t H1 locs1 ht hvm hw hB hz1 hk1 hS => ?_)
  obtain ⟨e0, hP1, hK1, hD1⟩ := hB
  subst e0
  rw [ht] at hP1
  obtain ⟨hP', hD'⟩ := va_join (wr := wr) (w1 := u.2) w.1 w.2.1 isC isR hC hR hnd.2.1 hnd.2.2 hk1 hFc hP1 hD1
  exact kk u.1 u.2 H1 locs1 hw ⟨hP', hD', hS⟩
/-! a contract's beginning -/
theorem kM {w0 : va_W} {av : List Value} {Qc : (Nat → Prop) → Array Value → State → Outcome → State → Prop} (hy : plainName y.cls = true) (hlen : (lg_sl av).length ≤ maxL)
    (body : ∀ (p : Program) (e : Env) (s : State) (m : MethodId) (below : List Frame) (meth : Method) (c : Code) (A : Nat → Prop) (ls : Array Slot) (H : Heap) (locs : List Loc), kE p m c cc maxL s av.toArray y.cls D a A → meth.sig.returnType = ret → meth.locks = false → meth.name = y.name → kW D A s w0 H locs → lv_has ls maxL (lv_args 0 av) →
      W p l e rm s m av.toArray below meth c H locs 0 0 (MQ below (Qc A) av.toArray s mc ms A) (F0 m 0 ls [])) :
    ∀ sz : Nat, Met l y (Cond.code y cc maxL ret :: wA) rm (va_Pc av (kP D a w0 sz)) (Qc (va_A w0 sz)) mc ms (va_A w0 sz) := by
  intro sz
  refine Met.ofW (cc := cc) (maxL := maxL) (ret := ret) hy rfl ?_
  intro p e s m args below meth c s₁ B hml hv
  obtain ⟨rfl, hsz, hP, hK, hD0, hZ0⟩ := hv
  subst hsz
  have hts := atoms_spec (ws := Cond.code y cc maxL ret :: wA) B.pre
  have hl := lv_entry av (n := maxL) hlen
  rw [lg_entry_eq]
  exact body p e s m below meth c (va_A w0 s.heap.size) _ s.heap [] ⟨⟨B.exec, B.bytes, hml, findClass_of_methodNamed B.named, fun w hw => hts w (List.mem_cons_of_mem _ hw)⟩, hK, fun q h => Or.inr h, hZ0⟩ B.returns B.notSynchronized (name_of_methodNamed B.named B.method).1 ⟨hP, hD0.self (sz := s.heap.size), va_S.rf⟩ hl
/-! a contract's end -/
theorem kx_vret (E : kE p m c cc nL s args own D a A) (w : kW D A s ws H locs) (hr : meth.sig.returnType = none) (hlk : meth.locks = false) {post : va_W → Prop} (hdg : decode cc pc = .ok (.return_, 1)) (hp : post ws) : W p l e R s m args below meth c H locs cells slots (MQ below (va_Qv post (kB D a A) A) args s cells slots A) (F0 m pc ls []) :=
  W.vret E.1.1 E.1.2.1 hr (fun t ht hW => ⟨⟨ws, rfl, hp, by rw [ht]; exact w.1, kK.moved hW.alike E.2.1, w.2.1⟩, w.2.2.F ht⟩) w.2.2.2.2 hdg hlk
theorem kx_iret (E : kE p m c cc nL s args own D a A) (w : kW D A s ws H locs) (hr : meth.sig.returnType = some .int) (hlk : meth.locks = false) {post : Int32 → va_W → Prop} (hdg : decode cc pc = .ok (.ireturn, 1)) {v : Int32} (hp : post v ws) : W p l e R s m args below meth c H locs cells slots (MQ below (va_Qi post (kB D a A) A) args s cells slots A) (F0 m pc ls [.int v]) :=
  W.iret E.1.1 E.1.2.1 hr (fun t ht hW => ⟨⟨v, ws, rfl, hp, by rw [ht]; exact w.1, kK.moved hW.alike E.2.1, w.2.1⟩, w.2.2.F ht⟩) w.2.2.2.2 hdg hlk
theorem kx_zret (E : kE p m c cc nL s args own D a A) (w : kW D A s ws H locs) (hr : meth.sig.returnType = some .boolean) (hlk : meth.locks = false) {post : Int32 → va_W → Prop} (hdg : decode cc pc = .ok (.ireturn, 1)) {v : Int32} (hn : narrow .boolean (.int v) = .int v) (hp : post v ws) : W p l e R s m args below meth c H locs cells slots (MQ below (va_Qi post (kB D a A) A) args s cells slots A) (F0 m pc ls [.int v]) :=
  W.zret E.1.1 E.1.2.1 hr hn (fun t ht hW => ⟨⟨v, ws, rfl, hp, by rw [ht]; exact w.1, kK.moved hW.alike E.2.1, w.2.1⟩, w.2.2.F ht⟩) w.2.2.2.2 hdg hlk
theorem kx_lret (E : kE p m c cc nL s args own D a A) (w : kW D A s ws H locs) (hr : meth.sig.returnType = some .long) (hlk : meth.locks = false) {post : Int64 → va_W → Prop} (hdg : decode cc pc = .ok (.lreturn, 1)) {v : Int64} (hp : post v ws) : W p l e R s m args below meth c H locs cells slots (MQ below (va_Ql post (kB D a A) A) args s cells slots A) (F0 m pc ls [.long v]) :=
  W.lret E.1.1 E.1.2.1 hr (fun t ht hW => ⟨⟨v, ws, rfl, hp, by rw [ht]; exact w.1, kK.moved hW.alike E.2.1, w.2.1⟩, w.2.2.F ht⟩) w.2.2.2.2 hdg hlk
theorem kx_aret (E : kE p m c cc nL s args own D a A) (w : kW D A s ws H locs) {C : String} (hr : meth.sig.returnType = some (.object C)) (hlk : meth.locks = false) {post : Nat → va_W → Prop} (hdg : decode cc pc = .ok (.areturn, 1)) {v : Nat} (hp : post v ws) : W p l e R s m args below meth c H locs cells slots (MQ below (va_Qr (fun u : Nat × va_W => post u.1 u.2) (fun u x t => u.1 = x ∧ kB D a A u.2 t) A) args s cells slots A) (F0 m pc ls [.ref v]) :=
  W.aret E.1.1 E.1.2.1 hr (Or.inl ⟨_, rfl⟩) (Or.inr ⟨_, rfl⟩) (fun t ht hW => ⟨⟨(v, ws), v, rfl, hp, rfl, by rw [ht]; exact w.1, kK.moved hW.alike E.2.1, w.2.1⟩, w.2.2.F ht⟩) w.2.2.2.2 hdg hlk
end KM
section KJ
variable {p : Program} {l : Launch} {e : Env} {R : Room} {s : State} {m : MethodId} {args : Array Value} {below : List Frame} {meth : Method} {c : Code} {H : Heap} {locs : List Loc} {cells slots : Nat} {Q : State → Prop}
variable {cc : ByteArray} {pc : Nat} {ls : Array Slot} {rest : List Value} {D : va_G} {a : Nat → ClassId} {A : Nat → Prop} {nL : Nat} {own : String} {ws : va_W}
theorem kx_mmin (E : kE p m c cc nL s args own D a A) (hl0 : ls.size = nL) {index : Nat} {x y v : Int32} (h1 : Cond.methodLink own index Lib.Math.min.name ∈ wA) (h2 : Cond.static Lib.Math.min.name ∈ wA) (h3 : Cond.initialized "java/lang/Math" ∈ wA) (h4 : Cond.code Lib.Math.min.name Lib.Math.min.code 2 (some .int) ∈ wA) (hf : 1 ≤ R.frames) (hlo : (rest.map fun v => v.category).sum + 13 ≤ R.locals) (hc : cells ≤ R.cells ∧ slots ≤ R.slots) (hdg : decode cc pc = .ok (.invokestatic index, 3)) (hv : (if y < x then y else x) = v)
    (kk : W p l e R s m args below meth c H locs cells slots Q (F0 m (pc + 3) ls (.int v :: rest))) : W p l e R s m args below meth c H locs cells slots Q (F0 m pc ls (.int y :: .int x :: rest)) := by
  subst hv; exact va_mmin E.1.1 E.1.2.1 (E.1.2.2.1.trans hl0.symm) E.1.2.2.2.1 (E.1.2.2.2.2 _ h1) (E.1.2.2.2.2 _ h2) (E.1.2.2.2.2 _ h3) (E.1.2.2.2.2 _ h4) hf hlo hc.1 hc.2 hdg kk
theorem kx_mmax (E : kE p m c cc nL s args own D a A) (hl0 : ls.size = nL) {index : Nat} {x y v : Int32} (h1 : Cond.methodLink own index Lib.Math.max.name ∈ wA) (h2 : Cond.static Lib.Math.max.name ∈ wA) (h3 : Cond.initialized "java/lang/Math" ∈ wA) (h4 : Cond.code Lib.Math.max.name Lib.Math.max.code 2 (some .int) ∈ wA) (hf : 1 ≤ R.frames) (hlo : (rest.map fun v => v.category).sum + 13 ≤ R.locals) (hc : cells ≤ R.cells ∧ slots ≤ R.slots) (hdg : decode cc pc = .ok (.invokestatic index, 3)) (hv : (if x < y then y else x) = v)
    (kk : W p l e R s m args below meth c H locs cells slots Q (F0 m (pc + 3) ls (.int v :: rest))) : W p l e R s m args below meth c H locs cells slots Q (F0 m pc ls (.int y :: .int x :: rest)) := by
  subst hv; exact va_mmax E.1.1 E.1.2.1 (E.1.2.2.1.trans hl0.symm) E.1.2.2.2.1 (E.1.2.2.2.2 _ h1) (E.1.2.2.2.2 _ h2) (E.1.2.2.2.2 _ h3) (E.1.2.2.2.2 _ h4) hf hlo hc.1 hc.2 hdg kk
end KJ
section KY
variable {p : Program} {l : Launch} {e : Env} {R : Room} {s : State} {m : MethodId} {args : Array Value} {below : List Frame} {meth : Method} {c : Code} {H : Heap} {locs : List Loc} {cells slots : Nat} {Q : State → Prop}
variable {cc : ByteArray} {pc : Nat} {ls : Array Slot} {rest : List Value} {D : va_G} {a : Nat → ClassId} {A : Nat → Prop} {nL : Nat} {own : String} {ws : va_W}
/-- System.arraycopy of no ints -/
theorem kx_copy0 (E : kE p m c cc nL s args own D a A) (w : kW D A s ws H locs) (hl0 : ls.size = nL) {index : Nat} (h1 : Cond.methodLink own index arraycopyName ∈ wA) (h2 : Cond.native arraycopyName ∈ wA) (h3 : Cond.static arraycopyName ∈ wA) (h4 : Cond.initialized "java/lang/System" ∈ wA) (q0 q1 : Nat) {x x0 n0 n1 : Nat} {f g : Nat → Int32} (ha0 : ws[q0]? = some (x0, .inl (a 0, n0, .inl f))) (ha1 : ws[q1]? = some (x, .inl (a 0, n1, .inl g))) (hf : 1 ≤ R.frames) (hlo : (rest.map fun v => v.category).sum + (nativeFrameWords "java/lang/System" "arraycopy" 5 + 11) ≤ R.locals) (hdg : decode cc pc = .ok (.invokestatic index, 3)) {ws' : va_W} (hws : ws.set q1 (x, .inl (a 0, n1, .inl (va_cpy f g 0 0 0))) = ws')
    (kk : ∀ (H1 : Heap) (locs1 : List Loc), kW D A s ws' H1 locs1 → W p l e R s m args below meth c H1 locs1 cells slots Q (F0 m (pc + 3) ls rest)) : W p l e R s m args below meth c H locs cells slots Q (F0 m pc ls (.int 0 :: .int 0 :: .ref x :: .int 0 :: .ref x0 :: rest)) := by
  subst hws
  exact va_copyi E.1.1 E.1.2.1 (E.1.2.2.1.trans hl0.symm) E.1.2.2.2.1 (E.1.2.2.2.2 _ h1) (E.1.2.2.2.2 _ h2) (E.1.2.2.2.2 _ h3) (E.1.2.2.2.2 _ h4) E.2.1.1 w.1 w.2.1 w.2.2 q0 q1 0 0 ha0 ha1 rfl rfl rfl (by decide) (by decide) (by decide) (Nat.zero_le _) (Nat.zero_le _) (fun i hi => absurd hi (Nat.not_lt_zero i)) hf hlo hdg (fun H1 l1 hP hD hS => kk H1 l1 ⟨hP, hD, hS⟩)
end KY
end
section
/-! own rows: numbers -/
theorem kc_nlt {x y : Int64} (h : y ≤ x) : ¬ lg_cmp x y < 0 := by
  have h1 := Int64.le_iff_toInt_le.mp h
  unfold lg_cmp
  by_cases a : x > y
  · rw [if_pos a]; decide
  · rw [if_neg a]
    by_cases b : x = y
    · rw [if_pos b]; decide
    · have a' : ¬ y.toInt < x.toInt := fun z => a (Int64.lt_iff_toInt_lt.mpr z)
      exact absurd (Int64.toInt_inj.mp (by omega)) b
theorem kc_lt {x y : Int64} (h : x < y) : lg_cmp x y < 0 := by
  have h1 := Int64.lt_iff_toInt_lt.mp h
  unfold lg_cmp
  have a : ¬ x > y := fun z => by have := Int64.lt_iff_toInt_lt.mp z; omega
  have b : ¬ x = y := fun z => by rw [z] at h1; omega
  rw [if_neg a, if_neg b]; decide
theorem kc_ngt {x y : Int64} (h : x ≤ y) : ¬ 0 < lg_cmp x y := by
  have h1 := Int64.le_iff_toInt_le.mp h
  unfold lg_cmp
  have a : ¬ x > y := fun z => by have := Int64.lt_iff_toInt_lt.mp z; omega
  rw [if_neg a]
  by_cases b : x = y
  · rw [if_pos b]; decide
  · rw [if_neg b]; decide
theorem kc_gt {x y : Int64} (h : y < x) : 0 < lg_cmp x y := by
  unfold lg_cmp
  rw [if_pos h]; decide
theorem kl_in {c j d : Nat} (h1 : c ≤ j) (h2 : j ≤ d) (hd : d < 2 ^ 31) : lN c ≤ (nI j).toInt64 ∧ (nI j).toInt64 ≤ lN d := by
  rw [nI_l (by omega)]
  exact ⟨(lN_le (by omega) (by omega)).mpr h1, (lN_le (by omega) (by omega)).mpr h2⟩
theorem kl_out {c d : Nat} {x : Int32} (h : x < nI c ∨ nI d < x) (hc : c < 2 ^ 31 := by decide) (hd : d < 2 ^ 31 := by decide) : x.toInt64 < lN c ∨ lN d < x.toInt64 := by
  rcases h with h | h
  · left
    have h1 := Int32.lt_iff_toInt_lt.mp h
    rw [nI_toInt hc] at h1
    rw [Int64.lt_iff_toInt_lt, lN_toInt hc, Int32.toInt_toInt64]
    exact h1
  · right
    have h1 := Int32.lt_iff_toInt_lt.mp h
    rw [nI_toInt hd] at h1
    rw [Int64.lt_iff_toInt_lt, lN_toInt hd, Int32.toInt_toInt64]
    exact h1
theorem kl_none (x : Int32) : x.toInt64 < 0 ∨ -1 < x.toInt64 := by
  by_cases h : x.toInt < 0
  · left
    rw [Int64.lt_iff_toInt_lt, Int32.toInt_toInt64]
    exact h
  · right
    rw [Int64.lt_iff_toInt_lt, Int32.toInt_toInt64]
    have e : (-1 : Int64).toInt = -1 := by decide
    rw [e]
    omega
theorem kf_ne {j k : Nat} {v : Int32} (h : j ≠ k) : upd (fun _ => (0 : Int32)) k v j = 0 := by simp [upd, h]
end
section
/-! own rows: new long[n][k], whose rows nobody looks at here -/
def kzI (comp : ClassId) (K : Nat) : Cell := { cls := comp, slots := Array.replicate K (.long 0), vm := .none }
def kzF (s : State) (cA comp : ClassId) (N K : Nat) : Nat → State × Cell
  | 0 => (s.pushCell { cls := cA, slots := Array.replicate N .null, vm := .none }, { cls := cA, slots := Array.replicate N .null, vm := .none })
  | i + 1 => (((kzF s cA comp N K i).1.pushCell (kzI comp K)).setCell s.heap.size ((kzF s cA comp N K i).2.setSlot i (.ref (kzF s cA comp N K i).1.heap.size)), (kzF s cA comp N K i).2.setSlot i (.ref (kzF s cA comp N K i).1.heap.size))
theorem kzF_at (s : State) (cA comp : ClassId) (N K : Nat) : ∀ i : Nat, (kzF s cA comp N K i).1.heap.size = s.heap.size + 1 + i ∧ (kzF s cA comp N K i).1.heap[s.heap.size]? = some (kzF s cA comp N K i).2 ∧ (kzF s cA comp N K i).2.cls = cA ∧ (kzF s cA comp N K i).2.vm = .none ∧ (kzF s cA comp N K i).2.slots.size = N ∧ (kzF s cA comp N K i).1.vm = s.vm ∧ (kzF s cA comp N K i).1.slotsUsed = s.slotsUsed + N + i * K ∧ ∀ x : Nat, x < s.heap.size → (kzF s cA comp N K i).1.heap[x]? = s.heap[x]? := by
  intro i
  induction i with
  | zero =>
    refine ⟨by simp [kzF], by simp [kzF], rfl, rfl, by simp [kzF], rfl, by simp [kzF], fun x hx => ?_⟩
    exact State.heap_pushCell_of_lt _ _ hx
  | succ i ih =>
    obtain ⟨h1, h2, h3, h4, h5, h6, h7, h8⟩ := ih
    have hlt : s.heap.size < (kzF s cA comp N K i).1.heap.size := by omega
    have hb : ((kzF s cA comp N K i).1.pushCell (kzI comp K)).heap[s.heap.size]? = some (kzF s cA comp N K i).2 := by rw [State.heap_pushCell_of_lt (h := hlt)]; exact h2
    refine ⟨?_, State.heap_setCell_self hb, h3, h4, ?_, h6, ?_, fun x hx => ?_⟩
    · simp [kzF, State.setCell, h1]; omega
    · simp [kzF, Cell.setSlot, h5]
    · simp [kzF, h7, kzI, Nat.succ_mul]; omega
    · show (((kzF s cA comp N K i).1.pushCell (kzI comp K)).setCell s.heap.size _).heap[x]? = _
      rw [State.heap_setCell_other (Nat.ne_of_gt hx), State.heap_pushCell_of_lt (h := (by rw [h1]; omega : x < (kzF s cA comp N K i).1.heap.size))]
      exact h8 x hx
theorem kzF_top (s : State) (f : JFrame) (cA comp : ClassId) (N K : Nat) : ∀ i : Nat, (kzF (s.setTop f) cA comp N K i).1 = (kzF s cA comp N K i).1.setTop f ∧ (kzF (s.setTop f) cA comp N K i).2 = (kzF s cA comp N K i).2 := by
  intro i
  induction i with
  | zero => exact ⟨rfl, rfl⟩
  | succ i ih =>
    obtain ⟨h1, h2⟩ := ih
    constructor
    · simp only [kzF, h1, h2, State.heap_setTop, State.pushCell_setTop, State.setCell_setTop]
    · simp only [kzF, h1, h2, State.heap_setTop]
section KZ
variable {p : Program} {l : Launch} {e : Env} {R : Room} {s : State} {m : MethodId} {args : Array Value} {below : List Frame} {meth : Method} {c : Code} {T : State} {locs : List Loc} {cells slots : Nat}
theorem kzF_stand (X : Stand p l e R s m args below meth c T locs cells slots) (cA comp : ClassId) (N K : Nat) : ∀ i : Nat, ∃ L : List Loc, (∀ z ∈ L, z.base = T.heap.size) ∧ Stand p l e R s m args below meth c (kzF T cA comp N K i).1 (locs ++ L) (cells + 1 + i) (slots + N + i * K) := by
  intro i
  induction i with
  | zero =>
    have h := X.pushed ({ cls := cA, slots := Array.replicate N .null, vm := .none } : Cell)
    refine ⟨[], fun _ hz => (nomatch hz), ?_⟩
    simpa [kzF] using h
  | succ i ih =>
    obtain ⟨L, hL, Xi⟩ := ih
    obtain ⟨h1, h2, h3, h4, h5, h6, h7, h8⟩ := kzF_at T cA comp N K i
    have hlt : T.heap.size < (kzF T cA comp N K i).1.heap.size := by omega
    have hb : ((kzF T cA comp N K i).1.pushCell (kzI comp K)).heap[T.heap.size]? = some (kzF T cA comp N K i).2 := by rw [State.heap_pushCell_of_lt (h := hlt)]; exact h2
    have h := (Xi.pushed (kzI comp K)).stored hb i (.ref (kzF T cA comp N K i).1.heap.size)
    have e1 : (kzI comp K).slots.size = K := by simp [kzI]
    rw [e1] at h
    refine ⟨L ++ [⟨T.heap.size, i⟩], fun z hz => ?_, ?_⟩
    · rcases List.mem_append.mp hz with h9 | h9
      · exact hL z h9
      · rw [List.mem_singleton.mp h9]
    · have e3 : slots + N + (i + 1) * K = slots + N + i * K + K := by rw [Nat.succ_mul]; omega
      rw [← List.append_assoc, e3]
      exact h
end KZ
section KZW
variable {E : CtlPost} {e : Env} {d : Bool} {acts : List Action} {s : State}
/-- an array of default values, at the heap's end -/
theorem kz_array {cA comp : ClassId} {k : Class} {ty : FieldType} {n : Nat} {v : Value} (hk : s.vm.classes[cA]? = some k) (hkind : k.kind = .array comp ty) (h1 : ¬ n > e.platform.arrayLengthLimit) (h2 : ¬ n * componentBytes ty > e.platform.maxHeapBytes) (hf : fits ty v = true) (hd : v.isDefault = true) (h3 : s.heap.size < e.platform.maxCells) (h4 : s.slotsUsed + n ≤ e.platform.maxSlots)
    {Q : Addr → Pre} (hq : Q s.heap.size d acts (s.pushCell { cls := cA, slots := Array.replicate n v, vm := .none })) : wp (Jvm.newArray cA n v) Q E e d acts s := by
  have g1 : ∀ i x, (Array.replicate n v)[i]? = some x → s.fitsSlot cA .none i x = true := by
    intro i x hx
    rw [Array.getElem?_replicate] at hx
    split at hx
    · cases hx
      simp [State.fitsSlot, State.slotType?, hk, hkind, hf]
    · cases hx
  have g2 : allocActs (Array.replicate n v) s.heap.size acts = acts := by
    unfold allocActs
    rw [if_pos]
    rw [Array.all_replicate]
    split <;> simp [hd]
  simp only [Jvm.newArray, Jvm.arrayFits, wp_bind', W.ask, W.ite, h1, if_false, wp_pure', W.theClass, hk, hkind, h2, W.alloc, W.stop, Option.some.injEq, exists_eq_left', Array.size_replicate, g2]
  rw [if_neg (by omega)]
  exact ⟨h3, h4, g1, hq⟩
theorem kz_make {cA comp cc : ClassId} {k kc : Class} {n m : Int32} (hk : s.vm.classes[cA]? = some k) (hkind : k.kind = .array comp (.array .long)) (hkc : s.vm.classes[comp]? = some kc) (hkindc : kc.kind = .array cc .long) (hn : ¬ n < 0) (hm : ¬ m < 0)
    (l1 : ¬ n.toNatClampNeg > e.platform.arrayLengthLimit) (b1 : ¬ n.toNatClampNeg * componentBytes (.array .long) > e.platform.maxHeapBytes) (l2 : ¬ m.toNatClampNeg > e.platform.arrayLengthLimit) (b2 : ¬ m.toNatClampNeg * componentBytes .long > e.platform.maxHeapBytes)
    (hc : s.heap.size + 1 + n.toNatClampNeg ≤ e.platform.maxCells) (hs : s.slotsUsed + n.toNatClampNeg + n.toNatClampNeg * m.toNatClampNeg ≤ e.platform.maxSlots)
    {Q : Addr → Pre} (hq : ∀ d' acts', Q s.heap.size d' acts' (kzF s cA comp n.toNatClampNeg m.toNatClampNeg n.toNatClampNeg).1) : wp (multianewarray.make cA [n, m]) Q E e d acts s := by
  have hfind : ([m].find? (· < 0)) = none := by simp [hm]
  rw [multianewarray.make]
  simp only [wp_bind', W.ite, hn, if_false, wp_pure', W.theClass, hk, hkind, Option.some.injEq, exists_eq_left']
  refine kz_array hk hkind l1 b1 rfl rfl (by omega) (by have := Nat.zero_le (n.toNatClampNeg * m.toNatClampNeg); omega) ?_
  simp only [hfind]
  rw [ite_self, wp_bind', Std.Legacy.Range.forIn_eq_forIn_range']
  rw [show ([:n.toNatClampNeg] : Std.Legacy.Range).size = n.toNatClampNeg by simp [Std.Legacy.Range.size]]
  show wp (forIn (List.range' 0 n.toNatClampNeg 1) PUnit.unit _) _ E e d acts _
  refine wp_forIn_inv (fun rest s' => ∃ i, i ≤ n.toNatClampNeg ∧ rest = List.range' i (n.toNatClampNeg - i) ∧ s' = (kzF s cA comp n.toNatClampNeg m.toNatClampNeg i).1) _ _ ⟨0, Nat.zero_le _, rfl, rfl⟩ ?_ ?_
  · intro x rest s' d' acts' Q' hI hnext
    obtain ⟨i, hi, hl, rfl⟩ := hI
    have hlt : i < n.toNatClampNeg := by
      rcases Nat.lt_or_ge i n.toNatClampNeg with h | h
      · exact h
      · rw [show n.toNatClampNeg - i = 0 by omega] at hl
        cases hl
    rw [show n.toNatClampNeg - i = (n.toNatClampNeg - (i + 1)) + 1 by omega, List.range'_succ] at hl
    obtain ⟨rfl, hrest⟩ := List.cons.inj hl
    obtain ⟨f1, f2, f3, f4, f5, f6, f7, f8⟩ := kzF_at s cA comp n.toNatClampNeg m.toNatClampNeg x
    have hmul : x * m.toNatClampNeg + m.toNatClampNeg ≤ n.toNatClampNeg * m.toNatClampNeg := by
      have := Nat.mul_le_mul_right m.toNatClampNeg (show x + 1 ≤ n.toNatClampNeg from hlt)
      rw [Nat.succ_mul] at this
      exact this
    simp only [wp_bind']
    rw [multianewarray.make]
    simp only [wp_bind', W.ite, hm, if_false, wp_pure', W.theClass, f6, hkc, hkindc, Option.some.injEq, exists_eq_left']
    refine kz_array (by rw [f6]; exact hkc) hkindc l2 b2 rfl rfl (by rw [f1]; omega) (by rw [f7]; omega) ?_
    have hlt0 : s.heap.size < (kzF s cA comp n.toNatClampNeg m.toNatClampNeg x).1.heap.size := by rw [f1]; omega
    simp only [wp_bind', W.writeLoc, wp_pure']
    refine ⟨(kzF s cA comp n.toNatClampNeg m.toNatClampNeg x).2, by rw [State.heap_pushCell_of_lt (h := hlt0)]; exact f2, by rw [f4]; simp, by rw [f5]; exact hlt, ?_, hnext _ _ _ ⟨x + 1, hlt, hrest, rfl⟩⟩
    rw [f3, f4]
    simp [State.fitsSlot, State.slotType?, f6, hk, hkind, fits]
  · intro s' d' acts' hI
    obtain ⟨i, hi, hl, rfl⟩ := hI
    have hin : i = n.toNatClampNeg := by
      rcases Nat.lt_or_ge i n.toNatClampNeg with h | h
      · rw [show n.toNatClampNeg - i = (n.toNatClampNeg - (i + 1)) + 1 by omega, List.range'_succ] at hl
        cases hl
      · omega
    subst hin
    simp only [wp_pure']
    exact hq _ _
end KZW
section KZX
variable {p : Program} {l : Launch} {e : Env} {R : Room} {s : State} {m : MethodId} {args : Array Value} {below : List Frame} {meth : Method} {c : Code} {H : Heap} {locs : List Loc} {cells slots : Nat} {Q : State → Prop}
variable {cc : ByteArray} {pc : Nat} {ls : Array Slot} {rest : List Value} {D : va_G} {a : Nat → ClassId} {A : Nat → Prop} {nL : Nat} {own : String} {ws : va_W}
theorem kx_mna (E : kE p m c cc nL s args own D a A) (w : kW D A s ws H locs) {index : Nat} (hcl : Cond.classLink own index "[[J" ∈ wA) (harr : Cond.arrayClass .long ∈ wA) {n k : Int32} {N' K' : Nat} (hn : ¬ n < 0) (hk : ¬ k < 0) (hN : n.toNatClampNeg = N') (hM : k.toNatClampNeg = K') (hb1 : N' * 4 ≤ 536870912) (hb2 : K' * 8 ≤ 536870912) (hcells : cells + (1 + N') ≤ R.cells) (hslots : slots + (N' + N' * K') ≤ R.slots) (hdg : decode cc pc = .ok (.multianewarray index 2, 4))
    (kk : ∀ (q : Nat) (H1 : Heap) (locs1 : List Loc), kW D A s ws H1 locs1 → W p l e R s m args below meth c H1 locs1 (cells + (1 + N')) (slots + (N' + N' * K')) Q (F0 m (pc + 4) ls (.ref q :: rest))) : W p l e R s m args below meth c H locs cells slots Q (F0 m pc ls (.int k :: .int n :: rest)) := by
  subst hN
  subst hM
  intro T hT X
  have hpl : e.platform.magicAccessors = ({} : Platform).magicAccessors := by rw [X.admits.platform]
  obtain ⟨comp, cA, kA, hcomp, hkA, hkindA, hnameA⟩ := E.2.1.2.2.2.1
  obtain ⟨comp', kC, cc', hcomp', hkC, hkindC⟩ := Cond.arrayClass_spec (E.1.2.2.2.2 _ harr)
  have ec : comp' = comp := Option.some.inj (hcomp'.symm.trans hcomp)
  subst ec
  obtain ⟨c0, hfc0, hcl0⟩ := Cond.classLink_spec E.1.2.2.2.1 (E.1.2.2.2.2 _ hcl) e.platform hpl
  cases hnameA.symm.trans hfc0
  obtain ⟨hg₁, hwarm₁, hready₁⟩ := State.classEntry (e := e) X.warmed hcl0
  generalize T.vm.noted m.cls index (.cls cA) = vm₁ at hg₁ hwarm₁ hready₁
  have hal : s.vm.Alike vm₁ := hwarm₁.alike
  obtain ⟨kA₁, hkA₁, heA⟩ := hal.2.2 _ _ hkA
  obtain ⟨kC₁, hkC₁, heC⟩ := hal.2.2 _ _ hkC
  have hkindA₁ : kA₁.kind = .array comp' (.array .long) := by rw [heA]; exact hkindA
  have hkindC₁ : kC₁.kind = .array cc' .long := by rw [heC]; exact hkindC
  have X₁ := X.noted hwarm₁
  obtain ⟨hr1, hr2⟩ := X.roomAbove hcells hslots
  obtain ⟨L, hL, XF⟩ := kzF_stand X₁ cA comp' n.toNatClampNeg k.toNatClampNeg n.toNatClampNeg
  obtain ⟨f1, f2, f3, f4, f5, f6, f7, f8⟩ := kzF_at (T.setVm vm₁) cA comp' n.toNatClampNeg k.toNatClampNeg n.toNatClampNeg
  have hTh : (T.setVm vm₁).heap = H := hT
  rw [hTh] at f1 f8
  have e1 : cells + (1 + n.toNatClampNeg) = cells + 1 + n.toNatClampNeg := by omega
  have e2 : slots + (n.toNatClampNeg + n.toNatClampNeg * k.toNatClampNeg) = slots + n.toNatClampNeg + n.toNatClampNeg * k.toNatClampNeg := by omega
  have w1 : kW D A s ws (kzF (T.setVm vm₁) cA comp' n.toNatClampNeg k.toNatClampNeg n.toNatClampNeg).1.heap (locs ++ L) := by
    refine ⟨w.1.kept (fun i q hq => f8 q.1 ((w.1 i q hq).lt)), w.2.1, by rw [f1]; exact Nat.le_trans w.2.2.1 (by omega), fun q h1 h2 => (f8 q (Nat.lt_of_lt_of_le h1 w.2.2.1)).trans (w.2.2.2.1 q h1 h2), fun z hz => ?_⟩
    rcases List.mem_append.mp hz with h9 | h9
    · exact w.2.2.2.2 z h9
    · rw [hL z h9]
      show A T.heap.size
      rw [hT]
      exact E.2.2.1 _ w.2.2.1
  obtain ⟨t, a1, b1⟩ := kk T.heap.size _ _ w1 _ rfl (by rw [e1, e2]; exact XF)
  refine ⟨t, ?_, b1⟩
  have hx := E.1.1
  have hb := E.1.2.1
  have hl1 : ¬ n.toNatClampNeg > e.platform.arrayLengthLimit := by rw [Launch.admits_arrayLengthLimit X.admits]; omega
  have hh1 : ¬ n.toNatClampNeg * componentBytes (.array .long) > e.platform.maxHeapBytes := by
    rw [Launch.admits_maxHeapBytes X.admits]; show ¬ n.toNatClampNeg * 4 > 536870912; omega
  have hl2 : ¬ k.toNatClampNeg > e.platform.arrayLengthLimit := by rw [Launch.admits_arrayLengthLimit X.admits]; omega
  have hh2 : ¬ k.toNatClampNeg * componentBytes .long > e.platform.maxHeapBytes := by
    rw [Launch.admits_maxHeapBytes X.admits]; show ¬ k.toNatClampNeg * 8 > 536870912; omega
  have hdg' : decode c.code pc = .ok (.multianewarray index 2, 4) := by rw [hb]; exact hdg
  jvm_step X.here [hx, hdg']
  simp only [multianewarray.sem, wp_bind', W.resolveClassAt_links (State.method?_setTop (F0 m pc ls (.int k :: .int n :: rest)) X.here.top) hg₁]
  rw [W.popN, if_neg (by decide)]
  refine ⟨F0 m pc ls (.int k :: .int n :: rest), State.topJava?_setTop' (s := T.setVm vm₁) _ X.here.top, [.int n, .int k], rest, rfl, rfl, ?_⟩
  simp only [List.mapM_cons, List.mapM_nil, wp_bind', wp_pure']
  refine kz_make (k := kA₁) (kc := kC₁) (comp := comp') (cc := cc') hkA₁ hkindA₁ hkC₁ hkindC₁ hn hk hl1 hh1 hl2 hh2 (by show T.heap.size + 1 + _ ≤ _; omega) (by show T.slotsUsed + _ + _ ≤ _; omega) (fun d' acts' => ?_)
  have eS : ((T.setTop (F0 m pc ls (.int k :: .int n :: rest))).setVm vm₁).setTop (F0 m pc ls rest) = (T.setVm vm₁).setTop (F0 m pc ls rest) := by
    show ((T.setVm vm₁).setTop _).setTop _ = _
    rw [State.setTop_setTop]
  rw [eS, (kzF_top _ _ _ _ _ _ _).1]
  simp only [wp_bind', W.mark, W.pushRef, State.topJava?_setTop' _ XF.here.top, Option.some.injEq, exists_eq_left', State.setTop_setTop, State.heap_setTop]
  intro acts
  simp [jvm, XF.here.top]
  exact a1
end KZX
end
section
/-! the tables are among the law's words; laid by program -/
theorem zt_1 : ∀ w ∈ tables_1_1, w ∈ lw_tbl := fun w h => List.mem_append_right _ (List.mem_append_left _ h)
theorem zt_2 : ∀ w ∈ tables_1_2, w ∈ lw_tbl := fun w h => List.mem_append_right _ (List.mem_append_right _ (List.mem_append_left _ h))
theorem zt_3 : ∀ w ∈ tables_1_3, w ∈ lw_tbl := fun w h => List.mem_append_right _ (List.mem_append_right _ (List.mem_append_right _ (List.mem_append_left _ h)))
theorem zt_4 : ∀ w ∈ tables_1_4, w ∈ lw_tbl := fun w h => List.mem_append_right _ (List.mem_append_right _ (List.mem_append_right _ (List.mem_append_right _ (List.mem_append_left _ h))))
theorem zt_5 : ∀ w ∈ tables_1_5, w ∈ lw_tbl := fun w h => List.mem_append_right _ (List.mem_append_right _ (List.mem_append_right _ (List.mem_append_right _ (List.mem_append_right _ (List.mem_append_left _ h)))))
theorem zt_6 : ∀ w ∈ tables_1_6, w ∈ lw_tbl := fun w h => List.mem_append_right _ (List.mem_append_right _ (List.mem_append_right _ (List.mem_append_right _ (List.mem_append_right _ (List.mem_append_right _ (List.mem_append_left _ h))))))
theorem zt_7 : ∀ w ∈ tables_1_7, w ∈ lw_tbl := fun w h => List.mem_append_right _ (List.mem_append_right _ (List.mem_append_right _ (List.mem_append_right _ (List.mem_append_right _ (List.mem_append_right _ (List.mem_append_right _ (List.mem_append_left _ h)))))))
theorem zt_8 : ∀ w ∈ tables_1_8, w ∈ lw_tbl := fun w h => List.mem_append_right _ (List.mem_append_right _ (List.mem_append_right _ (List.mem_append_right _ (List.mem_append_right _ (List.mem_append_right _ (List.mem_append_right _ (List.mem_append_right _ (List.mem_append_left _ h))))))))
theorem zt_9 : ∀ w ∈ tables_1_9, w ∈ lw_tbl := fun w h => List.mem_append_right _ (List.mem_append_right _ (List.mem_append_right _ (List.mem_append_right _ (List.mem_append_right _ (List.mem_append_right _ (List.mem_append_right _ (List.mem_append_right _ (List.mem_append_right _ (h)))))))))
end
section
/-! words of the tables, by their places; laid by program -/
set_option maxRecDepth 20000 in
theorem mw_0 : Cond.methodLink "RootAlgebra$Big" 1 Lib.objectInit ∈ wA := wA_in (zt_1 _ (List.mem_of_getElem? (i := 36) rfl)) rfl
set_option maxRecDepth 20000 in
theorem mw_1 : Cond.instanceMethod Lib.objectInit ∈ wA := wA_in (zt_1 _ (List.mem_of_getElem? (i := 29) rfl)) rfl
set_option maxRecDepth 20000 in
theorem mw_2 : Cond.code Lib.objectInit ⟨#[0xb1]⟩ 1 none ∈ wA := wA_in (zt_1 _ (List.mem_of_getElem? (i := 30) rfl)) rfl
set_option maxRecDepth 20000 in
theorem mw_3 : Cond.arrayClass .int ∈ wA := wA_in (zt_1 _ (List.mem_of_getElem? (i := 54) rfl)) rfl
set_option maxRecDepth 20000 in
theorem mw_4 : Cond.fieldLink "RootAlgebra$Big" 7 "RootAlgebra$Big" "words" "[I" ∈ wA := wA_in (zt_1 _ (List.mem_of_getElem? (i := 37) rfl)) rfl
set_option maxRecDepth 20000 in
theorem mw_5 : Cond.methodLink "RootAlgebra$Value" 3 Lib.objectInit ∈ wA := wA_in (zt_1 _ (List.mem_of_getElem? (i := 61) rfl)) rfl
set_option maxRecDepth 20000 in
theorem mw_6 : Cond.fieldLink "RootAlgebra$Value" 9 "RootAlgebra$Value" "c" "[I" ∈ wA := wA_in (zt_1 _ (List.mem_of_getElem? (i := 64) rfl)) rfl
set_option maxRecDepth 20000 in
theorem mw_7 : Cond.classLink "RootAlgebra$Value" 15 "RootAlgebra$Big" ∈ wA := wA_in (zt_1 _ (List.mem_of_getElem? (i := 62) rfl)) rfl
set_option maxRecDepth 20000 in
theorem mw_8 : Cond.instantiable "RootAlgebra$Big" 3 ∈ wA := wA_in (zt_1 _ (List.mem_of_getElem? (i := 32) rfl)) rfl
set_option maxRecDepth 20000 in
theorem mw_9 : Cond.initialized "RootAlgebra$Big" ∈ wA := wA_in (zt_1 _ (List.mem_of_getElem? (i := 2) rfl)) rfl
set_option maxRecDepth 20000 in
theorem mw_10 : Cond.code y_Big_init b_Big_init 2 none ∈ wA := wA_in (zt_1 _ (List.mem_of_getElem? (i := 35) rfl)) rfl
set_option maxRecDepth 20000 in
theorem mw_11 : Cond.methodLink "RootAlgebra$Value" 17 y_Big_init ∈ wA := wA_in (zt_1 _ (List.mem_of_getElem? (i := 63) rfl)) rfl
set_option maxRecDepth 20000 in
theorem mw_12 : Cond.instanceMethod y_Big_init ∈ wA := wA_in (zt_1 _ (List.mem_of_getElem? (i := 34) rfl)) rfl
set_option maxRecDepth 20000 in
theorem mw_13 : Cond.fieldLink "RootAlgebra$Value" 20 "RootAlgebra$Value" "low" "LRootAlgebra$Big;" ∈ wA := wA_in (zt_1 _ (List.mem_of_getElem? (i := 71) rfl)) rfl
set_option maxRecDepth 20000 in
theorem mw_14 : Cond.fieldLink "RootAlgebra$Big" 13 "RootAlgebra$Big" "sign" "I" ∈ wA := wA_in (zt_1 _ (List.mem_of_getElem? (i := 39) rfl)) rfl
set_option maxRecDepth 20000 in
theorem mw_15 : Cond.fieldLink "RootAlgebra$Big" 17 "RootAlgebra$Big" "size" "I" ∈ wA := wA_in (zt_1 _ (List.mem_of_getElem? (i := 38) rfl)) rfl
set_option maxRecDepth 20000 in
theorem mw_16 : Cond.fieldLink "RootAlgebra$Value" 31 "RootAlgebra$Value" "index" "I" ∈ wA := wA_in (zt_1 _ (List.mem_of_getElem? (i := 80) rfl)) rfl
set_option maxRecDepth 20000 in
theorem mw_17 : Cond.fieldLink "RootAlgebra$Value" 34 "RootAlgebra$Value" "roots" "I" ∈ wA := wA_in (zt_1 _ (List.mem_of_getElem? (i := 84) rfl)) rfl
set_option maxRecDepth 20000 in
theorem mw_18 : Cond.fieldLink "RootAlgebra$Value" 37 "RootAlgebra$Value" "negatives" "I" ∈ wA := wA_in (zt_1 _ (List.mem_of_getElem? (i := 87) rfl)) rfl
set_option maxRecDepth 20000 in
theorem mw_19 : Cond.fieldLink "RootAlgebra$Value" 40 "RootAlgebra$Value" "scale" "I" ∈ wA := wA_in (zt_1 _ (List.mem_of_getElem? (i := 90) rfl)) rfl
set_option maxRecDepth 20000 in
theorem mw_20 : Cond.code y_Big_setLong b_Big_setLong 6 none ∈ wA := wA_in (zt_1 _ (List.mem_of_getElem? (i := 117) rfl)) rfl
set_option maxRecDepth 20000 in
theorem mw_21 : Cond.methodLink "RootAlgebra$Value" 43 y_Big_setLong ∈ wA := wA_in (zt_1 _ (List.mem_of_getElem? (i := 114) rfl)) rfl
set_option maxRecDepth 20000 in
theorem mw_22 : Cond.instanceMethod y_Big_setLong ∈ wA := wA_in (zt_1 _ (List.mem_of_getElem? (i := 115) rfl)) rfl
set_option maxRecDepth 20000 in
theorem mw_23 : Cond.selects "RootAlgebra$Big" y_Big_setLong y_Big_setLong ∈ wA := wA_in (zt_1 _ (List.mem_of_getElem? (i := 116) rfl)) rfl
set_option maxRecDepth 20000 in
theorem mw_24 : Cond.fieldLink "RootAlgebra$Value" 24 "RootAlgebra$Value" "degree" "I" ∈ wA := wA_in (zt_1 _ (List.mem_of_getElem? (i := 75) rfl)) rfl
set_option maxRecDepth 20000 in
theorem mw_25 : Cond.code y_Value_finishFraction b_Value_finishFraction 1 none ∈ wA := wA_in (zt_1 _ (List.mem_of_getElem? (i := 113) rfl)) rfl
set_option maxRecDepth 20000 in
theorem mw_26 : Cond.initialized "RootAlgebra$Value" ∈ wA := wA_in (zt_1 _ (List.mem_of_getElem? (i := 3) rfl)) rfl
set_option maxRecDepth 20000 in
theorem mw_27 : Cond.methodLink "RootAlgebra$Value" 28 y_Value_finishFraction ∈ wA := wA_in (zt_1 _ (List.mem_of_getElem? (i := 110) rfl)) rfl
set_option maxRecDepth 20000 in
theorem mw_28 : Cond.instanceMethod y_Value_finishFraction ∈ wA := wA_in (zt_1 _ (List.mem_of_getElem? (i := 111) rfl)) rfl
set_option maxRecDepth 20000 in
theorem mw_29 : Cond.selects "RootAlgebra$Value" y_Value_finishFraction y_Value_finishFraction ∈ wA := wA_in (zt_1 _ (List.mem_of_getElem? (i := 112) rfl)) rfl
set_option maxRecDepth 20000 in
theorem mw_30 : Cond.methodLink "RootAlgebra$Poly" 1 Lib.objectInit ∈ wA := wA_in (zt_1 _ (List.mem_of_getElem? (i := 163) rfl)) rfl
set_option maxRecDepth 20000 in
theorem mw_31 : Cond.classLink "RootAlgebra$Poly" 9 "RootAlgebra$Big" ∈ wA := wA_in (zt_1 _ (List.mem_of_getElem? (i := 164) rfl)) rfl
set_option maxRecDepth 20000 in
theorem mw_32 : Cond.fieldLink "RootAlgebra$Poly" 11 "RootAlgebra$Poly" "c" "[LRootAlgebra$Big;" ∈ wA := wA_in (zt_1 _ (List.mem_of_getElem? (i := 167) rfl)) rfl
set_option maxRecDepth 20000 in
theorem mw_33 : Cond.methodLink "RootAlgebra$Poly" 15 y_Big_init ∈ wA := wA_in (zt_1 _ (List.mem_of_getElem? (i := 166) rfl)) rfl
set_option maxRecDepth 20000 in
theorem mw_34 : Cond.methodLink "RootAlgebra$Field" 1 Lib.objectInit ∈ wA := wA_in (zt_1 _ (List.mem_of_getElem? (i := 216) rfl)) rfl
set_option maxRecDepth 20000 in
theorem mw_35 : Cond.fieldLink "RootAlgebra$Field" 7 "RootAlgebra$Field" "p" "I" ∈ wA := wA_in (zt_1 _ (List.mem_of_getElem? (i := 217) rfl)) rfl
set_option maxRecDepth 20000 in
theorem mw_36 : Cond.arrayClass .long ∈ wA := wA_in (zt_2 _ (List.mem_of_getElem? (i := 2) rfl)) rfl
set_option maxRecDepth 20000 in
theorem mw_37 : Cond.fieldLink "RootAlgebra$Field" 13 "RootAlgebra$Field" "product" "[J" ∈ wA := wA_in (zt_1 _ (List.mem_of_getElem? (i := 219) rfl)) rfl
set_option maxRecDepth 20000 in
theorem mw_38 : Cond.fieldLink "RootAlgebra$Field" 17 "RootAlgebra$Field" "power" "[J" ∈ wA := wA_in (zt_1 _ (List.mem_of_getElem? (i := 220) rfl)) rfl
set_option maxRecDepth 20000 in
theorem mw_39 : Cond.fieldLink "RootAlgebra$Field" 20 "RootAlgebra$Field" "common" "[J" ∈ wA := wA_in (zt_1 _ (List.mem_of_getElem? (i := 221) rfl)) rfl
set_option maxRecDepth 20000 in
theorem mw_40 : Cond.fieldLink "RootAlgebra$Field" 23 "RootAlgebra$Field" "spareCommon" "[J" ∈ wA := wA_in (zt_1 _ (List.mem_of_getElem? (i := 223) rfl)) rfl
set_option maxRecDepth 20000 in
theorem mw_41 : Cond.fieldLink "RootAlgebra$Field" 26 "RootAlgebra$Field" "cofactor" "[J" ∈ wA := wA_in (zt_1 _ (List.mem_of_getElem? (i := 224) rfl)) rfl
set_option maxRecDepth 20000 in
theorem mw_42 : Cond.fieldLink "RootAlgebra$Field" 29 "RootAlgebra$Field" "spareCofactor" "[J" ∈ wA := wA_in (zt_1 _ (List.mem_of_getElem? (i := 226) rfl)) rfl
set_option maxRecDepth 20000 in
theorem mw_43 : Cond.methodLink "RootAlgebra$Padic" 7 Lib.objectInit ∈ wA := wA_in (zt_2 _ (List.mem_of_getElem? (i := 8) rfl)) rfl
set_option maxRecDepth 20000 in
theorem mw_44 : Cond.fieldLink "RootAlgebra$Padic" 13 "RootAlgebra$Padic" "p" "I" ∈ wA := wA_in (zt_2 _ (List.mem_of_getElem? (i := 11) rfl)) rfl
set_option maxRecDepth 20000 in
theorem mw_45 : Cond.classLink "RootAlgebra$Padic" 17 "RootAlgebra$Big" ∈ wA := wA_in (zt_2 _ (List.mem_of_getElem? (i := 9) rfl)) rfl
set_option maxRecDepth 20000 in
theorem mw_46 : Cond.methodLink "RootAlgebra$Padic" 19 y_Big_init ∈ wA := wA_in (zt_2 _ (List.mem_of_getElem? (i := 10) rfl)) rfl
set_option maxRecDepth 20000 in
theorem mw_47 : Cond.fieldLink "RootAlgebra$Padic" 22 "RootAlgebra$Padic" "rest" "LRootAlgebra$Big;" ∈ wA := wA_in (zt_2 _ (List.mem_of_getElem? (i := 13) rfl)) rfl
set_option maxRecDepth 20000 in
theorem mw_48 : Cond.methodLink "RootAlgebra$Reader" 3 Lib.objectInit ∈ wA := wA_in (zt_1 _ (List.mem_of_getElem? (i := 123) rfl)) rfl
set_option maxRecDepth 20000 in
theorem mw_49 : Cond.fieldLink "RootAlgebra$Reader" 9 "RootAlgebra$Reader" "tape" "[B" ∈ wA := wA_in (zt_1 _ (List.mem_of_getElem? (i := 126) rfl)) rfl
set_option maxRecDepth 20000 in
theorem mw_50 : Cond.fieldLink "RootAlgebra$Reader" 15 "RootAlgebra$Reader" "code" "[I" ∈ wA := wA_in (zt_1 _ (List.mem_of_getElem? (i := 124) rfl)) rfl
set_option maxRecDepth 20000 in
theorem mw_51 : Cond.methodLink "RootAlgebra$Gauge" 1 Lib.objectInit ∈ wA := wA_in (zt_2 _ (List.mem_of_getElem? (i := 145) rfl)) rfl
set_option maxRecDepth 20000 in
theorem mw_52 : Cond.classLink "RootAlgebra$Gauge" 7 "RootAlgebra$Big" ∈ wA := wA_in (zt_2 _ (List.mem_of_getElem? (i := 146) rfl)) rfl
set_option maxRecDepth 20000 in
theorem mw_53 : Cond.methodLink "RootAlgebra$Gauge" 11 y_Big_init ∈ wA := wA_in (zt_2 _ (List.mem_of_getElem? (i := 147) rfl)) rfl
set_option maxRecDepth 20000 in
theorem mw_54 : Cond.fieldLink "RootAlgebra$Gauge" 14 "RootAlgebra$Gauge" "left" "LRootAlgebra$Big;" ∈ wA := wA_in (zt_2 _ (List.mem_of_getElem? (i := 148) rfl)) rfl
set_option maxRecDepth 20000 in
theorem mw_55 : Cond.fieldLink "RootAlgebra$Gauge" 18 "RootAlgebra$Gauge" "right" "LRootAlgebra$Big;" ∈ wA := wA_in (zt_2 _ (List.mem_of_getElem? (i := 149) rfl)) rfl
set_option maxRecDepth 20000 in
theorem mw_56 : Cond.fieldLink "RootAlgebra$Gauge" 21 "RootAlgebra$Gauge" "here" "LRootAlgebra$Big;" ∈ wA := wA_in (zt_2 _ (List.mem_of_getElem? (i := 150) rfl)) rfl
set_option maxRecDepth 20000 in
theorem mw_57 : Cond.fieldLink "RootAlgebra$Gauge" 24 "RootAlgebra$Gauge" "beside" "LRootAlgebra$Big;" ∈ wA := wA_in (zt_2 _ (List.mem_of_getElem? (i := 151) rfl)) rfl
set_option maxRecDepth 20000 in
theorem mw_58 : Cond.fieldLink "RootAlgebra$Gauge" 27 "RootAlgebra$Gauge" "at" "LRootAlgebra$Big;" ∈ wA := wA_in (zt_2 _ (List.mem_of_getElem? (i := 152) rfl)) rfl
set_option maxRecDepth 20000 in
theorem mw_59 : Cond.fieldLink "RootAlgebra$Gauge" 30 "RootAlgebra$Gauge" "point" "LRootAlgebra$Big;" ∈ wA := wA_in (zt_2 _ (List.mem_of_getElem? (i := 153) rfl)) rfl
set_option maxRecDepth 20000 in
theorem mw_60 : Cond.fieldLink "RootAlgebra$Gauge" 33 "RootAlgebra$Gauge" "term" "LRootAlgebra$Big;" ∈ wA := wA_in (zt_2 _ (List.mem_of_getElem? (i := 154) rfl)) rfl
set_option maxRecDepth 20000 in
theorem mw_61 : Cond.fieldLink "RootAlgebra$Gauge" 36 "RootAlgebra$Gauge" "spare" "LRootAlgebra$Big;" ∈ wA := wA_in (zt_2 _ (List.mem_of_getElem? (i := 155) rfl)) rfl
set_option maxRecDepth 20000 in
theorem mw_62 : Cond.fieldLink "RootAlgebra$Gauge" 39 "RootAlgebra$Gauge" "mid" "LRootAlgebra$Big;" ∈ wA := wA_in (zt_2 _ (List.mem_of_getElem? (i := 156) rfl)) rfl
set_option maxRecDepth 20000 in
theorem mw_63 : Cond.fieldLink "RootAlgebra$Gauge" 42 "RootAlgebra$Gauge" "one" "LRootAlgebra$Big;" ∈ wA := wA_in (zt_2 _ (List.mem_of_getElem? (i := 157) rfl)) rfl
set_option maxRecDepth 20000 in
theorem mw_64 : Cond.fieldLink "RootAlgebra$Gauge" 45 "RootAlgebra$Gauge" "other" "LRootAlgebra$Big;" ∈ wA := wA_in (zt_2 _ (List.mem_of_getElem? (i := 158) rfl)) rfl
set_option maxRecDepth 20000 in
theorem mw_65 : Cond.methodLink "RootAlgebra$Sums" 1 Lib.objectInit ∈ wA := wA_in (zt_1 _ (List.mem_of_getElem? (i := 189) rfl)) rfl
set_option maxRecDepth 20000 in
theorem mw_66 : Cond.classLink "RootAlgebra$Sums" 9 "RootAlgebra$Big" ∈ wA := wA_in (zt_1 _ (List.mem_of_getElem? (i := 190) rfl)) rfl
set_option maxRecDepth 20000 in
theorem mw_67 : Cond.fieldLink "RootAlgebra$Sums" 11 "RootAlgebra$Sums" "left" "[LRootAlgebra$Big;" ∈ wA := wA_in (zt_1 _ (List.mem_of_getElem? (i := 192) rfl)) rfl
set_option maxRecDepth 20000 in
theorem mw_68 : Cond.fieldLink "RootAlgebra$Sums" 17 "RootAlgebra$Sums" "right" "[LRootAlgebra$Big;" ∈ wA := wA_in (zt_1 _ (List.mem_of_getElem? (i := 193) rfl)) rfl
set_option maxRecDepth 20000 in
theorem mw_69 : Cond.fieldLink "RootAlgebra$Sums" 20 "RootAlgebra$Sums" "both" "[LRootAlgebra$Big;" ∈ wA := wA_in (zt_1 _ (List.mem_of_getElem? (i := 194) rfl)) rfl
set_option maxRecDepth 20000 in
theorem mw_70 : Cond.methodLink "RootAlgebra$Sums" 23 y_Big_init ∈ wA := wA_in (zt_1 _ (List.mem_of_getElem? (i := 191) rfl)) rfl
set_option maxRecDepth 20000 in
theorem mw_71 : Cond.fieldLink "RootAlgebra$Sums" 26 "RootAlgebra$Sums" "term" "LRootAlgebra$Big;" ∈ wA := wA_in (zt_1 _ (List.mem_of_getElem? (i := 195) rfl)) rfl
set_option maxRecDepth 20000 in
theorem mw_72 : Cond.methodLink "RootAlgebra$Isolator" 1 Lib.objectInit ∈ wA := wA_in (zt_2 _ (List.mem_of_getElem? (i := 91) rfl)) rfl
set_option maxRecDepth 20000 in
theorem mw_73 : Cond.classLink "RootAlgebra$Isolator" 9 "RootAlgebra$Big" ∈ wA := wA_in (zt_2 _ (List.mem_of_getElem? (i := 92) rfl)) rfl
set_option maxRecDepth 20000 in
theorem mw_74 : Cond.fieldLink "RootAlgebra$Isolator" 11 "RootAlgebra$Isolator" "f" "[LRootAlgebra$Big;" ∈ wA := wA_in (zt_2 _ (List.mem_of_getElem? (i := 94) rfl)) rfl
set_option maxRecDepth 20000 in
theorem mw_75 : Cond.fieldLink "RootAlgebra$Isolator" 17 "RootAlgebra$Isolator" "g" "[LRootAlgebra$Big;" ∈ wA := wA_in (zt_2 _ (List.mem_of_getElem? (i := 95) rfl)) rfl
set_option maxRecDepth 20000 in
theorem mw_76 : Cond.methodLink "RootAlgebra$Isolator" 20 y_Big_init ∈ wA := wA_in (zt_2 _ (List.mem_of_getElem? (i := 93) rfl)) rfl
set_option maxRecDepth 20000 in
theorem mw_77 : Cond.fieldLink "RootAlgebra$Isolator" 25 "RootAlgebra$Isolator" "cell" "LRootAlgebra$Big;" ∈ wA := wA_in (zt_2 _ (List.mem_of_getElem? (i := 96) rfl)) rfl
set_option maxRecDepth 20000 in
theorem mw_78 : Cond.fieldLink "RootAlgebra$Isolator" 29 "RootAlgebra$Isolator" "low" "[LRootAlgebra$Big;" ∈ wA := wA_in (zt_2 _ (List.mem_of_getElem? (i := 97) rfl)) rfl
set_option maxRecDepth 20000 in
theorem mw_79 : Cond.fieldLink "RootAlgebra$Isolator" 32 "RootAlgebra$Isolator" "scale" "[I" ∈ wA := wA_in (zt_2 _ (List.mem_of_getElem? (i := 101) rfl)) rfl
set_option maxRecDepth 20000 in
theorem mw_80 : Cond.arrayClass .boolean ∈ wA := wA_in (zt_2 _ (List.mem_of_getElem? (i := 139) rfl)) rfl
set_option maxRecDepth 20000 in
theorem mw_81 : Cond.fieldLink "RootAlgebra$Isolator" 36 "RootAlgebra$Isolator" "exact" "[Z" ∈ wA := wA_in (zt_2 _ (List.mem_of_getElem? (i := 105) rfl)) rfl
set_option maxRecDepth 20000 in
theorem mw_82 : Cond.methodLink "RootAlgebra$Factors" 5 Lib.objectInit ∈ wA := wA_in (zt_1 _ (List.mem_of_getElem? (i := 210) rfl)) rfl
set_option maxRecDepth 20000 in
theorem mw_83 : Cond.classLink "RootAlgebra$Factors" 11 "RootAlgebra$Field" ∈ wA := wA_in (zt_1 _ (List.mem_of_getElem? (i := 211) rfl)) rfl
set_option maxRecDepth 20000 in
theorem mw_84 : Cond.instantiable "RootAlgebra$Field" 7 ∈ wA := wA_in (zt_1 _ (List.mem_of_getElem? (i := 212) rfl)) rfl
set_option maxRecDepth 20000 in
theorem mw_85 : Cond.initialized "RootAlgebra$Field" ∈ wA := wA_in (zt_1 _ (List.mem_of_getElem? (i := 9) rfl)) rfl
set_option maxRecDepth 20000 in
theorem mw_86 : Cond.code y_Field_init b_Field_init 1 none ∈ wA := wA_in (zt_1 _ (List.mem_of_getElem? (i := 215) rfl)) rfl
set_option maxRecDepth 20000 in
theorem mw_87 : Cond.methodLink "RootAlgebra$Factors" 13 y_Field_init ∈ wA := wA_in (zt_1 _ (List.mem_of_getElem? (i := 213) rfl)) rfl
set_option maxRecDepth 20000 in
theorem mw_88 : Cond.instanceMethod y_Field_init ∈ wA := wA_in (zt_1 _ (List.mem_of_getElem? (i := 214) rfl)) rfl
set_option maxRecDepth 20000 in
theorem mw_89 : Cond.fieldLink "RootAlgebra$Factors" 14 "RootAlgebra$Factors" "field" "LRootAlgebra$Field;" ∈ wA := wA_in (zt_2 _ (List.mem_of_getElem? (i := 25) rfl)) rfl
set_option maxRecDepth 20000 in
theorem mw_90 : Cond.classLink "RootAlgebra$Factors" 20 "RootAlgebra$Padic" ∈ wA := wA_in (zt_2 _ (List.mem_of_getElem? (i := 3) rfl)) rfl
set_option maxRecDepth 20000 in
theorem mw_91 : Cond.instantiable "RootAlgebra$Padic" 3 ∈ wA := wA_in (zt_2 _ (List.mem_of_getElem? (i := 4) rfl)) rfl
set_option maxRecDepth 20000 in
theorem mw_92 : Cond.initialized "RootAlgebra$Padic" ∈ wA := wA_in (zt_1 _ (List.mem_of_getElem? (i := 10) rfl)) rfl
set_option maxRecDepth 20000 in
theorem mw_93 : Cond.code y_Padic_init b_Padic_init 1 none ∈ wA := wA_in (zt_2 _ (List.mem_of_getElem? (i := 7) rfl)) rfl
set_option maxRecDepth 20000 in
theorem mw_94 : Cond.methodLink "RootAlgebra$Factors" 22 y_Padic_init ∈ wA := wA_in (zt_2 _ (List.mem_of_getElem? (i := 5) rfl)) rfl
set_option maxRecDepth 20000 in
theorem mw_95 : Cond.instanceMethod y_Padic_init ∈ wA := wA_in (zt_2 _ (List.mem_of_getElem? (i := 6) rfl)) rfl
set_option maxRecDepth 20000 in
theorem mw_96 : Cond.fieldLink "RootAlgebra$Factors" 23 "RootAlgebra$Factors" "padic" "LRootAlgebra$Padic;" ∈ wA := wA_in (zt_2 _ (List.mem_of_getElem? (i := 26) rfl)) rfl
set_option maxRecDepth 20000 in
theorem mw_97 : Cond.classLink "RootAlgebra$Factors" 27 "RootAlgebra$Big" ∈ wA := wA_in (zt_2 _ (List.mem_of_getElem? (i := 21) rfl)) rfl
set_option maxRecDepth 20000 in
theorem mw_98 : Cond.methodLink "RootAlgebra$Factors" 29 y_Big_init ∈ wA := wA_in (zt_2 _ (List.mem_of_getElem? (i := 22) rfl)) rfl
set_option maxRecDepth 20000 in
theorem mw_99 : Cond.fieldLink "RootAlgebra$Factors" 32 "RootAlgebra$Factors" "modulus" "LRootAlgebra$Big;" ∈ wA := wA_in (zt_2 _ (List.mem_of_getElem? (i := 27) rfl)) rfl
set_option maxRecDepth 20000 in
theorem mw_100 : Cond.fieldLink "RootAlgebra$Factors" 36 "RootAlgebra$Factors" "whole" "[J" ∈ wA := wA_in (zt_2 _ (List.mem_of_getElem? (i := 28) rfl)) rfl
set_option maxRecDepth 20000 in
theorem mw_101 : Cond.fieldLink "RootAlgebra$Factors" 40 "RootAlgebra$Factors" "spare" "[J" ∈ wA := wA_in (zt_2 _ (List.mem_of_getElem? (i := 29) rfl)) rfl
set_option maxRecDepth 20000 in
theorem mw_102 : Cond.fieldLink "RootAlgebra$Factors" 43 "RootAlgebra$Factors" "base" "[J" ∈ wA := wA_in (zt_2 _ (List.mem_of_getElem? (i := 30) rfl)) rfl
set_option maxRecDepth 20000 in
theorem mw_103 : Cond.fieldLink "RootAlgebra$Factors" 46 "RootAlgebra$Factors" "row" "[J" ∈ wA := wA_in (zt_2 _ (List.mem_of_getElem? (i := 31) rfl)) rfl
set_option maxRecDepth 20000 in
theorem mw_104 : Cond.fieldLink "RootAlgebra$Factors" 49 "RootAlgebra$Factors" "mix" "[J" ∈ wA := wA_in (zt_2 _ (List.mem_of_getElem? (i := 32) rfl)) rfl
set_option maxRecDepth 20000 in
theorem mw_105 : Cond.fieldLink "RootAlgebra$Factors" 52 "RootAlgebra$Factors" "error" "[J" ∈ wA := wA_in (zt_2 _ (List.mem_of_getElem? (i := 33) rfl)) rfl
set_option maxRecDepth 20000 in
theorem mw_106 : Cond.classLink "RootAlgebra$Factors" 55 "[[J" ∈ wA := wA_in (zt_2 _ (List.mem_of_getElem? (i := 23) rfl)) rfl
set_option maxRecDepth 20000 in
theorem mw_107 : Cond.fieldLink "RootAlgebra$Factors" 57 "RootAlgebra$Factors" "matrix" "[[J" ∈ wA := wA_in (zt_2 _ (List.mem_of_getElem? (i := 34) rfl)) rfl
set_option maxRecDepth 20000 in
theorem mw_108 : Cond.fieldLink "RootAlgebra$Factors" 60 "RootAlgebra$Factors" "basis" "[[J" ∈ wA := wA_in (zt_2 _ (List.mem_of_getElem? (i := 35) rfl)) rfl
set_option maxRecDepth 20000 in
theorem mw_109 : Cond.fieldLink "RootAlgebra$Factors" 63 "RootAlgebra$Factors" "pieces" "[[J" ∈ wA := wA_in (zt_2 _ (List.mem_of_getElem? (i := 36) rfl)) rfl
set_option maxRecDepth 20000 in
theorem mw_110 : Cond.fieldLink "RootAlgebra$Factors" 66 "RootAlgebra$Factors" "inverses" "[[J" ∈ wA := wA_in (zt_2 _ (List.mem_of_getElem? (i := 37) rfl)) rfl
set_option maxRecDepth 20000 in
theorem mw_111 : Cond.fieldLink "RootAlgebra$Factors" 69 "RootAlgebra$Factors" "lifts" "[[J" ∈ wA := wA_in (zt_2 _ (List.mem_of_getElem? (i := 38) rfl)) rfl
set_option maxRecDepth 20000 in
theorem mw_112 : Cond.fieldLink "RootAlgebra$Factors" 72 "RootAlgebra$Factors" "product" "[J" ∈ wA := wA_in (zt_2 _ (List.mem_of_getElem? (i := 39) rfl)) rfl
set_option maxRecDepth 20000 in
theorem mw_113 : Cond.fieldLink "RootAlgebra$Factors" 75 "RootAlgebra$Factors" "sizes" "[I" ∈ wA := wA_in (zt_2 _ (List.mem_of_getElem? (i := 40) rfl)) rfl
set_option maxRecDepth 20000 in
theorem mw_114 : Cond.methodLink "RootAlgebra$Desk" 3 Lib.objectInit ∈ wA := wA_in (zt_1 _ (List.mem_of_getElem? (i := 155) rfl)) rfl
set_option maxRecDepth 20000 in
theorem mw_115 : Cond.classLink "RootAlgebra$Desk" 11 "RootAlgebra$Value" ∈ wA := wA_in (zt_1 _ (List.mem_of_getElem? (i := 156) rfl)) rfl
set_option maxRecDepth 20000 in
theorem mw_116 : Cond.fieldLink "RootAlgebra$Desk" 13 "RootAlgebra$Desk" "stack" "[LRootAlgebra$Value;" ∈ wA := wA_in (zt_2 _ (List.mem_of_getElem? (i := 201) rfl)) rfl
set_option maxRecDepth 20000 in
theorem mw_117 : Cond.instantiable "RootAlgebra$Value" 7 ∈ wA := wA_in (zt_1 _ (List.mem_of_getElem? (i := 57) rfl)) rfl
set_option maxRecDepth 20000 in
theorem mw_118 : Cond.code y_Value_init b_Value_init 1 none ∈ wA := wA_in (zt_1 _ (List.mem_of_getElem? (i := 60) rfl)) rfl
set_option maxRecDepth 20000 in
theorem mw_119 : Cond.methodLink "RootAlgebra$Desk" 17 y_Value_init ∈ wA := wA_in (zt_1 _ (List.mem_of_getElem? (i := 157) rfl)) rfl
set_option maxRecDepth 20000 in
theorem mw_120 : Cond.instanceMethod y_Value_init ∈ wA := wA_in (zt_1 _ (List.mem_of_getElem? (i := 59) rfl)) rfl
set_option maxRecDepth 20000 in
theorem mw_121 : Cond.fieldLink "RootAlgebra$Desk" 18 "RootAlgebra$Desk" "found" "LRootAlgebra$Value;" ∈ wA := wA_in (zt_2 _ (List.mem_of_getElem? (i := 202) rfl)) rfl
set_option maxRecDepth 20000 in
theorem mw_122 : Cond.classLink "RootAlgebra$Desk" 22 "RootAlgebra$Poly" ∈ wA := wA_in (zt_1 _ (List.mem_of_getElem? (i := 158) rfl)) rfl
set_option maxRecDepth 20000 in
theorem mw_123 : Cond.instantiable "RootAlgebra$Poly" 2 ∈ wA := wA_in (zt_1 _ (List.mem_of_getElem? (i := 159) rfl)) rfl
set_option maxRecDepth 20000 in
theorem mw_124 : Cond.initialized "RootAlgebra$Poly" ∈ wA := wA_in (zt_1 _ (List.mem_of_getElem? (i := 6) rfl)) rfl
set_option maxRecDepth 20000 in
theorem mw_125 : Cond.code y_Poly_init b_Poly_init 2 none ∈ wA := wA_in (zt_1 _ (List.mem_of_getElem? (i := 162) rfl)) rfl
set_option maxRecDepth 20000 in
theorem mw_126 : Cond.methodLink "RootAlgebra$Desk" 24 y_Poly_init ∈ wA := wA_in (zt_1 _ (List.mem_of_getElem? (i := 160) rfl)) rfl
set_option maxRecDepth 20000 in
theorem mw_127 : Cond.instanceMethod y_Poly_init ∈ wA := wA_in (zt_1 _ (List.mem_of_getElem? (i := 161) rfl)) rfl
set_option maxRecDepth 20000 in
theorem mw_128 : Cond.fieldLink "RootAlgebra$Desk" 25 "RootAlgebra$Desk" "poly" "LRootAlgebra$Poly;" ∈ wA := wA_in (zt_2 _ (List.mem_of_getElem? (i := 203) rfl)) rfl
set_option maxRecDepth 20000 in
theorem mw_129 : Cond.fieldLink "RootAlgebra$Desk" 29 "RootAlgebra$Desk" "candidate" "LRootAlgebra$Poly;" ∈ wA := wA_in (zt_2 _ (List.mem_of_getElem? (i := 204) rfl)) rfl
set_option maxRecDepth 20000 in
theorem mw_130 : Cond.fieldLink "RootAlgebra$Desk" 32 "RootAlgebra$Desk" "work" "LRootAlgebra$Poly;" ∈ wA := wA_in (zt_2 _ (List.mem_of_getElem? (i := 205) rfl)) rfl
set_option maxRecDepth 20000 in
theorem mw_131 : Cond.classLink "RootAlgebra$Desk" 35 "RootAlgebra$Sums" ∈ wA := wA_in (zt_1 _ (List.mem_of_getElem? (i := 184) rfl)) rfl
set_option maxRecDepth 20000 in
theorem mw_132 : Cond.instantiable "RootAlgebra$Sums" 4 ∈ wA := wA_in (zt_1 _ (List.mem_of_getElem? (i := 185) rfl)) rfl
set_option maxRecDepth 20000 in
theorem mw_133 : Cond.initialized "RootAlgebra$Sums" ∈ wA := wA_in (zt_1 _ (List.mem_of_getElem? (i := 7) rfl)) rfl
set_option maxRecDepth 20000 in
theorem mw_134 : Cond.code y_Sums_init b_Sums_init 2 none ∈ wA := wA_in (zt_1 _ (List.mem_of_getElem? (i := 188) rfl)) rfl
set_option maxRecDepth 20000 in
theorem mw_135 : Cond.methodLink "RootAlgebra$Desk" 37 y_Sums_init ∈ wA := wA_in (zt_1 _ (List.mem_of_getElem? (i := 186) rfl)) rfl
set_option maxRecDepth 20000 in
theorem mw_136 : Cond.instanceMethod y_Sums_init ∈ wA := wA_in (zt_1 _ (List.mem_of_getElem? (i := 187) rfl)) rfl
set_option maxRecDepth 20000 in
theorem mw_137 : Cond.fieldLink "RootAlgebra$Desk" 38 "RootAlgebra$Desk" "sums" "LRootAlgebra$Sums;" ∈ wA := wA_in (zt_2 _ (List.mem_of_getElem? (i := 206) rfl)) rfl
set_option maxRecDepth 20000 in
theorem mw_138 : Cond.classLink "RootAlgebra$Desk" 42 "RootAlgebra$Factors" ∈ wA := wA_in (zt_1 _ (List.mem_of_getElem? (i := 205) rfl)) rfl
set_option maxRecDepth 20000 in
theorem mw_139 : Cond.instantiable "RootAlgebra$Factors" 20 ∈ wA := wA_in (zt_1 _ (List.mem_of_getElem? (i := 206) rfl)) rfl
set_option maxRecDepth 20000 in
theorem mw_140 : Cond.initialized "RootAlgebra$Factors" ∈ wA := wA_in (zt_1 _ (List.mem_of_getElem? (i := 8) rfl)) rfl
set_option maxRecDepth 20000 in
theorem mw_141 : Cond.code y_Factors_init b_Factors_init 1 none ∈ wA := wA_in (zt_1 _ (List.mem_of_getElem? (i := 209) rfl)) rfl
set_option maxRecDepth 20000 in
theorem mw_142 : Cond.methodLink "RootAlgebra$Desk" 44 y_Factors_init ∈ wA := wA_in (zt_1 _ (List.mem_of_getElem? (i := 207) rfl)) rfl
set_option maxRecDepth 20000 in
theorem mw_143 : Cond.instanceMethod y_Factors_init ∈ wA := wA_in (zt_1 _ (List.mem_of_getElem? (i := 208) rfl)) rfl
set_option maxRecDepth 20000 in
theorem mw_144 : Cond.fieldLink "RootAlgebra$Desk" 45 "RootAlgebra$Desk" "factors" "LRootAlgebra$Factors;" ∈ wA := wA_in (zt_2 _ (List.mem_of_getElem? (i := 207) rfl)) rfl
end
section
/-! words of the tables, by their places; laid by program -/
set_option maxRecDepth 20000 in
theorem mw_145 : Cond.classLink "RootAlgebra$Desk" 49 "RootAlgebra$Isolator" ∈ wA := wA_in (zt_2 _ (List.mem_of_getElem? (i := 86) rfl)) rfl
set_option maxRecDepth 20000 in
theorem mw_146 : Cond.instantiable "RootAlgebra$Isolator" 11 ∈ wA := wA_in (zt_2 _ (List.mem_of_getElem? (i := 87) rfl)) rfl
set_option maxRecDepth 20000 in
theorem mw_147 : Cond.initialized "RootAlgebra$Isolator" ∈ wA := wA_in (zt_1 _ (List.mem_of_getElem? (i := 11) rfl)) rfl
set_option maxRecDepth 20000 in
theorem mw_148 : Cond.code y_Isolator_init b_Isolator_init 2 none ∈ wA := wA_in (zt_2 _ (List.mem_of_getElem? (i := 90) rfl)) rfl
set_option maxRecDepth 20000 in
theorem mw_149 : Cond.methodLink "RootAlgebra$Desk" 51 y_Isolator_init ∈ wA := wA_in (zt_2 _ (List.mem_of_getElem? (i := 88) rfl)) rfl
set_option maxRecDepth 20000 in
theorem mw_150 : Cond.instanceMethod y_Isolator_init ∈ wA := wA_in (zt_2 _ (List.mem_of_getElem? (i := 89) rfl)) rfl
set_option maxRecDepth 20000 in
theorem mw_151 : Cond.fieldLink "RootAlgebra$Desk" 52 "RootAlgebra$Desk" "isolator" "LRootAlgebra$Isolator;" ∈ wA := wA_in (zt_2 _ (List.mem_of_getElem? (i := 208) rfl)) rfl
set_option maxRecDepth 20000 in
theorem mw_152 : Cond.classLink "RootAlgebra$Desk" 56 "RootAlgebra$Gauge" ∈ wA := wA_in (zt_2 _ (List.mem_of_getElem? (i := 140) rfl)) rfl
set_option maxRecDepth 20000 in
theorem mw_153 : Cond.instantiable "RootAlgebra$Gauge" 17 ∈ wA := wA_in (zt_2 _ (List.mem_of_getElem? (i := 141) rfl)) rfl
set_option maxRecDepth 20000 in
theorem mw_154 : Cond.initialized "RootAlgebra$Gauge" ∈ wA := wA_in (zt_1 _ (List.mem_of_getElem? (i := 12) rfl)) rfl
set_option maxRecDepth 20000 in
theorem mw_155 : Cond.code y_Gauge_init b_Gauge_init 1 none ∈ wA := wA_in (zt_2 _ (List.mem_of_getElem? (i := 144) rfl)) rfl
set_option maxRecDepth 20000 in
theorem mw_156 : Cond.methodLink "RootAlgebra$Desk" 58 y_Gauge_init ∈ wA := wA_in (zt_2 _ (List.mem_of_getElem? (i := 142) rfl)) rfl
set_option maxRecDepth 20000 in
theorem mw_157 : Cond.instanceMethod y_Gauge_init ∈ wA := wA_in (zt_2 _ (List.mem_of_getElem? (i := 143) rfl)) rfl
set_option maxRecDepth 20000 in
theorem mw_158 : Cond.fieldLink "RootAlgebra$Desk" 59 "RootAlgebra$Desk" "gauge" "LRootAlgebra$Gauge;" ∈ wA := wA_in (zt_2 _ (List.mem_of_getElem? (i := 209) rfl)) rfl
set_option maxRecDepth 20000 in
theorem mw_159 : Cond.methodLink "RootAlgebra" 1 Lib.objectInit ∈ wA := wA_in (zt_1 _ (List.mem_of_getElem? (i := 28) rfl)) rfl
set_option maxRecDepth 20000 in
theorem mw_160 : Cond.arrayClass .byte ∈ wA := wA_in (zt_1 _ (List.mem_of_getElem? (i := 53) rfl)) rfl
set_option maxRecDepth 20000 in
theorem mw_161 : Cond.fieldLink "RootAlgebra" 9 "RootAlgebra" "tape" "[B" ∈ wA := wA_in (zt_3 _ (List.mem_of_getElem? (i := 0) rfl)) rfl
set_option maxRecDepth 20000 in
theorem mw_162 : Cond.fieldLink "RootAlgebra" 13 "RootAlgebra" "text" "[B" ∈ wA := wA_in (zt_3 _ (List.mem_of_getElem? (i := 1) rfl)) rfl
set_option maxRecDepth 20000 in
theorem mw_163 : Cond.fieldLink "RootAlgebra" 16 "RootAlgebra" "digits" "[B" ∈ wA := wA_in (zt_3 _ (List.mem_of_getElem? (i := 2) rfl)) rfl
set_option maxRecDepth 20000 in
theorem mw_164 : Cond.classLink "RootAlgebra" 19 "RootAlgebra$Big" ∈ wA := wA_in (zt_1 _ (List.mem_of_getElem? (i := 31) rfl)) rfl
set_option maxRecDepth 20000 in
theorem mw_165 : Cond.methodLink "RootAlgebra" 21 y_Big_init ∈ wA := wA_in (zt_1 _ (List.mem_of_getElem? (i := 33) rfl)) rfl
set_option maxRecDepth 20000 in
theorem mw_166 : Cond.fieldLink "RootAlgebra" 24 "RootAlgebra" "rest" "LRootAlgebra$Big;" ∈ wA := wA_in (zt_3 _ (List.mem_of_getElem? (i := 3) rfl)) rfl
set_option maxRecDepth 20000 in
theorem mw_167 : Cond.classLink "RootAlgebra" 28 "RootAlgebra$Value" ∈ wA := wA_in (zt_1 _ (List.mem_of_getElem? (i := 55) rfl)) rfl
set_option maxRecDepth 20000 in
theorem mw_168 : Cond.fieldLink "RootAlgebra" 30 "RootAlgebra" "values" "[LRootAlgebra$Value;" ∈ wA := wA_in (zt_3 _ (List.mem_of_getElem? (i := 4) rfl)) rfl
set_option maxRecDepth 20000 in
theorem mw_169 : Cond.methodLink "RootAlgebra" 34 y_Value_init ∈ wA := wA_in (zt_1 _ (List.mem_of_getElem? (i := 58) rfl)) rfl
set_option maxRecDepth 20000 in
theorem mw_170 : Cond.code y_Value_setFraction b_Value_setFraction 3 none ∈ wA := wA_in (zt_1 _ (List.mem_of_getElem? (i := 109) rfl)) rfl
set_option maxRecDepth 20000 in
theorem mw_171 : Cond.methodLink "RootAlgebra" 35 y_Value_setFraction ∈ wA := wA_in (zt_1 _ (List.mem_of_getElem? (i := 106) rfl)) rfl
set_option maxRecDepth 20000 in
theorem mw_172 : Cond.instanceMethod y_Value_setFraction ∈ wA := wA_in (zt_1 _ (List.mem_of_getElem? (i := 107) rfl)) rfl
set_option maxRecDepth 20000 in
theorem mw_173 : Cond.selects "RootAlgebra$Value" y_Value_setFraction y_Value_setFraction ∈ wA := wA_in (zt_1 _ (List.mem_of_getElem? (i := 108) rfl)) rfl
set_option maxRecDepth 20000 in
theorem mw_174 : Cond.classLink "RootAlgebra" 39 "RootAlgebra$Reader" ∈ wA := wA_in (zt_1 _ (List.mem_of_getElem? (i := 118) rfl)) rfl
set_option maxRecDepth 20000 in
theorem mw_175 : Cond.instantiable "RootAlgebra$Reader" 7 ∈ wA := wA_in (zt_1 _ (List.mem_of_getElem? (i := 119) rfl)) rfl
set_option maxRecDepth 20000 in
theorem mw_176 : Cond.initialized "RootAlgebra$Reader" ∈ wA := wA_in (zt_1 _ (List.mem_of_getElem? (i := 4) rfl)) rfl
set_option maxRecDepth 20000 in
theorem mw_177 : Cond.code y_Reader_init b_Reader_init 2 none ∈ wA := wA_in (zt_1 _ (List.mem_of_getElem? (i := 122) rfl)) rfl
set_option maxRecDepth 20000 in
theorem mw_178 : Cond.methodLink "RootAlgebra" 41 y_Reader_init ∈ wA := wA_in (zt_1 _ (List.mem_of_getElem? (i := 120) rfl)) rfl
set_option maxRecDepth 20000 in
theorem mw_179 : Cond.instanceMethod y_Reader_init ∈ wA := wA_in (zt_1 _ (List.mem_of_getElem? (i := 121) rfl)) rfl
set_option maxRecDepth 20000 in
theorem mw_180 : Cond.fieldLink "RootAlgebra" 44 "RootAlgebra" "reader" "LRootAlgebra$Reader;" ∈ wA := wA_in (zt_3 _ (List.mem_of_getElem? (i := 5) rfl)) rfl
set_option maxRecDepth 20000 in
theorem mw_181 : Cond.classLink "RootAlgebra" 48 "RootAlgebra$Desk" ∈ wA := wA_in (zt_1 _ (List.mem_of_getElem? (i := 150) rfl)) rfl
set_option maxRecDepth 20000 in
theorem mw_182 : Cond.instantiable "RootAlgebra$Desk" 12 ∈ wA := wA_in (zt_1 _ (List.mem_of_getElem? (i := 151) rfl)) rfl
set_option maxRecDepth 20000 in
theorem mw_183 : Cond.initialized "RootAlgebra$Desk" ∈ wA := wA_in (zt_1 _ (List.mem_of_getElem? (i := 5) rfl)) rfl
set_option maxRecDepth 20000 in
theorem mw_184 : Cond.code y_Desk_init b_Desk_init 2 none ∈ wA := wA_in (zt_1 _ (List.mem_of_getElem? (i := 154) rfl)) rfl
set_option maxRecDepth 20000 in
theorem mw_185 : Cond.methodLink "RootAlgebra" 50 y_Desk_init ∈ wA := wA_in (zt_1 _ (List.mem_of_getElem? (i := 152) rfl)) rfl
set_option maxRecDepth 20000 in
theorem mw_186 : Cond.instanceMethod y_Desk_init ∈ wA := wA_in (zt_1 _ (List.mem_of_getElem? (i := 153) rfl)) rfl
set_option maxRecDepth 20000 in
theorem mw_187 : Cond.fieldLink "RootAlgebra" 51 "RootAlgebra" "desk" "LRootAlgebra$Desk;" ∈ wA := wA_in (zt_3 _ (List.mem_of_getElem? (i := 6) rfl)) rfl
set_option maxRecDepth 20000 in
theorem mw_188 : Cond.fieldLink "RootAlgebra" 55 "RootAlgebra" "place" "I" ∈ wA := wA_in (zt_3 _ (List.mem_of_getElem? (i := 9) rfl)) rfl
set_option maxRecDepth 20000 in
theorem mw_189 : Cond.code y_RA_isName b_RA_isName 2 (some .boolean) ∈ wA := wA_in (zt_6 _ (List.mem_of_getElem? (i := 49) rfl)) rfl
set_option maxRecDepth 20000 in
theorem mw_190 : Cond.initialized "RootAlgebra" ∈ wA := wA_in (zt_1 _ (List.mem_of_getElem? (i := 1) rfl)) rfl
set_option maxRecDepth 20000 in
theorem mw_191 : Cond.methodLink "RootAlgebra" 123 y_RA_isName ∈ wA := wA_in (zt_6 _ (List.mem_of_getElem? (i := 46) rfl)) rfl
set_option maxRecDepth 20000 in
theorem mw_192 : Cond.instanceMethod y_RA_isName ∈ wA := wA_in (zt_6 _ (List.mem_of_getElem? (i := 48) rfl)) rfl
theorem mw_193 : Cond.selects "RootAlgebra" y_RA_isName y_RA_isName ∈ wA := wA_in (List.mem_append_left _ (by decide +kernel)) rfl
set_option maxRecDepth 20000 in
theorem mw_194 : Cond.fieldLink "RootAlgebra" 126 "RootAlgebra$Value" "degree" "I" ∈ wA := wA_in (zt_1 _ (List.mem_of_getElem? (i := 77) rfl)) rfl
set_option maxRecDepth 20000 in
theorem mw_195 : Cond.fieldLink "RootAlgebra" 132 "RootAlgebra$Value" "c" "[I" ∈ wA := wA_in (zt_1 _ (List.mem_of_getElem? (i := 68) rfl)) rfl
set_option maxRecDepth 20000 in
theorem mw_196 : Cond.fieldLink "RootAlgebra" 135 "RootAlgebra$Value" "index" "I" ∈ wA := wA_in (zt_1 _ (List.mem_of_getElem? (i := 82) rfl)) rfl
set_option maxRecDepth 20000 in
theorem mw_197 : Cond.fieldLink "RootAlgebra" 138 "RootAlgebra$Value" "roots" "I" ∈ wA := wA_in (zt_1 _ (List.mem_of_getElem? (i := 85) rfl)) rfl
set_option maxRecDepth 20000 in
theorem mw_198 : Cond.code y_RA_namesWithValue b_RA_namesWithValue 3 (some .int) ∈ wA := wA_in (zt_6 _ (List.mem_of_getElem? (i := 38) rfl)) rfl
set_option maxRecDepth 20000 in
theorem mw_199 : Cond.methodLink "RootAlgebra" 117 y_RA_namesWithValue ∈ wA := wA_in (zt_6 _ (List.mem_of_getElem? (i := 35) rfl)) rfl
set_option maxRecDepth 20000 in
theorem mw_200 : Cond.instanceMethod y_RA_namesWithValue ∈ wA := wA_in (zt_6 _ (List.mem_of_getElem? (i := 37) rfl)) rfl
theorem mw_201 : Cond.selects "RootAlgebra" y_RA_namesWithValue y_RA_namesWithValue ∈ wA := wA_in (List.mem_append_left _ (by decide +kernel)) rfl
set_option maxRecDepth 20000 in
theorem mw_202 : Cond.fieldLink "RootAlgebra" 62 "RootAlgebra" "fed" "I" ∈ wA := wA_in (zt_3 _ (List.mem_of_getElem? (i := 7) rfl)) rfl
set_option maxRecDepth 20000 in
theorem mw_203 : Cond.fieldLink "RootAlgebra" 120 "RootAlgebra" "written" "I" ∈ wA := wA_in (zt_3 _ (List.mem_of_getElem? (i := 8) rfl)) rfl
set_option maxRecDepth 20000 in
theorem mw_204 : Cond.fieldLink "RootAlgebra" 114 "RootAlgebra" "done" "I" ∈ wA := wA_in (zt_3 _ (List.mem_of_getElem? (i := 10) rfl)) rfl
set_option maxRecDepth 20000 in
theorem mw_205 : Cond.fieldLink "RootAlgebra$Reader" 29 "RootAlgebra$Reader" "at" "I" ∈ wA := wA_in (zt_1 _ (List.mem_of_getElem? (i := 129) rfl)) rfl
set_option maxRecDepth 20000 in
theorem mw_206 : Cond.fieldLink "RootAlgebra$Reader" 25 "RootAlgebra$Reader" "length" "I" ∈ wA := wA_in (zt_1 _ (List.mem_of_getElem? (i := 127) rfl)) rfl
set_option maxRecDepth 20000 in
theorem mw_207 : Cond.fieldLink "RootAlgebra$Reader" 50 "RootAlgebra$Reader" "target" "I" ∈ wA := wA_in (zt_1 _ (List.mem_of_getElem? (i := 133) rfl)) rfl
set_option maxRecDepth 20000 in
theorem mw_208 : Cond.code y_Reader_next b_Reader_next 1 (some .int) ∈ wA := wA_in (zt_3 _ (List.mem_of_getElem? (i := 52) rfl)) rfl
set_option maxRecDepth 20000 in
theorem mw_209 : Cond.methodLink "RootAlgebra$Reader" 42 y_Reader_next ∈ wA := wA_in (zt_3 _ (List.mem_of_getElem? (i := 49) rfl)) rfl
set_option maxRecDepth 20000 in
theorem mw_210 : Cond.instanceMethod y_Reader_next ∈ wA := wA_in (zt_3 _ (List.mem_of_getElem? (i := 51) rfl)) rfl
theorem mw_211 : Cond.selects "RootAlgebra$Reader" y_Reader_next y_Reader_next ∈ wA := wA_in (List.mem_append_left _ (by decide +kernel)) rfl
set_option maxRecDepth 20000 in
theorem mw_212 : Cond.code y_Reader_factor b_Reader_factor 5 (some .boolean) ∈ wA := wA_in (zt_3 _ (List.mem_of_getElem? (i := 64) rfl)) rfl
set_option maxRecDepth 20000 in
theorem mw_213 : Cond.methodLink "RootAlgebra$Reader" 56 y_Reader_factor ∈ wA := wA_in (zt_3 _ (List.mem_of_getElem? (i := 61) rfl)) rfl
set_option maxRecDepth 20000 in
theorem mw_214 : Cond.instanceMethod y_Reader_factor ∈ wA := wA_in (zt_3 _ (List.mem_of_getElem? (i := 63) rfl)) rfl
theorem mw_215 : Cond.selects "RootAlgebra$Reader" y_Reader_factor y_Reader_factor ∈ wA := wA_in (List.mem_append_left _ (by decide +kernel)) rfl
set_option maxRecDepth 20000 in
theorem mw_216 : Cond.code y_Reader_product b_Reader_product 4 (some .boolean) ∈ wA := wA_in (zt_3 _ (List.mem_of_getElem? (i := 60) rfl)) rfl
set_option maxRecDepth 20000 in
theorem mw_217 : Cond.methodLink "RootAlgebra$Reader" 53 y_Reader_product ∈ wA := wA_in (zt_3 _ (List.mem_of_getElem? (i := 57) rfl)) rfl
set_option maxRecDepth 20000 in
theorem mw_218 : Cond.instanceMethod y_Reader_product ∈ wA := wA_in (zt_3 _ (List.mem_of_getElem? (i := 59) rfl)) rfl
theorem mw_219 : Cond.selects "RootAlgebra$Reader" y_Reader_product y_Reader_product ∈ wA := wA_in (List.mem_append_left _ (by decide +kernel)) rfl
set_option maxRecDepth 20000 in
theorem mw_220 : Cond.methodLink "RootAlgebra$Reader" 19 Lib.Math.min.name ∈ wA := wA_in (zt_3 _ (List.mem_of_getElem? (i := 42) rfl)) rfl
set_option maxRecDepth 20000 in
theorem mw_221 : Cond.static Lib.Math.min.name ∈ wA := wA_in (zt_3 _ (List.mem_of_getElem? (i := 43) rfl)) rfl
set_option maxRecDepth 20000 in
theorem mw_222 : Cond.initialized "java/lang/Math" ∈ wA := wA_in (zt_1 _ (List.mem_of_getElem? (i := 19) rfl)) rfl
set_option maxRecDepth 20000 in
theorem mw_223 : Cond.code Lib.Math.min.name Lib.Math.min.code 2 (some .int) ∈ wA := wA_in (zt_3 _ (List.mem_of_getElem? (i := 44) rfl)) rfl
set_option maxRecDepth 20000 in
theorem mw_224 : Cond.fieldLink "RootAlgebra$Reader" 32 "RootAlgebra$Reader" "size" "I" ∈ wA := wA_in (zt_1 _ (List.mem_of_getElem? (i := 131) rfl)) rfl
set_option maxRecDepth 20000 in
theorem mw_225 : Cond.code y_Reader_readTarget b_Reader_readTarget 3 none ∈ wA := wA_in (zt_3 _ (List.mem_of_getElem? (i := 48) rfl)) rfl
set_option maxRecDepth 20000 in
theorem mw_226 : Cond.methodLink "RootAlgebra$Reader" 35 y_Reader_readTarget ∈ wA := wA_in (zt_3 _ (List.mem_of_getElem? (i := 45) rfl)) rfl
set_option maxRecDepth 20000 in
theorem mw_227 : Cond.instanceMethod y_Reader_readTarget ∈ wA := wA_in (zt_3 _ (List.mem_of_getElem? (i := 47) rfl)) rfl
theorem mw_228 : Cond.selects "RootAlgebra$Reader" y_Reader_readTarget y_Reader_readTarget ∈ wA := wA_in (List.mem_append_left _ (by decide +kernel)) rfl
set_option maxRecDepth 20000 in
theorem mw_229 : Cond.code y_Reader_sum b_Reader_sum 4 (some .boolean) ∈ wA := wA_in (zt_3 _ (List.mem_of_getElem? (i := 56) rfl)) rfl
set_option maxRecDepth 20000 in
theorem mw_230 : Cond.methodLink "RootAlgebra$Reader" 38 y_Reader_sum ∈ wA := wA_in (zt_3 _ (List.mem_of_getElem? (i := 53) rfl)) rfl
set_option maxRecDepth 20000 in
theorem mw_231 : Cond.instanceMethod y_Reader_sum ∈ wA := wA_in (zt_3 _ (List.mem_of_getElem? (i := 55) rfl)) rfl
theorem mw_232 : Cond.selects "RootAlgebra$Reader" y_Reader_sum y_Reader_sum ∈ wA := wA_in (List.mem_append_left _ (by decide +kernel)) rfl
set_option maxRecDepth 20000 in
theorem mw_233 : Cond.code y_Reader_reads b_Reader_reads 2 (some .boolean) ∈ wA := wA_in (zt_3 _ (List.mem_of_getElem? (i := 41) rfl)) rfl
set_option maxRecDepth 20000 in
theorem mw_234 : Cond.methodLink "RootAlgebra" 68 y_Reader_reads ∈ wA := wA_in (zt_3 _ (List.mem_of_getElem? (i := 38) rfl)) rfl
set_option maxRecDepth 20000 in
theorem mw_235 : Cond.instanceMethod y_Reader_reads ∈ wA := wA_in (zt_3 _ (List.mem_of_getElem? (i := 39) rfl)) rfl
set_option maxRecDepth 20000 in
theorem mw_236 : Cond.selects "RootAlgebra$Reader" y_Reader_reads y_Reader_reads ∈ wA := wA_in (zt_3 _ (List.mem_of_getElem? (i := 40) rfl)) rfl
set_option maxRecDepth 20000 in
theorem mw_237 : Cond.fieldLink "RootAlgebra" 72 "RootAlgebra$Reader" "at" "I" ∈ wA := wA_in (zt_1 _ (List.mem_of_getElem? (i := 130) rfl)) rfl
set_option maxRecDepth 20000 in
theorem mw_238 : Cond.code y_Big_trim b_Big_trim 1 none ∈ wA := wA_in (zt_3 _ (List.mem_of_getElem? (i := 129) rfl)) rfl
set_option maxRecDepth 20000 in
theorem mw_239 : Cond.methodLink "RootAlgebra$Big" 32 y_Big_trim ∈ wA := wA_in (zt_3 _ (List.mem_of_getElem? (i := 126) rfl)) rfl
set_option maxRecDepth 20000 in
theorem mw_240 : Cond.instanceMethod y_Big_trim ∈ wA := wA_in (zt_3 _ (List.mem_of_getElem? (i := 128) rfl)) rfl
theorem mw_241 : Cond.selects "RootAlgebra$Big" y_Big_trim y_Big_trim ∈ wA := wA_in (List.mem_append_left _ (by decide +kernel)) rfl
set_option maxRecDepth 20000 in
theorem mw_242 : Cond.code y_Big_divide b_Big_divide 7 (some .int) ∈ wA := wA_in (zt_3 _ (List.mem_of_getElem? (i := 201) rfl)) rfl
set_option maxRecDepth 20000 in
theorem mw_243 : Cond.methodLink "RootAlgebra$Big" 56 y_Big_divide ∈ wA := wA_in (zt_3 _ (List.mem_of_getElem? (i := 198) rfl)) rfl
set_option maxRecDepth 20000 in
theorem mw_244 : Cond.instanceMethod y_Big_divide ∈ wA := wA_in (zt_3 _ (List.mem_of_getElem? (i := 199) rfl)) rfl
set_option maxRecDepth 20000 in
theorem mw_245 : Cond.selects "RootAlgebra$Big" y_Big_divide y_Big_divide ∈ wA := wA_in (zt_3 _ (List.mem_of_getElem? (i := 200) rfl)) rfl
set_option maxRecDepth 20000 in
theorem mw_246 : Cond.methodLink "RootAlgebra$Big" 20 Lib.Math.min.name ∈ wA := wA_in (zt_3 _ (List.mem_of_getElem? (i := 124) rfl)) rfl
set_option maxRecDepth 20000 in
theorem mw_247 : Cond.methodLink "RootAlgebra$Big" 26 arraycopyName ∈ wA := wA_in (zt_3 _ (List.mem_of_getElem? (i := 125) rfl)) rfl
set_option maxRecDepth 20000 in
theorem mw_248 : Cond.native arraycopyName ∈ wA := wA_in (zt_3 _ (List.mem_of_getElem? (i := 119) rfl)) rfl
set_option maxRecDepth 20000 in
theorem mw_249 : Cond.static arraycopyName ∈ wA := wA_in (zt_3 _ (List.mem_of_getElem? (i := 118) rfl)) rfl
set_option maxRecDepth 20000 in
theorem mw_250 : Cond.initialized "java/lang/System" ∈ wA := wA_in (zt_1 _ (List.mem_of_getElem? (i := 20) rfl)) rfl
set_option maxRecDepth 20000 in
theorem mw_251 : Cond.constantLong "RootAlgebra$Big" 35 4294967295 ∈ wA := wA_in (zt_3 _ (List.mem_of_getElem? (i := 143) rfl)) rfl
set_option maxRecDepth 20000 in
theorem mw_252 : Cond.fieldLink "RootAlgebra" 169 "RootAlgebra$Big" "sign" "I" ∈ wA := wA_in (zt_1 _ (List.mem_of_getElem? (i := 45) rfl)) rfl
set_option maxRecDepth 20000 in
theorem mw_253 : Cond.constant "RootAlgebra" 172 1000000000 ∈ wA := wA_in (zt_6 _ (List.mem_of_getElem? (i := 120) rfl)) rfl
set_option maxRecDepth 20000 in
theorem mw_254 : Cond.methodLink "RootAlgebra" 173 y_Big_divide ∈ wA := wA_in (zt_6 _ (List.mem_of_getElem? (i := 121) rfl)) rfl
set_option maxRecDepth 20000 in
theorem mw_255 : Cond.code y_RA_put b_RA_put 2 none ∈ wA := wA_in (zt_6 _ (List.mem_of_getElem? (i := 119) rfl)) rfl
set_option maxRecDepth 20000 in
theorem mw_256 : Cond.methodLink "RootAlgebra" 162 y_RA_put ∈ wA := wA_in (zt_6 _ (List.mem_of_getElem? (i := 116) rfl)) rfl
set_option maxRecDepth 20000 in
theorem mw_257 : Cond.instanceMethod y_RA_put ∈ wA := wA_in (zt_6 _ (List.mem_of_getElem? (i := 118) rfl)) rfl
theorem mw_258 : Cond.selects "RootAlgebra" y_RA_put y_RA_put ∈ wA := wA_in (List.mem_append_left _ (by decide +kernel)) rfl
set_option maxRecDepth 20000 in
theorem mw_259 : Cond.methodLink "RootAlgebra" 165 y_Big_setLong ∈ wA := wA_in (zt_6 _ (List.mem_of_getElem? (i := 129) rfl)) rfl
set_option maxRecDepth 20000 in
theorem mw_260 : Cond.code y_RA_putRest b_RA_putRest 5 none ∈ wA := wA_in (zt_6 _ (List.mem_of_getElem? (i := 115) rfl)) rfl
set_option maxRecDepth 20000 in
theorem mw_261 : Cond.methodLink "RootAlgebra" 159 y_RA_putRest ∈ wA := wA_in (zt_6 _ (List.mem_of_getElem? (i := 112) rfl)) rfl
set_option maxRecDepth 20000 in
theorem mw_262 : Cond.instanceMethod y_RA_putRest ∈ wA := wA_in (zt_6 _ (List.mem_of_getElem? (i := 114) rfl)) rfl
theorem mw_263 : Cond.selects "RootAlgebra" y_RA_putRest y_RA_putRest ∈ wA := wA_in (List.mem_append_left _ (by decide +kernel)) rfl
set_option maxRecDepth 20000 in
theorem mw_264 : Cond.code y_Big_scale b_Big_scale 10 none ∈ wA := wA_in (zt_4 _ (List.mem_of_getElem? (i := 114) rfl)) rfl
set_option maxRecDepth 20000 in
theorem mw_265 : Cond.methodLink "RootAlgebra$Gauge" 150 y_Big_scale ∈ wA := wA_in (zt_6 _ (List.mem_of_getElem? (i := 110) rfl)) rfl
set_option maxRecDepth 20000 in
theorem mw_266 : Cond.instanceMethod y_Big_scale ∈ wA := wA_in (zt_4 _ (List.mem_of_getElem? (i := 112) rfl)) rfl
set_option maxRecDepth 20000 in
theorem mw_267 : Cond.selects "RootAlgebra$Big" y_Big_scale y_Big_scale ∈ wA := wA_in (zt_4 _ (List.mem_of_getElem? (i := 113) rfl)) rfl
set_option maxRecDepth 20000 in
theorem mw_268 : Cond.fieldLink "RootAlgebra$Gauge" 48 "RootAlgebra$Value" "degree" "I" ∈ wA := wA_in (zt_1 _ (List.mem_of_getElem? (i := 73) rfl)) rfl
set_option maxRecDepth 20000 in
theorem mw_269 : Cond.fieldLink "RootAlgebra$Gauge" 54 "RootAlgebra$Value" "c" "[I" ∈ wA := wA_in (zt_1 _ (List.mem_of_getElem? (i := 65) rfl)) rfl
set_option maxRecDepth 20000 in
theorem mw_270 : Cond.methodLink "RootAlgebra$Gauge" 58 y_Big_setLong ∈ wA := wA_in (zt_3 _ (List.mem_of_getElem? (i := 189) rfl)) rfl
set_option maxRecDepth 20000 in
theorem mw_271 : Cond.code y_Gauge_timesTen b_Gauge_timesTen 4 none ∈ wA := wA_in (zt_6 _ (List.mem_of_getElem? (i := 109) rfl)) rfl
set_option maxRecDepth 20000 in
theorem mw_272 : Cond.methodLink "RootAlgebra$Gauge" 147 y_Gauge_timesTen ∈ wA := wA_in (zt_6 _ (List.mem_of_getElem? (i := 106) rfl)) rfl
set_option maxRecDepth 20000 in
theorem mw_273 : Cond.instanceMethod y_Gauge_timesTen ∈ wA := wA_in (zt_6 _ (List.mem_of_getElem? (i := 108) rfl)) rfl
theorem mw_274 : Cond.selects "RootAlgebra$Gauge" y_Gauge_timesTen y_Gauge_timesTen ∈ wA := wA_in (List.mem_append_left _ (by decide +kernel)) rfl
set_option maxRecDepth 20000 in
theorem mw_275 : Cond.code y_Big_divideDown b_Big_divideDown 3 none ∈ wA := wA_in (zt_3 _ (List.mem_of_getElem? (i := 197) rfl)) rfl
set_option maxRecDepth 20000 in
theorem mw_276 : Cond.methodLink "RootAlgebra$Gauge" 65 y_Big_divideDown ∈ wA := wA_in (zt_3 _ (List.mem_of_getElem? (i := 194) rfl)) rfl
set_option maxRecDepth 20000 in
theorem mw_277 : Cond.instanceMethod y_Big_divideDown ∈ wA := wA_in (zt_3 _ (List.mem_of_getElem? (i := 195) rfl)) rfl
set_option maxRecDepth 20000 in
theorem mw_278 : Cond.selects "RootAlgebra$Big" y_Big_divideDown y_Big_divideDown ∈ wA := wA_in (zt_3 _ (List.mem_of_getElem? (i := 196) rfl)) rfl
set_option maxRecDepth 20000 in
theorem mw_279 : Cond.fieldLink "RootAlgebra" 141 "RootAlgebra$Desk" "gauge" "LRootAlgebra$Gauge;" ∈ wA := wA_in (zt_2 _ (List.mem_of_getElem? (i := 210) rfl)) rfl
set_option maxRecDepth 20000 in
theorem mw_280 : Cond.code y_Gauge_wholePart b_Gauge_wholePart 5 (some (.object "RootAlgebra$Big")) ∈ wA := wA_in (zt_6 _ (List.mem_of_getElem? (i := 105) rfl)) rfl
set_option maxRecDepth 20000 in
theorem mw_281 : Cond.methodLink "RootAlgebra" 151 y_Gauge_wholePart ∈ wA := wA_in (zt_6 _ (List.mem_of_getElem? (i := 102) rfl)) rfl
set_option maxRecDepth 20000 in
theorem mw_282 : Cond.instanceMethod y_Gauge_wholePart ∈ wA := wA_in (zt_6 _ (List.mem_of_getElem? (i := 103) rfl)) rfl
set_option maxRecDepth 20000 in
theorem mw_283 : Cond.selects "RootAlgebra$Gauge" y_Gauge_wholePart y_Gauge_wholePart ∈ wA := wA_in (zt_6 _ (List.mem_of_getElem? (i := 104) rfl)) rfl
set_option maxRecDepth 20000 in
theorem mw_284 : Cond.code y_Big_set b_Big_set 2 none ∈ wA := wA_in (zt_3 _ (List.mem_of_getElem? (i := 123) rfl)) rfl
set_option maxRecDepth 20000 in
theorem mw_285 : Cond.methodLink "RootAlgebra" 155 y_Big_set ∈ wA := wA_in (zt_6 _ (List.mem_of_getElem? (i := 111) rfl)) rfl
set_option maxRecDepth 20000 in
theorem mw_286 : Cond.instanceMethod y_Big_set ∈ wA := wA_in (zt_3 _ (List.mem_of_getElem? (i := 121) rfl)) rfl
set_option maxRecDepth 20000 in
theorem mw_287 : Cond.selects "RootAlgebra$Big" y_Big_set y_Big_set ∈ wA := wA_in (zt_3 _ (List.mem_of_getElem? (i := 122) rfl)) rfl
set_option maxRecDepth 20000 in
theorem mw_288 : Cond.code y_Value_hasPolynomialOf b_Value_hasPolynomialOf 3 (some .boolean) ∈ wA := wA_in (zt_3 _ (List.mem_of_getElem? (i := 181) rfl)) rfl
set_option maxRecDepth 20000 in
theorem mw_289 : Cond.methodLink "RootAlgebra$Gauge" 127 y_Value_hasPolynomialOf ∈ wA := wA_in (zt_3 _ (List.mem_of_getElem? (i := 178) rfl)) rfl
set_option maxRecDepth 20000 in
theorem mw_290 : Cond.instanceMethod y_Value_hasPolynomialOf ∈ wA := wA_in (zt_3 _ (List.mem_of_getElem? (i := 179) rfl)) rfl
set_option maxRecDepth 20000 in
theorem mw_291 : Cond.selects "RootAlgebra$Value" y_Value_hasPolynomialOf y_Value_hasPolynomialOf ∈ wA := wA_in (zt_3 _ (List.mem_of_getElem? (i := 180) rfl)) rfl
set_option maxRecDepth 20000 in
theorem mw_292 : Cond.fieldLink "RootAlgebra$Gauge" 131 "RootAlgebra$Value" "index" "I" ∈ wA := wA_in (zt_1 _ (List.mem_of_getElem? (i := 81) rfl)) rfl
set_option maxRecDepth 20000 in
theorem mw_293 : Cond.code y_Integer_compare b_Integer_compare 2 (some .int) ∈ wA := wA_in (zt_3 _ (List.mem_of_getElem? (i := 184) rfl)) rfl
set_option maxRecDepth 20000 in
theorem mw_294 : Cond.initialized "java/lang/Integer" ∈ wA := wA_in (zt_1 _ (List.mem_of_getElem? (i := 21) rfl)) rfl
set_option maxRecDepth 20000 in
theorem mw_295 : Cond.methodLink "RootAlgebra$Gauge" 134 y_Integer_compare ∈ wA := wA_in (zt_3 _ (List.mem_of_getElem? (i := 182) rfl)) rfl
set_option maxRecDepth 20000 in
theorem mw_296 : Cond.static y_Integer_compare ∈ wA := wA_in (zt_3 _ (List.mem_of_getElem? (i := 183) rfl)) rfl
set_option maxRecDepth 20000 in
theorem mw_297 : Cond.code y_Gauge_order b_Gauge_order 5 (some .int) ∈ wA := wA_in (zt_3 _ (List.mem_of_getElem? (i := 177) rfl)) rfl
set_option maxRecDepth 20000 in
theorem mw_298 : Cond.methodLink "RootAlgebra" 145 y_Gauge_order ∈ wA := wA_in (zt_6 _ (List.mem_of_getElem? (i := 94) rfl)) rfl
set_option maxRecDepth 20000 in
theorem mw_299 : Cond.instanceMethod y_Gauge_order ∈ wA := wA_in (zt_3 _ (List.mem_of_getElem? (i := 175) rfl)) rfl
end
section
/-! words of the tables, by their places; laid by program -/
set_option maxRecDepth 20000 in
theorem mw_300 : Cond.selects "RootAlgebra$Gauge" y_Gauge_order y_Gauge_order ∈ wA := wA_in (zt_3 _ (List.mem_of_getElem? (i := 176) rfl)) rfl
set_option maxRecDepth 20000 in
theorem mw_301 : Cond.fieldLink "RootAlgebraModel" 20 "RootAlgebraModel" "has" "[Z" ∈ wA := wA_in (zt_6 _ (List.mem_of_getElem? (i := 166) rfl)) rfl
set_option maxRecDepth 20000 in
theorem mw_302 : Cond.fieldLink "RootAlgebraModel" 24 "RootAlgebraModel" "valueDegree" "[I" ∈ wA := wA_in (zt_6 _ (List.mem_of_getElem? (i := 167) rfl)) rfl
set_option maxRecDepth 20000 in
theorem mw_303 : Cond.fieldLink "RootAlgebraModel" 27 "RootAlgebraModel" "valueC" "[J" ∈ wA := wA_in (zt_6 _ (List.mem_of_getElem? (i := 168) rfl)) rfl
set_option maxRecDepth 20000 in
theorem mw_304 : Cond.fieldLink "RootAlgebraModel" 31 "RootAlgebraModel" "valueIndex" "[I" ∈ wA := wA_in (zt_6 _ (List.mem_of_getElem? (i := 169) rfl)) rfl
set_option maxRecDepth 20000 in
theorem mw_305 : Cond.fieldLink "RootAlgebraModel" 34 "RootAlgebraModel" "valueRoots" "[I" ∈ wA := wA_in (zt_6 _ (List.mem_of_getElem? (i := 170) rfl)) rfl
set_option maxRecDepth 20000 in
theorem mw_306 : Cond.fieldLink "RootAlgebraModel" 59 "RootAlgebraModel" "baseOf" "[I" ∈ wA := wA_in (zt_6 _ (List.mem_of_getElem? (i := 179) rfl)) rfl
set_option maxRecDepth 20000 in
theorem mw_307 : Cond.fieldLink "RootAlgebraModel" 65 "RootAlgebraModel" "cell" "[I" ∈ wA := wA_in (zt_6 _ (List.mem_of_getElem? (i := 181) rfl)) rfl
set_option maxRecDepth 20000 in
theorem mw_308 : Cond.methodLink "RootAlgebraModel" 1 Lib.objectInit ∈ wA := wA_in (zt_6 _ (List.mem_of_getElem? (i := 149) rfl)) rfl
set_option maxRecDepth 20000 in
theorem mw_309 : Cond.fieldLink "RootAlgebraModel" 7 "RootAlgebraModel" "tape" "[I" ∈ wA := wA_in (zt_6 _ (List.mem_of_getElem? (i := 160) rfl)) rfl
set_option maxRecDepth 20000 in
theorem mw_310 : Cond.fieldLink "RootAlgebraModel" 13 "RootAlgebraModel" "text" "[I" ∈ wA := wA_in (zt_6 _ (List.mem_of_getElem? (i := 162) rfl)) rfl
set_option maxRecDepth 20000 in
theorem mw_311 : Cond.fieldLink "RootAlgebraModel" 16 "RootAlgebraModel" "place" "I" ∈ wA := wA_in (zt_6 _ (List.mem_of_getElem? (i := 164) rfl)) rfl
set_option maxRecDepth 20000 in
theorem mw_312 : Cond.constant "RootAlgebraModel" 37 81840 ∈ wA := wA_in (zt_6 _ (List.mem_of_getElem? (i := 150) rfl)) rfl
set_option maxRecDepth 20000 in
theorem mw_313 : Cond.fieldLink "RootAlgebraModel" 38 "RootAlgebraModel" "d" "[J" ∈ wA := wA_in (zt_6 _ (List.mem_of_getElem? (i := 171) rfl)) rfl
set_option maxRecDepth 20000 in
theorem mw_314 : Cond.fieldLink "RootAlgebraModel" 41 "RootAlgebraModel" "size" "[I" ∈ wA := wA_in (zt_6 _ (List.mem_of_getElem? (i := 172) rfl)) rfl
set_option maxRecDepth 20000 in
theorem mw_315 : Cond.fieldLink "RootAlgebraModel" 44 "RootAlgebraModel" "sgn" "[I" ∈ wA := wA_in (zt_6 _ (List.mem_of_getElem? (i := 173) rfl)) rfl
set_option maxRecDepth 20000 in
theorem mw_316 : Cond.fieldLink "RootAlgebraModel" 47 "RootAlgebraModel" "hold" "[J" ∈ wA := wA_in (zt_6 _ (List.mem_of_getElem? (i := 174) rfl)) rfl
set_option maxRecDepth 20000 in
theorem mw_317 : Cond.fieldLink "RootAlgebraModel" 50 "RootAlgebraModel" "divisor" "[J" ∈ wA := wA_in (zt_6 _ (List.mem_of_getElem? (i := 175) rfl)) rfl
set_option maxRecDepth 20000 in
theorem mw_318 : Cond.fieldLink "RootAlgebraModel" 53 "RootAlgebraModel" "dividend" "[J" ∈ wA := wA_in (zt_6 _ (List.mem_of_getElem? (i := 176) rfl)) rfl
set_option maxRecDepth 20000 in
theorem mw_319 : Cond.fieldLink "RootAlgebraModel" 56 "RootAlgebraModel" "rowDegree" "[I" ∈ wA := wA_in (zt_6 _ (List.mem_of_getElem? (i := 177) rfl)) rfl
set_option maxRecDepth 20000 in
theorem mw_320 : Cond.fieldLink "RootAlgebraModel" 62 "RootAlgebraModel" "degreeOf" "[I" ∈ wA := wA_in (zt_6 _ (List.mem_of_getElem? (i := 180) rfl)) rfl
set_option maxRecDepth 20000 in
theorem mw_321 : Cond.fieldLink "RootAlgebraModel" 68 "RootAlgebraModel" "fine" "[I" ∈ wA := wA_in (zt_6 _ (List.mem_of_getElem? (i := 182) rfl)) rfl
set_option maxRecDepth 20000 in
theorem mw_322 : Cond.fieldLink "RootAlgebraModel" 71 "RootAlgebraModel" "w" "[J" ∈ wA := wA_in (zt_6 _ (List.mem_of_getElem? (i := 183) rfl)) rfl
set_option maxRecDepth 20000 in
theorem mw_323 : Cond.fieldLink "RootAlgebraModel" 74 "RootAlgebraModel" "t" "[J" ∈ wA := wA_in (zt_6 _ (List.mem_of_getElem? (i := 184) rfl)) rfl
set_option maxRecDepth 20000 in
theorem mw_324 : Cond.fieldLink "RootAlgebraModel" 77 "RootAlgebraModel" "u" "[J" ∈ wA := wA_in (zt_6 _ (List.mem_of_getElem? (i := 185) rfl)) rfl
set_option maxRecDepth 20000 in
theorem mw_325 : Cond.fieldLink "RootAlgebraModel" 80 "RootAlgebraModel" "zero" "[J" ∈ wA := wA_in (zt_6 _ (List.mem_of_getElem? (i := 186) rfl)) rfl
set_option maxRecDepth 20000 in
theorem mw_326 : Cond.fieldLink "RootAlgebraModel" 83 "RootAlgebraModel" "cells" "[J" ∈ wA := wA_in (zt_6 _ (List.mem_of_getElem? (i := 187) rfl)) rfl
set_option maxRecDepth 20000 in
theorem mw_327 : Cond.fieldLink "RootAlgebraModel" 86 "RootAlgebraModel" "deg" "[I" ∈ wA := wA_in (zt_6 _ (List.mem_of_getElem? (i := 188) rfl)) rfl
set_option maxRecDepth 20000 in
theorem mw_328 : Cond.fieldLink "RootAlgebraModel" 89 "RootAlgebraModel" "chance" "J" ∈ wA := wA_in (zt_6 _ (List.mem_of_getElem? (i := 189) rfl)) rfl
set_option maxRecDepth 20000 in
theorem mw_329 : Cond.fieldLink "RootAlgebraModel" 93 "RootAlgebraModel" "times" "[I" ∈ wA := wA_in (zt_6 _ (List.mem_of_getElem? (i := 191) rfl)) rfl
set_option maxRecDepth 20000 in
theorem mw_330 : Cond.fieldLink "RootAlgebraModel" 96 "RootAlgebraModel" "taken" "[I" ∈ wA := wA_in (zt_6 _ (List.mem_of_getElem? (i := 192) rfl)) rfl
set_option maxRecDepth 20000 in
theorem mw_331 : Cond.fieldLink "RootAlgebraModel" 99 "RootAlgebraModel" "unit" "[J" ∈ wA := wA_in (zt_6 _ (List.mem_of_getElem? (i := 193) rfl)) rfl
set_option maxRecDepth 20000 in
theorem mw_332 : Cond.fieldLink "RootAlgebraModel" 102 "RootAlgebraModel" "matrix" "[J" ∈ wA := wA_in (zt_6 _ (List.mem_of_getElem? (i := 194) rfl)) rfl
set_option maxRecDepth 20000 in
theorem mw_333 : Cond.fieldLink "RootAlgebraModel" 105 "RootAlgebraModel" "power" "[J" ∈ wA := wA_in (zt_6 _ (List.mem_of_getElem? (i := 195) rfl)) rfl
set_option maxRecDepth 20000 in
theorem mw_334 : Cond.fieldLink "RootAlgebraModel" 108 "RootAlgebraModel" "next" "[J" ∈ wA := wA_in (zt_6 _ (List.mem_of_getElem? (i := 196) rfl)) rfl
set_option maxRecDepth 20000 in
theorem mw_335 : Cond.fieldLink "RootAlgebraModel" 111 "RootAlgebraModel" "one" "[J" ∈ wA := wA_in (zt_6 _ (List.mem_of_getElem? (i := 197) rfl)) rfl
set_option maxRecDepth 20000 in
theorem mw_336 : Cond.fieldLink "RootAlgebraModel" 114 "RootAlgebraModel" "factor" "[J" ∈ wA := wA_in (zt_6 _ (List.mem_of_getElem? (i := 198) rfl)) rfl
set_option maxRecDepth 20000 in
theorem mw_337 : Cond.fieldLink "RootAlgebraModel" 117 "RootAlgebraModel" "pa" "[J" ∈ wA := wA_in (zt_6 _ (List.mem_of_getElem? (i := 199) rfl)) rfl
set_option maxRecDepth 20000 in
theorem mw_338 : Cond.fieldLink "RootAlgebraModel" 120 "RootAlgebraModel" "pb" "[J" ∈ wA := wA_in (zt_6 _ (List.mem_of_getElem? (i := 200) rfl)) rfl
set_option maxRecDepth 20000 in
theorem mw_339 : Cond.fieldLink "RootAlgebraModel" 123 "RootAlgebraModel" "candidate" "[J" ∈ wA := wA_in (zt_6 _ (List.mem_of_getElem? (i := 203) rfl)) rfl
set_option maxRecDepth 20000 in
theorem mw_340 : Cond.fieldLink "RootAlgebraModel" 126 "RootAlgebraModel" "given" "[J" ∈ wA := wA_in (zt_6 _ (List.mem_of_getElem? (i := 210) rfl)) rfl
set_option maxRecDepth 20000 in
theorem mw_341 : Cond.fieldLink "RootAlgebraModel" 129 "RootAlgebraModel" "sign" "[I" ∈ wA := wA_in (zt_6 _ (List.mem_of_getElem? (i := 212) rfl)) rfl
set_option maxRecDepth 20000 in
theorem mw_342 : Cond.fieldLink "RootAlgebraModel" 132 "RootAlgebraModel" "brings" "[J" ∈ wA := wA_in (zt_6 _ (List.mem_of_getElem? (i := 213) rfl)) rfl
set_option maxRecDepth 20000 in
theorem mw_343 : Cond.fieldLink "RootAlgebraModel" 135 "RootAlgebraModel" "coefficient" "[J" ∈ wA := wA_in (zt_6 _ (List.mem_of_getElem? (i := 215) rfl)) rfl
set_option maxRecDepth 20000 in
theorem mw_344 : Cond.fieldLink "RootAlgebraModel" 138 "RootAlgebraModel" "coefficientMany" "[I" ∈ wA := wA_in (zt_6 _ (List.mem_of_getElem? (i := 216) rfl)) rfl
set_option maxRecDepth 20000 in
theorem mw_345 : Cond.fieldLink "RootAlgebraModel" 141 "RootAlgebraModel" "waiting" "[I" ∈ wA := wA_in (zt_6 _ (List.mem_of_getElem? (i := 222) rfl)) rfl
set_option maxRecDepth 20000 in
theorem mw_346 : Cond.fieldLink "RootAlgebraModel" 144 "RootAlgebraModel" "waitingWith" "[J" ∈ wA := wA_in (zt_6 _ (List.mem_of_getElem? (i := 223) rfl)) rfl
set_option maxRecDepth 20000 in
theorem mw_347 : Cond.code y_Md_number b_Md_number 4 none ∈ wA := wA_in (zt_6 _ (List.mem_of_getElem? (i := 154) rfl)) rfl
set_option maxRecDepth 20000 in
theorem mw_348 : Cond.initialized "RootAlgebraModel" ∈ wA := wA_in (zt_1 _ (List.mem_of_getElem? (i := 13) rfl)) rfl
set_option maxRecDepth 20000 in
theorem mw_349 : Cond.methodLink "RootAlgebraModel" 147 y_Md_number ∈ wA := wA_in (zt_6 _ (List.mem_of_getElem? (i := 151) rfl)) rfl
set_option maxRecDepth 20000 in
theorem mw_350 : Cond.instanceMethod y_Md_number ∈ wA := wA_in (zt_6 _ (List.mem_of_getElem? (i := 153) rfl)) rfl
theorem mw_351 : Cond.selects "RootAlgebraModel" y_Md_number y_Md_number ∈ wA := wA_in (List.mem_append_left _ (by decide +kernel)) rfl
set_option maxRecDepth 20000 in
theorem mw_352 : Cond.code y_Md_seats b_Md_seats 1 none ∈ wA := wA_in (zt_6 _ (List.mem_of_getElem? (i := 158) rfl)) rfl
set_option maxRecDepth 20000 in
theorem mw_353 : Cond.methodLink "RootAlgebraModel" 151 y_Md_seats ∈ wA := wA_in (zt_6 _ (List.mem_of_getElem? (i := 155) rfl)) rfl
set_option maxRecDepth 20000 in
theorem mw_354 : Cond.instanceMethod y_Md_seats ∈ wA := wA_in (zt_6 _ (List.mem_of_getElem? (i := 157) rfl)) rfl
theorem mw_355 : Cond.selects "RootAlgebraModel" y_Md_seats y_Md_seats ∈ wA := wA_in (List.mem_append_left _ (by decide +kernel)) rfl
set_option maxRecDepth 20000 in
theorem mw_356 : Cond.fieldLink "RootAlgebraModel" 154 "RootAlgebraModel" "thrown" "I" ∈ wA := wA_in (zt_6 _ (List.mem_of_getElem? (i := 159) rfl)) rfl
set_option maxRecDepth 20000 in
theorem mw_357 : Cond.constantLong "RootAlgebraModel" 592 16 ∈ wA := wA_in (zt_9 _ (List.mem_of_getElem? (i := 78) rfl)) rfl
set_option maxRecDepth 20000 in
theorem mw_358 : Cond.code y_Md_in b_Md_in 6 (some .boolean) ∈ wA := wA_in (zt_7 _ (List.mem_of_getElem? (i := 135) rfl)) rfl
set_option maxRecDepth 20000 in
theorem mw_359 : Cond.methodLink "RootAlgebraModel" 446 y_Md_in ∈ wA := wA_in (zt_7 _ (List.mem_of_getElem? (i := 133) rfl)) rfl
set_option maxRecDepth 20000 in
theorem mw_360 : Cond.static y_Md_in ∈ wA := wA_in (zt_7 _ (List.mem_of_getElem? (i := 134) rfl)) rfl
set_option maxRecDepth 20000 in
theorem mw_361 : Cond.code y_Md_isName b_Md_isName 1 (some .boolean) ∈ wA := wA_in (zt_9 _ (List.mem_of_getElem? (i := 77) rfl)) rfl
set_option maxRecDepth 20000 in
theorem mw_362 : Cond.methodLink "RootAlgebraModel" 594 y_Md_isName ∈ wA := wA_in (zt_9 _ (List.mem_of_getElem? (i := 75) rfl)) rfl
set_option maxRecDepth 20000 in
theorem mw_363 : Cond.static y_Md_isName ∈ wA := wA_in (zt_9 _ (List.mem_of_getElem? (i := 76) rfl)) rfl
set_option maxRecDepth 20000 in
theorem mw_364 : Cond.code y_Md_fails b_Md_fails 3 (some .boolean) ∈ wA := wA_in (zt_9 _ (List.mem_of_getElem? (i := 64) rfl)) rfl
set_option maxRecDepth 20000 in
theorem mw_365 : Cond.methodLink "RootAlgebraModel" 581 y_Md_fails ∈ wA := wA_in (zt_9 _ (List.mem_of_getElem? (i := 61) rfl)) rfl
set_option maxRecDepth 20000 in
theorem mw_366 : Cond.instanceMethod y_Md_fails ∈ wA := wA_in (zt_9 _ (List.mem_of_getElem? (i := 63) rfl)) rfl
theorem mw_367 : Cond.selects "RootAlgebraModel" y_Md_fails y_Md_fails ∈ wA := wA_in (List.mem_append_left _ (by decide +kernel)) rfl
set_option maxRecDepth 20000 in
theorem mw_368 : Cond.code y_Md_bars b_Md_bars 2 (some .boolean) ∈ wA := wA_in (zt_9 _ (List.mem_of_getElem? (i := 86) rfl)) rfl
set_option maxRecDepth 20000 in
theorem mw_369 : Cond.methodLink "RootAlgebraModel" 597 y_Md_bars ∈ wA := wA_in (zt_9 _ (List.mem_of_getElem? (i := 83) rfl)) rfl
set_option maxRecDepth 20000 in
theorem mw_370 : Cond.instanceMethod y_Md_bars ∈ wA := wA_in (zt_9 _ (List.mem_of_getElem? (i := 85) rfl)) rfl
theorem mw_371 : Cond.selects "RootAlgebraModel" y_Md_bars y_Md_bars ∈ wA := wA_in (List.mem_append_left _ (by decide +kernel)) rfl
set_option maxRecDepth 20000 in
theorem mw_372 : Cond.constantLong "RootAlgebraModel" 611 15 ∈ wA := wA_in (zt_9 _ (List.mem_of_getElem? (i := 128) rfl)) rfl
set_option maxRecDepth 20000 in
theorem mw_373 : Cond.fieldLink "RootAlgebraModel" 589 "RootAlgebraModel" "written" "I" ∈ wA := wA_in (zt_6 _ (List.mem_of_getElem? (i := 163) rfl)) rfl
set_option maxRecDepth 20000 in
theorem mw_374 : Cond.constantLong "RootAlgebraModel" 587 4 ∈ wA := wA_in (zt_9 _ (List.mem_of_getElem? (i := 70) rfl)) rfl
set_option maxRecDepth 20000 in
theorem mw_375 : Cond.fieldLink "RootAlgebraModel" 484 "RootAlgebraModel" "taped" "I" ∈ wA := wA_in (zt_6 _ (List.mem_of_getElem? (i := 161) rfl)) rfl
set_option maxRecDepth 20000 in
theorem mw_376 : Cond.fieldLink "RootAlgebraModel" 576 "RootAlgebraModel" "done" "I" ∈ wA := wA_in (zt_6 _ (List.mem_of_getElem? (i := 165) rfl)) rfl
set_option maxRecDepth 20000 in
theorem mw_377 : Cond.constantLong "RootAlgebraModel" 579 8 ∈ wA := wA_in (zt_9 _ (List.mem_of_getElem? (i := 60) rfl)) rfl
set_option maxRecDepth 20000 in
theorem mw_378 : Cond.constantLong "RootAlgebraModel" 585 255 ∈ wA := wA_in (zt_9 _ (List.mem_of_getElem? (i := 65) rfl)) rfl
set_option maxRecDepth 20000 in
theorem mw_379 : Cond.fieldLink "RootAlgebraModel" 481 "RootAlgebraModel" "at" "I" ∈ wA := wA_in (zt_6 _ (List.mem_of_getElem? (i := 218) rfl)) rfl
set_option maxRecDepth 20000 in
theorem mw_380 : Cond.constantLong "RootAlgebraModel" 493 48 ∈ wA := wA_in (zt_7 _ (List.mem_of_getElem? (i := 140) rfl)) rfl
set_option maxRecDepth 20000 in
theorem mw_381 : Cond.constantLong "RootAlgebraModel" 495 57 ∈ wA := wA_in (zt_7 _ (List.mem_of_getElem? (i := 141) rfl)) rfl
set_option maxRecDepth 20000 in
theorem mw_382 : Cond.constantLong "RootAlgebraModel" 510 97 ∈ wA := wA_in (zt_7 _ (List.mem_of_getElem? (i := 131) rfl)) rfl
set_option maxRecDepth 20000 in
theorem mw_383 : Cond.constantLong "RootAlgebraModel" 512 112 ∈ wA := wA_in (zt_7 _ (List.mem_of_getElem? (i := 132) rfl)) rfl
set_option maxRecDepth 20000 in
theorem mw_384 : Cond.fieldLink "RootAlgebraModel" 487 "RootAlgebraModel" "signs" "I" ∈ wA := wA_in (zt_6 _ (List.mem_of_getElem? (i := 211) rfl)) rfl
set_option maxRecDepth 20000 in
theorem mw_385 : Cond.fieldLink "RootAlgebraModel" 501 "RootAlgebraModel" "coefficients" "I" ∈ wA := wA_in (zt_6 _ (List.mem_of_getElem? (i := 214) rfl)) rfl
set_option maxRecDepth 20000 in
theorem mw_386 : Cond.fieldLink "RootAlgebraModel" 504 "RootAlgebraModel" "target" "I" ∈ wA := wA_in (zt_6 _ (List.mem_of_getElem? (i := 217) rfl)) rfl
set_option maxRecDepth 20000 in
theorem mw_387 : Cond.fieldLink "RootAlgebraModel" 507 "RootAlgebraModel" "open" "I" ∈ wA := wA_in (zt_6 _ (List.mem_of_getElem? (i := 219) rfl)) rfl
set_option maxRecDepth 20000 in
theorem mw_388 : Cond.code y_Md_peek b_Md_peek 1 (some .int) ∈ wA := wA_in (zt_7 _ (List.mem_of_getElem? (i := 130) rfl)) rfl
set_option maxRecDepth 20000 in
theorem mw_389 : Cond.methodLink "RootAlgebraModel" 490 y_Md_peek ∈ wA := wA_in (zt_7 _ (List.mem_of_getElem? (i := 127) rfl)) rfl
set_option maxRecDepth 20000 in
theorem mw_390 : Cond.instanceMethod y_Md_peek ∈ wA := wA_in (zt_7 _ (List.mem_of_getElem? (i := 129) rfl)) rfl
theorem mw_391 : Cond.selects "RootAlgebraModel" y_Md_peek y_Md_peek ∈ wA := wA_in (List.mem_append_left _ (by decide +kernel)) rfl
set_option maxRecDepth 20000 in
theorem mw_392 : Cond.code y_Md_opens b_Md_opens 4 (some .boolean) ∈ wA := wA_in (zt_7 _ (List.mem_of_getElem? (i := 139) rfl)) rfl
set_option maxRecDepth 20000 in
theorem mw_393 : Cond.methodLink "RootAlgebraModel" 514 y_Md_opens ∈ wA := wA_in (zt_7 _ (List.mem_of_getElem? (i := 136) rfl)) rfl
set_option maxRecDepth 20000 in
theorem mw_394 : Cond.instanceMethod y_Md_opens ∈ wA := wA_in (zt_7 _ (List.mem_of_getElem? (i := 138) rfl)) rfl
theorem mw_395 : Cond.selects "RootAlgebraModel" y_Md_opens y_Md_opens ∈ wA := wA_in (List.mem_append_left _ (by decide +kernel)) rfl
set_option maxRecDepth 20000 in
theorem mw_396 : Cond.code y_Md_isLine b_Md_isLine 4 (some .boolean) ∈ wA := wA_in (zt_7 _ (List.mem_of_getElem? (i := 126) rfl)) rfl
set_option maxRecDepth 20000 in
theorem mw_397 : Cond.methodLink "RootAlgebraModel" 570 y_Md_isLine ∈ wA := wA_in (zt_7 _ (List.mem_of_getElem? (i := 123) rfl)) rfl
set_option maxRecDepth 20000 in
theorem mw_398 : Cond.instanceMethod y_Md_isLine ∈ wA := wA_in (zt_7 _ (List.mem_of_getElem? (i := 125) rfl)) rfl
theorem mw_399 : Cond.selects "RootAlgebraModel" y_Md_isLine y_Md_isLine ∈ wA := wA_in (List.mem_append_left _ (by decide +kernel)) rfl
set_option maxRecDepth 20000 in
theorem mw_400 : Cond.code y_Md_against b_Md_against 6 (some .int) ∈ wA := wA_in (zt_9 _ (List.mem_of_getElem? (i := 12) rfl)) rfl
set_option maxRecDepth 20000 in
theorem mw_401 : Cond.methodLink "RootAlgebraModel" 475 y_Md_against ∈ wA := wA_in (zt_9 _ (List.mem_of_getElem? (i := 9) rfl)) rfl
set_option maxRecDepth 20000 in
theorem mw_402 : Cond.instanceMethod y_Md_against ∈ wA := wA_in (zt_9 _ (List.mem_of_getElem? (i := 11) rfl)) rfl
theorem mw_403 : Cond.selects "RootAlgebraModel" y_Md_against y_Md_against ∈ wA := wA_in (List.mem_append_left _ (by decide +kernel)) rfl
set_option maxRecDepth 20000 in
theorem mw_404 : Cond.constantLong "RootAlgebraModel" 157 268435455 ∈ wA := wA_in (zt_7 _ (List.mem_of_getElem? (i := 183) rfl)) rfl
set_option maxRecDepth 20000 in
theorem mw_405 : Cond.code y_Md_fix b_Md_fix 2 none ∈ wA := wA_in (zt_7 _ (List.mem_of_getElem? (i := 187) rfl)) rfl
set_option maxRecDepth 20000 in
theorem mw_406 : Cond.methodLink "RootAlgebraModel" 159 y_Md_fix ∈ wA := wA_in (zt_7 _ (List.mem_of_getElem? (i := 184) rfl)) rfl
set_option maxRecDepth 20000 in
theorem mw_407 : Cond.instanceMethod y_Md_fix ∈ wA := wA_in (zt_7 _ (List.mem_of_getElem? (i := 186) rfl)) rfl
theorem mw_408 : Cond.selects "RootAlgebraModel" y_Md_fix y_Md_fix ∈ wA := wA_in (List.mem_append_left _ (by decide +kernel)) rfl
set_option maxRecDepth 20000 in
theorem mw_409 : Cond.code y_Md_lands b_Md_lands 5 none ∈ wA := wA_in (zt_7 _ (List.mem_of_getElem? (i := 199) rfl)) rfl
set_option maxRecDepth 20000 in
theorem mw_410 : Cond.methodLink "RootAlgebraModel" 171 y_Md_lands ∈ wA := wA_in (zt_7 _ (List.mem_of_getElem? (i := 196) rfl)) rfl
set_option maxRecDepth 20000 in
theorem mw_411 : Cond.instanceMethod y_Md_lands ∈ wA := wA_in (zt_7 _ (List.mem_of_getElem? (i := 198) rfl)) rfl
theorem mw_412 : Cond.selects "RootAlgebraModel" y_Md_lands y_Md_lands ∈ wA := wA_in (List.mem_append_left _ (by decide +kernel)) rfl
set_option maxRecDepth 20000 in
theorem mw_413 : Cond.constantLong "RootAlgebraModel" 182 134217728 ∈ wA := wA_in (zt_7 _ (List.mem_of_getElem? (i := 216) rfl)) rfl
set_option maxRecDepth 20000 in
theorem mw_414 : Cond.code y_Md_digit b_Md_digit 3 (some .long) ∈ wA := wA_in (zt_7 _ (List.mem_of_getElem? (i := 220) rfl)) rfl
set_option maxRecDepth 20000 in
theorem mw_415 : Cond.methodLink "RootAlgebraModel" 167 y_Md_digit ∈ wA := wA_in (zt_7 _ (List.mem_of_getElem? (i := 217) rfl)) rfl
set_option maxRecDepth 20000 in
theorem mw_416 : Cond.instanceMethod y_Md_digit ∈ wA := wA_in (zt_7 _ (List.mem_of_getElem? (i := 219) rfl)) rfl
theorem mw_417 : Cond.selects "RootAlgebraModel" y_Md_digit y_Md_digit ∈ wA := wA_in (List.mem_append_left _ (by decide +kernel)) rfl
set_option maxRecDepth 20000 in
theorem mw_418 : Cond.constantLong "RootAlgebraModel" 499 10 ∈ wA := wA_in (zt_7 _ (List.mem_of_getElem? (i := 147) rfl)) rfl
set_option maxRecDepth 20000 in
theorem mw_419 : Cond.code y_Md_put b_Md_put 7 none ∈ wA := wA_in (zt_7 _ (List.mem_of_getElem? (i := 182) rfl)) rfl
set_option maxRecDepth 20000 in
theorem mw_420 : Cond.methodLink "RootAlgebraModel" 175 y_Md_put ∈ wA := wA_in (zt_7 _ (List.mem_of_getElem? (i := 179) rfl)) rfl
set_option maxRecDepth 20000 in
theorem mw_421 : Cond.instanceMethod y_Md_put ∈ wA := wA_in (zt_7 _ (List.mem_of_getElem? (i := 181) rfl)) rfl
theorem mw_422 : Cond.selects "RootAlgebraModel" y_Md_put y_Md_put ∈ wA := wA_in (List.mem_append_left _ (by decide +kernel)) rfl
set_option maxRecDepth 20000 in
theorem mw_423 : Cond.code y_Md_divided b_Md_divided 19 none ∈ wA := wA_in (zt_7 _ (List.mem_of_getElem? (i := 215) rfl)) rfl
set_option maxRecDepth 20000 in
theorem mw_424 : Cond.methodLink "RootAlgebraModel" 188 y_Md_divided ∈ wA := wA_in (zt_7 _ (List.mem_of_getElem? (i := 212) rfl)) rfl
set_option maxRecDepth 20000 in
theorem mw_425 : Cond.instanceMethod y_Md_divided ∈ wA := wA_in (zt_7 _ (List.mem_of_getElem? (i := 214) rfl)) rfl
theorem mw_426 : Cond.selects "RootAlgebraModel" y_Md_divided y_Md_divided ∈ wA := wA_in (List.mem_append_left _ (by decide +kernel)) rfl
set_option maxRecDepth 20000 in
theorem mw_427 : Cond.code y_Md_letter b_Md_letter 2 none ∈ wA := wA_in (zt_9 _ (List.mem_of_getElem? (i := 115) rfl)) rfl
set_option maxRecDepth 20000 in
theorem mw_428 : Cond.methodLink "RootAlgebraModel" 608 y_Md_letter ∈ wA := wA_in (zt_9 _ (List.mem_of_getElem? (i := 112) rfl)) rfl
set_option maxRecDepth 20000 in
theorem mw_429 : Cond.instanceMethod y_Md_letter ∈ wA := wA_in (zt_9 _ (List.mem_of_getElem? (i := 114) rfl)) rfl
theorem mw_430 : Cond.selects "RootAlgebraModel" y_Md_letter y_Md_letter ∈ wA := wA_in (List.mem_append_left _ (by decide +kernel)) rfl
set_option maxRecDepth 20000 in
theorem mw_431 : Cond.code y_Md_says b_Md_says 6 none ∈ wA := wA_in (zt_9 _ (List.mem_of_getElem? (i := 111) rfl)) rfl
set_option maxRecDepth 20000 in
theorem mw_432 : Cond.methodLink "RootAlgebraModel" 605 y_Md_says ∈ wA := wA_in (zt_9 _ (List.mem_of_getElem? (i := 108) rfl)) rfl
set_option maxRecDepth 20000 in
theorem mw_433 : Cond.instanceMethod y_Md_says ∈ wA := wA_in (zt_9 _ (List.mem_of_getElem? (i := 110) rfl)) rfl
theorem mw_434 : Cond.selects "RootAlgebraModel" y_Md_says y_Md_says ∈ wA := wA_in (List.mem_append_left _ (by decide +kernel)) rfl
set_option maxRecDepth 20000 in
theorem mw_435 : Cond.constantLong "RootAlgebraModel" 600 30 ∈ wA := wA_in (zt_9 _ (List.mem_of_getElem? (i := 103) rfl)) rfl
set_option maxRecDepth 20000 in
theorem mw_436 : Cond.code y_Md_multiplied b_Md_multiplied 10 none ∈ wA := wA_in (zt_7 _ (List.mem_of_getElem? (i := 195) rfl)) rfl
set_option maxRecDepth 20000 in
theorem mw_437 : Cond.methodLink "RootAlgebraModel" 194 y_Md_multiplied ∈ wA := wA_in (zt_7 _ (List.mem_of_getElem? (i := 192) rfl)) rfl
set_option maxRecDepth 20000 in
theorem mw_438 : Cond.instanceMethod y_Md_multiplied ∈ wA := wA_in (zt_7 _ (List.mem_of_getElem? (i := 194) rfl)) rfl
theorem mw_439 : Cond.selects "RootAlgebraModel" y_Md_multiplied y_Md_multiplied ∈ wA := wA_in (List.mem_append_left _ (by decide +kernel)) rfl
end
section
/-! laid by program -/
theorem gc_0 : kCI "RootAlgebra$Value" 17 y_Big_init b_Big_init 2 none 1 := ⟨mw_10, mw_9, mw_11, by decide +kernel⟩
theorem gc_1 : kCI "RootAlgebra$Value" 43 y_Big_setLong b_Big_setLong 6 none 1 := ⟨mw_20, mw_9, mw_21, by decide +kernel⟩
theorem gc_2 : kCI "RootAlgebra$Value" 28 y_Value_finishFraction b_Value_finishFraction 1 none 0 := ⟨mw_25, mw_26, mw_27, by decide +kernel⟩
theorem gc_3 : kCI "RootAlgebra$Poly" 15 y_Big_init b_Big_init 2 none 1 := ⟨mw_10, mw_9, mw_33, by decide +kernel⟩
theorem gc_4 : kCI "RootAlgebra$Padic" 19 y_Big_init b_Big_init 2 none 1 := ⟨mw_10, mw_9, mw_46, by decide +kernel⟩
theorem gc_5 : kCI "RootAlgebra$Gauge" 11 y_Big_init b_Big_init 2 none 1 := ⟨mw_10, mw_9, mw_53, by decide +kernel⟩
theorem gc_6 : kCI "RootAlgebra$Sums" 23 y_Big_init b_Big_init 2 none 1 := ⟨mw_10, mw_9, mw_70, by decide +kernel⟩
theorem gc_7 : kCI "RootAlgebra$Isolator" 20 y_Big_init b_Big_init 2 none 1 := ⟨mw_10, mw_9, mw_76, by decide +kernel⟩
theorem gc_8 : kCI "RootAlgebra$Factors" 13 y_Field_init b_Field_init 1 none 0 := ⟨mw_86, mw_85, mw_87, by decide +kernel⟩
theorem gc_9 : kCI "RootAlgebra$Factors" 22 y_Padic_init b_Padic_init 1 none 0 := ⟨mw_93, mw_92, mw_94, by decide +kernel⟩
theorem gc_10 : kCI "RootAlgebra$Factors" 29 y_Big_init b_Big_init 2 none 1 := ⟨mw_10, mw_9, mw_98, by decide +kernel⟩
theorem gc_11 : kCI "RootAlgebra$Desk" 17 y_Value_init b_Value_init 1 none 0 := ⟨mw_118, mw_26, mw_119, by decide +kernel⟩
theorem gc_12 : kCI "RootAlgebra$Desk" 24 y_Poly_init b_Poly_init 2 none 0 := ⟨mw_125, mw_124, mw_126, by decide +kernel⟩
theorem gc_13 : kCI "RootAlgebra$Desk" 37 y_Sums_init b_Sums_init 2 none 0 := ⟨mw_134, mw_133, mw_135, by decide +kernel⟩
theorem gc_14 : kCI "RootAlgebra$Desk" 44 y_Factors_init b_Factors_init 1 none 0 := ⟨mw_141, mw_140, mw_142, by decide +kernel⟩
theorem gc_15 : kCI "RootAlgebra$Desk" 51 y_Isolator_init b_Isolator_init 2 none 0 := ⟨mw_148, mw_147, mw_149, by decide +kernel⟩
theorem gc_16 : kCI "RootAlgebra$Desk" 58 y_Gauge_init b_Gauge_init 1 none 0 := ⟨mw_155, mw_154, mw_156, by decide +kernel⟩
theorem gc_17 : kCI "RootAlgebra" 21 y_Big_init b_Big_init 2 none 1 := ⟨mw_10, mw_9, mw_165, by decide +kernel⟩
theorem gc_18 : kCI "RootAlgebra" 34 y_Value_init b_Value_init 1 none 0 := ⟨mw_118, mw_26, mw_169, by decide +kernel⟩
theorem gc_19 : kCI "RootAlgebra" 35 y_Value_setFraction b_Value_setFraction 3 none 2 := ⟨mw_170, mw_26, mw_171, by decide +kernel⟩
theorem gc_20 : kCI "RootAlgebra" 41 y_Reader_init b_Reader_init 2 none 1 := ⟨mw_177, mw_176, mw_178, by decide +kernel⟩
theorem gc_21 : kCI "RootAlgebra" 50 y_Desk_init b_Desk_init 2 none 0 := ⟨mw_184, mw_183, mw_185, by decide +kernel⟩
theorem gc_22 : kCI "RootAlgebra" 123 y_RA_isName b_RA_isName 2 (some .boolean) 1 := ⟨mw_189, mw_190, mw_191, by decide +kernel⟩
theorem gc_23 : kCI "RootAlgebra" 117 y_RA_namesWithValue b_RA_namesWithValue 3 (some .int) 0 := ⟨mw_198, mw_190, mw_199, by decide +kernel⟩
theorem gc_24 : kCI "RootAlgebra$Reader" 42 y_Reader_next b_Reader_next 1 (some .int) 0 := ⟨mw_208, mw_176, mw_209, by decide +kernel⟩
theorem gc_25 : kCI "RootAlgebra$Reader" 56 y_Reader_factor b_Reader_factor 5 (some .boolean) 1 := ⟨mw_212, mw_176, mw_213, by decide +kernel⟩
theorem gc_26 : kCI "RootAlgebra$Reader" 53 y_Reader_product b_Reader_product 4 (some .boolean) 1 := ⟨mw_216, mw_176, mw_217, by decide +kernel⟩
theorem gc_27 : kCI "RootAlgebra$Reader" 35 y_Reader_readTarget b_Reader_readTarget 3 none 0 := ⟨mw_225, mw_176, mw_226, by decide +kernel⟩
theorem gc_28 : kCI "RootAlgebra$Reader" 38 y_Reader_sum b_Reader_sum 4 (some .boolean) 1 := ⟨mw_229, mw_176, mw_230, by decide +kernel⟩
theorem gc_29 : kCI "RootAlgebra" 68 y_Reader_reads b_Reader_reads 2 (some .boolean) 1 := ⟨mw_233, mw_176, mw_234, by decide +kernel⟩
theorem gc_30 : kCI "RootAlgebra$Big" 32 y_Big_trim b_Big_trim 1 none 0 := ⟨mw_238, mw_9, mw_239, by decide +kernel⟩
theorem gc_31 : kCI "RootAlgebra$Big" 56 y_Big_divide b_Big_divide 7 (some .int) 1 := ⟨mw_242, mw_9, mw_243, by decide +kernel⟩
theorem gc_32 : kCI "RootAlgebra" 173 y_Big_divide b_Big_divide 7 (some .int) 1 := ⟨mw_242, mw_9, mw_254, by decide +kernel⟩
theorem gc_33 : kCI "RootAlgebra" 162 y_RA_put b_RA_put 2 none 1 := ⟨mw_255, mw_190, mw_256, by decide +kernel⟩
theorem gc_34 : kCI "RootAlgebra" 165 y_Big_setLong b_Big_setLong 6 none 1 := ⟨mw_20, mw_9, mw_259, by decide +kernel⟩
theorem gc_35 : kCI "RootAlgebra" 159 y_RA_putRest b_RA_putRest 5 none 0 := ⟨mw_260, mw_190, mw_261, by decide +kernel⟩
theorem gc_36 : kCI "RootAlgebra$Gauge" 150 y_Big_scale b_Big_scale 10 none 1 := ⟨mw_264, mw_9, mw_265, by decide +kernel⟩
theorem gc_37 : kCI "RootAlgebra$Gauge" 58 y_Big_setLong b_Big_setLong 6 none 1 := ⟨mw_20, mw_9, mw_270, by decide +kernel⟩
theorem gc_38 : kCI "RootAlgebra$Gauge" 147 y_Gauge_timesTen b_Gauge_timesTen 4 none 2 := ⟨mw_271, mw_154, mw_272, by decide +kernel⟩
theorem gc_39 : kCI "RootAlgebra$Gauge" 65 y_Big_divideDown b_Big_divideDown 3 none 1 := ⟨mw_275, mw_9, mw_276, by decide +kernel⟩
theorem gc_40 : kCI "RootAlgebra" 151 y_Gauge_wholePart b_Gauge_wholePart 5 (some (.object "RootAlgebra$Big")) 2 := ⟨mw_280, mw_154, mw_281, by decide +kernel⟩
theorem gc_41 : kCI "RootAlgebra" 155 y_Big_set b_Big_set 2 none 1 := ⟨mw_284, mw_9, mw_285, by decide +kernel⟩
theorem gc_42 : kCI "RootAlgebra$Gauge" 127 y_Value_hasPolynomialOf b_Value_hasPolynomialOf 3 (some .boolean) 1 := ⟨mw_288, mw_26, mw_289, by decide +kernel⟩
theorem gc_43 : kCI "RootAlgebra$Gauge" 134 y_Integer_compare b_Integer_compare 2 (some .int) 2 := ⟨mw_293, mw_294, mw_295, by decide +kernel⟩
theorem gc_44 : kCI "RootAlgebra" 145 y_Gauge_order b_Gauge_order 5 (some .int) 2 := ⟨mw_297, mw_154, mw_298, by decide +kernel⟩
theorem gc_45 : kCI "RootAlgebraModel" 147 y_Md_number b_Md_number 4 none 2 := ⟨mw_347, mw_348, mw_349, by decide +kernel⟩
theorem gc_46 : kCI "RootAlgebraModel" 151 y_Md_seats b_Md_seats 1 none 0 := ⟨mw_352, mw_348, mw_353, by decide +kernel⟩
theorem gc_47 : kCI "RootAlgebraModel" 446 y_Md_in b_Md_in 6 (some .boolean) 3 := ⟨mw_358, mw_348, mw_359, by decide +kernel⟩
theorem gc_48 : kCI "RootAlgebraModel" 594 y_Md_isName b_Md_isName 1 (some .boolean) 1 := ⟨mw_361, mw_348, mw_362, by decide +kernel⟩
theorem gc_49 : kCI "RootAlgebraModel" 581 y_Md_fails b_Md_fails 3 (some .boolean) 2 := ⟨mw_364, mw_348, mw_365, by decide +kernel⟩
theorem gc_50 : kCI "RootAlgebraModel" 597 y_Md_bars b_Md_bars 2 (some .boolean) 1 := ⟨mw_368, mw_348, mw_369, by decide +kernel⟩
theorem gc_51 : kCI "RootAlgebraModel" 490 y_Md_peek b_Md_peek 1 (some .int) 0 := ⟨mw_388, mw_348, mw_389, by decide +kernel⟩
theorem gc_52 : kCI "RootAlgebraModel" 514 y_Md_opens b_Md_opens 4 (some .boolean) 1 := ⟨mw_392, mw_348, mw_393, by decide +kernel⟩
theorem gc_53 : kCI "RootAlgebraModel" 570 y_Md_isLine b_Md_isLine 4 (some .boolean) 0 := ⟨mw_396, mw_348, mw_397, by decide +kernel⟩
theorem gc_54 : kCI "RootAlgebraModel" 475 y_Md_against b_Md_against 6 (some .int) 2 := ⟨mw_400, mw_348, mw_401, by decide +kernel⟩
theorem gc_55 : kCI "RootAlgebraModel" 159 y_Md_fix b_Md_fix 2 none 1 := ⟨mw_405, mw_348, mw_406, by decide +kernel⟩
theorem gc_56 : kCI "RootAlgebraModel" 171 y_Md_lands b_Md_lands 5 none 3 := ⟨mw_409, mw_348, mw_410, by decide +kernel⟩
theorem gc_57 : kCI "RootAlgebraModel" 167 y_Md_digit b_Md_digit 3 (some .long) 2 := ⟨mw_414, mw_348, mw_415, by decide +kernel⟩
theorem gc_58 : kCI "RootAlgebraModel" 175 y_Md_put b_Md_put 7 none 2 := ⟨mw_419, mw_348, mw_420, by decide +kernel⟩
theorem gc_59 : kCI "RootAlgebraModel" 188 y_Md_divided b_Md_divided 19 none 4 := ⟨mw_423, mw_348, mw_424, by decide +kernel⟩
theorem gc_60 : kCI "RootAlgebraModel" 608 y_Md_letter b_Md_letter 2 none 1 := ⟨mw_427, mw_348, mw_428, by decide +kernel⟩
theorem gc_61 : kCI "RootAlgebraModel" 605 y_Md_says b_Md_says 6 none 0 := ⟨mw_431, mw_348, mw_432, by decide +kernel⟩
theorem gc_62 : kCI "RootAlgebraModel" 194 y_Md_multiplied b_Md_multiplied 10 none 3 := ⟨mw_436, mw_348, mw_437, by decide +kernel⟩
theorem gi_Big_init : kI y_Big_init := ⟨rfl, mw_12⟩
theorem gi_Desk_init : kI y_Desk_init := ⟨rfl, mw_186⟩
theorem gi_Factors_init : kI y_Factors_init := ⟨rfl, mw_143⟩
theorem gi_Field_init : kI y_Field_init := ⟨rfl, mw_88⟩
theorem gi_Gauge_init : kI y_Gauge_init := ⟨rfl, mw_157⟩
theorem gi_Isolator_init : kI y_Isolator_init := ⟨rfl, mw_150⟩
theorem gi_Padic_init : kI y_Padic_init := ⟨rfl, mw_95⟩
theorem gi_Poly_init : kI y_Poly_init := ⟨rfl, mw_127⟩
theorem gi_Reader_init : kI y_Reader_init := ⟨rfl, mw_179⟩
theorem gi_Sums_init : kI y_Sums_init := ⟨rfl, mw_136⟩
theorem gi_Value_init : kI y_Value_init := ⟨rfl, mw_120⟩
theorem gv_Big_divide : kV "RootAlgebra$Big" y_Big_divide := ⟨mw_244, mw_245⟩
theorem gv_Big_divideDown : kV "RootAlgebra$Big" y_Big_divideDown := ⟨mw_277, mw_278⟩
theorem gv_Big_scale : kV "RootAlgebra$Big" y_Big_scale := ⟨mw_266, mw_267⟩
theorem gv_Big_set : kV "RootAlgebra$Big" y_Big_set := ⟨mw_286, mw_287⟩
theorem gv_Big_setLong : kV "RootAlgebra$Big" y_Big_setLong := ⟨mw_22, mw_23⟩
theorem gv_Big_trim : kV "RootAlgebra$Big" y_Big_trim := ⟨mw_240, mw_241⟩
theorem gv_Gauge_order : kV "RootAlgebra$Gauge" y_Gauge_order := ⟨mw_299, mw_300⟩
theorem gv_Gauge_timesTen : kV "RootAlgebra$Gauge" y_Gauge_timesTen := ⟨mw_273, mw_274⟩
theorem gv_Gauge_wholePart : kV "RootAlgebra$Gauge" y_Gauge_wholePart := ⟨mw_282, mw_283⟩
theorem gv_Md_against : kV "RootAlgebraModel" y_Md_against := ⟨mw_402, mw_403⟩
theorem gv_Md_bars : kV "RootAlgebraModel" y_Md_bars := ⟨mw_370, mw_371⟩
theorem gv_Md_digit : kV "RootAlgebraModel" y_Md_digit := ⟨mw_416, mw_417⟩
theorem gv_Md_divided : kV "RootAlgebraModel" y_Md_divided := ⟨mw_425, mw_426⟩
theorem gv_Md_fails : kV "RootAlgebraModel" y_Md_fails := ⟨mw_366, mw_367⟩
theorem gv_Md_fix : kV "RootAlgebraModel" y_Md_fix := ⟨mw_407, mw_408⟩
theorem gv_Md_isLine : kV "RootAlgebraModel" y_Md_isLine := ⟨mw_398, mw_399⟩
theorem gv_Md_lands : kV "RootAlgebraModel" y_Md_lands := ⟨mw_411, mw_412⟩
theorem gv_Md_letter : kV "RootAlgebraModel" y_Md_letter := ⟨mw_429, mw_430⟩
theorem gv_Md_multiplied : kV "RootAlgebraModel" y_Md_multiplied := ⟨mw_438, mw_439⟩
theorem gv_Md_number : kV "RootAlgebraModel" y_Md_number := ⟨mw_350, mw_351⟩
theorem gv_Md_opens : kV "RootAlgebraModel" y_Md_opens := ⟨mw_394, mw_395⟩
theorem gv_Md_peek : kV "RootAlgebraModel" y_Md_peek := ⟨mw_390, mw_391⟩
theorem gv_Md_put : kV "RootAlgebraModel" y_Md_put := ⟨mw_421, mw_422⟩
theorem gv_Md_says : kV "RootAlgebraModel" y_Md_says := ⟨mw_433, mw_434⟩
theorem gv_Md_seats : kV "RootAlgebraModel" y_Md_seats := ⟨mw_354, mw_355⟩
theorem gv_RA_isName : kV "RootAlgebra" y_RA_isName := ⟨mw_192, mw_193⟩
theorem gv_RA_namesWithValue : kV "RootAlgebra" y_RA_namesWithValue := ⟨mw_200, mw_201⟩
theorem gv_RA_put : kV "RootAlgebra" y_RA_put := ⟨mw_257, mw_258⟩
theorem gv_RA_putRest : kV "RootAlgebra" y_RA_putRest := ⟨mw_262, mw_263⟩
theorem gv_Reader_factor : kV "RootAlgebra$Reader" y_Reader_factor := ⟨mw_214, mw_215⟩
theorem gv_Reader_next : kV "RootAlgebra$Reader" y_Reader_next := ⟨mw_210, mw_211⟩
theorem gv_Reader_product : kV "RootAlgebra$Reader" y_Reader_product := ⟨mw_218, mw_219⟩
theorem gv_Reader_readTarget : kV "RootAlgebra$Reader" y_Reader_readTarget := ⟨mw_227, mw_228⟩
theorem gv_Reader_reads : kV "RootAlgebra$Reader" y_Reader_reads := ⟨mw_235, mw_236⟩
theorem gv_Reader_sum : kV "RootAlgebra$Reader" y_Reader_sum := ⟨mw_231, mw_232⟩
theorem gv_Value_finishFraction : kV "RootAlgebra$Value" y_Value_finishFraction := ⟨mw_28, mw_29⟩
theorem gv_Value_hasPolynomialOf : kV "RootAlgebra$Value" y_Value_hasPolynomialOf := ⟨mw_290, mw_291⟩
theorem gv_Value_setFraction : kV "RootAlgebra$Value" y_Value_setFraction := ⟨mw_172, mw_173⟩
theorem gs_Integer_compare : kS y_Integer_compare := mw_296
theorem gs_Md_in : kS y_Md_in := mw_360
theorem gs_Md_isName : kS y_Md_isName := mw_363
end
section
/-! laid by program -/
theorem zin_RA : ∀ w ∈ u_ws "RootAlgebra" zT_RA 11, w ∈ lw_tbl := by decide +kernel
theorem zgd_RA : ∀ w ∈ u_ws "RootAlgebra" zT_RA 11, goodWord w = true := by decide +kernel
theorem zC_RA : kCl 0 "RootAlgebra" zT_RA 11 zt_RA := ⟨rfl, fun w h => wA_in (zin_RA w h) (zgd_RA w h), by decide +kernel, by decide +kernel⟩
theorem z0_RA : ∀ j, j < 11 → defaultValue (zt_RA j) = vp_V [.null, .null, .null, .null, .null, .null, .null, .int 0, .int 0, .int 0, .int 0] j := by decide +kernel
theorem zin_Big : ∀ w ∈ u_ws "RootAlgebra$Big" zT_Big 3, w ∈ lw_tbl := by decide +kernel
theorem zgd_Big : ∀ w ∈ u_ws "RootAlgebra$Big" zT_Big 3, goodWord w = true := by decide +kernel
theorem zC_Big : kCl 1 "RootAlgebra$Big" zT_Big 3 zt_Big := ⟨rfl, fun w h => wA_in (zin_Big w h) (zgd_Big w h), by decide +kernel, by decide +kernel⟩
theorem z0_Big : ∀ j, j < 3 → defaultValue (zt_Big j) = vp_V [.null, .int 0, .int 0] j := by decide +kernel
theorem zin_Desk : ∀ w ∈ u_ws "RootAlgebra$Desk" zT_Desk 12, w ∈ lw_tbl := by decide +kernel
theorem zgd_Desk : ∀ w ∈ u_ws "RootAlgebra$Desk" zT_Desk 12, goodWord w = true := by decide +kernel
theorem zC_Desk : kCl 2 "RootAlgebra$Desk" zT_Desk 12 zt_Desk := ⟨rfl, fun w h => wA_in (zin_Desk w h) (zgd_Desk w h), by decide +kernel, by decide +kernel⟩
theorem z0_Desk : ∀ j, j < 12 → defaultValue (zt_Desk j) = vp_V [.null, .null, .null, .null, .null, .null, .null, .null, .null, .int 0, .int 0, .int 0] j := by decide +kernel
theorem zin_Factors : ∀ w ∈ u_ws "RootAlgebra$Factors" zT_Factors 20, w ∈ lw_tbl := by decide +kernel
theorem zgd_Factors : ∀ w ∈ u_ws "RootAlgebra$Factors" zT_Factors 20, goodWord w = true := by decide +kernel
theorem zC_Factors : kCl 3 "RootAlgebra$Factors" zT_Factors 20 zt_Factors := ⟨rfl, fun w h => wA_in (zin_Factors w h) (zgd_Factors w h), by decide +kernel, by decide +kernel⟩
theorem z0_Factors : ∀ j, j < 20 → defaultValue (zt_Factors j) = vp_V [.null, .null, .null, .null, .null, .null, .null, .null, .null, .null, .null, .null, .null, .null, .null, .null, .int 0, .int 0, .int 0, .int 0] j := by decide +kernel
theorem zin_Field : ∀ w ∈ u_ws "RootAlgebra$Field" zT_Field 7, w ∈ lw_tbl := by decide +kernel
theorem zgd_Field : ∀ w ∈ u_ws "RootAlgebra$Field" zT_Field 7, goodWord w = true := by decide +kernel
theorem zC_Field : kCl 4 "RootAlgebra$Field" zT_Field 7 zt_Field := ⟨rfl, fun w h => wA_in (zin_Field w h) (zgd_Field w h), by decide +kernel, by decide +kernel⟩
theorem z0_Field : ∀ j, j < 7 → defaultValue (zt_Field j) = vp_V [.int 0, .null, .null, .null, .null, .null, .null] j := by decide +kernel
theorem zin_Gauge : ∀ w ∈ u_ws "RootAlgebra$Gauge" zT_Gauge 17, w ∈ lw_tbl := by decide +kernel
theorem zgd_Gauge : ∀ w ∈ u_ws "RootAlgebra$Gauge" zT_Gauge 17, goodWord w = true := by decide +kernel
theorem zC_Gauge : kCl 5 "RootAlgebra$Gauge" zT_Gauge 17 zt_Gauge := ⟨rfl, fun w h => wA_in (zin_Gauge w h) (zgd_Gauge w h), by decide +kernel, by decide +kernel⟩
theorem z0_Gauge : ∀ j, j < 17 → defaultValue (zt_Gauge j) = vp_V [.null, .null, .null, .null, .null, .null, .null, .null, .null, .null, .null, .null, .null, .int 0, .int 0, .int 0, .int 0] j := by decide +kernel
theorem zin_Isolator : ∀ w ∈ u_ws "RootAlgebra$Isolator" zT_Isolator 11, w ∈ lw_tbl := by decide +kernel
theorem zgd_Isolator : ∀ w ∈ u_ws "RootAlgebra$Isolator" zT_Isolator 11, goodWord w = true := by decide +kernel
theorem zC_Isolator : kCl 6 "RootAlgebra$Isolator" zT_Isolator 11 zt_Isolator := ⟨rfl, fun w h => wA_in (zin_Isolator w h) (zgd_Isolator w h), by decide +kernel, by decide +kernel⟩
theorem z0_Isolator : ∀ j, j < 11 → defaultValue (zt_Isolator j) = vp_V [.null, .null, .null, .null, .null, .null, .int 0, .int 0, .int 0, .int 0, .int 0] j := by decide +kernel
theorem zin_Padic : ∀ w ∈ u_ws "RootAlgebra$Padic" zT_Padic 3, w ∈ lw_tbl := by decide +kernel
theorem zgd_Padic : ∀ w ∈ u_ws "RootAlgebra$Padic" zT_Padic 3, goodWord w = true := by decide +kernel
theorem zC_Padic : kCl 7 "RootAlgebra$Padic" zT_Padic 3 zt_Padic := ⟨rfl, fun w h => wA_in (zin_Padic w h) (zgd_Padic w h), by decide +kernel, by decide +kernel⟩
theorem z0_Padic : ∀ j, j < 3 → defaultValue (zt_Padic j) = vp_V [.int 0, .long 0, .null] j := by decide +kernel
theorem zin_Poly : ∀ w ∈ u_ws "RootAlgebra$Poly" zT_Poly 2, w ∈ lw_tbl := by decide +kernel
theorem zgd_Poly : ∀ w ∈ u_ws "RootAlgebra$Poly" zT_Poly 2, goodWord w = true := by decide +kernel
theorem zC_Poly : kCl 8 "RootAlgebra$Poly" zT_Poly 2 zt_Poly := ⟨rfl, fun w h => wA_in (zin_Poly w h) (zgd_Poly w h), by decide +kernel, by decide +kernel⟩
theorem z0_Poly : ∀ j, j < 2 → defaultValue (zt_Poly j) = vp_V [.null, .int 0] j := by decide +kernel
theorem zin_Reader : ∀ w ∈ u_ws "RootAlgebra$Reader" zT_Reader 7, w ∈ lw_tbl := by decide +kernel
theorem zgd_Reader : ∀ w ∈ u_ws "RootAlgebra$Reader" zT_Reader 7, goodWord w = true := by decide +kernel
theorem zC_Reader : kCl 9 "RootAlgebra$Reader" zT_Reader 7 zt_Reader := ⟨rfl, fun w h => wA_in (zin_Reader w h) (zgd_Reader w h), by decide +kernel, by decide +kernel⟩
theorem z0_Reader : ∀ j, j < 7 → defaultValue (zt_Reader j) = vp_V [.null, .null, .int 0, .int 0, .int 0, .int 0, .int 0] j := by decide +kernel
end
section
/-! laid by program -/
theorem zin_Sums : ∀ w ∈ u_ws "RootAlgebra$Sums" zT_Sums 4, w ∈ lw_tbl := by decide +kernel
theorem zgd_Sums : ∀ w ∈ u_ws "RootAlgebra$Sums" zT_Sums 4, goodWord w = true := by decide +kernel
theorem zC_Sums : kCl 10 "RootAlgebra$Sums" zT_Sums 4 zt_Sums := ⟨rfl, fun w h => wA_in (zin_Sums w h) (zgd_Sums w h), by decide +kernel, by decide +kernel⟩
theorem z0_Sums : ∀ j, j < 4 → defaultValue (zt_Sums j) = vp_V [.null, .null, .null, .null] j := by decide +kernel
theorem zin_Value : ∀ w ∈ u_ws "RootAlgebra$Value" zT_Value 7, w ∈ lw_tbl := by decide +kernel
theorem zgd_Value : ∀ w ∈ u_ws "RootAlgebra$Value" zT_Value 7, goodWord w = true := by decide +kernel
theorem zC_Value : kCl 11 "RootAlgebra$Value" zT_Value 7 zt_Value := ⟨rfl, fun w h => wA_in (zin_Value w h) (zgd_Value w h), by decide +kernel, by decide +kernel⟩
theorem z0_Value : ∀ j, j < 7 → defaultValue (zt_Value j) = vp_V [.null, .null, .int 0, .int 0, .int 0, .int 0, .int 0] j := by decide +kernel
theorem zin_Md : ∀ w ∈ u_ws "RootAlgebraModel" zT_Md 65, w ∈ lw_tbl := by decide +kernel
theorem zgd_Md : ∀ w ∈ u_ws "RootAlgebraModel" zT_Md 65, goodWord w = true := by decide +kernel
theorem zC_Md : kCl 12 "RootAlgebraModel" zT_Md 65 zt_Md := ⟨rfl, fun w h => wA_in (zin_Md w h) (zgd_Md w h), by decide +kernel, by decide +kernel⟩
theorem z0_Md : ∀ j, j < 65 → defaultValue (zt_Md j) = vp_V [.int 0, .null, .int 0, .null, .int 0, .int 0, .int 0, .null, .null, .null, .null, .null, .null, .null, .null, .null, .null, .null, .null, .int 0, .null, .null, .null, .null, .null, .null, .null, .null, .null, .null, .long 0, .int 0, .null, .null, .null, .null, .null, .null, .null, .null, .null, .null, .int 0, .int 0, .null, .int 0, .int 0, .int 0, .int 0, .int 0, .int 0, .null, .int 0, .null, .null, .int 0, .null, .null, .int 0, .int 0, .int 0, .int 0, .int 0, .null, .null] j := by decide +kernel
end
section
/-! laid by program (wip/gen) -/
set_option maxRecDepth 100000 in
set_option maxHeartbeats 4000000 in
theorem c_Big_init_8 (l : Launch) (D : va_G) (a : Nat → ClassId) (h0 : Nat) : ∀ sz : Nat, Met l y_Big_init (Cond.code y_Big_init b_Big_init 2 none :: wA) ({ frames := 1, cells := 1, slots := 8, locals := 20 } : Room) (va_Pc [.ref h0, .int 8] (kP D a [(h0, .inr (1, [.null, .int 0, .int 0]))] sz)) (va_Qv (fun u : va_W => ∃ q1 : Nat, u = [(h0, .inr (1, [.ref q1, .int 0, .int 0])), (q1, .inl (a 0, 8, .inl (fun _ => 0)))]) (kB D a (va_A [(h0, .inr (1, [.null, .int 0, .int 0]))] sz)) (va_A [(h0, .inr (1, [.null, .int 0, .int 0]))] sz)) 1 8 (va_A [(h0, .inr (1, [.null, .int 0, .int 0]))] sz) :=
  kM (Qc := fun A => va_Qv (fun u : va_W => ∃ q1 : Nat, u = [(h0, .inr (1, [.ref q1, .int 0, .int 0])), (q1, .inl (a 0, 8, .inl (fun _ => 0)))]) (kB D a A) A) (by decide) (Nat.le_of_ble_eq_true rfl) (by
    intro p e s m below meth c A ls H locs E hr hlk hnm w hl
    have hx := E.1.1
    have hb := E.1.2.1
    have E : kE p m c b_Big_init 2 s [.ref h0, .int 8].toArray "RootAlgebra$Big" D a A := E
    have hl : lv_has ls 2 [(0, .ref h0), (1, .int 8)] := hl
    have hnm : meth.name = "<init>" := hnm
    refine lv_aload_n hx hb d_Big_init_0 rfl (lv_at hl 0 rfl) ?_
    refine kx_obj E hl.1 mw_0 mw_1 mw_2 d_Big_init_1 (Nat.le_of_ble_eq_true rfl) (Nat.le_of_ble_eq_true rfl) (Nat.le_of_ble_eq_true rfl) ?_
    refine lv_aload_n hx hb d_Big_init_4 rfl (lv_at hl 0 rfl) ?_
    refine lv_iload_n hx hb d_Big_init_5 rfl (lv_at hl 1 rfl) ?_
    refine kx_newa (atype := .int) E w rfl mw_3 0 rfl (N' := 8) (a0 := (8, .inl (fun _ => 0))) (fun _ => rfl) (by decide) (by decide) (by decide) (Nat.le_of_ble_eq_true rfl) (Nat.le_of_ble_eq_true rfl) d_Big_init_6 (fun q1 H w => ?_)
    have w : kW D A s [(h0, .inr (1, [.null, .int 0, .int 0])), (q1, .inl (a 0, 8, .inl (fun _ => 0)))] H locs := w
    refine kx_putF E w zC_Big hnm 0 rfl 0 (by decide) mw_4 rfl rfl rfl rfl (Nat.le_of_ble_eq_true rfl) d_Big_init_8 (ws' := [(h0, .inr (1, [.ref q1, .int 0, .int 0])), (q1, .inl (a 0, 8, .inl (fun _ => 0)))]) rfl (fun H locs w => ?_)
    refine W.widen (k := 1) (n := 8) (Nat.le_of_ble_eq_true rfl) (Nat.le_of_ble_eq_true rfl) ?_
    exact kx_vret E w hr hlk d_Big_init_11 ⟨q1, rfl⟩)
set_option maxRecDepth 100000 in
set_option maxHeartbeats 4000000 in
theorem c_Big_init_12 (l : Launch) (D : va_G) (a : Nat → ClassId) (h0 : Nat) : ∀ sz : Nat, Met l y_Big_init (Cond.code y_Big_init b_Big_init 2 none :: wA) ({ frames := 1, cells := 1, slots := 12, locals := 20 } : Room) (va_Pc [.ref h0, .int 12] (kP D a [(h0, .inr (1, [.null, .int 0, .int 0]))] sz)) (va_Qv (fun u : va_W => ∃ q1 : Nat, u = [(h0, .inr (1, [.ref q1, .int 0, .int 0])), (q1, .inl (a 0, 12, .inl (fun _ => 0)))]) (kB D a (va_A [(h0, .inr (1, [.null, .int 0, .int 0]))] sz)) (va_A [(h0, .inr (1, [.null, .int 0, .int 0]))] sz)) 1 12 (va_A [(h0, .inr (1, [.null, .int 0, .int 0]))] sz) :=
  kM (Qc := fun A => va_Qv (fun u : va_W => ∃ q1 : Nat, u = [(h0, .inr (1, [.ref q1, .int 0, .int 0])), (q1, .inl (a 0, 12, .inl (fun _ => 0)))]) (kB D a A) A) (by decide) (Nat.le_of_ble_eq_true rfl) (by
    intro p e s m below meth c A ls H locs E hr hlk hnm w hl
    have hx := E.1.1
    have hb := E.1.2.1
    have E : kE p m c b_Big_init 2 s [.ref h0, .int 12].toArray "RootAlgebra$Big" D a A := E
    have hl : lv_has ls 2 [(0, .ref h0), (1, .int 12)] := hl
    have hnm : meth.name = "<init>" := hnm
    refine lv_aload_n hx hb d_Big_init_0 rfl (lv_at hl 0 rfl) ?_
    refine kx_obj E hl.1 mw_0 mw_1 mw_2 d_Big_init_1 (Nat.le_of_ble_eq_true rfl) (Nat.le_of_ble_eq_true rfl) (Nat.le_of_ble_eq_true rfl) ?_
    refine lv_aload_n hx hb d_Big_init_4 rfl (lv_at hl 0 rfl) ?_
    refine lv_iload_n hx hb d_Big_init_5 rfl (lv_at hl 1 rfl) ?_
    refine kx_newa (atype := .int) E w rfl mw_3 0 rfl (N' := 12) (a0 := (12, .inl (fun _ => 0))) (fun _ => rfl) (by decide) (by decide) (by decide) (Nat.le_of_ble_eq_true rfl) (Nat.le_of_ble_eq_true rfl) d_Big_init_6 (fun q1 H w => ?_)
    have w : kW D A s [(h0, .inr (1, [.null, .int 0, .int 0])), (q1, .inl (a 0, 12, .inl (fun _ => 0)))] H locs := w
    refine kx_putF E w zC_Big hnm 0 rfl 0 (by decide) mw_4 rfl rfl rfl rfl (Nat.le_of_ble_eq_true rfl) d_Big_init_8 (ws' := [(h0, .inr (1, [.ref q1, .int 0, .int 0])), (q1, .inl (a 0, 12, .inl (fun _ => 0)))]) rfl (fun H locs w => ?_)
    refine W.widen (k := 1) (n := 12) (Nat.le_of_ble_eq_true rfl) (Nat.le_of_ble_eq_true rfl) ?_
    exact kx_vret E w hr hlk d_Big_init_11 ⟨q1, rfl⟩)
set_option maxRecDepth 100000 in
set_option maxHeartbeats 4000000 in
theorem c_Big_init_28 (l : Launch) (D : va_G) (a : Nat → ClassId) (h0 : Nat) : ∀ sz : Nat, Met l y_Big_init (Cond.code y_Big_init b_Big_init 2 none :: wA) ({ frames := 1, cells := 1, slots := 28, locals := 20 } : Room) (va_Pc [.ref h0, .int 28] (kP D a [(h0, .inr (1, [.null, .int 0, .int 0]))] sz)) (va_Qv (fun u : va_W => ∃ q1 : Nat, u = [(h0, .inr (1, [.ref q1, .int 0, .int 0])), (q1, .inl (a 0, 28, .inl (fun _ => 0)))]) (kB D a (va_A [(h0, .inr (1, [.null, .int 0, .int 0]))] sz)) (va_A [(h0, .inr (1, [.null, .int 0, .int 0]))] sz)) 1 28 (va_A [(h0, .inr (1, [.null, .int 0, .int 0]))] sz) :=
  kM (Qc := fun A => va_Qv (fun u : va_W => ∃ q1 : Nat, u = [(h0, .inr (1, [.ref q1, .int 0, .int 0])), (q1, .inl (a 0, 28, .inl (fun _ => 0)))]) (kB D a A) A) (by decide) (Nat.le_of_ble_eq_true rfl) (by
    intro p e s m below meth c A ls H locs E hr hlk hnm w hl
    have hx := E.1.1
    have hb := E.1.2.1
    have E : kE p m c b_Big_init 2 s [.ref h0, .int 28].toArray "RootAlgebra$Big" D a A := E
    have hl : lv_has ls 2 [(0, .ref h0), (1, .int 28)] := hl
    have hnm : meth.name = "<init>" := hnm
    refine lv_aload_n hx hb d_Big_init_0 rfl (lv_at hl 0 rfl) ?_
    refine kx_obj E hl.1 mw_0 mw_1 mw_2 d_Big_init_1 (Nat.le_of_ble_eq_true rfl) (Nat.le_of_ble_eq_true rfl) (Nat.le_of_ble_eq_true rfl) ?_
    refine lv_aload_n hx hb d_Big_init_4 rfl (lv_at hl 0 rfl) ?_
    refine lv_iload_n hx hb d_Big_init_5 rfl (lv_at hl 1 rfl) ?_
    refine kx_newa (atype := .int) E w rfl mw_3 0 rfl (N' := 28) (a0 := (28, .inl (fun _ => 0))) (fun _ => rfl) (by decide) (by decide) (by decide) (Nat.le_of_ble_eq_true rfl) (Nat.le_of_ble_eq_true rfl) d_Big_init_6 (fun q1 H w => ?_)
    have w : kW D A s [(h0, .inr (1, [.null, .int 0, .int 0])), (q1, .inl (a 0, 28, .inl (fun _ => 0)))] H locs := w
    refine kx_putF E w zC_Big hnm 0 rfl 0 (by decide) mw_4 rfl rfl rfl rfl (Nat.le_of_ble_eq_true rfl) d_Big_init_8 (ws' := [(h0, .inr (1, [.ref q1, .int 0, .int 0])), (q1, .inl (a 0, 28, .inl (fun _ => 0)))]) rfl (fun H locs w => ?_)
    refine W.widen (k := 1) (n := 28) (Nat.le_of_ble_eq_true rfl) (Nat.le_of_ble_eq_true rfl) ?_
    exact kx_vret E w hr hlk d_Big_init_11 ⟨q1, rfl⟩)
set_option maxRecDepth 100000 in
set_option maxHeartbeats 4000000 in
theorem c_Big_init_56 (l : Launch) (D : va_G) (a : Nat → ClassId) (h0 : Nat) : ∀ sz : Nat, Met l y_Big_init (Cond.code y_Big_init b_Big_init 2 none :: wA) ({ frames := 1, cells := 1, slots := 56, locals := 20 } : Room) (va_Pc [.ref h0, .int 56] (kP D a [(h0, .inr (1, [.null, .int 0, .int 0]))] sz)) (va_Qv (fun u : va_W => ∃ q1 : Nat, u = [(h0, .inr (1, [.ref q1, .int 0, .int 0])), (q1, .inl (a 0, 56, .inl (fun _ => 0)))]) (kB D a (va_A [(h0, .inr (1, [.null, .int 0, .int 0]))] sz)) (va_A [(h0, .inr (1, [.null, .int 0, .int 0]))] sz)) 1 56 (va_A [(h0, .inr (1, [.null, .int 0, .int 0]))] sz) :=
  kM (Qc := fun A => va_Qv (fun u : va_W => ∃ q1 : Nat, u = [(h0, .inr (1, [.ref q1, .int 0, .int 0])), (q1, .inl (a 0, 56, .inl (fun _ => 0)))]) (kB D a A) A) (by decide) (Nat.le_of_ble_eq_true rfl) (by
    intro p e s m below meth c A ls H locs E hr hlk hnm w hl
    have hx := E.1.1
    have hb := E.1.2.1
    have E : kE p m c b_Big_init 2 s [.ref h0, .int 56].toArray "RootAlgebra$Big" D a A := E
    have hl : lv_has ls 2 [(0, .ref h0), (1, .int 56)] := hl
    have hnm : meth.name = "<init>" := hnm
    refine lv_aload_n hx hb d_Big_init_0 rfl (lv_at hl 0 rfl) ?_
    refine kx_obj E hl.1 mw_0 mw_1 mw_2 d_Big_init_1 (Nat.le_of_ble_eq_true rfl) (Nat.le_of_ble_eq_true rfl) (Nat.le_of_ble_eq_true rfl) ?_
    refine lv_aload_n hx hb d_Big_init_4 rfl (lv_at hl 0 rfl) ?_
    refine lv_iload_n hx hb d_Big_init_5 rfl (lv_at hl 1 rfl) ?_
    refine kx_newa (atype := .int) E w rfl mw_3 0 rfl (N' := 56) (a0 := (56, .inl (fun _ => 0))) (fun _ => rfl) (by decide) (by decide) (by decide) (Nat.le_of_ble_eq_true rfl) (Nat.le_of_ble_eq_true rfl) d_Big_init_6 (fun q1 H w => ?_)
    have w : kW D A s [(h0, .inr (1, [.null, .int 0, .int 0])), (q1, .inl (a 0, 56, .inl (fun _ => 0)))] H locs := w
    refine kx_putF E w zC_Big hnm 0 rfl 0 (by decide) mw_4 rfl rfl rfl rfl (Nat.le_of_ble_eq_true rfl) d_Big_init_8 (ws' := [(h0, .inr (1, [.ref q1, .int 0, .int 0])), (q1, .inl (a 0, 56, .inl (fun _ => 0)))]) rfl (fun H locs w => ?_)
    refine W.widen (k := 1) (n := 56) (Nat.le_of_ble_eq_true rfl) (Nat.le_of_ble_eq_true rfl) ?_
    exact kx_vret E w hr hlk d_Big_init_11 ⟨q1, rfl⟩)
set_option maxRecDepth 100000 in
set_option maxHeartbeats 4000000 in
theorem c_Big_init_72 (l : Launch) (D : va_G) (a : Nat → ClassId) (h0 : Nat) : ∀ sz : Nat, Met l y_Big_init (Cond.code y_Big_init b_Big_init 2 none :: wA) ({ frames := 1, cells := 1, slots := 72, locals := 20 } : Room) (va_Pc [.ref h0, .int 72] (kP D a [(h0, .inr (1, [.null, .int 0, .int 0]))] sz)) (va_Qv (fun u : va_W => ∃ q1 : Nat, u = [(h0, .inr (1, [.ref q1, .int 0, .int 0])), (q1, .inl (a 0, 72, .inl (fun _ => 0)))]) (kB D a (va_A [(h0, .inr (1, [.null, .int 0, .int 0]))] sz)) (va_A [(h0, .inr (1, [.null, .int 0, .int 0]))] sz)) 1 72 (va_A [(h0, .inr (1, [.null, .int 0, .int 0]))] sz) :=
  kM (Qc := fun A => va_Qv (fun u : va_W => ∃ q1 : Nat, u = [(h0, .inr (1, [.ref q1, .int 0, .int 0])), (q1, .inl (a 0, 72, .inl (fun _ => 0)))]) (kB D a A) A) (by decide) (Nat.le_of_ble_eq_true rfl) (by
    intro p e s m below meth c A ls H locs E hr hlk hnm w hl
    have hx := E.1.1
    have hb := E.1.2.1
    have E : kE p m c b_Big_init 2 s [.ref h0, .int 72].toArray "RootAlgebra$Big" D a A := E
    have hl : lv_has ls 2 [(0, .ref h0), (1, .int 72)] := hl
    have hnm : meth.name = "<init>" := hnm
    refine lv_aload_n hx hb d_Big_init_0 rfl (lv_at hl 0 rfl) ?_
    refine kx_obj E hl.1 mw_0 mw_1 mw_2 d_Big_init_1 (Nat.le_of_ble_eq_true rfl) (Nat.le_of_ble_eq_true rfl) (Nat.le_of_ble_eq_true rfl) ?_
    refine lv_aload_n hx hb d_Big_init_4 rfl (lv_at hl 0 rfl) ?_
    refine lv_iload_n hx hb d_Big_init_5 rfl (lv_at hl 1 rfl) ?_
    refine kx_newa (atype := .int) E w rfl mw_3 0 rfl (N' := 72) (a0 := (72, .inl (fun _ => 0))) (fun _ => rfl) (by decide) (by decide) (by decide) (Nat.le_of_ble_eq_true rfl) (Nat.le_of_ble_eq_true rfl) d_Big_init_6 (fun q1 H w => ?_)
    have w : kW D A s [(h0, .inr (1, [.null, .int 0, .int 0])), (q1, .inl (a 0, 72, .inl (fun _ => 0)))] H locs := w
    refine kx_putF E w zC_Big hnm 0 rfl 0 (by decide) mw_4 rfl rfl rfl rfl (Nat.le_of_ble_eq_true rfl) d_Big_init_8 (ws' := [(h0, .inr (1, [.ref q1, .int 0, .int 0])), (q1, .inl (a 0, 72, .inl (fun _ => 0)))]) rfl (fun H locs w => ?_)
    refine W.widen (k := 1) (n := 72) (Nat.le_of_ble_eq_true rfl) (Nat.le_of_ble_eq_true rfl) ?_
    exact kx_vret E w hr hlk d_Big_init_11 ⟨q1, rfl⟩)
set_option maxRecDepth 100000 in
set_option maxHeartbeats 4000000 in
theorem c_Big_init_96 (l : Launch) (D : va_G) (a : Nat → ClassId) (h0 : Nat) : ∀ sz : Nat, Met l y_Big_init (Cond.code y_Big_init b_Big_init 2 none :: wA) ({ frames := 1, cells := 1, slots := 96, locals := 20 } : Room) (va_Pc [.ref h0, .int 96] (kP D a [(h0, .inr (1, [.null, .int 0, .int 0]))] sz)) (va_Qv (fun u : va_W => ∃ q1 : Nat, u = [(h0, .inr (1, [.ref q1, .int 0, .int 0])), (q1, .inl (a 0, 96, .inl (fun _ => 0)))]) (kB D a (va_A [(h0, .inr (1, [.null, .int 0, .int 0]))] sz)) (va_A [(h0, .inr (1, [.null, .int 0, .int 0]))] sz)) 1 96 (va_A [(h0, .inr (1, [.null, .int 0, .int 0]))] sz) :=
  kM (Qc := fun A => va_Qv (fun u : va_W => ∃ q1 : Nat, u = [(h0, .inr (1, [.ref q1, .int 0, .int 0])), (q1, .inl (a 0, 96, .inl (fun _ => 0)))]) (kB D a A) A) (by decide) (Nat.le_of_ble_eq_true rfl) (by
    intro p e s m below meth c A ls H locs E hr hlk hnm w hl
    have hx := E.1.1
    have hb := E.1.2.1
    have E : kE p m c b_Big_init 2 s [.ref h0, .int 96].toArray "RootAlgebra$Big" D a A := E
    have hl : lv_has ls 2 [(0, .ref h0), (1, .int 96)] := hl
    have hnm : meth.name = "<init>" := hnm
    refine lv_aload_n hx hb d_Big_init_0 rfl (lv_at hl 0 rfl) ?_
    refine kx_obj E hl.1 mw_0 mw_1 mw_2 d_Big_init_1 (Nat.le_of_ble_eq_true rfl) (Nat.le_of_ble_eq_true rfl) (Nat.le_of_ble_eq_true rfl) ?_
    refine lv_aload_n hx hb d_Big_init_4 rfl (lv_at hl 0 rfl) ?_
    refine lv_iload_n hx hb d_Big_init_5 rfl (lv_at hl 1 rfl) ?_
    refine kx_newa (atype := .int) E w rfl mw_3 0 rfl (N' := 96) (a0 := (96, .inl (fun _ => 0))) (fun _ => rfl) (by decide) (by decide) (by decide) (Nat.le_of_ble_eq_true rfl) (Nat.le_of_ble_eq_true rfl) d_Big_init_6 (fun q1 H w => ?_)
    have w : kW D A s [(h0, .inr (1, [.null, .int 0, .int 0])), (q1, .inl (a 0, 96, .inl (fun _ => 0)))] H locs := w
    refine kx_putF E w zC_Big hnm 0 rfl 0 (by decide) mw_4 rfl rfl rfl rfl (Nat.le_of_ble_eq_true rfl) d_Big_init_8 (ws' := [(h0, .inr (1, [.ref q1, .int 0, .int 0])), (q1, .inl (a 0, 96, .inl (fun _ => 0)))]) rfl (fun H locs w => ?_)
    refine W.widen (k := 1) (n := 96) (Nat.le_of_ble_eq_true rfl) (Nat.le_of_ble_eq_true rfl) ?_
    exact kx_vret E w hr hlk d_Big_init_11 ⟨q1, rfl⟩)
set_option maxRecDepth 100000 in
set_option maxHeartbeats 4000000 in
theorem c_Big_init_400 (l : Launch) (D : va_G) (a : Nat → ClassId) (h0 : Nat) : ∀ sz : Nat, Met l y_Big_init (Cond.code y_Big_init b_Big_init 2 none :: wA) ({ frames := 1, cells := 1, slots := 400, locals := 20 } : Room) (va_Pc [.ref h0, .int 400] (kP D a [(h0, .inr (1, [.null, .int 0, .int 0]))] sz)) (va_Qv (fun u : va_W => ∃ q1 : Nat, u = [(h0, .inr (1, [.ref q1, .int 0, .int 0])), (q1, .inl (a 0, 400, .inl (fun _ => 0)))]) (kB D a (va_A [(h0, .inr (1, [.null, .int 0, .int 0]))] sz)) (va_A [(h0, .inr (1, [.null, .int 0, .int 0]))] sz)) 1 400 (va_A [(h0, .inr (1, [.null, .int 0, .int 0]))] sz) :=
  kM (Qc := fun A => va_Qv (fun u : va_W => ∃ q1 : Nat, u = [(h0, .inr (1, [.ref q1, .int 0, .int 0])), (q1, .inl (a 0, 400, .inl (fun _ => 0)))]) (kB D a A) A) (by decide) (Nat.le_of_ble_eq_true rfl) (by
    intro p e s m below meth c A ls H locs E hr hlk hnm w hl
    have hx := E.1.1
    have hb := E.1.2.1
    have E : kE p m c b_Big_init 2 s [.ref h0, .int 400].toArray "RootAlgebra$Big" D a A := E
    have hl : lv_has ls 2 [(0, .ref h0), (1, .int 400)] := hl
    have hnm : meth.name = "<init>" := hnm
    refine lv_aload_n hx hb d_Big_init_0 rfl (lv_at hl 0 rfl) ?_
    refine kx_obj E hl.1 mw_0 mw_1 mw_2 d_Big_init_1 (Nat.le_of_ble_eq_true rfl) (Nat.le_of_ble_eq_true rfl) (Nat.le_of_ble_eq_true rfl) ?_
    refine lv_aload_n hx hb d_Big_init_4 rfl (lv_at hl 0 rfl) ?_
    refine lv_iload_n hx hb d_Big_init_5 rfl (lv_at hl 1 rfl) ?_
    refine kx_newa (atype := .int) E w rfl mw_3 0 rfl (N' := 400) (a0 := (400, .inl (fun _ => 0))) (fun _ => rfl) (by decide) (by decide) (by decide) (Nat.le_of_ble_eq_true rfl) (Nat.le_of_ble_eq_true rfl) d_Big_init_6 (fun q1 H w => ?_)
    have w : kW D A s [(h0, .inr (1, [.null, .int 0, .int 0])), (q1, .inl (a 0, 400, .inl (fun _ => 0)))] H locs := w
    refine kx_putF E w zC_Big hnm 0 rfl 0 (by decide) mw_4 rfl rfl rfl rfl (Nat.le_of_ble_eq_true rfl) d_Big_init_8 (ws' := [(h0, .inr (1, [.ref q1, .int 0, .int 0])), (q1, .inl (a 0, 400, .inl (fun _ => 0)))]) rfl (fun H locs w => ?_)
    refine W.widen (k := 1) (n := 400) (Nat.le_of_ble_eq_true rfl) (Nat.le_of_ble_eq_true rfl) ?_
    exact kx_vret E w hr hlk d_Big_init_11 ⟨q1, rfl⟩)
set_option maxRecDepth 100000 in
set_option maxHeartbeats 4000000 in
theorem c_Value_init (l : Launch) (D : va_G) (a : Nat → ClassId) (h0 : Nat) : ∀ sz : Nat, Met l y_Value_init (Cond.code y_Value_init b_Value_init 1 none :: wA) ({ frames := 2, cells := 3, slots := 22, locals := 41 } : Room) (va_Pc [.ref h0] (kP D a [(h0, .inr (11, [.null, .null, .int 0, .int 0, .int 0, .int 0, .int 0]))] sz)) (va_Qv (fun u : va_W => ∃ q1 : Nat, ∃ q2 : Nat, ∃ q3 : Nat, u = [(h0, .inr (11, [.ref q1, .ref q2, .int 0, .int 0, .int 0, .int 0, .int 0])), (q1, .inl (a 0, 7, .inl (fun _ => 0))), (q2, .inr (1, [.ref q3, .int 0, .int 0])), (q3, .inl (a 0, 12, .inl (fun _ => 0)))]) (kB D a (va_A [(h0, .inr (11, [.null, .null, .int 0, .int 0, .int 0, .int 0, .int 0]))] sz)) (va_A [(h0, .inr (11, [.null, .null, .int 0, .int 0, .int 0, .int 0, .int 0]))] sz)) 3 22 (va_A [(h0, .inr (11, [.null, .null, .int 0, .int 0, .int 0, .int 0, .int 0]))] sz) :=
  kM (Qc := fun A => va_Qv (fun u : va_W => ∃ q1 : Nat, ∃ q2 : Nat, ∃ q3 : Nat, u = [(h0, .inr (11, [.ref q1, .ref q2, .int 0, .int 0, .int 0, .int 0, .int 0])), (q1, .inl (a 0, 7, .inl (fun _ => 0))), (q2, .inr (1, [.ref q3, .int 0, .int 0])), (q3, .inl (a 0, 12, .inl (fun _ => 0)))]) (kB D a A) A) (by decide) (Nat.le_of_ble_eq_true rfl) (by
    intro p e s m below meth c A ls H locs E hr hlk hnm w hl
    have hx := E.1.1
    have hb := E.1.2.1
    have E : kE p m c b_Value_init 1 s [.ref h0].toArray "RootAlgebra$Value" D a A := E
    have hl : lv_has ls 1 [(0, .ref h0)] := hl
    have hnm : meth.name = "<init>" := hnm
    refine lv_aload_n hx hb d_Value_init_0 rfl (lv_at hl 0 rfl) ?_
    refine kx_obj E hl.1 mw_5 mw_1 mw_2 d_Value_init_1 (Nat.le_of_ble_eq_true rfl) (Nat.le_of_ble_eq_true rfl) (Nat.le_of_ble_eq_true rfl) ?_
    refine lv_aload_n hx hb d_Value_init_4 rfl (lv_at hl 0 rfl) ?_
    refine lv_bipush (v := 7) hx hb d_Value_init_5 (by decide) ?_
    refine kx_newa (atype := .int) E w rfl mw_3 0 rfl (N' := 7) (a0 := (7, .inl (fun _ => 0))) (fun _ => rfl) (by decide) (by decide) (by decide) (Nat.le_of_ble_eq_true rfl) (Nat.le_of_ble_eq_true rfl) d_Value_init_7 (fun q1 H w => ?_)
    have w : kW D A s [(h0, .inr (11, [.null, .null, .int 0, .int 0, .int 0, .int 0, .int 0])), (q1, .inl (a 0, 7, .inl (fun _ => 0)))] H locs := w
    refine kx_putF E w zC_Value hnm 0 rfl 0 (by decide) mw_6 rfl rfl rfl rfl (Nat.le_of_ble_eq_true rfl) d_Value_init_9 (ws' := [(h0, .inr (11, [.ref q1, .null, .int 0, .int 0, .int 0, .int 0, .int 0])), (q1, .inl (a 0, 7, .inl (fun _ => 0)))]) rfl (fun H locs w => ?_)
    refine lv_aload_n hx hb d_Value_init_12 rfl (lv_at hl 0 rfl) ?_
    refine kx_new E w zC_Big mw_7 mw_8 mw_9 (fs := [.null, .int 0, .int 0]) z0_Big (Nat.le_of_ble_eq_true rfl) (Nat.le_of_ble_eq_true rfl) d_Value_init_13 (fun q2 H w => ?_)
    have w : kW D A s [(h0, .inr (11, [.ref q1, .null, .int 0, .int 0, .int 0, .int 0, .int 0])), (q1, .inl (a 0, 7, .inl (fun _ => 0))), (q2, .inr (1, [.null, .int 0, .int 0]))] H locs := w
    refine lv_dup hx hb d_Value_init_16 rfl ?_
    refine lv_bipush (v := 12) hx hb d_Value_init_17 (by decide) ?_
    refine kx_v E w (wc := [(q2, .inr (1, [.null, .int 0, .int 0]))]) (wr := [(h0, .inr (11, [.ref q1, .null, .int 0, .int 0, .int 0, .int 0, .int 0])), (q1, .inl (a 0, 7, .inl (fun _ => 0)))]) [2] [0, 1] rfl rfl ⟨rfl, rfl, by decide⟩ (kx_rI E w hl.1 (As := [.int 12]) (wc := [(q2, .inr (1, [.null, .int 0, .int 0]))]) (c_Big_init_12 l D a q2 H.size) gc_0 gi_Big_init [2] rfl rfl rfl rfl rfl ⟨(Nat.le_of_ble_eq_true rfl), (Nat.le_of_ble_eq_true rfl)⟩ rfl (Nat.le_of_ble_eq_true rfl) d_Value_init_19 ⟨(Nat.le_of_ble_eq_true rfl), (Nat.le_of_ble_eq_true rfl)⟩) (fun u H locs hu w => ?_)
    obtain ⟨q3, rfl⟩ := hu
    have w : kW D A s [(h0, .inr (11, [.ref q1, .null, .int 0, .int 0, .int 0, .int 0, .int 0])), (q1, .inl (a 0, 7, .inl (fun _ => 0))), (q2, .inr (1, [.ref q3, .int 0, .int 0])), (q3, .inl (a 0, 12, .inl (fun _ => 0)))] H locs := w
    refine kx_putF E w zC_Value hnm 0 rfl 1 (by decide) mw_13 rfl rfl rfl rfl (Nat.le_of_ble_eq_true rfl) d_Value_init_22 (ws' := [(h0, .inr (11, [.ref q1, .ref q2, .int 0, .int 0, .int 0, .int 0, .int 0])), (q1, .inl (a 0, 7, .inl (fun _ => 0))), (q2, .inr (1, [.ref q3, .int 0, .int 0])), (q3, .inl (a 0, 12, .inl (fun _ => 0)))]) rfl (fun H locs w => ?_)
    refine W.widen (k := 3) (n := 22) (Nat.le_of_ble_eq_true rfl) (Nat.le_of_ble_eq_true rfl) ?_
    exact kx_vret E w hr hlk d_Value_init_25 ⟨q1, q2, q3, rfl⟩)
end
section
/-! laid by program (wip/gen) -/
set_option maxRecDepth 100000 in
set_option maxHeartbeats 4000000 in
theorem c_Big_setLong0_8 (l : Launch) (D : va_G) (a : Nat → ClassId) (h0 : Nat) (h1 : Nat) (x0 : Int32) (x1 : Int32) (f0 : Nat → Int32) : ∀ sz : Nat, Met l y_Big_setLong (Cond.code y_Big_setLong b_Big_setLong 6 none :: wA) ({ frames := 0, cells := 0, slots := 0, locals := 0 } : Room) (va_Pc [.ref h0, .long 0] (kP D a [(h0, .inr (1, [.ref h1, .int x0, .int x1])), (h1, .inl (a 0, 8, .inl f0))] sz)) (va_Qv (fun u : va_W => u = [(h0, .inr (1, [.ref h1, .int 0, .int 0])), (h1, .inl (a 0, 8, .inl f0))]) (kB D a (va_A [(h0, .inr (1, [.ref h1, .int x0, .int x1])), (h1, .inl (a 0, 8, .inl f0))] sz)) (va_A [(h0, .inr (1, [.ref h1, .int x0, .int x1])), (h1, .inl (a 0, 8, .inl f0))] sz)) 0 0 (va_A [(h0, .inr (1, [.ref h1, .int x0, .int x1])), (h1, .inl (a 0, 8, .inl f0))] sz) :=
  kM (Qc := fun A => va_Qv (fun u : va_W => u = [(h0, .inr (1, [.ref h1, .int 0, .int 0])), (h1, .inl (a 0, 8, .inl f0))]) (kB D a A) A) (by decide) (Nat.le_of_ble_eq_true rfl) (by
    intro p e s m below meth c A ls H locs E hr hlk hnm w hl
    have hx := E.1.1
    have hb := E.1.2.1
    have E : kE p m c b_Big_setLong 6 s [.ref h0, .long 0].toArray "RootAlgebra$Big" D a A := E
    have hl : lv_has ls 6 [(0, .ref h0), (1, .long 0)] := hl
    refine lv_aload_n hx hb d_Big_setLong_0 rfl (lv_at hl 0 rfl) ?_
    refine lv_lload_n hx hb d_Big_setLong_1 rfl (lv_at hl 1 rfl) ?_
    refine lv_lconst (v := 0) hx hb d_Big_setLong_2 (by decide) ?_
    refine kx_lcmp (v := 0) hx hb d_Big_setLong_3 (by decide) ?_
    refine lv_if_ge (tgt := 11) hx hb d_Big_setLong_4 (by decide) (fun _ => ?_) (fun h => absurd (by decide) h)
    refine lv_lload_n hx hb d_Big_setLong_11 rfl (lv_at hl 1 rfl) ?_
    refine lv_lconst (v := 0) hx hb d_Big_setLong_12 (by decide) ?_
    refine kx_lcmp (v := 0) hx hb d_Big_setLong_13 (by decide) ?_
    refine lv_if_le (tgt := 21) hx hb d_Big_setLong_14 (by decide) (fun _ => ?_) (fun h => absurd (by decide) h)
    refine lv_iconst (v := 0) hx hb d_Big_setLong_21 (by decide) ?_
    refine kx_put E w zC_Big 0 rfl 2 (by decide) mw_14 rfl rfl rfl (Nat.le_of_ble_eq_true rfl) d_Big_setLong_22 (ws' := [(h0, .inr (1, [.ref h1, .int x0, .int 0])), (h1, .inl (a 0, 8, .inl f0))]) rfl (fun H locs w => ?_)
    refine lv_lload_n hx hb d_Big_setLong_25 rfl (lv_at hl 1 rfl) ?_
    refine lv_lconst (v := 0) hx hb d_Big_setLong_26 (by decide) ?_
    refine kx_lcmp (v := 0) hx hb d_Big_setLong_27 (by decide) ?_
    refine lv_if_ge (tgt := 36) hx hb d_Big_setLong_28 (by decide) (fun _ => ?_) (fun h => absurd (by decide) h)
    refine lv_lload_n hx hb d_Big_setLong_36 rfl (lv_at hl 1 rfl) ?_
    refine lv_lstore_n (lv' := [(3, .long 0), (0, .ref h0), (1, .long 0)]) hx hb d_Big_setLong_37 rfl hl (by decide) rfl (fun ls hl => ?_)
    refine lv_aload_n hx hb d_Big_setLong_38 rfl (lv_at hl 1 rfl) ?_
    refine lv_iconst (v := 0) hx hb d_Big_setLong_39 (by decide) ?_
    refine kx_put E w zC_Big 0 rfl 1 (by decide) mw_15 rfl rfl rfl (Nat.le_of_ble_eq_true rfl) d_Big_setLong_40 (ws' := [(h0, .inr (1, [.ref h1, .int 0, .int 0])), (h1, .inl (a 0, 8, .inl f0))]) rfl (fun H locs w => ?_)
    refine lv_iconst (v := 0) hx hb d_Big_setLong_43 (by decide) ?_
    refine lv_istore (lv' := [(5, .int 0), (3, .long 0), (0, .ref h0), (1, .long 0)]) hx hb d_Big_setLong_44 hl (by decide) rfl (fun ls hl => ?_)
    refine lv_iload hx hb d_Big_setLong_46 (lv_at hl 0 rfl) ?_
    refine lv_iconst (v := 2) hx hb d_Big_setLong_48 (by decide) ?_
    refine lv_icmp_ge (tgt := 96) hx hb d_Big_setLong_49 (by decide) (fun h => absurd h (by decide)) (fun _ => ?_)
    refine lv_iload hx hb d_Big_setLong_52 (lv_at hl 0 rfl) ?_
    refine lv_aload_n hx hb d_Big_setLong_54 rfl (lv_at hl 2 rfl) ?_
    refine kx_get E w zC_Big 0 rfl 0 (by decide) mw_4 rfl d_Big_setLong_55 ?_
    refine kx_alen E w 1 0 rfl rfl (v := 8) rfl d_Big_setLong_58 ?_
    refine lv_icmp_ge (tgt := 96) hx hb d_Big_setLong_59 (by decide) (fun h => absurd h (by decide)) (fun _ => ?_)
    refine lv_lload_n hx hb d_Big_setLong_62 rfl (lv_at hl 1 rfl) ?_
    refine lv_lconst (v := 0) hx hb d_Big_setLong_63 (by decide) ?_
    refine kx_lcmp (v := 0) hx hb d_Big_setLong_64 (by decide) ?_
    refine lv_if_eq (tgt := 96) hx hb d_Big_setLong_65 (by decide) (fun _ => ?_) (fun h => absurd (by decide) h)
    refine W.widen (k := 0) (n := 0) (Nat.le_of_ble_eq_true rfl) (Nat.le_of_ble_eq_true rfl) ?_
    exact kx_vret E w hr hlk d_Big_setLong_96 rfl)
set_option maxRecDepth 100000 in
set_option maxHeartbeats 4000000 in
theorem c_Big_setLong0_12 (l : Launch) (D : va_G) (a : Nat → ClassId) (h0 : Nat) (h1 : Nat) (x0 : Int32) (x1 : Int32) (f0 : Nat → Int32) : ∀ sz : Nat, Met l y_Big_setLong (Cond.code y_Big_setLong b_Big_setLong 6 none :: wA) ({ frames := 0, cells := 0, slots := 0, locals := 0 } : Room) (va_Pc [.ref h0, .long 0] (kP D a [(h0, .inr (1, [.ref h1, .int x0, .int x1])), (h1, .inl (a 0, 12, .inl f0))] sz)) (va_Qv (fun u : va_W => u = [(h0, .inr (1, [.ref h1, .int 0, .int 0])), (h1, .inl (a 0, 12, .inl f0))]) (kB D a (va_A [(h0, .inr (1, [.ref h1, .int x0, .int x1])), (h1, .inl (a 0, 12, .inl f0))] sz)) (va_A [(h0, .inr (1, [.ref h1, .int x0, .int x1])), (h1, .inl (a 0, 12, .inl f0))] sz)) 0 0 (va_A [(h0, .inr (1, [.ref h1, .int x0, .int x1])), (h1, .inl (a 0, 12, .inl f0))] sz) :=
  kM (Qc := fun A => va_Qv (fun u : va_W => u = [(h0, .inr (1, [.ref h1, .int 0, .int 0])), (h1, .inl (a 0, 12, .inl f0))]) (kB D a A) A) (by decide) (Nat.le_of_ble_eq_true rfl) (by
    intro p e s m below meth c A ls H locs E hr hlk hnm w hl
    have hx := E.1.1
    have hb := E.1.2.1
    have E : kE p m c b_Big_setLong 6 s [.ref h0, .long 0].toArray "RootAlgebra$Big" D a A := E
    have hl : lv_has ls 6 [(0, .ref h0), (1, .long 0)] := hl
    refine lv_aload_n hx hb d_Big_setLong_0 rfl (lv_at hl 0 rfl) ?_
    refine lv_lload_n hx hb d_Big_setLong_1 rfl (lv_at hl 1 rfl) ?_
    refine lv_lconst (v := 0) hx hb d_Big_setLong_2 (by decide) ?_
    refine kx_lcmp (v := 0) hx hb d_Big_setLong_3 (by decide) ?_
    refine lv_if_ge (tgt := 11) hx hb d_Big_setLong_4 (by decide) (fun _ => ?_) (fun h => absurd (by decide) h)
    refine lv_lload_n hx hb d_Big_setLong_11 rfl (lv_at hl 1 rfl) ?_
    refine lv_lconst (v := 0) hx hb d_Big_setLong_12 (by decide) ?_
    refine kx_lcmp (v := 0) hx hb d_Big_setLong_13 (by decide) ?_
    refine lv_if_le (tgt := 21) hx hb d_Big_setLong_14 (by decide) (fun _ => ?_) (fun h => absurd (by decide) h)
    refine lv_iconst (v := 0) hx hb d_Big_setLong_21 (by decide) ?_
    refine kx_put E w zC_Big 0 rfl 2 (by decide) mw_14 rfl rfl rfl (Nat.le_of_ble_eq_true rfl) d_Big_setLong_22 (ws' := [(h0, .inr (1, [.ref h1, .int x0, .int 0])), (h1, .inl (a 0, 12, .inl f0))]) rfl (fun H locs w => ?_)
    refine lv_lload_n hx hb d_Big_setLong_25 rfl (lv_at hl 1 rfl) ?_
    refine lv_lconst (v := 0) hx hb d_Big_setLong_26 (by decide) ?_
    refine kx_lcmp (v := 0) hx hb d_Big_setLong_27 (by decide) ?_
    refine lv_if_ge (tgt := 36) hx hb d_Big_setLong_28 (by decide) (fun _ => ?_) (fun h => absurd (by decide) h)
    refine lv_lload_n hx hb d_Big_setLong_36 rfl (lv_at hl 1 rfl) ?_
    refine lv_lstore_n (lv' := [(3, .long 0), (0, .ref h0), (1, .long 0)]) hx hb d_Big_setLong_37 rfl hl (by decide) rfl (fun ls hl => ?_)
    refine lv_aload_n hx hb d_Big_setLong_38 rfl (lv_at hl 1 rfl) ?_
    refine lv_iconst (v := 0) hx hb d_Big_setLong_39 (by decide) ?_
    refine kx_put E w zC_Big 0 rfl 1 (by decide) mw_15 rfl rfl rfl (Nat.le_of_ble_eq_true rfl) d_Big_setLong_40 (ws' := [(h0, .inr (1, [.ref h1, .int 0, .int 0])), (h1, .inl (a 0, 12, .inl f0))]) rfl (fun H locs w => ?_)
    refine lv_iconst (v := 0) hx hb d_Big_setLong_43 (by decide) ?_
    refine lv_istore (lv' := [(5, .int 0), (3, .long 0), (0, .ref h0), (1, .long 0)]) hx hb d_Big_setLong_44 hl (by decide) rfl (fun ls hl => ?_)
    refine lv_iload hx hb d_Big_setLong_46 (lv_at hl 0 rfl) ?_
    refine lv_iconst (v := 2) hx hb d_Big_setLong_48 (by decide) ?_
    refine lv_icmp_ge (tgt := 96) hx hb d_Big_setLong_49 (by decide) (fun h => absurd h (by decide)) (fun _ => ?_)
    refine lv_iload hx hb d_Big_setLong_52 (lv_at hl 0 rfl) ?_
    refine lv_aload_n hx hb d_Big_setLong_54 rfl (lv_at hl 2 rfl) ?_
    refine kx_get E w zC_Big 0 rfl 0 (by decide) mw_4 rfl d_Big_setLong_55 ?_
    refine kx_alen E w 1 0 rfl rfl (v := 12) rfl d_Big_setLong_58 ?_
    refine lv_icmp_ge (tgt := 96) hx hb d_Big_setLong_59 (by decide) (fun h => absurd h (by decide)) (fun _ => ?_)
    refine lv_lload_n hx hb d_Big_setLong_62 rfl (lv_at hl 1 rfl) ?_
    refine lv_lconst (v := 0) hx hb d_Big_setLong_63 (by decide) ?_
    refine kx_lcmp (v := 0) hx hb d_Big_setLong_64 (by decide) ?_
    refine lv_if_eq (tgt := 96) hx hb d_Big_setLong_65 (by decide) (fun _ => ?_) (fun h => absurd (by decide) h)
    refine W.widen (k := 0) (n := 0) (Nat.le_of_ble_eq_true rfl) (Nat.le_of_ble_eq_true rfl) ?_
    exact kx_vret E w hr hlk d_Big_setLong_96 rfl)
set_option maxRecDepth 100000 in
set_option maxHeartbeats 4000000 in
theorem c_Big_setLong0_72 (l : Launch) (D : va_G) (a : Nat → ClassId) (h0 : Nat) (h1 : Nat) (x0 : Int32) (x1 : Int32) (f0 : Nat → Int32) : ∀ sz : Nat, Met l y_Big_setLong (Cond.code y_Big_setLong b_Big_setLong 6 none :: wA) ({ frames := 0, cells := 0, slots := 0, locals := 0 } : Room) (va_Pc [.ref h0, .long 0] (kP D a [(h0, .inr (1, [.ref h1, .int x0, .int x1])), (h1, .inl (a 0, 72, .inl f0))] sz)) (va_Qv (fun u : va_W => u = [(h0, .inr (1, [.ref h1, .int 0, .int 0])), (h1, .inl (a 0, 72, .inl f0))]) (kB D a (va_A [(h0, .inr (1, [.ref h1, .int x0, .int x1])), (h1, .inl (a 0, 72, .inl f0))] sz)) (va_A [(h0, .inr (1, [.ref h1, .int x0, .int x1])), (h1, .inl (a 0, 72, .inl f0))] sz)) 0 0 (va_A [(h0, .inr (1, [.ref h1, .int x0, .int x1])), (h1, .inl (a 0, 72, .inl f0))] sz) :=
  kM (Qc := fun A => va_Qv (fun u : va_W => u = [(h0, .inr (1, [.ref h1, .int 0, .int 0])), (h1, .inl (a 0, 72, .inl f0))]) (kB D a A) A) (by decide) (Nat.le_of_ble_eq_true rfl) (by
    intro p e s m below meth c A ls H locs E hr hlk hnm w hl
    have hx := E.1.1
    have hb := E.1.2.1
    have E : kE p m c b_Big_setLong 6 s [.ref h0, .long 0].toArray "RootAlgebra$Big" D a A := E
    have hl : lv_has ls 6 [(0, .ref h0), (1, .long 0)] := hl
    refine lv_aload_n hx hb d_Big_setLong_0 rfl (lv_at hl 0 rfl) ?_
    refine lv_lload_n hx hb d_Big_setLong_1 rfl (lv_at hl 1 rfl) ?_
    refine lv_lconst (v := 0) hx hb d_Big_setLong_2 (by decide) ?_
    refine kx_lcmp (v := 0) hx hb d_Big_setLong_3 (by decide) ?_
    refine lv_if_ge (tgt := 11) hx hb d_Big_setLong_4 (by decide) (fun _ => ?_) (fun h => absurd (by decide) h)
    refine lv_lload_n hx hb d_Big_setLong_11 rfl (lv_at hl 1 rfl) ?_
    refine lv_lconst (v := 0) hx hb d_Big_setLong_12 (by decide) ?_
    refine kx_lcmp (v := 0) hx hb d_Big_setLong_13 (by decide) ?_
    refine lv_if_le (tgt := 21) hx hb d_Big_setLong_14 (by decide) (fun _ => ?_) (fun h => absurd (by decide) h)
    refine lv_iconst (v := 0) hx hb d_Big_setLong_21 (by decide) ?_
    refine kx_put E w zC_Big 0 rfl 2 (by decide) mw_14 rfl rfl rfl (Nat.le_of_ble_eq_true rfl) d_Big_setLong_22 (ws' := [(h0, .inr (1, [.ref h1, .int x0, .int 0])), (h1, .inl (a 0, 72, .inl f0))]) rfl (fun H locs w => ?_)
    refine lv_lload_n hx hb d_Big_setLong_25 rfl (lv_at hl 1 rfl) ?_
    refine lv_lconst (v := 0) hx hb d_Big_setLong_26 (by decide) ?_
    refine kx_lcmp (v := 0) hx hb d_Big_setLong_27 (by decide) ?_
    refine lv_if_ge (tgt := 36) hx hb d_Big_setLong_28 (by decide) (fun _ => ?_) (fun h => absurd (by decide) h)
    refine lv_lload_n hx hb d_Big_setLong_36 rfl (lv_at hl 1 rfl) ?_
    refine lv_lstore_n (lv' := [(3, .long 0), (0, .ref h0), (1, .long 0)]) hx hb d_Big_setLong_37 rfl hl (by decide) rfl (fun ls hl => ?_)
    refine lv_aload_n hx hb d_Big_setLong_38 rfl (lv_at hl 1 rfl) ?_
    refine lv_iconst (v := 0) hx hb d_Big_setLong_39 (by decide) ?_
    refine kx_put E w zC_Big 0 rfl 1 (by decide) mw_15 rfl rfl rfl (Nat.le_of_ble_eq_true rfl) d_Big_setLong_40 (ws' := [(h0, .inr (1, [.ref h1, .int 0, .int 0])), (h1, .inl (a 0, 72, .inl f0))]) rfl (fun H locs w => ?_)
    refine lv_iconst (v := 0) hx hb d_Big_setLong_43 (by decide) ?_
    refine lv_istore (lv' := [(5, .int 0), (3, .long 0), (0, .ref h0), (1, .long 0)]) hx hb d_Big_setLong_44 hl (by decide) rfl (fun ls hl => ?_)
    refine lv_iload hx hb d_Big_setLong_46 (lv_at hl 0 rfl) ?_
    refine lv_iconst (v := 2) hx hb d_Big_setLong_48 (by decide) ?_
    refine lv_icmp_ge (tgt := 96) hx hb d_Big_setLong_49 (by decide) (fun h => absurd h (by decide)) (fun _ => ?_)
    refine lv_iload hx hb d_Big_setLong_52 (lv_at hl 0 rfl) ?_
    refine lv_aload_n hx hb d_Big_setLong_54 rfl (lv_at hl 2 rfl) ?_
    refine kx_get E w zC_Big 0 rfl 0 (by decide) mw_4 rfl d_Big_setLong_55 ?_
    refine kx_alen E w 1 0 rfl rfl (v := 72) rfl d_Big_setLong_58 ?_
    refine lv_icmp_ge (tgt := 96) hx hb d_Big_setLong_59 (by decide) (fun h => absurd h (by decide)) (fun _ => ?_)
    refine lv_lload_n hx hb d_Big_setLong_62 rfl (lv_at hl 1 rfl) ?_
    refine lv_lconst (v := 0) hx hb d_Big_setLong_63 (by decide) ?_
    refine kx_lcmp (v := 0) hx hb d_Big_setLong_64 (by decide) ?_
    refine lv_if_eq (tgt := 96) hx hb d_Big_setLong_65 (by decide) (fun _ => ?_) (fun h => absurd (by decide) h)
    refine W.widen (k := 0) (n := 0) (Nat.le_of_ble_eq_true rfl) (Nat.le_of_ble_eq_true rfl) ?_
    exact kx_vret E w hr hlk d_Big_setLong_96 rfl)
set_option maxRecDepth 100000 in
set_option maxHeartbeats 4000000 in
theorem c_Value_finish0 (l : Launch) (D : va_G) (a : Nat → ClassId) (h0 : Nat) (h1 : Nat) (h2 : Nat) (h3 : Nat) : ∀ sz : Nat, Met l y_Value_finishFraction (Cond.code y_Value_finishFraction b_Value_finishFraction 1 none :: wA) ({ frames := 1, cells := 0, slots := 0, locals := 25 } : Room) (va_Pc [.ref h0] (kP D a [(h0, .inr (11, [.ref h1, .ref h2, .int 1, .int 0, .int 0, .int 0, .int 0])), (h1, .inl (a 0, 7, .inl (upd (upd (fun _ => 0) 0 0) 1 1))), (h2, .inr (1, [.ref h3, .int 0, .int 0])), (h3, .inl (a 0, 12, .inl (fun _ => 0)))] sz)) (va_Qv (fun u : va_W => u = [(h0, .inr (11, [.ref h1, .ref h2, .int 1, .int 0, .int 1, .int 0, .int 0])), (h1, .inl (a 0, 7, .inl (upd (upd (fun _ => 0) 0 0) 1 1))), (h2, .inr (1, [.ref h3, .int 0, .int 0])), (h3, .inl (a 0, 12, .inl (fun _ => 0)))]) (kB D a (va_A [(h0, .inr (11, [.ref h1, .ref h2, .int 1, .int 0, .int 0, .int 0, .int 0])), (h1, .inl (a 0, 7, .inl (upd (upd (fun _ => 0) 0 0) 1 1))), (h2, .inr (1, [.ref h3, .int 0, .int 0])), (h3, .inl (a 0, 12, .inl (fun _ => 0)))] sz)) (va_A [(h0, .inr (11, [.ref h1, .ref h2, .int 1, .int 0, .int 0, .int 0, .int 0])), (h1, .inl (a 0, 7, .inl (upd (upd (fun _ => 0) 0 0) 1 1))), (h2, .inr (1, [.ref h3, .int 0, .int 0])), (h3, .inl (a 0, 12, .inl (fun _ => 0)))] sz)) 0 0 (va_A [(h0, .inr (11, [.ref h1, .ref h2, .int 1, .int 0, .int 0, .int 0, .int 0])), (h1, .inl (a 0, 7, .inl (upd (upd (fun _ => 0) 0 0) 1 1))), (h2, .inr (1, [.ref h3, .int 0, .int 0])), (h3, .inl (a 0, 12, .inl (fun _ => 0)))] sz) :=
  kM (Qc := fun A => va_Qv (fun u : va_W => u = [(h0, .inr (11, [.ref h1, .ref h2, .int 1, .int 0, .int 1, .int 0, .int 0])), (h1, .inl (a 0, 7, .inl (upd (upd (fun _ => 0) 0 0) 1 1))), (h2, .inr (1, [.ref h3, .int 0, .int 0])), (h3, .inl (a 0, 12, .inl (fun _ => 0)))]) (kB D a A) A) (by decide) (Nat.le_of_ble_eq_true rfl) (by
    intro p e s m below meth c A ls H locs E hr hlk hnm w hl
    have hx := E.1.1
    have hb := E.1.2.1
    have E : kE p m c b_Value_finishFraction 1 s [.ref h0].toArray "RootAlgebra$Value" D a A := E
    have hl : lv_has ls 1 [(0, .ref h0)] := hl
    refine lv_aload_n hx hb d_Value_finishFraction_0 rfl (lv_at hl 0 rfl) ?_
    refine lv_iconst (v := 0) hx hb d_Value_finishFraction_1 (by decide) ?_
    refine kx_put E w zC_Value 0 rfl 3 (by decide) mw_16 rfl rfl rfl (Nat.le_of_ble_eq_true rfl) d_Value_finishFraction_2 (ws' := [(h0, .inr (11, [.ref h1, .ref h2, .int 1, .int 0, .int 0, .int 0, .int 0])), (h1, .inl (a 0, 7, .inl (upd (upd (fun _ => 0) 0 0) 1 1))), (h2, .inr (1, [.ref h3, .int 0, .int 0])), (h3, .inl (a 0, 12, .inl (fun _ => 0)))]) rfl (fun H locs w => ?_)
    refine lv_aload_n hx hb d_Value_finishFraction_5 rfl (lv_at hl 0 rfl) ?_
    refine lv_iconst (v := 1) hx hb d_Value_finishFraction_6 (by decide) ?_
    refine kx_put E w zC_Value 0 rfl 4 (by decide) mw_17 rfl rfl rfl (Nat.le_of_ble_eq_true rfl) d_Value_finishFraction_7 (ws' := [(h0, .inr (11, [.ref h1, .ref h2, .int 1, .int 0, .int 1, .int 0, .int 0])), (h1, .inl (a 0, 7, .inl (upd (upd (fun _ => 0) 0 0) 1 1))), (h2, .inr (1, [.ref h3, .int 0, .int 0])), (h3, .inl (a 0, 12, .inl (fun _ => 0)))]) rfl (fun H locs w => ?_)
    refine lv_aload_n hx hb d_Value_finishFraction_10 rfl (lv_at hl 0 rfl) ?_
    refine lv_aload_n hx hb d_Value_finishFraction_11 rfl (lv_at hl 0 rfl) ?_
    refine kx_get E w zC_Value 0 rfl 0 (by decide) mw_6 rfl d_Value_finishFraction_12 ?_
    refine lv_iconst (v := 0) hx hb d_Value_finishFraction_15 (by decide) ?_
    refine kx_iald E w 1 rfl (by unfold vp_in; decide) (v := 0) rfl d_Value_finishFraction_16 ?_
    refine lv_if_le (tgt := 24) hx hb d_Value_finishFraction_17 (by decide) (fun _ => ?_) (fun h => absurd (by decide) h)
    refine lv_iconst (v := 0) hx hb d_Value_finishFraction_24 (by decide) ?_
    refine kx_put E w zC_Value 0 rfl 5 (by decide) mw_18 rfl rfl rfl (Nat.le_of_ble_eq_true rfl) d_Value_finishFraction_25 (ws' := [(h0, .inr (11, [.ref h1, .ref h2, .int 1, .int 0, .int 1, .int 0, .int 0])), (h1, .inl (a 0, 7, .inl (upd (upd (fun _ => 0) 0 0) 1 1))), (h2, .inr (1, [.ref h3, .int 0, .int 0])), (h3, .inl (a 0, 12, .inl (fun _ => 0)))]) rfl (fun H locs w => ?_)
    refine lv_aload_n hx hb d_Value_finishFraction_28 rfl (lv_at hl 0 rfl) ?_
    refine lv_iconst (v := 0) hx hb d_Value_finishFraction_29 (by decide) ?_
    refine kx_put E w zC_Value 0 rfl 6 (by decide) mw_19 rfl rfl rfl (Nat.le_of_ble_eq_true rfl) d_Value_finishFraction_30 (ws' := [(h0, .inr (11, [.ref h1, .ref h2, .int 1, .int 0, .int 1, .int 0, .int 0])), (h1, .inl (a 0, 7, .inl (upd (upd (fun _ => 0) 0 0) 1 1))), (h2, .inr (1, [.ref h3, .int 0, .int 0])), (h3, .inl (a 0, 12, .inl (fun _ => 0)))]) rfl (fun H locs w => ?_)
    refine lv_aload_n hx hb d_Value_finishFraction_33 rfl (lv_at hl 0 rfl) ?_
    refine kx_get E w zC_Value 0 rfl 1 (by decide) mw_13 rfl d_Value_finishFraction_34 ?_
    refine lv_lconst (v := 0) hx hb d_Value_finishFraction_37 (by decide) ?_
    refine kx_v E w (wc := [(h2, .inr (1, [.ref h3, .int 0, .int 0])), (h3, .inl (a 0, 12, .inl (fun _ => 0)))]) (wr := [(h0, .inr (11, [.ref h1, .ref h2, .int 1, .int 0, .int 1, .int 0, .int 0])), (h1, .inl (a 0, 7, .inl (upd (upd (fun _ => 0) 0 0) 1 1)))]) [2, 3] [0, 1] rfl rfl ⟨rfl, rfl, by decide⟩ (kx_rV E w hl.1 (As := [.long 0]) (wc := [(h2, .inr (1, [.ref h3, .int 0, .int 0])), (h3, .inl (a 0, 12, .inl (fun _ => 0)))]) (c_Big_setLong0_12 l D a h2 h3 0 0 (fun _ => 0) H.size) gc_1 gv_Big_setLong (kRecv E w 1 2 rfl rfl) [2, 3] rfl rfl rfl rfl rfl ⟨(Nat.le_of_ble_eq_true rfl), (Nat.le_of_ble_eq_true rfl)⟩ rfl (Nat.le_of_ble_eq_true rfl) d_Value_finishFraction_38 ⟨(Nat.le_of_ble_eq_true rfl), (Nat.le_of_ble_eq_true rfl)⟩) (fun u H locs hu w => ?_)
    obtain ⟨rfl⟩ := hu
    have w : kW D A s [(h0, .inr (11, [.ref h1, .ref h2, .int 1, .int 0, .int 1, .int 0, .int 0])), (h1, .inl (a 0, 7, .inl (upd (upd (fun _ => 0) 0 0) 1 1))), (h2, .inr (1, [.ref h3, .int 0, .int 0])), (h3, .inl (a 0, 12, .inl (fun _ => 0)))] H locs := w
    refine W.widen (k := 0) (n := 0) (Nat.le_of_ble_eq_true rfl) (Nat.le_of_ble_eq_true rfl) ?_
    exact kx_vret E w hr hlk d_Value_finishFraction_41 rfl)
end
section
/-! laid by program (wip/gen) -/
set_option maxRecDepth 100000 in
set_option maxHeartbeats 4000000 in
theorem c_Value_set01 (l : Launch) (D : va_G) (a : Nat → ClassId) (h0 : Nat) (h1 : Nat) (h2 : Nat) (h3 : Nat) : ∀ sz : Nat, Met l y_Value_setFraction (Cond.code y_Value_setFraction b_Value_setFraction 3 none :: wA) ({ frames := 2, cells := 0, slots := 0, locals := 45 } : Room) (va_Pc [.ref h0, .int 0, .int 1] (kP D a [(h0, .inr (11, [.ref h1, .ref h2, .int 0, .int 0, .int 0, .int 0, .int 0])), (h1, .inl (a 0, 7, .inl (fun _ => 0))), (h2, .inr (1, [.ref h3, .int 0, .int 0])), (h3, .inl (a 0, 12, .inl (fun _ => 0)))] sz)) (va_Qv (fun u : va_W => u = [(h0, .inr (11, [.ref h1, .ref h2, .int 1, .int 0, .int 1, .int 0, .int 0])), (h1, .inl (a 0, 7, .inl (upd (upd (fun _ => 0) 0 0) 1 1))), (h2, .inr (1, [.ref h3, .int 0, .int 0])), (h3, .inl (a 0, 12, .inl (fun _ => 0)))]) (kB D a (va_A [(h0, .inr (11, [.ref h1, .ref h2, .int 0, .int 0, .int 0, .int 0, .int 0])), (h1, .inl (a 0, 7, .inl (fun _ => 0))), (h2, .inr (1, [.ref h3, .int 0, .int 0])), (h3, .inl (a 0, 12, .inl (fun _ => 0)))] sz)) (va_A [(h0, .inr (11, [.ref h1, .ref h2, .int 0, .int 0, .int 0, .int 0, .int 0])), (h1, .inl (a 0, 7, .inl (fun _ => 0))), (h2, .inr (1, [.ref h3, .int 0, .int 0])), (h3, .inl (a 0, 12, .inl (fun _ => 0)))] sz)) 0 0 (va_A [(h0, .inr (11, [.ref h1, .ref h2, .int 0, .int 0, .int 0, .int 0, .int 0])), (h1, .inl (a 0, 7, .inl (fun _ => 0))), (h2, .inr (1, [.ref h3, .int 0, .int 0])), (h3, .inl (a 0, 12, .inl (fun _ => 0)))] sz) :=
  kM (Qc := fun A => va_Qv (fun u : va_W => u = [(h0, .inr (11, [.ref h1, .ref h2, .int 1, .int 0, .int 1, .int 0, .int 0])), (h1, .inl (a 0, 7, .inl (upd (upd (fun _ => 0) 0 0) 1 1))), (h2, .inr (1, [.ref h3, .int 0, .int 0])), (h3, .inl (a 0, 12, .inl (fun _ => 0)))]) (kB D a A) A) (by decide) (Nat.le_of_ble_eq_true rfl) (by
    intro p e s m below meth c A ls H locs E hr hlk hnm w hl
    have hx := E.1.1
    have hb := E.1.2.1
    have E : kE p m c b_Value_setFraction 3 s [.ref h0, .int 0, .int 1].toArray "RootAlgebra$Value" D a A := E
    have hl : lv_has ls 3 [(0, .ref h0), (1, .int 0), (2, .int 1)] := hl
    refine lv_aload_n hx hb d_Value_setFraction_0 rfl (lv_at hl 0 rfl) ?_
    refine lv_iconst (v := 1) hx hb d_Value_setFraction_1 (by decide) ?_
    refine kx_put E w zC_Value 0 rfl 2 (by decide) mw_24 rfl rfl rfl (Nat.le_of_ble_eq_true rfl) d_Value_setFraction_2 (ws' := [(h0, .inr (11, [.ref h1, .ref h2, .int 1, .int 0, .int 0, .int 0, .int 0])), (h1, .inl (a 0, 7, .inl (fun _ => 0))), (h2, .inr (1, [.ref h3, .int 0, .int 0])), (h3, .inl (a 0, 12, .inl (fun _ => 0)))]) rfl (fun H locs w => ?_)
    refine lv_aload_n hx hb d_Value_setFraction_5 rfl (lv_at hl 0 rfl) ?_
    refine kx_get E w zC_Value 0 rfl 0 (by decide) mw_6 rfl d_Value_setFraction_6 ?_
    refine lv_iconst (v := 0) hx hb d_Value_setFraction_9 (by decide) ?_
    refine lv_iload_n hx hb d_Value_setFraction_10 rfl (lv_at hl 1 rfl) ?_
    refine kx_ineg (v := 0) hx hb d_Value_setFraction_11 (by decide) ?_
    refine kx_iast E w 1 rfl (by unfold vp_in; decide) 0 (by decide) d_Value_setFraction_12 (ws' := [(h0, .inr (11, [.ref h1, .ref h2, .int 1, .int 0, .int 0, .int 0, .int 0])), (h1, .inl (a 0, 7, .inl (upd (fun _ => 0) 0 0))), (h2, .inr (1, [.ref h3, .int 0, .int 0])), (h3, .inl (a 0, 12, .inl (fun _ => 0)))]) rfl (fun H locs w => ?_)
    refine lv_aload_n hx hb d_Value_setFraction_13 rfl (lv_at hl 0 rfl) ?_
    refine kx_get E w zC_Value 0 rfl 0 (by decide) mw_6 rfl d_Value_setFraction_14 ?_
    refine lv_iconst (v := 1) hx hb d_Value_setFraction_17 (by decide) ?_
    refine lv_iload_n hx hb d_Value_setFraction_18 rfl (lv_at hl 2 rfl) ?_
    refine kx_iast E w 1 rfl (by unfold vp_in; decide) 1 (by decide) d_Value_setFraction_19 (ws' := [(h0, .inr (11, [.ref h1, .ref h2, .int 1, .int 0, .int 0, .int 0, .int 0])), (h1, .inl (a 0, 7, .inl (upd (upd (fun _ => 0) 0 0) 1 1))), (h2, .inr (1, [.ref h3, .int 0, .int 0])), (h3, .inl (a 0, 12, .inl (fun _ => 0)))]) rfl (fun H locs w => ?_)
    refine lv_aload_n hx hb d_Value_setFraction_20 rfl (lv_at hl 0 rfl) ?_
    refine kx_v E w (wc := [(h0, .inr (11, [.ref h1, .ref h2, .int 1, .int 0, .int 0, .int 0, .int 0])), (h1, .inl (a 0, 7, .inl (upd (upd (fun _ => 0) 0 0) 1 1))), (h2, .inr (1, [.ref h3, .int 0, .int 0])), (h3, .inl (a 0, 12, .inl (fun _ => 0)))]) (wr := []) [0, 1, 2, 3] [] rfl rfl ⟨rfl, rfl, by decide⟩ (kx_rV E w hl.1 (As := []) (wc := [(h0, .inr (11, [.ref h1, .ref h2, .int 1, .int 0, .int 0, .int 0, .int 0])), (h1, .inl (a 0, 7, .inl (upd (upd (fun _ => 0) 0 0) 1 1))), (h2, .inr (1, [.ref h3, .int 0, .int 0])), (h3, .inl (a 0, 12, .inl (fun _ => 0)))]) (c_Value_finish0 l D a h0 h1 h2 h3 H.size) gc_2 gv_Value_finishFraction (kRecv E w 11 0 rfl rfl) [0, 1, 2, 3] rfl rfl rfl rfl rfl ⟨(Nat.le_of_ble_eq_true rfl), (Nat.le_of_ble_eq_true rfl)⟩ rfl (Nat.le_of_ble_eq_true rfl) d_Value_setFraction_21 ⟨(Nat.le_of_ble_eq_true rfl), (Nat.le_of_ble_eq_true rfl)⟩) (fun u H locs hu w => ?_)
    obtain ⟨rfl⟩ := hu
    have w : kW D A s [(h0, .inr (11, [.ref h1, .ref h2, .int 1, .int 0, .int 1, .int 0, .int 0])), (h1, .inl (a 0, 7, .inl (upd (upd (fun _ => 0) 0 0) 1 1))), (h2, .inr (1, [.ref h3, .int 0, .int 0])), (h3, .inl (a 0, 12, .inl (fun _ => 0)))] H locs := w
    refine W.widen (k := 0) (n := 0) (Nat.le_of_ble_eq_true rfl) (Nat.le_of_ble_eq_true rfl) ?_
    exact kx_vret E w hr hlk d_Value_setFraction_24 rfl)
set_option maxRecDepth 100000 in
set_option maxHeartbeats 4000000 in
theorem c_Poly_init (l : Launch) (D : va_G) (a : Nat → ClassId) (h0 : Nat) : ∀ sz : Nat, Met l y_Poly_init (Cond.code y_Poly_init b_Poly_init 2 none :: wA) ({ frames := 2, cells := 27, slots := 416, locals := 41 } : Room) (va_Pc [.ref h0] (kP D a [(h0, .inr (8, [.null, .int 0]))] sz)) (va_Qv (fun u : va_W => ∃ q1 : Nat, u = [(h0, .inr (8, [.ref q1, .int 0]))]) (kB D a (va_A [(h0, .inr (8, [.null, .int 0]))] sz)) (va_A [(h0, .inr (8, [.null, .int 0]))] sz)) 27 416 (va_A [(h0, .inr (8, [.null, .int 0]))] sz) :=
  kM (Qc := fun A => va_Qv (fun u : va_W => ∃ q1 : Nat, u = [(h0, .inr (8, [.ref q1, .int 0]))]) (kB D a A) A) (by decide) (Nat.le_of_ble_eq_true rfl) (by
    intro p e s m below meth c A ls H locs E hr hlk hnm w hl
    have hx := E.1.1
    have hb := E.1.2.1
    have E : kE p m c b_Poly_init 2 s [.ref h0].toArray "RootAlgebra$Poly" D a A := E
    have hl : lv_has ls 2 [(0, .ref h0)] := hl
    have hnm : meth.name = "<init>" := hnm
    refine lv_aload_n hx hb d_Poly_init_0 rfl (lv_at hl 0 rfl) ?_
    refine kx_obj E hl.1 mw_30 mw_1 mw_2 d_Poly_init_1 (Nat.le_of_ble_eq_true rfl) (Nat.le_of_ble_eq_true rfl) (Nat.le_of_ble_eq_true rfl) ?_
    refine lv_aload_n hx hb d_Poly_init_4 rfl (lv_at hl 0 rfl) ?_
    refine lv_bipush (v := 13) hx hb d_Poly_init_5 (by decide) ?_
    refine kx_newq E w mw_31 E.2.1.2.1 4 rfl (N' := 13) (by decide) (by decide) (by decide) (Nat.le_of_ble_eq_true rfl) (Nat.le_of_ble_eq_true rfl) d_Poly_init_7 (fun q1 H w => ?_)
    have w : kW D A s [(h0, .inr (8, [.null, .int 0])), (q1, .inl (a 4, 13, .inr (.inr (.inr (.inr (fun _ => none))))))] H locs := w
    refine kx_putF E w zC_Poly hnm 0 rfl 0 (by decide) mw_32 rfl rfl rfl rfl (Nat.le_of_ble_eq_true rfl) d_Poly_init_10 (ws' := [(h0, .inr (8, [.ref q1, .int 0])), (q1, .inl (a 4, 13, .inr (.inr (.inr (.inr (fun _ => none))))))]) rfl (fun H locs w => ?_)
    refine lv_iconst (v := 0) hx hb d_Poly_init_13 (by decide) ?_
    refine lv_istore_n (lv' := [(1, .int 0), (0, .ref h0)]) hx hb d_Poly_init_14 rfl hl (by decide) rfl (fun ls hl => ?_)
    refine W.widen (k := 1 + 2 * 0) (n := 13 + 31 * 0) (Nat.le_of_ble_eq_true rfl) (Nat.le_of_ble_eq_true rfl) ?_
    have loop : ∀ (n i : Nat), i + n = 13 → ∀ (f1 : Nat → Option Nat) (H : Heap) (locs : List Loc) (ls : Array Slot), kW D A s [(h0, .inr (8, [.ref q1, .int 0])), (q1, .inl (a 4, 13, .inr (.inr (.inr (.inr f1)))))] H locs → lv_has ls 2 [(0, .ref h0), (1, .int (nI i))] → W p l e ({ frames := 2, cells := 27, slots := 416, locals := 41 } : Room) s m [.ref h0].toArray below meth c H locs (1 + 2 * i) (13 + 31 * i) (MQ below (va_Qv (fun u : va_W => ∃ q1 : Nat, u = [(h0, .inr (8, [.ref q1, .int 0]))]) (kB D a A) A) [.ref h0].toArray s 27 416 A) (F0 m 15 ls [])  := by
      intro n
      induction n with
      | zero =>
        intro i hi f1 H locs ls w hl
        obtain rfl : i = 13 := by omega
        have hl : lv_has ls 2 [(0, .ref h0), (1, .int 13)] := hl
        refine lv_iload_n hx hb d_Poly_init_15 rfl (lv_at hl 1 rfl) ?_
        refine lv_bipush (v := 12) hx hb d_Poly_init_16 (by decide) ?_
        refine lv_icmp_gt (tgt := 42) hx hb d_Poly_init_18 (by decide) (fun _ => ?_) (fun h => absurd (by decide) h)
        have w := kW_sub w (ws' := [(h0, .inr (8, [.ref q1, .int 0]))]) [0] rfl rfl
        refine W.widen (k := 27) (n := 416) (Nat.le_of_ble_eq_true rfl) (Nat.le_of_ble_eq_true rfl) ?_
        exact kx_vret E w hr hlk d_Poly_init_42 ⟨q1, rfl⟩
      | succ n ih =>
        intro i hi f1 H locs ls w hl
        refine lv_iload_n hx hb d_Poly_init_15 rfl (lv_at hl 1 rfl) ?_
        refine lv_bipush (v := 12) hx hb d_Poly_init_16 (by decide) ?_
        refine lv_icmp_gt (tgt := 42) hx hb d_Poly_init_18 (by decide) (fun h => absurd h (nI_nlt (a := 12) (b := i) (by omega) (by omega))) (fun _ => ?_)
        refine lv_aload_n hx hb d_Poly_init_21 rfl (lv_at hl 0 rfl) ?_
        refine kx_get E w zC_Poly 0 rfl 0 (by decide) mw_32 rfl d_Poly_init_22 ?_
        refine lv_iload_n hx hb d_Poly_init_25 rfl (lv_at hl 1 rfl) ?_
        refine kx_new E w zC_Big mw_31 mw_8 mw_9 (fs := [.null, .int 0, .int 0]) z0_Big (show 1 + 2 * i + 1 ≤ 27 from by omega) (show 13 + 31 * i + 3 ≤ 416 from by omega) d_Poly_init_26 (fun q2 H w => ?_)
        have w : kW D A s [(h0, .inr (8, [.ref q1, .int 0])), (q1, .inl (a 4, 13, .inr (.inr (.inr (.inr f1))))), (q2, .inr (1, [.null, .int 0, .int 0]))] H locs := w
        refine lv_dup hx hb d_Poly_init_29 rfl ?_
        refine lv_bipush (v := 28) hx hb d_Poly_init_30 (by decide) ?_
        refine kx_v E w (wc := [(q2, .inr (1, [.null, .int 0, .int 0]))]) (wr := [(h0, .inr (8, [.ref q1, .int 0])), (q1, .inl (a 4, 13, .inr (.inr (.inr (.inr f1)))))]) [2] [0, 1] rfl rfl ⟨rfl, rfl, by decide⟩ (kx_rI E w hl.1 (As := [.int 28]) (wc := [(q2, .inr (1, [.null, .int 0, .int 0]))]) (c_Big_init_28 l D a q2 H.size) gc_3 gi_Big_init [2] rfl rfl rfl rfl rfl ⟨(Nat.le_of_ble_eq_true rfl), (Nat.le_of_ble_eq_true rfl)⟩ rfl (Nat.le_of_ble_eq_true rfl) d_Poly_init_32 ⟨(show 1 + 2 * i + 1 + 1 ≤ 27 from by omega), (show 13 + 31 * i + 3 + 28 ≤ 416 from by omega)⟩) (fun u H locs hu w => ?_)
        obtain ⟨q3, rfl⟩ := hu
        have w : kW D A s [(h0, .inr (8, [.ref q1, .int 0])), (q1, .inl (a 4, 13, .inr (.inr (.inr (.inr f1))))), (q2, .inr (1, [.ref q3, .int 0, .int 0])), (q3, .inl (a 0, 28, .inl (fun _ => 0)))] H locs := w
        refine kx_aast E w 1 4 2 1 rfl rfl rfl rfl (vp_in_nI (by omega) (by omega)) i (nI_clamp (by omega)) d_Poly_init_35 (ws' := [(h0, .inr (8, [.ref q1, .int 0])), (q1, .inl (a 4, 13, .inr (.inr (.inr (.inr (va_up f1 i (some q2))))))), (q2, .inr (1, [.ref q3, .int 0, .int 0])), (q3, .inl (a 0, 28, .inl (fun _ => 0)))]) rfl (fun H locs w => ?_)
        refine lv_iinc (v := (nI (i + 1))) (lv' := [(1, .int (nI (i + 1))), (0, .ref h0)]) hx hb d_Poly_init_36 hl (k := 1) rfl (kx_inc i) (by decide) rfl (fun ls hl => ?_)
        refine lv_goto (tgt := 15) hx hb d_Poly_init_39 (by decide) ?_
        have w := kW_sub w (ws' := [(h0, .inr (8, [.ref q1, .int 0])), (q1, .inl (a 4, 13, .inr (.inr (.inr (.inr (va_up f1 i (some q2)))))))]) [0, 1] rfl rfl
        refine W.widen (k := 1 + 2 * (i + 1)) (n := 13 + 31 * (i + 1)) (by omega) (by omega) ?_
        exact ih (i + 1) (by omega) _ _ _ _ w (lv_sub hl [1, 0] rfl)
    exact loop 13 0 (by omega) _ _ _ _ w (lv_sub hl [1, 0] rfl))
set_option maxRecDepth 100000 in
set_option maxHeartbeats 4000000 in
theorem c_Field_init (l : Launch) (D : va_G) (a : Nat → ClassId) (h0 : Nat) : ∀ sz : Nat, Met l y_Field_init (Cond.code y_Field_init b_Field_init 1 none :: wA) ({ frames := 1, cells := 6, slots := 168, locals := 20 } : Room) (va_Pc [.ref h0] (kP D a [(h0, .inr (4, [.int 0, .null, .null, .null, .null, .null, .null]))] sz)) (va_Qv (fun u : va_W => ∃ q1 : Nat, ∃ q2 : Nat, ∃ q3 : Nat, ∃ q4 : Nat, ∃ q5 : Nat, ∃ q6 : Nat, u = [(h0, .inr (4, [.int 3, .ref q1, .ref q2, .ref q3, .ref q4, .ref q5, .ref q6]))]) (kB D a (va_A [(h0, .inr (4, [.int 0, .null, .null, .null, .null, .null, .null]))] sz)) (va_A [(h0, .inr (4, [.int 0, .null, .null, .null, .null, .null, .null]))] sz)) 6 168 (va_A [(h0, .inr (4, [.int 0, .null, .null, .null, .null, .null, .null]))] sz) :=
  kM (Qc := fun A => va_Qv (fun u : va_W => ∃ q1 : Nat, ∃ q2 : Nat, ∃ q3 : Nat, ∃ q4 : Nat, ∃ q5 : Nat, ∃ q6 : Nat, u = [(h0, .inr (4, [.int 3, .ref q1, .ref q2, .ref q3, .ref q4, .ref q5, .ref q6]))]) (kB D a A) A) (by decide) (Nat.le_of_ble_eq_true rfl) (by
    intro p e s m below meth c A ls H locs E hr hlk hnm w hl
    have hx := E.1.1
    have hb := E.1.2.1
    have E : kE p m c b_Field_init 1 s [.ref h0].toArray "RootAlgebra$Field" D a A := E
    have hl : lv_has ls 1 [(0, .ref h0)] := hl
    have hnm : meth.name = "<init>" := hnm
    refine lv_aload_n hx hb d_Field_init_0 rfl (lv_at hl 0 rfl) ?_
    refine kx_obj E hl.1 mw_34 mw_1 mw_2 d_Field_init_1 (Nat.le_of_ble_eq_true rfl) (Nat.le_of_ble_eq_true rfl) (Nat.le_of_ble_eq_true rfl) ?_
    refine lv_aload_n hx hb d_Field_init_4 rfl (lv_at hl 0 rfl) ?_
    refine lv_iconst (v := 3) hx hb d_Field_init_5 (by decide) ?_
    refine kx_put E w zC_Field 0 rfl 0 (by decide) mw_35 rfl rfl rfl (Nat.le_of_ble_eq_true rfl) d_Field_init_6 (ws' := [(h0, .inr (4, [.int 3, .null, .null, .null, .null, .null, .null]))]) rfl (fun H locs w => ?_)
    refine lv_aload_n hx hb d_Field_init_9 rfl (lv_at hl 0 rfl) ?_
    refine lv_bipush (v := 28) hx hb d_Field_init_10 (by decide) ?_
    refine kx_newa0 (atype := .long) E w rfl mw_36 (N' := 28) (a0 := (28, .inr (.inl (fun _ => 0)))) (fun _ => rfl) (by decide) (by decide) (by decide) (Nat.le_of_ble_eq_true rfl) (Nat.le_of_ble_eq_true rfl) d_Field_init_12 (fun q1 H w => ?_)
    refine kx_putF E w zC_Field hnm 0 rfl 1 (by decide) mw_37 rfl rfl rfl rfl (Nat.le_of_ble_eq_true rfl) d_Field_init_14 (ws' := [(h0, .inr (4, [.int 3, .ref q1, .null, .null, .null, .null, .null]))]) rfl (fun H locs w => ?_)
    refine lv_aload_n hx hb d_Field_init_17 rfl (lv_at hl 0 rfl) ?_
    refine lv_bipush (v := 28) hx hb d_Field_init_18 (by decide) ?_
    refine kx_newa0 (atype := .long) E w rfl mw_36 (N' := 28) (a0 := (28, .inr (.inl (fun _ => 0)))) (fun _ => rfl) (by decide) (by decide) (by decide) (Nat.le_of_ble_eq_true rfl) (Nat.le_of_ble_eq_true rfl) d_Field_init_20 (fun q2 H w => ?_)
    refine kx_putF E w zC_Field hnm 0 rfl 2 (by decide) mw_38 rfl rfl rfl rfl (Nat.le_of_ble_eq_true rfl) d_Field_init_22 (ws' := [(h0, .inr (4, [.int 3, .ref q1, .ref q2, .null, .null, .null, .null]))]) rfl (fun H locs w => ?_)
    refine lv_aload_n hx hb d_Field_init_25 rfl (lv_at hl 0 rfl) ?_
    refine lv_bipush (v := 28) hx hb d_Field_init_26 (by decide) ?_
    refine kx_newa0 (atype := .long) E w rfl mw_36 (N' := 28) (a0 := (28, .inr (.inl (fun _ => 0)))) (fun _ => rfl) (by decide) (by decide) (by decide) (Nat.le_of_ble_eq_true rfl) (Nat.le_of_ble_eq_true rfl) d_Field_init_28 (fun q3 H w => ?_)
    refine kx_put E w zC_Field 0 rfl 3 (by decide) mw_39 rfl rfl rfl (Nat.le_of_ble_eq_true rfl) d_Field_init_30 (ws' := [(h0, .inr (4, [.int 3, .ref q1, .ref q2, .ref q3, .null, .null, .null]))]) rfl (fun H locs w => ?_)
    refine lv_aload_n hx hb d_Field_init_33 rfl (lv_at hl 0 rfl) ?_
    refine lv_bipush (v := 28) hx hb d_Field_init_34 (by decide) ?_
    refine kx_newa0 (atype := .long) E w rfl mw_36 (N' := 28) (a0 := (28, .inr (.inl (fun _ => 0)))) (fun _ => rfl) (by decide) (by decide) (by decide) (Nat.le_of_ble_eq_true rfl) (Nat.le_of_ble_eq_true rfl) d_Field_init_36 (fun q4 H w => ?_)
    refine kx_put E w zC_Field 0 rfl 4 (by decide) mw_40 rfl rfl rfl (Nat.le_of_ble_eq_true rfl) d_Field_init_38 (ws' := [(h0, .inr (4, [.int 3, .ref q1, .ref q2, .ref q3, .ref q4, .null, .null]))]) rfl (fun H locs w => ?_)
    refine lv_aload_n hx hb d_Field_init_41 rfl (lv_at hl 0 rfl) ?_
    refine lv_bipush (v := 28) hx hb d_Field_init_42 (by decide) ?_
    refine kx_newa0 (atype := .long) E w rfl mw_36 (N' := 28) (a0 := (28, .inr (.inl (fun _ => 0)))) (fun _ => rfl) (by decide) (by decide) (by decide) (Nat.le_of_ble_eq_true rfl) (Nat.le_of_ble_eq_true rfl) d_Field_init_44 (fun q5 H w => ?_)
    refine kx_put E w zC_Field 0 rfl 5 (by decide) mw_41 rfl rfl rfl (Nat.le_of_ble_eq_true rfl) d_Field_init_46 (ws' := [(h0, .inr (4, [.int 3, .ref q1, .ref q2, .ref q3, .ref q4, .ref q5, .null]))]) rfl (fun H locs w => ?_)
    refine lv_aload_n hx hb d_Field_init_49 rfl (lv_at hl 0 rfl) ?_
    refine lv_bipush (v := 28) hx hb d_Field_init_50 (by decide) ?_
    refine kx_newa0 (atype := .long) E w rfl mw_36 (N' := 28) (a0 := (28, .inr (.inl (fun _ => 0)))) (fun _ => rfl) (by decide) (by decide) (by decide) (Nat.le_of_ble_eq_true rfl) (Nat.le_of_ble_eq_true rfl) d_Field_init_52 (fun q6 H w => ?_)
    refine kx_put E w zC_Field 0 rfl 6 (by decide) mw_42 rfl rfl rfl (Nat.le_of_ble_eq_true rfl) d_Field_init_54 (ws' := [(h0, .inr (4, [.int 3, .ref q1, .ref q2, .ref q3, .ref q4, .ref q5, .ref q6]))]) rfl (fun H locs w => ?_)
    refine W.widen (k := 6) (n := 168) (Nat.le_of_ble_eq_true rfl) (Nat.le_of_ble_eq_true rfl) ?_
    exact kx_vret E w hr hlk d_Field_init_57 ⟨q1, q2, q3, q4, q5, q6, rfl⟩)
set_option maxRecDepth 100000 in
set_option maxHeartbeats 4000000 in
theorem c_Padic_init (l : Launch) (D : va_G) (a : Nat → ClassId) (h0 : Nat) : ∀ sz : Nat, Met l y_Padic_init (Cond.code y_Padic_init b_Padic_init 1 none :: wA) ({ frames := 2, cells := 2, slots := 31, locals := 41 } : Room) (va_Pc [.ref h0] (kP D a [(h0, .inr (7, [.int 0, .long 0, .null]))] sz)) (va_Qv (fun u : va_W => ∃ q1 : Nat, u = [(h0, .inr (7, [.int 3, .long 0, .ref q1]))]) (kB D a (va_A [(h0, .inr (7, [.int 0, .long 0, .null]))] sz)) (va_A [(h0, .inr (7, [.int 0, .long 0, .null]))] sz)) 2 31 (va_A [(h0, .inr (7, [.int 0, .long 0, .null]))] sz) :=
  kM (Qc := fun A => va_Qv (fun u : va_W => ∃ q1 : Nat, u = [(h0, .inr (7, [.int 3, .long 0, .ref q1]))]) (kB D a A) A) (by decide) (Nat.le_of_ble_eq_true rfl) (by
    intro p e s m below meth c A ls H locs E hr hlk hnm w hl
    have hx := E.1.1
    have hb := E.1.2.1
    have E : kE p m c b_Padic_init 1 s [.ref h0].toArray "RootAlgebra$Padic" D a A := E
    have hl : lv_has ls 1 [(0, .ref h0)] := hl
    have hnm : meth.name = "<init>" := hnm
    refine lv_aload_n hx hb d_Padic_init_0 rfl (lv_at hl 0 rfl) ?_
    refine kx_obj E hl.1 mw_43 mw_1 mw_2 d_Padic_init_1 (Nat.le_of_ble_eq_true rfl) (Nat.le_of_ble_eq_true rfl) (Nat.le_of_ble_eq_true rfl) ?_
    refine lv_aload_n hx hb d_Padic_init_4 rfl (lv_at hl 0 rfl) ?_
    refine lv_iconst (v := 3) hx hb d_Padic_init_5 (by decide) ?_
    refine kx_put E w zC_Padic 0 rfl 0 (by decide) mw_44 rfl rfl rfl (Nat.le_of_ble_eq_true rfl) d_Padic_init_6 (ws' := [(h0, .inr (7, [.int 3, .long 0, .null]))]) rfl (fun H locs w => ?_)
    refine lv_aload_n hx hb d_Padic_init_9 rfl (lv_at hl 0 rfl) ?_
    refine kx_new E w zC_Big mw_45 mw_8 mw_9 (fs := [.null, .int 0, .int 0]) z0_Big (Nat.le_of_ble_eq_true rfl) (Nat.le_of_ble_eq_true rfl) d_Padic_init_10 (fun q1 H w => ?_)
    have w : kW D A s [(h0, .inr (7, [.int 3, .long 0, .null])), (q1, .inr (1, [.null, .int 0, .int 0]))] H locs := w
    refine lv_dup hx hb d_Padic_init_13 rfl ?_
    refine lv_bipush (v := 28) hx hb d_Padic_init_14 (by decide) ?_
    refine kx_v E w (wc := [(q1, .inr (1, [.null, .int 0, .int 0]))]) (wr := [(h0, .inr (7, [.int 3, .long 0, .null]))]) [1] [0] rfl rfl ⟨rfl, rfl, by decide⟩ (kx_rI E w hl.1 (As := [.int 28]) (wc := [(q1, .inr (1, [.null, .int 0, .int 0]))]) (c_Big_init_28 l D a q1 H.size) gc_4 gi_Big_init [1] rfl rfl rfl rfl rfl ⟨(Nat.le_of_ble_eq_true rfl), (Nat.le_of_ble_eq_true rfl)⟩ rfl (Nat.le_of_ble_eq_true rfl) d_Padic_init_16 ⟨(Nat.le_of_ble_eq_true rfl), (Nat.le_of_ble_eq_true rfl)⟩) (fun u H locs hu w => ?_)
    obtain ⟨q2, rfl⟩ := hu
    have w : kW D A s [(h0, .inr (7, [.int 3, .long 0, .null])), (q1, .inr (1, [.ref q2, .int 0, .int 0])), (q2, .inl (a 0, 28, .inl (fun _ => 0)))] H locs := w
    refine kx_putF E w zC_Padic hnm 0 rfl 2 (by decide) mw_47 rfl rfl rfl rfl (Nat.le_of_ble_eq_true rfl) d_Padic_init_19 (ws' := [(h0, .inr (7, [.int 3, .long 0, .ref q1])), (q1, .inr (1, [.ref q2, .int 0, .int 0])), (q2, .inl (a 0, 28, .inl (fun _ => 0)))]) rfl (fun H locs w => ?_)
    have w := kW_sub w (ws' := [(h0, .inr (7, [.int 3, .long 0, .ref q1]))]) [0] rfl rfl
    refine W.widen (k := 2) (n := 31) (Nat.le_of_ble_eq_true rfl) (Nat.le_of_ble_eq_true rfl) ?_
    exact kx_vret E w hr hlk d_Padic_init_22 ⟨q1, rfl⟩)
end
section
/-! laid by program (wip/gen) -/
set_option maxRecDepth 100000 in
set_option maxHeartbeats 4000000 in
theorem c_Reader_init (l : Launch) (D : va_G) (a : Nat → ClassId) (h0 : Nat) (h1 : Nat) : ∀ sz : Nat, Met l y_Reader_init (Cond.code y_Reader_init b_Reader_init 2 none :: wA) ({ frames := 1, cells := 1, slots := 820, locals := 20 } : Room) (va_Pc [.ref h0, .ref h1] (kP D a [(h0, .inr (9, [.null, .null, .int 0, .int 0, .int 0, .int 0, .int 0]))] sz)) (va_Qv (fun u : va_W => ∃ q1 : Nat, u = [(h0, .inr (9, [.ref q1, .ref h1, .int 0, .int 0, .int 0, .int 0, .int 0]))]) (kB D a (va_A [(h0, .inr (9, [.null, .null, .int 0, .int 0, .int 0, .int 0, .int 0]))] sz)) (va_A [(h0, .inr (9, [.null, .null, .int 0, .int 0, .int 0, .int 0, .int 0]))] sz)) 1 820 (va_A [(h0, .inr (9, [.null, .null, .int 0, .int 0, .int 0, .int 0, .int 0]))] sz) :=
  kM (Qc := fun A => va_Qv (fun u : va_W => ∃ q1 : Nat, u = [(h0, .inr (9, [.ref q1, .ref h1, .int 0, .int 0, .int 0, .int 0, .int 0]))]) (kB D a A) A) (by decide) (Nat.le_of_ble_eq_true rfl) (by
    intro p e s m below meth c A ls H locs E hr hlk hnm w hl
    have hx := E.1.1
    have hb := E.1.2.1
    have E : kE p m c b_Reader_init 2 s [.ref h0, .ref h1].toArray "RootAlgebra$Reader" D a A := E
    have hl : lv_has ls 2 [(0, .ref h0), (1, .ref h1)] := hl
    have hnm : meth.name = "<init>" := hnm
    refine lv_aload_n hx hb d_Reader_init_0 rfl (lv_at hl 0 rfl) ?_
    refine kx_obj E hl.1 mw_48 mw_1 mw_2 d_Reader_init_1 (Nat.le_of_ble_eq_true rfl) (Nat.le_of_ble_eq_true rfl) (Nat.le_of_ble_eq_true rfl) ?_
    refine lv_aload_n hx hb d_Reader_init_4 rfl (lv_at hl 0 rfl) ?_
    refine lv_aload_n hx hb d_Reader_init_5 rfl (lv_at hl 1 rfl) ?_
    refine kx_putF E w zC_Reader hnm 0 rfl 1 (by decide) mw_49 rfl rfl rfl rfl (Nat.le_of_ble_eq_true rfl) d_Reader_init_6 (ws' := [(h0, .inr (9, [.null, .ref h1, .int 0, .int 0, .int 0, .int 0, .int 0]))]) rfl (fun H locs w => ?_)
    refine lv_aload_n hx hb d_Reader_init_9 rfl (lv_at hl 0 rfl) ?_
    refine lv_sipush (v := 820) hx hb d_Reader_init_10 (by decide) ?_
    refine kx_newa0 (atype := .int) E w rfl mw_3 (N' := 820) (a0 := (820, .inl (fun _ => 0))) (fun _ => rfl) (by decide) (by decide) (by decide) (Nat.le_of_ble_eq_true rfl) (Nat.le_of_ble_eq_true rfl) d_Reader_init_13 (fun q1 H w => ?_)
    refine kx_putF E w zC_Reader hnm 0 rfl 0 (by decide) mw_50 rfl rfl rfl rfl (Nat.le_of_ble_eq_true rfl) d_Reader_init_15 (ws' := [(h0, .inr (9, [.ref q1, .ref h1, .int 0, .int 0, .int 0, .int 0, .int 0]))]) rfl (fun H locs w => ?_)
    refine W.widen (k := 1) (n := 820) (Nat.le_of_ble_eq_true rfl) (Nat.le_of_ble_eq_true rfl) ?_
    exact kx_vret E w hr hlk d_Reader_init_18 ⟨q1, rfl⟩)
set_option maxRecDepth 100000 in
set_option maxHeartbeats 4000000 in
theorem c_Gauge_init (l : Launch) (D : va_G) (a : Nat → ClassId) (h0 : Nat) : ∀ sz : Nat, Met l y_Gauge_init (Cond.code y_Gauge_init b_Gauge_init 1 none :: wA) ({ frames := 2, cells := 22, slots := 2793, locals := 41 } : Room) (va_Pc [.ref h0] (kP D a [(h0, .inr (5, [.null, .null, .null, .null, .null, .null, .null, .null, .null, .null, .null, .null, .null, .int 0, .int 0, .int 0, .int 0]))] sz)) (va_Qv (fun u : va_W => ∃ q1 : Nat, ∃ q3 : Nat, ∃ q5 : Nat, ∃ q7 : Nat, ∃ q9 : Nat, ∃ q11 : Nat, ∃ q13 : Nat, ∃ q15 : Nat, ∃ q17 : Nat, ∃ q19 : Nat, ∃ q21 : Nat, ∃ q20 : Nat, u = [(h0, .inr (5, [.ref q1, .ref q3, .ref q5, .ref q7, .ref q9, .ref q11, .ref q13, .ref q15, .ref q17, .ref q19, .ref q21, .null, .null, .int 0, .int 0, .int 0, .int 0])), (q19, .inr (1, [.ref q20, .int 0, .int 0])), (q20, .inl (a 0, 72, .inl (fun _ => 0)))]) (kB D a (va_A [(h0, .inr (5, [.null, .null, .null, .null, .null, .null, .null, .null, .null, .null, .null, .null, .null, .int 0, .int 0, .int 0, .int 0]))] sz)) (va_A [(h0, .inr (5, [.null, .null, .null, .null, .null, .null, .null, .null, .null, .null, .null, .null, .null, .int 0, .int 0, .int 0, .int 0]))] sz)) 22 2793 (va_A [(h0, .inr (5, [.null, .null, .null, .null, .null, .null, .null, .null, .null, .null, .null, .null, .null, .int 0, .int 0, .int 0, .int 0]))] sz) :=
  kM (Qc := fun A => va_Qv (fun u : va_W => ∃ q1 : Nat, ∃ q3 : Nat, ∃ q5 : Nat, ∃ q7 : Nat, ∃ q9 : Nat, ∃ q11 : Nat, ∃ q13 : Nat, ∃ q15 : Nat, ∃ q17 : Nat, ∃ q19 : Nat, ∃ q21 : Nat, ∃ q20 : Nat, u = [(h0, .inr (5, [.ref q1, .ref q3, .ref q5, .ref q7, .ref q9, .ref q11, .ref q13, .ref q15, .ref q17, .ref q19, .ref q21, .null, .null, .int 0, .int 0, .int 0, .int 0])), (q19, .inr (1, [.ref q20, .int 0, .int 0])), (q20, .inl (a 0, 72, .inl (fun _ => 0)))]) (kB D a A) A) (by decide) (Nat.le_of_ble_eq_true rfl) (by
    intro p e s m below meth c A ls H locs E hr hlk hnm w hl
    have hx := E.1.1
    have hb := E.1.2.1
    have E : kE p m c b_Gauge_init 1 s [.ref h0].toArray "RootAlgebra$Gauge" D a A := E
    have hl : lv_has ls 1 [(0, .ref h0)] := hl
    have hnm : meth.name = "<init>" := hnm
    refine lv_aload_n hx hb d_Gauge_init_0 rfl (lv_at hl 0 rfl) ?_
    refine kx_obj E hl.1 mw_51 mw_1 mw_2 d_Gauge_init_1 (Nat.le_of_ble_eq_true rfl) (Nat.le_of_ble_eq_true rfl) (Nat.le_of_ble_eq_true rfl) ?_
    refine lv_aload_n hx hb d_Gauge_init_4 rfl (lv_at hl 0 rfl) ?_
    refine kx_new E w zC_Big mw_52 mw_8 mw_9 (fs := [.null, .int 0, .int 0]) z0_Big (Nat.le_of_ble_eq_true rfl) (Nat.le_of_ble_eq_true rfl) d_Gauge_init_5 (fun q1 H w => ?_)
    have w : kW D A s [(h0, .inr (5, [.null, .null, .null, .null, .null, .null, .null, .null, .null, .null, .null, .null, .null, .int 0, .int 0, .int 0, .int 0])), (q1, .inr (1, [.null, .int 0, .int 0]))] H locs := w
    refine lv_dup hx hb d_Gauge_init_8 rfl ?_
    refine lv_sipush (v := 400) hx hb d_Gauge_init_9 (by decide) ?_
    refine kx_v E w (wc := [(q1, .inr (1, [.null, .int 0, .int 0]))]) (wr := [(h0, .inr (5, [.null, .null, .null, .null, .null, .null, .null, .null, .null, .null, .null, .null, .null, .int 0, .int 0, .int 0, .int 0]))]) [1] [0] rfl rfl ⟨rfl, rfl, by decide⟩ (kx_rI E w hl.1 (As := [.int 400]) (wc := [(q1, .inr (1, [.null, .int 0, .int 0]))]) (c_Big_init_400 l D a q1 H.size) gc_5 gi_Big_init [1] rfl rfl rfl rfl rfl ⟨(Nat.le_of_ble_eq_true rfl), (Nat.le_of_ble_eq_true rfl)⟩ rfl (Nat.le_of_ble_eq_true rfl) d_Gauge_init_12 ⟨(Nat.le_of_ble_eq_true rfl), (Nat.le_of_ble_eq_true rfl)⟩) (fun u H locs hu w => ?_)
    obtain ⟨q2, rfl⟩ := hu
    have w : kW D A s [(h0, .inr (5, [.null, .null, .null, .null, .null, .null, .null, .null, .null, .null, .null, .null, .null, .int 0, .int 0, .int 0, .int 0])), (q1, .inr (1, [.ref q2, .int 0, .int 0])), (q2, .inl (a 0, 400, .inl (fun _ => 0)))] H locs := w
    refine kx_putF E w zC_Gauge hnm 0 rfl 0 (by decide) mw_54 rfl rfl rfl rfl (Nat.le_of_ble_eq_true rfl) d_Gauge_init_15 (ws' := [(h0, .inr (5, [.ref q1, .null, .null, .null, .null, .null, .null, .null, .null, .null, .null, .null, .null, .int 0, .int 0, .int 0, .int 0])), (q1, .inr (1, [.ref q2, .int 0, .int 0])), (q2, .inl (a 0, 400, .inl (fun _ => 0)))]) rfl (fun H locs w => ?_)
    have w := kW_sub w (ws' := [(h0, .inr (5, [.ref q1, .null, .null, .null, .null, .null, .null, .null, .null, .null, .null, .null, .null, .int 0, .int 0, .int 0, .int 0]))]) [0] rfl rfl
    refine lv_aload_n hx hb d_Gauge_init_18 rfl (lv_at hl 0 rfl) ?_
    refine kx_new E w zC_Big mw_52 mw_8 mw_9 (fs := [.null, .int 0, .int 0]) z0_Big (Nat.le_of_ble_eq_true rfl) (Nat.le_of_ble_eq_true rfl) d_Gauge_init_19 (fun q3 H w => ?_)
    have w : kW D A s [(h0, .inr (5, [.ref q1, .null, .null, .null, .null, .null, .null, .null, .null, .null, .null, .null, .null, .int 0, .int 0, .int 0, .int 0])), (q3, .inr (1, [.null, .int 0, .int 0]))] H locs := w
    refine lv_dup hx hb d_Gauge_init_22 rfl ?_
    refine lv_sipush (v := 400) hx hb d_Gauge_init_23 (by decide) ?_
    refine kx_v E w (wc := [(q3, .inr (1, [.null, .int 0, .int 0]))]) (wr := [(h0, .inr (5, [.ref q1, .null, .null, .null, .null, .null, .null, .null, .null, .null, .null, .null, .null, .int 0, .int 0, .int 0, .int 0]))]) [1] [0] rfl rfl ⟨rfl, rfl, by decide⟩ (kx_rI E w hl.1 (As := [.int 400]) (wc := [(q3, .inr (1, [.null, .int 0, .int 0]))]) (c_Big_init_400 l D a q3 H.size) gc_5 gi_Big_init [1] rfl rfl rfl rfl rfl ⟨(Nat.le_of_ble_eq_true rfl), (Nat.le_of_ble_eq_true rfl)⟩ rfl (Nat.le_of_ble_eq_true rfl) d_Gauge_init_26 ⟨(Nat.le_of_ble_eq_true rfl), (Nat.le_of_ble_eq_true rfl)⟩) (fun u H locs hu w => ?_)
    obtain ⟨q4, rfl⟩ := hu
    have w : kW D A s [(h0, .inr (5, [.ref q1, .null, .null, .null, .null, .null, .null, .null, .null, .null, .null, .null, .null, .int 0, .int 0, .int 0, .int 0])), (q3, .inr (1, [.ref q4, .int 0, .int 0])), (q4, .inl (a 0, 400, .inl (fun _ => 0)))] H locs := w
    refine kx_putF E w zC_Gauge hnm 0 rfl 1 (by decide) mw_55 rfl rfl rfl rfl (Nat.le_of_ble_eq_true rfl) d_Gauge_init_29 (ws' := [(h0, .inr (5, [.ref q1, .ref q3, .null, .null, .null, .null, .null, .null, .null, .null, .null, .null, .null, .int 0, .int 0, .int 0, .int 0])), (q3, .inr (1, [.ref q4, .int 0, .int 0])), (q4, .inl (a 0, 400, .inl (fun _ => 0)))]) rfl (fun H locs w => ?_)
    have w := kW_sub w (ws' := [(h0, .inr (5, [.ref q1, .ref q3, .null, .null, .null, .null, .null, .null, .null, .null, .null, .null, .null, .int 0, .int 0, .int 0, .int 0]))]) [0] rfl rfl
    refine lv_aload_n hx hb d_Gauge_init_32 rfl (lv_at hl 0 rfl) ?_
    refine kx_new E w zC_Big mw_52 mw_8 mw_9 (fs := [.null, .int 0, .int 0]) z0_Big (Nat.le_of_ble_eq_true rfl) (Nat.le_of_ble_eq_true rfl) d_Gauge_init_33 (fun q5 H w => ?_)
    have w : kW D A s [(h0, .inr (5, [.ref q1, .ref q3, .null, .null, .null, .null, .null, .null, .null, .null, .null, .null, .null, .int 0, .int 0, .int 0, .int 0])), (q5, .inr (1, [.null, .int 0, .int 0]))] H locs := w
    refine lv_dup hx hb d_Gauge_init_36 rfl ?_
    refine lv_sipush (v := 400) hx hb d_Gauge_init_37 (by decide) ?_
    refine kx_v E w (wc := [(q5, .inr (1, [.null, .int 0, .int 0]))]) (wr := [(h0, .inr (5, [.ref q1, .ref q3, .null, .null, .null, .null, .null, .null, .null, .null, .null, .null, .null, .int 0, .int 0, .int 0, .int 0]))]) [1] [0] rfl rfl ⟨rfl, rfl, by decide⟩ (kx_rI E w hl.1 (As := [.int 400]) (wc := [(q5, .inr (1, [.null, .int 0, .int 0]))]) (c_Big_init_400 l D a q5 H.size) gc_5 gi_Big_init [1] rfl rfl rfl rfl rfl ⟨(Nat.le_of_ble_eq_true rfl), (Nat.le_of_ble_eq_true rfl)⟩ rfl (Nat.le_of_ble_eq_true rfl) d_Gauge_init_40 ⟨(Nat.le_of_ble_eq_true rfl), (Nat.le_of_ble_eq_true rfl)⟩) (fun u H locs hu w => ?_)
    obtain ⟨q6, rfl⟩ := hu
    have w : kW D A s [(h0, .inr (5, [.ref q1, .ref q3, .null, .null, .null, .null, .null, .null, .null, .null, .null, .null, .null, .int 0, .int 0, .int 0, .int 0])), (q5, .inr (1, [.ref q6, .int 0, .int 0])), (q6, .inl (a 0, 400, .inl (fun _ => 0)))] H locs := w
    refine kx_putF E w zC_Gauge hnm 0 rfl 2 (by decide) mw_56 rfl rfl rfl rfl (Nat.le_of_ble_eq_true rfl) d_Gauge_init_43 (ws' := [(h0, .inr (5, [.ref q1, .ref q3, .ref q5, .null, .null, .null, .null, .null, .null, .null, .null, .null, .null, .int 0, .int 0, .int 0, .int 0])), (q5, .inr (1, [.ref q6, .int 0, .int 0])), (q6, .inl (a 0, 400, .inl (fun _ => 0)))]) rfl (fun H locs w => ?_)
    have w := kW_sub w (ws' := [(h0, .inr (5, [.ref q1, .ref q3, .ref q5, .null, .null, .null, .null, .null, .null, .null, .null, .null, .null, .int 0, .int 0, .int 0, .int 0]))]) [0] rfl rfl
    refine lv_aload_n hx hb d_Gauge_init_46 rfl (lv_at hl 0 rfl) ?_
    refine kx_new E w zC_Big mw_52 mw_8 mw_9 (fs := [.null, .int 0, .int 0]) z0_Big (Nat.le_of_ble_eq_true rfl) (Nat.le_of_ble_eq_true rfl) d_Gauge_init_47 (fun q7 H w => ?_)
    have w : kW D A s [(h0, .inr (5, [.ref q1, .ref q3, .ref q5, .null, .null, .null, .null, .null, .null, .null, .null, .null, .null, .int 0, .int 0, .int 0, .int 0])), (q7, .inr (1, [.null, .int 0, .int 0]))] H locs := w
    refine lv_dup hx hb d_Gauge_init_50 rfl ?_
    refine lv_sipush (v := 400) hx hb d_Gauge_init_51 (by decide) ?_
    refine kx_v E w (wc := [(q7, .inr (1, [.null, .int 0, .int 0]))]) (wr := [(h0, .inr (5, [.ref q1, .ref q3, .ref q5, .null, .null, .null, .null, .null, .null, .null, .null, .null, .null, .int 0, .int 0, .int 0, .int 0]))]) [1] [0] rfl rfl ⟨rfl, rfl, by decide⟩ (kx_rI E w hl.1 (As := [.int 400]) (wc := [(q7, .inr (1, [.null, .int 0, .int 0]))]) (c_Big_init_400 l D a q7 H.size) gc_5 gi_Big_init [1] rfl rfl rfl rfl rfl ⟨(Nat.le_of_ble_eq_true rfl), (Nat.le_of_ble_eq_true rfl)⟩ rfl (Nat.le_of_ble_eq_true rfl) d_Gauge_init_54 ⟨(Nat.le_of_ble_eq_true rfl), (Nat.le_of_ble_eq_true rfl)⟩) (fun u H locs hu w => ?_)
    obtain ⟨q8, rfl⟩ := hu
    have w : kW D A s [(h0, .inr (5, [.ref q1, .ref q3, .ref q5, .null, .null, .null, .null, .null, .null, .null, .null, .null, .null, .int 0, .int 0, .int 0, .int 0])), (q7, .inr (1, [.ref q8, .int 0, .int 0])), (q8, .inl (a 0, 400, .inl (fun _ => 0)))] H locs := w
    refine kx_putF E w zC_Gauge hnm 0 rfl 3 (by decide) mw_57 rfl rfl rfl rfl (Nat.le_of_ble_eq_true rfl) d_Gauge_init_57 (ws' := [(h0, .inr (5, [.ref q1, .ref q3, .ref q5, .ref q7, .null, .null, .null, .null, .null, .null, .null, .null, .null, .int 0, .int 0, .int 0, .int 0])), (q7, .inr (1, [.ref q8, .int 0, .int 0])), (q8, .inl (a 0, 400, .inl (fun _ => 0)))]) rfl (fun H locs w => ?_)
    have w := kW_sub w (ws' := [(h0, .inr (5, [.ref q1, .ref q3, .ref q5, .ref q7, .null, .null, .null, .null, .null, .null, .null, .null, .null, .int 0, .int 0, .int 0, .int 0]))]) [0] rfl rfl
    refine lv_aload_n hx hb d_Gauge_init_60 rfl (lv_at hl 0 rfl) ?_
    refine kx_new E w zC_Big mw_52 mw_8 mw_9 (fs := [.null, .int 0, .int 0]) z0_Big (Nat.le_of_ble_eq_true rfl) (Nat.le_of_ble_eq_true rfl) d_Gauge_init_61 (fun q9 H w => ?_)
    have w : kW D A s [(h0, .inr (5, [.ref q1, .ref q3, .ref q5, .ref q7, .null, .null, .null, .null, .null, .null, .null, .null, .null, .int 0, .int 0, .int 0, .int 0])), (q9, .inr (1, [.null, .int 0, .int 0]))] H locs := w
    refine lv_dup hx hb d_Gauge_init_64 rfl ?_
    refine lv_bipush (v := 72) hx hb d_Gauge_init_65 (by decide) ?_
    refine kx_v E w (wc := [(q9, .inr (1, [.null, .int 0, .int 0]))]) (wr := [(h0, .inr (5, [.ref q1, .ref q3, .ref q5, .ref q7, .null, .null, .null, .null, .null, .null, .null, .null, .null, .int 0, .int 0, .int 0, .int 0]))]) [1] [0] rfl rfl ⟨rfl, rfl, by decide⟩ (kx_rI E w hl.1 (As := [.int 72]) (wc := [(q9, .inr (1, [.null, .int 0, .int 0]))]) (c_Big_init_72 l D a q9 H.size) gc_5 gi_Big_init [1] rfl rfl rfl rfl rfl ⟨(Nat.le_of_ble_eq_true rfl), (Nat.le_of_ble_eq_true rfl)⟩ rfl (Nat.le_of_ble_eq_true rfl) d_Gauge_init_67 ⟨(Nat.le_of_ble_eq_true rfl), (Nat.le_of_ble_eq_true rfl)⟩) (fun u H locs hu w => ?_)
    obtain ⟨q10, rfl⟩ := hu
    have w : kW D A s [(h0, .inr (5, [.ref q1, .ref q3, .ref q5, .ref q7, .null, .null, .null, .null, .null, .null, .null, .null, .null, .int 0, .int 0, .int 0, .int 0])), (q9, .inr (1, [.ref q10, .int 0, .int 0])), (q10, .inl (a 0, 72, .inl (fun _ => 0)))] H locs := w
    refine kx_putF E w zC_Gauge hnm 0 rfl 4 (by decide) mw_58 rfl rfl rfl rfl (Nat.le_of_ble_eq_true rfl) d_Gauge_init_70 (ws' := [(h0, .inr (5, [.ref q1, .ref q3, .ref q5, .ref q7, .ref q9, .null, .null, .null, .null, .null, .null, .null, .null, .int 0, .int 0, .int 0, .int 0])), (q9, .inr (1, [.ref q10, .int 0, .int 0])), (q10, .inl (a 0, 72, .inl (fun _ => 0)))]) rfl (fun H locs w => ?_)
    have w := kW_sub w (ws' := [(h0, .inr (5, [.ref q1, .ref q3, .ref q5, .ref q7, .ref q9, .null, .null, .null, .null, .null, .null, .null, .null, .int 0, .int 0, .int 0, .int 0]))]) [0] rfl rfl
    refine lv_aload_n hx hb d_Gauge_init_73 rfl (lv_at hl 0 rfl) ?_
    refine kx_new E w zC_Big mw_52 mw_8 mw_9 (fs := [.null, .int 0, .int 0]) z0_Big (Nat.le_of_ble_eq_true rfl) (Nat.le_of_ble_eq_true rfl) d_Gauge_init_74 (fun q11 H w => ?_)
    have w : kW D A s [(h0, .inr (5, [.ref q1, .ref q3, .ref q5, .ref q7, .ref q9, .null, .null, .null, .null, .null, .null, .null, .null, .int 0, .int 0, .int 0, .int 0])), (q11, .inr (1, [.null, .int 0, .int 0]))] H locs := w
    refine lv_dup hx hb d_Gauge_init_77 rfl ?_
    refine lv_bipush (v := 72) hx hb d_Gauge_init_78 (by decide) ?_
    refine kx_v E w (wc := [(q11, .inr (1, [.null, .int 0, .int 0]))]) (wr := [(h0, .inr (5, [.ref q1, .ref q3, .ref q5, .ref q7, .ref q9, .null, .null, .null, .null, .null, .null, .null, .null, .int 0, .int 0, .int 0, .int 0]))]) [1] [0] rfl rfl ⟨rfl, rfl, by decide⟩ (kx_rI E w hl.1 (As := [.int 72]) (wc := [(q11, .inr (1, [.null, .int 0, .int 0]))]) (c_Big_init_72 l D a q11 H.size) gc_5 gi_Big_init [1] rfl rfl rfl rfl rfl ⟨(Nat.le_of_ble_eq_true rfl), (Nat.le_of_ble_eq_true rfl)⟩ rfl (Nat.le_of_ble_eq_true rfl) d_Gauge_init_80 ⟨(Nat.le_of_ble_eq_true rfl), (Nat.le_of_ble_eq_true rfl)⟩) (fun u H locs hu w => ?_)
    obtain ⟨q12, rfl⟩ := hu
    have w : kW D A s [(h0, .inr (5, [.ref q1, .ref q3, .ref q5, .ref q7, .ref q9, .null, .null, .null, .null, .null, .null, .null, .null, .int 0, .int 0, .int 0, .int 0])), (q11, .inr (1, [.ref q12, .int 0, .int 0])), (q12, .inl (a 0, 72, .inl (fun _ => 0)))] H locs := w
    refine kx_putF E w zC_Gauge hnm 0 rfl 5 (by decide) mw_59 rfl rfl rfl rfl (Nat.le_of_ble_eq_true rfl) d_Gauge_init_83 (ws' := [(h0, .inr (5, [.ref q1, .ref q3, .ref q5, .ref q7, .ref q9, .ref q11, .null, .null, .null, .null, .null, .null, .null, .int 0, .int 0, .int 0, .int 0])), (q11, .inr (1, [.ref q12, .int 0, .int 0])), (q12, .inl (a 0, 72, .inl (fun _ => 0)))]) rfl (fun H locs w => ?_)
    have w := kW_sub w (ws' := [(h0, .inr (5, [.ref q1, .ref q3, .ref q5, .ref q7, .ref q9, .ref q11, .null, .null, .null, .null, .null, .null, .null, .int 0, .int 0, .int 0, .int 0]))]) [0] rfl rfl
    refine lv_aload_n hx hb d_Gauge_init_86 rfl (lv_at hl 0 rfl) ?_
    refine kx_new E w zC_Big mw_52 mw_8 mw_9 (fs := [.null, .int 0, .int 0]) z0_Big (Nat.le_of_ble_eq_true rfl) (Nat.le_of_ble_eq_true rfl) d_Gauge_init_87 (fun q13 H w => ?_)
    have w : kW D A s [(h0, .inr (5, [.ref q1, .ref q3, .ref q5, .ref q7, .ref q9, .ref q11, .null, .null, .null, .null, .null, .null, .null, .int 0, .int 0, .int 0, .int 0])), (q13, .inr (1, [.null, .int 0, .int 0]))] H locs := w
    refine lv_dup hx hb d_Gauge_init_90 rfl ?_
    refine lv_sipush (v := 400) hx hb d_Gauge_init_91 (by decide) ?_
    refine kx_v E w (wc := [(q13, .inr (1, [.null, .int 0, .int 0]))]) (wr := [(h0, .inr (5, [.ref q1, .ref q3, .ref q5, .ref q7, .ref q9, .ref q11, .null, .null, .null, .null, .null, .null, .null, .int 0, .int 0, .int 0, .int 0]))]) [1] [0] rfl rfl ⟨rfl, rfl, by decide⟩ (kx_rI E w hl.1 (As := [.int 400]) (wc := [(q13, .inr (1, [.null, .int 0, .int 0]))]) (c_Big_init_400 l D a q13 H.size) gc_5 gi_Big_init [1] rfl rfl rfl rfl rfl ⟨(Nat.le_of_ble_eq_true rfl), (Nat.le_of_ble_eq_true rfl)⟩ rfl (Nat.le_of_ble_eq_true rfl) d_Gauge_init_94 ⟨(Nat.le_of_ble_eq_true rfl), (Nat.le_of_ble_eq_true rfl)⟩) (fun u H locs hu w => ?_)
    obtain ⟨q14, rfl⟩ := hu
    have w : kW D A s [(h0, .inr (5, [.ref q1, .ref q3, .ref q5, .ref q7, .ref q9, .ref q11, .null, .null, .null, .null, .null, .null, .null, .int 0, .int 0, .int 0, .int 0])), (q13, .inr (1, [.ref q14, .int 0, .int 0])), (q14, .inl (a 0, 400, .inl (fun _ => 0)))] H locs := w
    refine kx_putF E w zC_Gauge hnm 0 rfl 6 (by decide) mw_60 rfl rfl rfl rfl (Nat.le_of_ble_eq_true rfl) d_Gauge_init_97 (ws' := [(h0, .inr (5, [.ref q1, .ref q3, .ref q5, .ref q7, .ref q9, .ref q11, .ref q13, .null, .null, .null, .null, .null, .null, .int 0, .int 0, .int 0, .int 0])), (q13, .inr (1, [.ref q14, .int 0, .int 0])), (q14, .inl (a 0, 400, .inl (fun _ => 0)))]) rfl (fun H locs w => ?_)
    have w := kW_sub w (ws' := [(h0, .inr (5, [.ref q1, .ref q3, .ref q5, .ref q7, .ref q9, .ref q11, .ref q13, .null, .null, .null, .null, .null, .null, .int 0, .int 0, .int 0, .int 0]))]) [0] rfl rfl
    refine lv_aload_n hx hb d_Gauge_init_100 rfl (lv_at hl 0 rfl) ?_
    refine kx_new E w zC_Big mw_52 mw_8 mw_9 (fs := [.null, .int 0, .int 0]) z0_Big (Nat.le_of_ble_eq_true rfl) (Nat.le_of_ble_eq_true rfl) d_Gauge_init_101 (fun q15 H w => ?_)
    have w : kW D A s [(h0, .inr (5, [.ref q1, .ref q3, .ref q5, .ref q7, .ref q9, .ref q11, .ref q13, .null, .null, .null, .null, .null, .null, .int 0, .int 0, .int 0, .int 0])), (q15, .inr (1, [.null, .int 0, .int 0]))] H locs := w
    refine lv_dup hx hb d_Gauge_init_104 rfl ?_
    refine lv_sipush (v := 400) hx hb d_Gauge_init_105 (by decide) ?_
    refine kx_v E w (wc := [(q15, .inr (1, [.null, .int 0, .int 0]))]) (wr := [(h0, .inr (5, [.ref q1, .ref q3, .ref q5, .ref q7, .ref q9, .ref q11, .ref q13, .null, .null, .null, .null, .null, .null, .int 0, .int 0, .int 0, .int 0]))]) [1] [0] rfl rfl ⟨rfl, rfl, by decide⟩ (kx_rI E w hl.1 (As := [.int 400]) (wc := [(q15, .inr (1, [.null, .int 0, .int 0]))]) (c_Big_init_400 l D a q15 H.size) gc_5 gi_Big_init [1] rfl rfl rfl rfl rfl ⟨(Nat.le_of_ble_eq_true rfl), (Nat.le_of_ble_eq_true rfl)⟩ rfl (Nat.le_of_ble_eq_true rfl) d_Gauge_init_108 ⟨(Nat.le_of_ble_eq_true rfl), (Nat.le_of_ble_eq_true rfl)⟩) (fun u H locs hu w => ?_)
    obtain ⟨q16, rfl⟩ := hu
    have w : kW D A s [(h0, .inr (5, [.ref q1, .ref q3, .ref q5, .ref q7, .ref q9, .ref q11, .ref q13, .null, .null, .null, .null, .null, .null, .int 0, .int 0, .int 0, .int 0])), (q15, .inr (1, [.ref q16, .int 0, .int 0])), (q16, .inl (a 0, 400, .inl (fun _ => 0)))] H locs := w
    refine kx_putF E w zC_Gauge hnm 0 rfl 7 (by decide) mw_61 rfl rfl rfl rfl (Nat.le_of_ble_eq_true rfl) d_Gauge_init_111 (ws' := [(h0, .inr (5, [.ref q1, .ref q3, .ref q5, .ref q7, .ref q9, .ref q11, .ref q13, .ref q15, .null, .null, .null, .null, .null, .int 0, .int 0, .int 0, .int 0])), (q15, .inr (1, [.ref q16, .int 0, .int 0])), (q16, .inl (a 0, 400, .inl (fun _ => 0)))]) rfl (fun H locs w => ?_)
    have w := kW_sub w (ws' := [(h0, .inr (5, [.ref q1, .ref q3, .ref q5, .ref q7, .ref q9, .ref q11, .ref q13, .ref q15, .null, .null, .null, .null, .null, .int 0, .int 0, .int 0, .int 0]))]) [0] rfl rfl
    refine lv_aload_n hx hb d_Gauge_init_114 rfl (lv_at hl 0 rfl) ?_
    refine kx_new E w zC_Big mw_52 mw_8 mw_9 (fs := [.null, .int 0, .int 0]) z0_Big (Nat.le_of_ble_eq_true rfl) (Nat.le_of_ble_eq_true rfl) d_Gauge_init_115 (fun q17 H w => ?_)
    have w : kW D A s [(h0, .inr (5, [.ref q1, .ref q3, .ref q5, .ref q7, .ref q9, .ref q11, .ref q13, .ref q15, .null, .null, .null, .null, .null, .int 0, .int 0, .int 0, .int 0])), (q17, .inr (1, [.null, .int 0, .int 0]))] H locs := w
    refine lv_dup hx hb d_Gauge_init_118 rfl ?_
    refine lv_bipush (v := 72) hx hb d_Gauge_init_119 (by decide) ?_
    refine kx_v E w (wc := [(q17, .inr (1, [.null, .int 0, .int 0]))]) (wr := [(h0, .inr (5, [.ref q1, .ref q3, .ref q5, .ref q7, .ref q9, .ref q11, .ref q13, .ref q15, .null, .null, .null, .null, .null, .int 0, .int 0, .int 0, .int 0]))]) [1] [0] rfl rfl ⟨rfl, rfl, by decide⟩ (kx_rI E w hl.1 (As := [.int 72]) (wc := [(q17, .inr (1, [.null, .int 0, .int 0]))]) (c_Big_init_72 l D a q17 H.size) gc_5 gi_Big_init [1] rfl rfl rfl rfl rfl ⟨(Nat.le_of_ble_eq_true rfl), (Nat.le_of_ble_eq_true rfl)⟩ rfl (Nat.le_of_ble_eq_true rfl) d_Gauge_init_121 ⟨(Nat.le_of_ble_eq_true rfl), (Nat.le_of_ble_eq_true rfl)⟩) (fun u H locs hu w => ?_)
    obtain ⟨q18, rfl⟩ := hu
    have w : kW D A s [(h0, .inr (5, [.ref q1, .ref q3, .ref q5, .ref q7, .ref q9, .ref q11, .ref q13, .ref q15, .null, .null, .null, .null, .null, .int 0, .int 0, .int 0, .int 0])), (q17, .inr (1, [.ref q18, .int 0, .int 0])), (q18, .inl (a 0, 72, .inl (fun _ => 0)))] H locs := w
    refine kx_putF E w zC_Gauge hnm 0 rfl 8 (by decide) mw_62 rfl rfl rfl rfl (Nat.le_of_ble_eq_true rfl) d_Gauge_init_124 (ws' := [(h0, .inr (5, [.ref q1, .ref q3, .ref q5, .ref q7, .ref q9, .ref q11, .ref q13, .ref q15, .ref q17, .null, .null, .null, .null, .int 0, .int 0, .int 0, .int 0])), (q17, .inr (1, [.ref q18, .int 0, .int 0])), (q18, .inl (a 0, 72, .inl (fun _ => 0)))]) rfl (fun H locs w => ?_)
    have w := kW_sub w (ws' := [(h0, .inr (5, [.ref q1, .ref q3, .ref q5, .ref q7, .ref q9, .ref q11, .ref q13, .ref q15, .ref q17, .null, .null, .null, .null, .int 0, .int 0, .int 0, .int 0]))]) [0] rfl rfl
    refine lv_aload_n hx hb d_Gauge_init_127 rfl (lv_at hl 0 rfl) ?_
    refine kx_new E w zC_Big mw_52 mw_8 mw_9 (fs := [.null, .int 0, .int 0]) z0_Big (Nat.le_of_ble_eq_true rfl) (Nat.le_of_ble_eq_true rfl) d_Gauge_init_128 (fun q19 H w => ?_)
    have w : kW D A s [(h0, .inr (5, [.ref q1, .ref q3, .ref q5, .ref q7, .ref q9, .ref q11, .ref q13, .ref q15, .ref q17, .null, .null, .null, .null, .int 0, .int 0, .int 0, .int 0])), (q19, .inr (1, [.null, .int 0, .int 0]))] H locs := w
    refine lv_dup hx hb d_Gauge_init_131 rfl ?_
    refine lv_bipush (v := 72) hx hb d_Gauge_init_132 (by decide) ?_
    refine kx_v E w (wc := [(q19, .inr (1, [.null, .int 0, .int 0]))]) (wr := [(h0, .inr (5, [.ref q1, .ref q3, .ref q5, .ref q7, .ref q9, .ref q11, .ref q13, .ref q15, .ref q17, .null, .null, .null, .null, .int 0, .int 0, .int 0, .int 0]))]) [1] [0] rfl rfl ⟨rfl, rfl, by decide⟩ (kx_rI E w hl.1 (As := [.int 72]) (wc := [(q19, .inr (1, [.null, .int 0, .int 0]))]) (c_Big_init_72 l D a q19 H.size) gc_5 gi_Big_init [1] rfl rfl rfl rfl rfl ⟨(Nat.le_of_ble_eq_true rfl), (Nat.le_of_ble_eq_true rfl)⟩ rfl (Nat.le_of_ble_eq_true rfl) d_Gauge_init_134 ⟨(Nat.le_of_ble_eq_true rfl), (Nat.le_of_ble_eq_true rfl)⟩) (fun u H locs hu w => ?_)
    obtain ⟨q20, rfl⟩ := hu
    have w : kW D A s [(h0, .inr (5, [.ref q1, .ref q3, .ref q5, .ref q7, .ref q9, .ref q11, .ref q13, .ref q15, .ref q17, .null, .null, .null, .null, .int 0, .int 0, .int 0, .int 0])), (q19, .inr (1, [.ref q20, .int 0, .int 0])), (q20, .inl (a 0, 72, .inl (fun _ => 0)))] H locs := w
    refine kx_putF E w zC_Gauge hnm 0 rfl 9 (by decide) mw_63 rfl rfl rfl rfl (Nat.le_of_ble_eq_true rfl) d_Gauge_init_137 (ws' := [(h0, .inr (5, [.ref q1, .ref q3, .ref q5, .ref q7, .ref q9, .ref q11, .ref q13, .ref q15, .ref q17, .ref q19, .null, .null, .null, .int 0, .int 0, .int 0, .int 0])), (q19, .inr (1, [.ref q20, .int 0, .int 0])), (q20, .inl (a 0, 72, .inl (fun _ => 0)))]) rfl (fun H locs w => ?_)
    refine lv_aload_n hx hb d_Gauge_init_140 rfl (lv_at hl 0 rfl) ?_
    refine kx_new E w zC_Big mw_52 mw_8 mw_9 (fs := [.null, .int 0, .int 0]) z0_Big (Nat.le_of_ble_eq_true rfl) (Nat.le_of_ble_eq_true rfl) d_Gauge_init_141 (fun q21 H w => ?_)
    have w : kW D A s [(h0, .inr (5, [.ref q1, .ref q3, .ref q5, .ref q7, .ref q9, .ref q11, .ref q13, .ref q15, .ref q17, .ref q19, .null, .null, .null, .int 0, .int 0, .int 0, .int 0])), (q19, .inr (1, [.ref q20, .int 0, .int 0])), (q20, .inl (a 0, 72, .inl (fun _ => 0))), (q21, .inr (1, [.null, .int 0, .int 0]))] H locs := w
    refine lv_dup hx hb d_Gauge_init_144 rfl ?_
    refine lv_bipush (v := 72) hx hb d_Gauge_init_145 (by decide) ?_
    refine kx_v E w (wc := [(q21, .inr (1, [.null, .int 0, .int 0]))]) (wr := [(h0, .inr (5, [.ref q1, .ref q3, .ref q5, .ref q7, .ref q9, .ref q11, .ref q13, .ref q15, .ref q17, .ref q19, .null, .null, .null, .int 0, .int 0, .int 0, .int 0])), (q19, .inr (1, [.ref q20, .int 0, .int 0])), (q20, .inl (a 0, 72, .inl (fun _ => 0)))]) [3] [0, 1, 2] rfl rfl ⟨rfl, rfl, by decide⟩ (kx_rI E w hl.1 (As := [.int 72]) (wc := [(q21, .inr (1, [.null, .int 0, .int 0]))]) (c_Big_init_72 l D a q21 H.size) gc_5 gi_Big_init [3] rfl rfl rfl rfl rfl ⟨(Nat.le_of_ble_eq_true rfl), (Nat.le_of_ble_eq_true rfl)⟩ rfl (Nat.le_of_ble_eq_true rfl) d_Gauge_init_147 ⟨(Nat.le_of_ble_eq_true rfl), (Nat.le_of_ble_eq_true rfl)⟩) (fun u H locs hu w => ?_)
    obtain ⟨q22, rfl⟩ := hu
    have w : kW D A s [(h0, .inr (5, [.ref q1, .ref q3, .ref q5, .ref q7, .ref q9, .ref q11, .ref q13, .ref q15, .ref q17, .ref q19, .null, .null, .null, .int 0, .int 0, .int 0, .int 0])), (q19, .inr (1, [.ref q20, .int 0, .int 0])), (q20, .inl (a 0, 72, .inl (fun _ => 0))), (q21, .inr (1, [.ref q22, .int 0, .int 0])), (q22, .inl (a 0, 72, .inl (fun _ => 0)))] H locs := w
    refine kx_putF E w zC_Gauge hnm 0 rfl 10 (by decide) mw_64 rfl rfl rfl rfl (Nat.le_of_ble_eq_true rfl) d_Gauge_init_150 (ws' := [(h0, .inr (5, [.ref q1, .ref q3, .ref q5, .ref q7, .ref q9, .ref q11, .ref q13, .ref q15, .ref q17, .ref q19, .ref q21, .null, .null, .int 0, .int 0, .int 0, .int 0])), (q19, .inr (1, [.ref q20, .int 0, .int 0])), (q20, .inl (a 0, 72, .inl (fun _ => 0))), (q21, .inr (1, [.ref q22, .int 0, .int 0])), (q22, .inl (a 0, 72, .inl (fun _ => 0)))]) rfl (fun H locs w => ?_)
    have w := kW_sub w (ws' := [(h0, .inr (5, [.ref q1, .ref q3, .ref q5, .ref q7, .ref q9, .ref q11, .ref q13, .ref q15, .ref q17, .ref q19, .ref q21, .null, .null, .int 0, .int 0, .int 0, .int 0])), (q19, .inr (1, [.ref q20, .int 0, .int 0])), (q20, .inl (a 0, 72, .inl (fun _ => 0)))]) [0, 1, 2] rfl rfl
    refine W.widen (k := 22) (n := 2793) (Nat.le_of_ble_eq_true rfl) (Nat.le_of_ble_eq_true rfl) ?_
    exact kx_vret E w hr hlk d_Gauge_init_153 ⟨q1, q3, q5, q7, q9, q11, q13, q15, q17, q19, q21, q20, rfl⟩)
end
section
/-! laid by program (wip/gen) -/
set_option maxRecDepth 100000 in
set_option maxHeartbeats 4000000 in
theorem c_Sums_init (l : Launch) (D : va_G) (a : Nat → ClassId) (h0 : Nat) : ∀ sz : Nat, Met l y_Sums_init (Cond.code y_Sums_init b_Sums_init 2 none :: wA) ({ frames := 2, cells := 83, slots := 1307, locals := 41 } : Room) (va_Pc [.ref h0] (kP D a [(h0, .inr (10, [.null, .null, .null, .null]))] sz)) (va_Qv (fun u : va_W => ∃ q1 : Nat, ∃ q2 : Nat, ∃ q3 : Nat, ∃ q4 : Nat, u = [(h0, .inr (10, [.ref q1, .ref q2, .ref q3, .ref q4]))]) (kB D a (va_A [(h0, .inr (10, [.null, .null, .null, .null]))] sz)) (va_A [(h0, .inr (10, [.null, .null, .null, .null]))] sz)) 83 1307 (va_A [(h0, .inr (10, [.null, .null, .null, .null]))] sz) :=
  kM (Qc := fun A => va_Qv (fun u : va_W => ∃ q1 : Nat, ∃ q2 : Nat, ∃ q3 : Nat, ∃ q4 : Nat, u = [(h0, .inr (10, [.ref q1, .ref q2, .ref q3, .ref q4]))]) (kB D a A) A) (by decide) (Nat.le_of_ble_eq_true rfl) (by
    intro p e s m below meth c A ls H locs E hr hlk hnm w hl
    have hx := E.1.1
    have hb := E.1.2.1
    have E : kE p m c b_Sums_init 2 s [.ref h0].toArray "RootAlgebra$Sums" D a A := E
    have hl : lv_has ls 2 [(0, .ref h0)] := hl
    have hnm : meth.name = "<init>" := hnm
    refine lv_aload_n hx hb d_Sums_init_0 rfl (lv_at hl 0 rfl) ?_
    refine kx_obj E hl.1 mw_65 mw_1 mw_2 d_Sums_init_1 (Nat.le_of_ble_eq_true rfl) (Nat.le_of_ble_eq_true rfl) (Nat.le_of_ble_eq_true rfl) ?_
    refine lv_aload_n hx hb d_Sums_init_4 rfl (lv_at hl 0 rfl) ?_
    refine lv_bipush (v := 13) hx hb d_Sums_init_5 (by decide) ?_
    refine kx_newq E w mw_66 E.2.1.2.1 4 rfl (N' := 13) (by decide) (by decide) (by decide) (Nat.le_of_ble_eq_true rfl) (Nat.le_of_ble_eq_true rfl) d_Sums_init_7 (fun q1 H w => ?_)
    have w : kW D A s [(h0, .inr (10, [.null, .null, .null, .null])), (q1, .inl (a 4, 13, .inr (.inr (.inr (.inr (fun _ => none))))))] H locs := w
    refine kx_putF E w zC_Sums hnm 0 rfl 0 (by decide) mw_67 rfl rfl rfl rfl (Nat.le_of_ble_eq_true rfl) d_Sums_init_10 (ws' := [(h0, .inr (10, [.ref q1, .null, .null, .null])), (q1, .inl (a 4, 13, .inr (.inr (.inr (.inr (fun _ => none))))))]) rfl (fun H locs w => ?_)
    refine lv_aload_n hx hb d_Sums_init_13 rfl (lv_at hl 0 rfl) ?_
    refine lv_bipush (v := 13) hx hb d_Sums_init_14 (by decide) ?_
    refine kx_newq E w mw_66 E.2.1.2.1 4 rfl (N' := 13) (by decide) (by decide) (by decide) (Nat.le_of_ble_eq_true rfl) (Nat.le_of_ble_eq_true rfl) d_Sums_init_16 (fun q2 H w => ?_)
    have w : kW D A s [(h0, .inr (10, [.ref q1, .null, .null, .null])), (q1, .inl (a 4, 13, .inr (.inr (.inr (.inr (fun _ => none)))))), (q2, .inl (a 4, 13, .inr (.inr (.inr (.inr (fun _ => none))))))] H locs := w
    refine kx_putF E w zC_Sums hnm 0 rfl 1 (by decide) mw_68 rfl rfl rfl rfl (Nat.le_of_ble_eq_true rfl) d_Sums_init_19 (ws' := [(h0, .inr (10, [.ref q1, .ref q2, .null, .null])), (q1, .inl (a 4, 13, .inr (.inr (.inr (.inr (fun _ => none)))))), (q2, .inl (a 4, 13, .inr (.inr (.inr (.inr (fun _ => none))))))]) rfl (fun H locs w => ?_)
    refine lv_aload_n hx hb d_Sums_init_22 rfl (lv_at hl 0 rfl) ?_
    refine lv_bipush (v := 13) hx hb d_Sums_init_23 (by decide) ?_
    refine kx_newq E w mw_66 E.2.1.2.1 4 rfl (N' := 13) (by decide) (by decide) (by decide) (Nat.le_of_ble_eq_true rfl) (Nat.le_of_ble_eq_true rfl) d_Sums_init_25 (fun q3 H w => ?_)
    have w : kW D A s [(h0, .inr (10, [.ref q1, .ref q2, .null, .null])), (q1, .inl (a 4, 13, .inr (.inr (.inr (.inr (fun _ => none)))))), (q2, .inl (a 4, 13, .inr (.inr (.inr (.inr (fun _ => none)))))), (q3, .inl (a 4, 13, .inr (.inr (.inr (.inr (fun _ => none))))))] H locs := w
    refine kx_putF E w zC_Sums hnm 0 rfl 2 (by decide) mw_69 rfl rfl rfl rfl (Nat.le_of_ble_eq_true rfl) d_Sums_init_28 (ws' := [(h0, .inr (10, [.ref q1, .ref q2, .ref q3, .null])), (q1, .inl (a 4, 13, .inr (.inr (.inr (.inr (fun _ => none)))))), (q2, .inl (a 4, 13, .inr (.inr (.inr (.inr (fun _ => none)))))), (q3, .inl (a 4, 13, .inr (.inr (.inr (.inr (fun _ => none))))))]) rfl (fun H locs w => ?_)
    refine lv_iconst (v := 0) hx hb d_Sums_init_31 (by decide) ?_
    refine lv_istore_n (lv' := [(1, .int 0), (0, .ref h0)]) hx hb d_Sums_init_32 rfl hl (by decide) rfl (fun ls hl => ?_)
    refine W.widen (k := 3 + 6 * 0) (n := 39 + 93 * 0) (Nat.le_of_ble_eq_true rfl) (Nat.le_of_ble_eq_true rfl) ?_
    have loop : ∀ (n i : Nat), i + n = 13 → ∀ (f0 : Nat → Option Nat) (f1 : Nat → Option Nat) (f2 : Nat → Option Nat) (H : Heap) (locs : List Loc) (ls : Array Slot), kW D A s [(h0, .inr (10, [.ref q1, .ref q2, .ref q3, .null])), (q1, .inl (a 4, 13, .inr (.inr (.inr (.inr f0))))), (q2, .inl (a 4, 13, .inr (.inr (.inr (.inr f1))))), (q3, .inl (a 4, 13, .inr (.inr (.inr (.inr f2)))))] H locs → lv_has ls 2 [(0, .ref h0), (1, .int (nI i))] → W p l e ({ frames := 2, cells := 83, slots := 1307, locals := 41 } : Room) s m [.ref h0].toArray below meth c H locs (3 + 6 * i) (39 + 93 * i) (MQ below (va_Qv (fun u : va_W => ∃ q1 : Nat, ∃ q2 : Nat, ∃ q3 : Nat, ∃ q4 : Nat, u = [(h0, .inr (10, [.ref q1, .ref q2, .ref q3, .ref q4]))]) (kB D a A) A) [.ref h0].toArray s 83 1307 A) (F0 m 33 ls [])  := by
      intro n
      induction n with
      | zero =>
        intro i hi f0 f1 f2 H locs ls w hl
        obtain rfl : i = 13 := by omega
        have hl : lv_has ls 2 [(0, .ref h0), (1, .int 13)] := hl
        refine lv_iload_n hx hb d_Sums_init_33 rfl (lv_at hl 1 rfl) ?_
        refine lv_bipush (v := 12) hx hb d_Sums_init_34 (by decide) ?_
        refine lv_icmp_gt (tgt := 90) hx hb d_Sums_init_36 (by decide) (fun _ => ?_) (fun h => absurd (by decide) h)
        refine lv_aload_n hx hb d_Sums_init_90 rfl (lv_at hl 0 rfl) ?_
        refine kx_new E w zC_Big mw_66 mw_8 mw_9 (fs := [.null, .int 0, .int 0]) z0_Big (Nat.le_of_ble_eq_true rfl) (Nat.le_of_ble_eq_true rfl) d_Sums_init_91 (fun q4 H w => ?_)
        have w : kW D A s [(h0, .inr (10, [.ref q1, .ref q2, .ref q3, .null])), (q1, .inl (a 4, 13, .inr (.inr (.inr (.inr f0))))), (q2, .inl (a 4, 13, .inr (.inr (.inr (.inr f1))))), (q3, .inl (a 4, 13, .inr (.inr (.inr (.inr f2))))), (q4, .inr (1, [.null, .int 0, .int 0]))] H locs := w
        refine lv_dup hx hb d_Sums_init_94 rfl ?_
        refine lv_bipush (v := 56) hx hb d_Sums_init_95 (by decide) ?_
        refine kx_v E w (wc := [(q4, .inr (1, [.null, .int 0, .int 0]))]) (wr := [(h0, .inr (10, [.ref q1, .ref q2, .ref q3, .null])), (q1, .inl (a 4, 13, .inr (.inr (.inr (.inr f0))))), (q2, .inl (a 4, 13, .inr (.inr (.inr (.inr f1))))), (q3, .inl (a 4, 13, .inr (.inr (.inr (.inr f2)))))]) [4] [0, 1, 2, 3] rfl rfl ⟨rfl, rfl, by decide⟩ (kx_rI E w hl.1 (As := [.int 56]) (wc := [(q4, .inr (1, [.null, .int 0, .int 0]))]) (c_Big_init_56 l D a q4 H.size) gc_6 gi_Big_init [4] rfl rfl rfl rfl rfl ⟨(Nat.le_of_ble_eq_true rfl), (Nat.le_of_ble_eq_true rfl)⟩ rfl (Nat.le_of_ble_eq_true rfl) d_Sums_init_97 ⟨(Nat.le_of_ble_eq_true rfl), (Nat.le_of_ble_eq_true rfl)⟩) (fun u H locs hu w => ?_)
        obtain ⟨q5, rfl⟩ := hu
        have w : kW D A s [(h0, .inr (10, [.ref q1, .ref q2, .ref q3, .null])), (q1, .inl (a 4, 13, .inr (.inr (.inr (.inr f0))))), (q2, .inl (a 4, 13, .inr (.inr (.inr (.inr f1))))), (q3, .inl (a 4, 13, .inr (.inr (.inr (.inr f2))))), (q4, .inr (1, [.ref q5, .int 0, .int 0])), (q5, .inl (a 0, 56, .inl (fun _ => 0)))] H locs := w
        refine kx_putF E w zC_Sums hnm 0 rfl 3 (by decide) mw_71 rfl rfl rfl rfl (Nat.le_of_ble_eq_true rfl) d_Sums_init_100 (ws' := [(h0, .inr (10, [.ref q1, .ref q2, .ref q3, .ref q4])), (q1, .inl (a 4, 13, .inr (.inr (.inr (.inr f0))))), (q2, .inl (a 4, 13, .inr (.inr (.inr (.inr f1))))), (q3, .inl (a 4, 13, .inr (.inr (.inr (.inr f2))))), (q4, .inr (1, [.ref q5, .int 0, .int 0])), (q5, .inl (a 0, 56, .inl (fun _ => 0)))]) rfl (fun H locs w => ?_)
        have w := kW_sub w (ws' := [(h0, .inr (10, [.ref q1, .ref q2, .ref q3, .ref q4]))]) [0] rfl rfl
        refine W.widen (k := 83) (n := 1307) (Nat.le_of_ble_eq_true rfl) (Nat.le_of_ble_eq_true rfl) ?_
        exact kx_vret E w hr hlk d_Sums_init_103 ⟨q1, q2, q3, q4, rfl⟩
      | succ n ih =>
        intro i hi f0 f1 f2 H locs ls w hl
        refine lv_iload_n hx hb d_Sums_init_33 rfl (lv_at hl 1 rfl) ?_
        refine lv_bipush (v := 12) hx hb d_Sums_init_34 (by decide) ?_
        refine lv_icmp_gt (tgt := 90) hx hb d_Sums_init_36 (by decide) (fun h => absurd h (nI_nlt (a := 12) (b := i) (by omega) (by omega))) (fun _ => ?_)
        refine lv_aload_n hx hb d_Sums_init_39 rfl (lv_at hl 0 rfl) ?_
        refine kx_get E w zC_Sums 0 rfl 0 (by decide) mw_67 rfl d_Sums_init_40 ?_
        refine lv_iload_n hx hb d_Sums_init_43 rfl (lv_at hl 1 rfl) ?_
        refine kx_new E w zC_Big mw_66 mw_8 mw_9 (fs := [.null, .int 0, .int 0]) z0_Big (show 3 + 6 * i + 1 ≤ 83 from by omega) (show 39 + 93 * i + 3 ≤ 1307 from by omega) d_Sums_init_44 (fun q6 H w => ?_)
        have w : kW D A s [(h0, .inr (10, [.ref q1, .ref q2, .ref q3, .null])), (q1, .inl (a 4, 13, .inr (.inr (.inr (.inr f0))))), (q2, .inl (a 4, 13, .inr (.inr (.inr (.inr f1))))), (q3, .inl (a 4, 13, .inr (.inr (.inr (.inr f2))))), (q6, .inr (1, [.null, .int 0, .int 0]))] H locs := w
        refine lv_dup hx hb d_Sums_init_47 rfl ?_
        refine lv_bipush (v := 28) hx hb d_Sums_init_48 (by decide) ?_
        refine kx_v E w (wc := [(q6, .inr (1, [.null, .int 0, .int 0]))]) (wr := [(h0, .inr (10, [.ref q1, .ref q2, .ref q3, .null])), (q1, .inl (a 4, 13, .inr (.inr (.inr (.inr f0))))), (q2, .inl (a 4, 13, .inr (.inr (.inr (.inr f1))))), (q3, .inl (a 4, 13, .inr (.inr (.inr (.inr f2)))))]) [4] [0, 1, 2, 3] rfl rfl ⟨rfl, rfl, by decide⟩ (kx_rI E w hl.1 (As := [.int 28]) (wc := [(q6, .inr (1, [.null, .int 0, .int 0]))]) (c_Big_init_28 l D a q6 H.size) gc_6 gi_Big_init [4] rfl rfl rfl rfl rfl ⟨(Nat.le_of_ble_eq_true rfl), (Nat.le_of_ble_eq_true rfl)⟩ rfl (Nat.le_of_ble_eq_true rfl) d_Sums_init_50 ⟨(show 3 + 6 * i + 1 + 1 ≤ 83 from by omega), (show 39 + 93 * i + 3 + 28 ≤ 1307 from by omega)⟩) (fun u H locs hu w => ?_)
        obtain ⟨q7, rfl⟩ := hu
        have w : kW D A s [(h0, .inr (10, [.ref q1, .ref q2, .ref q3, .null])), (q1, .inl (a 4, 13, .inr (.inr (.inr (.inr f0))))), (q2, .inl (a 4, 13, .inr (.inr (.inr (.inr f1))))), (q3, .inl (a 4, 13, .inr (.inr (.inr (.inr f2))))), (q6, .inr (1, [.ref q7, .int 0, .int 0])), (q7, .inl (a 0, 28, .inl (fun _ => 0)))] H locs := w
        refine kx_aast E w 1 4 4 1 rfl rfl rfl rfl (vp_in_nI (by omega) (by omega)) i (nI_clamp (by omega)) d_Sums_init_53 (ws' := [(h0, .inr (10, [.ref q1, .ref q2, .ref q3, .null])), (q1, .inl (a 4, 13, .inr (.inr (.inr (.inr (va_up f0 i (some q6))))))), (q2, .inl (a 4, 13, .inr (.inr (.inr (.inr f1))))), (q3, .inl (a 4, 13, .inr (.inr (.inr (.inr f2))))), (q6, .inr (1, [.ref q7, .int 0, .int 0])), (q7, .inl (a 0, 28, .inl (fun _ => 0)))]) rfl (fun H locs w => ?_)
        refine lv_aload_n hx hb d_Sums_init_54 rfl (lv_at hl 0 rfl) ?_
        refine kx_get E w zC_Sums 0 rfl 1 (by decide) mw_68 rfl d_Sums_init_55 ?_
        refine lv_iload_n hx hb d_Sums_init_58 rfl (lv_at hl 1 rfl) ?_
        refine kx_new E w zC_Big mw_66 mw_8 mw_9 (fs := [.null, .int 0, .int 0]) z0_Big (show 3 + 6 * i + 1 + 1 + 1 ≤ 83 from by omega) (show 39 + 93 * i + 3 + 28 + 3 ≤ 1307 from by omega) d_Sums_init_59 (fun q8 H w => ?_)
        have w : kW D A s [(h0, .inr (10, [.ref q1, .ref q2, .ref q3, .null])), (q1, .inl (a 4, 13, .inr (.inr (.inr (.inr (va_up f0 i (some q6))))))), (q2, .inl (a 4, 13, .inr (.inr (.inr (.inr f1))))), (q3, .inl (a 4, 13, .inr (.inr (.inr (.inr f2))))), (q6, .inr (1, [.ref q7, .int 0, .int 0])), (q7, .inl (a 0, 28, .inl (fun _ => 0))), (q8, .inr (1, [.null, .int 0, .int 0]))] H locs := w
        refine lv_dup hx hb d_Sums_init_62 rfl ?_
        refine lv_bipush (v := 28) hx hb d_Sums_init_63 (by decide) ?_
        refine kx_v E w (wc := [(q8, .inr (1, [.null, .int 0, .int 0]))]) (wr := [(h0, .inr (10, [.ref q1, .ref q2, .ref q3, .null])), (q1, .inl (a 4, 13, .inr (.inr (.inr (.inr (va_up f0 i (some q6))))))), (q2, .inl (a 4, 13, .inr (.inr (.inr (.inr f1))))), (q3, .inl (a 4, 13, .inr (.inr (.inr (.inr f2))))), (q6, .inr (1, [.ref q7, .int 0, .int 0])), (q7, .inl (a 0, 28, .inl (fun _ => 0)))]) [6] [0, 1, 2, 3, 4, 5] rfl rfl ⟨rfl, rfl, by decide⟩ (kx_rI E w hl.1 (As := [.int 28]) (wc := [(q8, .inr (1, [.null, .int 0, .int 0]))]) (c_Big_init_28 l D a q8 H.size) gc_6 gi_Big_init [6] rfl rfl rfl rfl rfl ⟨(Nat.le_of_ble_eq_true rfl), (Nat.le_of_ble_eq_true rfl)⟩ rfl (Nat.le_of_ble_eq_true rfl) d_Sums_init_65 ⟨(show 3 + 6 * i + 1 + 1 + 1 + 1 ≤ 83 from by omega), (show 39 + 93 * i + 3 + 28 + 3 + 28 ≤ 1307 from by omega)⟩) (fun u H locs hu w => ?_)
        obtain ⟨q9, rfl⟩ := hu
        have w : kW D A s [(h0, .inr (10, [.ref q1, .ref q2, .ref q3, .null])), (q1, .inl (a 4, 13, .inr (.inr (.inr (.inr (va_up f0 i (some q6))))))), (q2, .inl (a 4, 13, .inr (.inr (.inr (.inr f1))))), (q3, .inl (a 4, 13, .inr (.inr (.inr (.inr f2))))), (q6, .inr (1, [.ref q7, .int 0, .int 0])), (q7, .inl (a 0, 28, .inl (fun _ => 0))), (q8, .inr (1, [.ref q9, .int 0, .int 0])), (q9, .inl (a 0, 28, .inl (fun _ => 0)))] H locs := w
        refine kx_aast E w 2 4 6 1 rfl rfl rfl rfl (vp_in_nI (by omega) (by omega)) i (nI_clamp (by omega)) d_Sums_init_68 (ws' := [(h0, .inr (10, [.ref q1, .ref q2, .ref q3, .null])), (q1, .inl (a 4, 13, .inr (.inr (.inr (.inr (va_up f0 i (some q6))))))), (q2, .inl (a 4, 13, .inr (.inr (.inr (.inr (va_up f1 i (some q8))))))), (q3, .inl (a 4, 13, .inr (.inr (.inr (.inr f2))))), (q6, .inr (1, [.ref q7, .int 0, .int 0])), (q7, .inl (a 0, 28, .inl (fun _ => 0))), (q8, .inr (1, [.ref q9, .int 0, .int 0])), (q9, .inl (a 0, 28, .inl (fun _ => 0)))]) rfl (fun H locs w => ?_)
        refine lv_aload_n hx hb d_Sums_init_69 rfl (lv_at hl 0 rfl) ?_
        refine kx_get E w zC_Sums 0 rfl 2 (by decide) mw_69 rfl d_Sums_init_70 ?_
        refine lv_iload_n hx hb d_Sums_init_73 rfl (lv_at hl 1 rfl) ?_
        refine kx_new E w zC_Big mw_66 mw_8 mw_9 (fs := [.null, .int 0, .int 0]) z0_Big (show 3 + 6 * i + 1 + 1 + 1 + 1 + 1 ≤ 83 from by omega) (show 39 + 93 * i + 3 + 28 + 3 + 28 + 3 ≤ 1307 from by omega) d_Sums_init_74 (fun q10 H w => ?_)
        have w : kW D A s [(h0, .inr (10, [.ref q1, .ref q2, .ref q3, .null])), (q1, .inl (a 4, 13, .inr (.inr (.inr (.inr (va_up f0 i (some q6))))))), (q2, .inl (a 4, 13, .inr (.inr (.inr (.inr (va_up f1 i (some q8))))))), (q3, .inl (a 4, 13, .inr (.inr (.inr (.inr f2))))), (q6, .inr (1, [.ref q7, .int 0, .int 0])), (q7, .inl (a 0, 28, .inl (fun _ => 0))), (q8, .inr (1, [.ref q9, .int 0, .int 0])), (q9, .inl (a 0, 28, .inl (fun _ => 0))), (q10, .inr (1, [.null, .int 0, .int 0]))] H locs := w
        refine lv_dup hx hb d_Sums_init_77 rfl ?_
        refine lv_bipush (v := 28) hx hb d_Sums_init_78 (by decide) ?_
        refine kx_v E w (wc := [(q10, .inr (1, [.null, .int 0, .int 0]))]) (wr := [(h0, .inr (10, [.ref q1, .ref q2, .ref q3, .null])), (q1, .inl (a 4, 13, .inr (.inr (.inr (.inr (va_up f0 i (some q6))))))), (q2, .inl (a 4, 13, .inr (.inr (.inr (.inr (va_up f1 i (some q8))))))), (q3, .inl (a 4, 13, .inr (.inr (.inr (.inr f2))))), (q6, .inr (1, [.ref q7, .int 0, .int 0])), (q7, .inl (a 0, 28, .inl (fun _ => 0))), (q8, .inr (1, [.ref q9, .int 0, .int 0])), (q9, .inl (a 0, 28, .inl (fun _ => 0)))]) [8] [0, 1, 2, 3, 4, 5, 6, 7] rfl rfl ⟨rfl, rfl, by decide⟩ (kx_rI E w hl.1 (As := [.int 28]) (wc := [(q10, .inr (1, [.null, .int 0, .int 0]))]) (c_Big_init_28 l D a q10 H.size) gc_6 gi_Big_init [8] rfl rfl rfl rfl rfl ⟨(Nat.le_of_ble_eq_true rfl), (Nat.le_of_ble_eq_true rfl)⟩ rfl (Nat.le_of_ble_eq_true rfl) d_Sums_init_80 ⟨(show 3 + 6 * i + 1 + 1 + 1 + 1 + 1 + 1 ≤ 83 from by omega), (show 39 + 93 * i + 3 + 28 + 3 + 28 + 3 + 28 ≤ 1307 from by omega)⟩) (fun u H locs hu w => ?_)
        obtain ⟨q11, rfl⟩ := hu
        have w : kW D A s [(h0, .inr (10, [.ref q1, .ref q2, .ref q3, .null])), (q1, .inl (a 4, 13, .inr (.inr (.inr (.inr (va_up f0 i (some q6))))))), (q2, .inl (a 4, 13, .inr (.inr (.inr (.inr (va_up f1 i (some q8))))))), (q3, .inl (a 4, 13, .inr (.inr (.inr (.inr f2))))), (q6, .inr (1, [.ref q7, .int 0, .int 0])), (q7, .inl (a 0, 28, .inl (fun _ => 0))), (q8, .inr (1, [.ref q9, .int 0, .int 0])), (q9, .inl (a 0, 28, .inl (fun _ => 0))), (q10, .inr (1, [.ref q11, .int 0, .int 0])), (q11, .inl (a 0, 28, .inl (fun _ => 0)))] H locs := w
        refine kx_aast E w 3 4 8 1 rfl rfl rfl rfl (vp_in_nI (by omega) (by omega)) i (nI_clamp (by omega)) d_Sums_init_83 (ws' := [(h0, .inr (10, [.ref q1, .ref q2, .ref q3, .null])), (q1, .inl (a 4, 13, .inr (.inr (.inr (.inr (va_up f0 i (some q6))))))), (q2, .inl (a 4, 13, .inr (.inr (.inr (.inr (va_up f1 i (some q8))))))), (q3, .inl (a 4, 13, .inr (.inr (.inr (.inr (va_up f2 i (some q10))))))), (q6, .inr (1, [.ref q7, .int 0, .int 0])), (q7, .inl (a 0, 28, .inl (fun _ => 0))), (q8, .inr (1, [.ref q9, .int 0, .int 0])), (q9, .inl (a 0, 28, .inl (fun _ => 0))), (q10, .inr (1, [.ref q11, .int 0, .int 0])), (q11, .inl (a 0, 28, .inl (fun _ => 0)))]) rfl (fun H locs w => ?_)
        refine lv_iinc (v := (nI (i + 1))) (lv' := [(1, .int (nI (i + 1))), (0, .ref h0)]) hx hb d_Sums_init_84 hl (k := 1) rfl (kx_inc i) (by decide) rfl (fun ls hl => ?_)
        refine lv_goto (tgt := 33) hx hb d_Sums_init_87 (by decide) ?_
        have w := kW_sub w (ws' := [(h0, .inr (10, [.ref q1, .ref q2, .ref q3, .null])), (q1, .inl (a 4, 13, .inr (.inr (.inr (.inr (va_up f0 i (some q6))))))), (q2, .inl (a 4, 13, .inr (.inr (.inr (.inr (va_up f1 i (some q8))))))), (q3, .inl (a 4, 13, .inr (.inr (.inr (.inr (va_up f2 i (some q10)))))))]) [0, 1, 2, 3] rfl rfl
        refine W.widen (k := 3 + 6 * (i + 1)) (n := 39 + 93 * (i + 1)) (by omega) (by omega) ?_
        exact ih (i + 1) (by omega) _ _ _ _ _ _ w (lv_sub hl [1, 0] rfl)
    exact loop 13 0 (by omega) _ _ _ _ _ _ w (lv_sub hl [1, 0] rfl))
set_option maxRecDepth 100000 in
set_option maxHeartbeats 4000000 in
theorem c_Isolator_init (l : Launch) (D : va_G) (a : Nat → ClassId) (h0 : Nat) : ∀ sz : Nat, Met l y_Isolator_init (Cond.code y_Isolator_init b_Isolator_init 2 none :: wA) ({ frames := 2, cells := 83, slots := 2831, locals := 41 } : Room) (va_Pc [.ref h0] (kP D a [(h0, .inr (6, [.null, .null, .null, .null, .null, .null, .int 0, .int 0, .int 0, .int 0, .int 0]))] sz)) (va_Qv (fun u : va_W => ∃ q1 : Nat, ∃ q2 : Nat, ∃ q3 : Nat, ∃ q5 : Nat, ∃ q6 : Nat, ∃ q7 : Nat, u = [(h0, .inr (6, [.ref q1, .ref q2, .ref q3, .ref q5, .ref q6, .ref q7, .int 0, .int 0, .int 0, .int 0, .int 0]))]) (kB D a (va_A [(h0, .inr (6, [.null, .null, .null, .null, .null, .null, .int 0, .int 0, .int 0, .int 0, .int 0]))] sz)) (va_A [(h0, .inr (6, [.null, .null, .null, .null, .null, .null, .int 0, .int 0, .int 0, .int 0, .int 0]))] sz)) 83 2831 (va_A [(h0, .inr (6, [.null, .null, .null, .null, .null, .null, .int 0, .int 0, .int 0, .int 0, .int 0]))] sz) :=
  kM (Qc := fun A => va_Qv (fun u : va_W => ∃ q1 : Nat, ∃ q2 : Nat, ∃ q3 : Nat, ∃ q5 : Nat, ∃ q6 : Nat, ∃ q7 : Nat, u = [(h0, .inr (6, [.ref q1, .ref q2, .ref q3, .ref q5, .ref q6, .ref q7, .int 0, .int 0, .int 0, .int 0, .int 0]))]) (kB D a A) A) (by decide) (Nat.le_of_ble_eq_true rfl) (by
    intro p e s m below meth c A ls H locs E hr hlk hnm w hl
    have hx := E.1.1
    have hb := E.1.2.1
    have E : kE p m c b_Isolator_init 2 s [.ref h0].toArray "RootAlgebra$Isolator" D a A := E
    have hl : lv_has ls 2 [(0, .ref h0)] := hl
    have hnm : meth.name = "<init>" := hnm
    refine lv_aload_n hx hb d_Isolator_init_0 rfl (lv_at hl 0 rfl) ?_
    refine kx_obj E hl.1 mw_72 mw_1 mw_2 d_Isolator_init_1 (Nat.le_of_ble_eq_true rfl) (Nat.le_of_ble_eq_true rfl) (Nat.le_of_ble_eq_true rfl) ?_
    refine lv_aload_n hx hb d_Isolator_init_4 rfl (lv_at hl 0 rfl) ?_
    refine lv_bipush (v := 13) hx hb d_Isolator_init_5 (by decide) ?_
    refine kx_newq E w mw_73 E.2.1.2.1 4 rfl (N' := 13) (by decide) (by decide) (by decide) (Nat.le_of_ble_eq_true rfl) (Nat.le_of_ble_eq_true rfl) d_Isolator_init_7 (fun q1 H w => ?_)
    have w : kW D A s [(h0, .inr (6, [.null, .null, .null, .null, .null, .null, .int 0, .int 0, .int 0, .int 0, .int 0])), (q1, .inl (a 4, 13, .inr (.inr (.inr (.inr (fun _ => none))))))] H locs := w
    refine kx_putF E w zC_Isolator hnm 0 rfl 0 (by decide) mw_74 rfl rfl rfl rfl (Nat.le_of_ble_eq_true rfl) d_Isolator_init_10 (ws' := [(h0, .inr (6, [.ref q1, .null, .null, .null, .null, .null, .int 0, .int 0, .int 0, .int 0, .int 0])), (q1, .inl (a 4, 13, .inr (.inr (.inr (.inr (fun _ => none))))))]) rfl (fun H locs w => ?_)
    refine lv_aload_n hx hb d_Isolator_init_13 rfl (lv_at hl 0 rfl) ?_
    refine lv_bipush (v := 13) hx hb d_Isolator_init_14 (by decide) ?_
    refine kx_newq E w mw_73 E.2.1.2.1 4 rfl (N' := 13) (by decide) (by decide) (by decide) (Nat.le_of_ble_eq_true rfl) (Nat.le_of_ble_eq_true rfl) d_Isolator_init_16 (fun q2 H w => ?_)
    have w : kW D A s [(h0, .inr (6, [.ref q1, .null, .null, .null, .null, .null, .int 0, .int 0, .int 0, .int 0, .int 0])), (q1, .inl (a 4, 13, .inr (.inr (.inr (.inr (fun _ => none)))))), (q2, .inl (a 4, 13, .inr (.inr (.inr (.inr (fun _ => none))))))] H locs := w
    refine kx_putF E w zC_Isolator hnm 0 rfl 1 (by decide) mw_75 rfl rfl rfl rfl (Nat.le_of_ble_eq_true rfl) d_Isolator_init_19 (ws' := [(h0, .inr (6, [.ref q1, .ref q2, .null, .null, .null, .null, .int 0, .int 0, .int 0, .int 0, .int 0])), (q1, .inl (a 4, 13, .inr (.inr (.inr (.inr (fun _ => none)))))), (q2, .inl (a 4, 13, .inr (.inr (.inr (.inr (fun _ => none))))))]) rfl (fun H locs w => ?_)
    refine lv_iconst (v := 0) hx hb d_Isolator_init_22 (by decide) ?_
    refine lv_istore_n (lv' := [(1, .int 0), (0, .ref h0)]) hx hb d_Isolator_init_23 rfl hl (by decide) rfl (fun ls hl => ?_)
    refine W.widen (k := 2 + 4 * 0) (n := 26 + 198 * 0) (Nat.le_of_ble_eq_true rfl) (Nat.le_of_ble_eq_true rfl) ?_
    have loop : ∀ (n i : Nat), i + n = 13 → ∀ (f0 : Nat → Option Nat) (f1 : Nat → Option Nat) (H : Heap) (locs : List Loc) (ls : Array Slot), kW D A s [(h0, .inr (6, [.ref q1, .ref q2, .null, .null, .null, .null, .int 0, .int 0, .int 0, .int 0, .int 0])), (q1, .inl (a 4, 13, .inr (.inr (.inr (.inr f0))))), (q2, .inl (a 4, 13, .inr (.inr (.inr (.inr f1)))))] H locs → lv_has ls 2 [(0, .ref h0), (1, .int (nI i))] → W p l e ({ frames := 2, cells := 83, slots := 2831, locals := 41 } : Room) s m [.ref h0].toArray below meth c H locs (2 + 4 * i) (26 + 198 * i) (MQ below (va_Qv (fun u : va_W => ∃ q1 : Nat, ∃ q2 : Nat, ∃ q3 : Nat, ∃ q5 : Nat, ∃ q6 : Nat, ∃ q7 : Nat, u = [(h0, .inr (6, [.ref q1, .ref q2, .ref q3, .ref q5, .ref q6, .ref q7, .int 0, .int 0, .int 0, .int 0, .int 0]))]) (kB D a A) A) [.ref h0].toArray s 83 2831 A) (F0 m 24 ls [])  := by
      intro n
      induction n with
      | zero =>
        intro i hi f0 f1 H locs ls w hl
        obtain rfl : i = 13 := by omega
        have hl : lv_has ls 2 [(0, .ref h0), (1, .int 13)] := hl
        have w := kW_sub w (ws' := [(h0, .inr (6, [.ref q1, .ref q2, .null, .null, .null, .null, .int 0, .int 0, .int 0, .int 0, .int 0]))]) [0] rfl rfl
        refine lv_iload_n hx hb d_Isolator_init_24 rfl (lv_at hl 1 rfl) ?_
        refine lv_bipush (v := 12) hx hb d_Isolator_init_25 (by decide) ?_
        refine lv_icmp_gt (tgt := 66) hx hb d_Isolator_init_27 (by decide) (fun _ => ?_) (fun h => absurd (by decide) h)
        refine lv_aload_n hx hb d_Isolator_init_66 rfl (lv_at hl 0 rfl) ?_
        refine kx_new E w zC_Big mw_73 mw_8 mw_9 (fs := [.null, .int 0, .int 0]) z0_Big (Nat.le_of_ble_eq_true rfl) (Nat.le_of_ble_eq_true rfl) d_Isolator_init_67 (fun q3 H w => ?_)
        have w : kW D A s [(h0, .inr (6, [.ref q1, .ref q2, .null, .null, .null, .null, .int 0, .int 0, .int 0, .int 0, .int 0])), (q3, .inr (1, [.null, .int 0, .int 0]))] H locs := w
        refine lv_dup hx hb d_Isolator_init_70 rfl ?_
        refine lv_bipush (v := 12) hx hb d_Isolator_init_71 (by decide) ?_
        refine kx_v E w (wc := [(q3, .inr (1, [.null, .int 0, .int 0]))]) (wr := [(h0, .inr (6, [.ref q1, .ref q2, .null, .null, .null, .null, .int 0, .int 0, .int 0, .int 0, .int 0]))]) [1] [0] rfl rfl ⟨rfl, rfl, by decide⟩ (kx_rI E w hl.1 (As := [.int 12]) (wc := [(q3, .inr (1, [.null, .int 0, .int 0]))]) (c_Big_init_12 l D a q3 H.size) gc_7 gi_Big_init [1] rfl rfl rfl rfl rfl ⟨(Nat.le_of_ble_eq_true rfl), (Nat.le_of_ble_eq_true rfl)⟩ rfl (Nat.le_of_ble_eq_true rfl) d_Isolator_init_73 ⟨(Nat.le_of_ble_eq_true rfl), (Nat.le_of_ble_eq_true rfl)⟩) (fun u H locs hu w => ?_)
        obtain ⟨q4, rfl⟩ := hu
        have w : kW D A s [(h0, .inr (6, [.ref q1, .ref q2, .null, .null, .null, .null, .int 0, .int 0, .int 0, .int 0, .int 0])), (q3, .inr (1, [.ref q4, .int 0, .int 0])), (q4, .inl (a 0, 12, .inl (fun _ => 0)))] H locs := w
        refine kx_putF E w zC_Isolator hnm 0 rfl 2 (by decide) mw_77 rfl rfl rfl rfl (Nat.le_of_ble_eq_true rfl) d_Isolator_init_76 (ws' := [(h0, .inr (6, [.ref q1, .ref q2, .ref q3, .null, .null, .null, .int 0, .int 0, .int 0, .int 0, .int 0])), (q3, .inr (1, [.ref q4, .int 0, .int 0])), (q4, .inl (a 0, 12, .inl (fun _ => 0)))]) rfl (fun H locs w => ?_)
        refine lv_aload_n hx hb d_Isolator_init_79 rfl (lv_at hl 0 rfl) ?_
        refine lv_bipush (v := 12) hx hb d_Isolator_init_80 (by decide) ?_
        refine kx_newq E w mw_73 E.2.1.2.1 4 rfl (N' := 12) (by decide) (by decide) (by decide) (Nat.le_of_ble_eq_true rfl) (Nat.le_of_ble_eq_true rfl) d_Isolator_init_82 (fun q5 H w => ?_)
        have w : kW D A s [(h0, .inr (6, [.ref q1, .ref q2, .ref q3, .null, .null, .null, .int 0, .int 0, .int 0, .int 0, .int 0])), (q3, .inr (1, [.ref q4, .int 0, .int 0])), (q4, .inl (a 0, 12, .inl (fun _ => 0))), (q5, .inl (a 4, 12, .inr (.inr (.inr (.inr (fun _ => none))))))] H locs := w
        refine kx_putF E w zC_Isolator hnm 0 rfl 3 (by decide) mw_78 rfl rfl rfl rfl (Nat.le_of_ble_eq_true rfl) d_Isolator_init_85 (ws' := [(h0, .inr (6, [.ref q1, .ref q2, .ref q3, .ref q5, .null, .null, .int 0, .int 0, .int 0, .int 0, .int 0])), (q3, .inr (1, [.ref q4, .int 0, .int 0])), (q4, .inl (a 0, 12, .inl (fun _ => 0))), (q5, .inl (a 4, 12, .inr (.inr (.inr (.inr (fun _ => none))))))]) rfl (fun H locs w => ?_)
        refine lv_iconst (v := 0) hx hb d_Isolator_init_88 (by decide) ?_
        refine lv_istore_n (lv' := [(1, .int 0), (0, .ref h0)]) hx hb d_Isolator_init_89 rfl hl (by decide) rfl (fun ls hl => ?_)
        have w := kW_sub w (ws' := [(h0, .inr (6, [.ref q1, .ref q2, .ref q3, .ref q5, .null, .null, .int 0, .int 0, .int 0, .int 0, .int 0])), (q5, .inl (a 4, 12, .inr (.inr (.inr (.inr (fun _ => none))))))]) [0, 3] rfl rfl
        refine W.widen (k := 57 + 2 * 0) (n := 2627 + 15 * 0) (Nat.le_of_ble_eq_true rfl) (Nat.le_of_ble_eq_true rfl) ?_
        have loop : ∀ (n i : Nat), i + n = 12 → ∀ (f9 : Nat → Option Nat) (H : Heap) (locs : List Loc) (ls : Array Slot), kW D A s [(h0, .inr (6, [.ref q1, .ref q2, .ref q3, .ref q5, .null, .null, .int 0, .int 0, .int 0, .int 0, .int 0])), (q5, .inl (a 4, 12, .inr (.inr (.inr (.inr f9)))))] H locs → lv_has ls 2 [(0, .ref h0), (1, .int (nI i))] → W p l e ({ frames := 2, cells := 83, slots := 2831, locals := 41 } : Room) s m [.ref h0].toArray below meth c H locs (57 + 2 * i) (2627 + 15 * i) (MQ below (va_Qv (fun u : va_W => ∃ q1 : Nat, ∃ q2 : Nat, ∃ q3 : Nat, ∃ q5 : Nat, ∃ q6 : Nat, ∃ q7 : Nat, u = [(h0, .inr (6, [.ref q1, .ref q2, .ref q3, .ref q5, .ref q6, .ref q7, .int 0, .int 0, .int 0, .int 0, .int 0]))]) (kB D a A) A) [.ref h0].toArray s 83 2831 A) (F0 m 90 ls [])  := by
          intro n
          induction n with
          | zero =>
            intro i hi f9 H locs ls w hl
            obtain rfl : i = 12 := by omega
            have hl : lv_has ls 2 [(0, .ref h0), (1, .int 12)] := hl
            refine lv_iload_n hx hb d_Isolator_init_90 rfl (lv_at hl 1 rfl) ?_
            refine lv_bipush (v := 12) hx hb d_Isolator_init_91 (by decide) ?_
            refine lv_icmp_ge (tgt := 117) hx hb d_Isolator_init_93 (by decide) (fun _ => ?_) (fun h => absurd (by decide) h)
            refine lv_aload_n hx hb d_Isolator_init_117 rfl (lv_at hl 0 rfl) ?_
            refine lv_bipush (v := 12) hx hb d_Isolator_init_118 (by decide) ?_
            refine kx_newa0 (atype := .int) E w rfl mw_3 (N' := 12) (a0 := (12, .inl (fun _ => 0))) (fun _ => rfl) (by decide) (by decide) (by decide) (Nat.le_of_ble_eq_true rfl) (Nat.le_of_ble_eq_true rfl) d_Isolator_init_120 (fun q6 H w => ?_)
            refine kx_putF E w zC_Isolator hnm 0 rfl 4 (by decide) mw_79 rfl rfl rfl rfl (Nat.le_of_ble_eq_true rfl) d_Isolator_init_122 (ws' := [(h0, .inr (6, [.ref q1, .ref q2, .ref q3, .ref q5, .ref q6, .null, .int 0, .int 0, .int 0, .int 0, .int 0])), (q5, .inl (a 4, 12, .inr (.inr (.inr (.inr f9)))))]) rfl (fun H locs w => ?_)
            refine lv_aload_n hx hb d_Isolator_init_125 rfl (lv_at hl 0 rfl) ?_
            refine lv_bipush (v := 12) hx hb d_Isolator_init_126 (by decide) ?_
            refine kx_newa0 (atype := .boolean) E w rfl mw_80 (N' := 12) (a0 := (12, .inl (fun _ => 0))) (fun _ => rfl) (by decide) (by decide) (by decide) (Nat.le_of_ble_eq_true rfl) (Nat.le_of_ble_eq_true rfl) d_Isolator_init_128 (fun q7 H w => ?_)
            refine kx_putF E w zC_Isolator hnm 0 rfl 5 (by decide) mw_81 rfl rfl rfl rfl (Nat.le_of_ble_eq_true rfl) d_Isolator_init_130 (ws' := [(h0, .inr (6, [.ref q1, .ref q2, .ref q3, .ref q5, .ref q6, .ref q7, .int 0, .int 0, .int 0, .int 0, .int 0])), (q5, .inl (a 4, 12, .inr (.inr (.inr (.inr f9)))))]) rfl (fun H locs w => ?_)
            have w := kW_sub w (ws' := [(h0, .inr (6, [.ref q1, .ref q2, .ref q3, .ref q5, .ref q6, .ref q7, .int 0, .int 0, .int 0, .int 0, .int 0]))]) [0] rfl rfl
            refine W.widen (k := 83) (n := 2831) (Nat.le_of_ble_eq_true rfl) (Nat.le_of_ble_eq_true rfl) ?_
            exact kx_vret E w hr hlk d_Isolator_init_133 ⟨q1, q2, q3, q5, q6, q7, rfl⟩
          | succ n ih =>
            intro i hi f9 H locs ls w hl
            refine lv_iload_n hx hb d_Isolator_init_90 rfl (lv_at hl 1 rfl) ?_
            refine lv_bipush (v := 12) hx hb d_Isolator_init_91 (by decide) ?_
            refine lv_icmp_ge (tgt := 117) hx hb d_Isolator_init_93 (by decide) (fun h => absurd h (nI_ge (a := i) (b := 12) (by omega) (by omega))) (fun _ => ?_)
            refine lv_aload_n hx hb d_Isolator_init_96 rfl (lv_at hl 0 rfl) ?_
            refine kx_get E w zC_Isolator 0 rfl 3 (by decide) mw_78 rfl d_Isolator_init_97 ?_
            refine lv_iload_n hx hb d_Isolator_init_100 rfl (lv_at hl 1 rfl) ?_
            refine kx_new E w zC_Big mw_73 mw_8 mw_9 (fs := [.null, .int 0, .int 0]) z0_Big (show 57 + 2 * i + 1 ≤ 83 from by omega) (show 2627 + 15 * i + 3 ≤ 2831 from by omega) d_Isolator_init_101 (fun q8 H w => ?_)
            have w : kW D A s [(h0, .inr (6, [.ref q1, .ref q2, .ref q3, .ref q5, .null, .null, .int 0, .int 0, .int 0, .int 0, .int 0])), (q5, .inl (a 4, 12, .inr (.inr (.inr (.inr f9))))), (q8, .inr (1, [.null, .int 0, .int 0]))] H locs := w
            refine lv_dup hx hb d_Isolator_init_104 rfl ?_
            refine lv_bipush (v := 12) hx hb d_Isolator_init_105 (by decide) ?_
            refine kx_v E w (wc := [(q8, .inr (1, [.null, .int 0, .int 0]))]) (wr := [(h0, .inr (6, [.ref q1, .ref q2, .ref q3, .ref q5, .null, .null, .int 0, .int 0, .int 0, .int 0, .int 0])), (q5, .inl (a 4, 12, .inr (.inr (.inr (.inr f9)))))]) [2] [0, 1] rfl rfl ⟨rfl, rfl, by decide⟩ (kx_rI E w hl.1 (As := [.int 12]) (wc := [(q8, .inr (1, [.null, .int 0, .int 0]))]) (c_Big_init_12 l D a q8 H.size) gc_7 gi_Big_init [2] rfl rfl rfl rfl rfl ⟨(Nat.le_of_ble_eq_true rfl), (Nat.le_of_ble_eq_true rfl)⟩ rfl (Nat.le_of_ble_eq_true rfl) d_Isolator_init_107 ⟨(show 57 + 2 * i + 1 + 1 ≤ 83 from by omega), (show 2627 + 15 * i + 3 + 12 ≤ 2831 from by omega)⟩) (fun u H locs hu w => ?_)
            obtain ⟨q9, rfl⟩ := hu
            have w : kW D A s [(h0, .inr (6, [.ref q1, .ref q2, .ref q3, .ref q5, .null, .null, .int 0, .int 0, .int 0, .int 0, .int 0])), (q5, .inl (a 4, 12, .inr (.inr (.inr (.inr f9))))), (q8, .inr (1, [.ref q9, .int 0, .int 0])), (q9, .inl (a 0, 12, .inl (fun _ => 0)))] H locs := w
            refine kx_aast E w 1 4 2 1 rfl rfl rfl rfl (vp_in_nI (by omega) (by omega)) i (nI_clamp (by omega)) d_Isolator_init_110 (ws' := [(h0, .inr (6, [.ref q1, .ref q2, .ref q3, .ref q5, .null, .null, .int 0, .int 0, .int 0, .int 0, .int 0])), (q5, .inl (a 4, 12, .inr (.inr (.inr (.inr (va_up f9 i (some q8))))))), (q8, .inr (1, [.ref q9, .int 0, .int 0])), (q9, .inl (a 0, 12, .inl (fun _ => 0)))]) rfl (fun H locs w => ?_)
            refine lv_iinc (v := (nI (i + 1))) (lv' := [(1, .int (nI (i + 1))), (0, .ref h0)]) hx hb d_Isolator_init_111 hl (k := 1) rfl (kx_inc i) (by decide) rfl (fun ls hl => ?_)
            refine lv_goto (tgt := 90) hx hb d_Isolator_init_114 (by decide) ?_
            have w := kW_sub w (ws' := [(h0, .inr (6, [.ref q1, .ref q2, .ref q3, .ref q5, .null, .null, .int 0, .int 0, .int 0, .int 0, .int 0])), (q5, .inl (a 4, 12, .inr (.inr (.inr (.inr (va_up f9 i (some q8)))))))]) [0, 1] rfl rfl
            refine W.widen (k := 57 + 2 * (i + 1)) (n := 2627 + 15 * (i + 1)) (by omega) (by omega) ?_
            exact ih (i + 1) (by omega) _ _ _ _ w (lv_sub hl [1, 0] rfl)
        exact loop 12 0 (by omega) _ _ _ _ w (lv_sub hl [1, 0] rfl)
      | succ n ih =>
        intro i hi f0 f1 H locs ls w hl
        refine lv_iload_n hx hb d_Isolator_init_24 rfl (lv_at hl 1 rfl) ?_
        refine lv_bipush (v := 12) hx hb d_Isolator_init_25 (by decide) ?_
        refine lv_icmp_gt (tgt := 66) hx hb d_Isolator_init_27 (by decide) (fun h => absurd h (nI_nlt (a := 12) (b := i) (by omega) (by omega))) (fun _ => ?_)
        refine lv_aload_n hx hb d_Isolator_init_30 rfl (lv_at hl 0 rfl) ?_
        refine kx_get E w zC_Isolator 0 rfl 0 (by decide) mw_74 rfl d_Isolator_init_31 ?_
        refine lv_iload_n hx hb d_Isolator_init_34 rfl (lv_at hl 1 rfl) ?_
        refine kx_new E w zC_Big mw_73 mw_8 mw_9 (fs := [.null, .int 0, .int 0]) z0_Big (show 2 + 4 * i + 1 ≤ 83 from by omega) (show 26 + 198 * i + 3 ≤ 2831 from by omega) d_Isolator_init_35 (fun q10 H w => ?_)
        have w : kW D A s [(h0, .inr (6, [.ref q1, .ref q2, .null, .null, .null, .null, .int 0, .int 0, .int 0, .int 0, .int 0])), (q1, .inl (a 4, 13, .inr (.inr (.inr (.inr f0))))), (q2, .inl (a 4, 13, .inr (.inr (.inr (.inr f1))))), (q10, .inr (1, [.null, .int 0, .int 0]))] H locs := w
        refine lv_dup hx hb d_Isolator_init_38 rfl ?_
        refine lv_bipush (v := 96) hx hb d_Isolator_init_39 (by decide) ?_
        refine kx_v E w (wc := [(q10, .inr (1, [.null, .int 0, .int 0]))]) (wr := [(h0, .inr (6, [.ref q1, .ref q2, .null, .null, .null, .null, .int 0, .int 0, .int 0, .int 0, .int 0])), (q1, .inl (a 4, 13, .inr (.inr (.inr (.inr f0))))), (q2, .inl (a 4, 13, .inr (.inr (.inr (.inr f1)))))]) [3] [0, 1, 2] rfl rfl ⟨rfl, rfl, by decide⟩ (kx_rI E w hl.1 (As := [.int 96]) (wc := [(q10, .inr (1, [.null, .int 0, .int 0]))]) (c_Big_init_96 l D a q10 H.size) gc_7 gi_Big_init [3] rfl rfl rfl rfl rfl ⟨(Nat.le_of_ble_eq_true rfl), (Nat.le_of_ble_eq_true rfl)⟩ rfl (Nat.le_of_ble_eq_true rfl) d_Isolator_init_41 ⟨(show 2 + 4 * i + 1 + 1 ≤ 83 from by omega), (show 26 + 198 * i + 3 + 96 ≤ 2831 from by omega)⟩) (fun u H locs hu w => ?_)
        obtain ⟨q11, rfl⟩ := hu
        have w : kW D A s [(h0, .inr (6, [.ref q1, .ref q2, .null, .null, .null, .null, .int 0, .int 0, .int 0, .int 0, .int 0])), (q1, .inl (a 4, 13, .inr (.inr (.inr (.inr f0))))), (q2, .inl (a 4, 13, .inr (.inr (.inr (.inr f1))))), (q10, .inr (1, [.ref q11, .int 0, .int 0])), (q11, .inl (a 0, 96, .inl (fun _ => 0)))] H locs := w
        refine kx_aast E w 1 4 3 1 rfl rfl rfl rfl (vp_in_nI (by omega) (by omega)) i (nI_clamp (by omega)) d_Isolator_init_44 (ws' := [(h0, .inr (6, [.ref q1, .ref q2, .null, .null, .null, .null, .int 0, .int 0, .int 0, .int 0, .int 0])), (q1, .inl (a 4, 13, .inr (.inr (.inr (.inr (va_up f0 i (some q10))))))), (q2, .inl (a 4, 13, .inr (.inr (.inr (.inr f1))))), (q10, .inr (1, [.ref q11, .int 0, .int 0])), (q11, .inl (a 0, 96, .inl (fun _ => 0)))]) rfl (fun H locs w => ?_)
        refine lv_aload_n hx hb d_Isolator_init_45 rfl (lv_at hl 0 rfl) ?_
        refine kx_get E w zC_Isolator 0 rfl 1 (by decide) mw_75 rfl d_Isolator_init_46 ?_
        refine lv_iload_n hx hb d_Isolator_init_49 rfl (lv_at hl 1 rfl) ?_
        refine kx_new E w zC_Big mw_73 mw_8 mw_9 (fs := [.null, .int 0, .int 0]) z0_Big (show 2 + 4 * i + 1 + 1 + 1 ≤ 83 from by omega) (show 26 + 198 * i + 3 + 96 + 3 ≤ 2831 from by omega) d_Isolator_init_50 (fun q12 H w => ?_)
        have w : kW D A s [(h0, .inr (6, [.ref q1, .ref q2, .null, .null, .null, .null, .int 0, .int 0, .int 0, .int 0, .int 0])), (q1, .inl (a 4, 13, .inr (.inr (.inr (.inr (va_up f0 i (some q10))))))), (q2, .inl (a 4, 13, .inr (.inr (.inr (.inr f1))))), (q10, .inr (1, [.ref q11, .int 0, .int 0])), (q11, .inl (a 0, 96, .inl (fun _ => 0))), (q12, .inr (1, [.null, .int 0, .int 0]))] H locs := w
        refine lv_dup hx hb d_Isolator_init_53 rfl ?_
        refine lv_bipush (v := 96) hx hb d_Isolator_init_54 (by decide) ?_
        refine kx_v E w (wc := [(q12, .inr (1, [.null, .int 0, .int 0]))]) (wr := [(h0, .inr (6, [.ref q1, .ref q2, .null, .null, .null, .null, .int 0, .int 0, .int 0, .int 0, .int 0])), (q1, .inl (a 4, 13, .inr (.inr (.inr (.inr (va_up f0 i (some q10))))))), (q2, .inl (a 4, 13, .inr (.inr (.inr (.inr f1))))), (q10, .inr (1, [.ref q11, .int 0, .int 0])), (q11, .inl (a 0, 96, .inl (fun _ => 0)))]) [5] [0, 1, 2, 3, 4] rfl rfl ⟨rfl, rfl, by decide⟩ (kx_rI E w hl.1 (As := [.int 96]) (wc := [(q12, .inr (1, [.null, .int 0, .int 0]))]) (c_Big_init_96 l D a q12 H.size) gc_7 gi_Big_init [5] rfl rfl rfl rfl rfl ⟨(Nat.le_of_ble_eq_true rfl), (Nat.le_of_ble_eq_true rfl)⟩ rfl (Nat.le_of_ble_eq_true rfl) d_Isolator_init_56 ⟨(show 2 + 4 * i + 1 + 1 + 1 + 1 ≤ 83 from by omega), (show 26 + 198 * i + 3 + 96 + 3 + 96 ≤ 2831 from by omega)⟩) (fun u H locs hu w => ?_)
        obtain ⟨q13, rfl⟩ := hu
        have w : kW D A s [(h0, .inr (6, [.ref q1, .ref q2, .null, .null, .null, .null, .int 0, .int 0, .int 0, .int 0, .int 0])), (q1, .inl (a 4, 13, .inr (.inr (.inr (.inr (va_up f0 i (some q10))))))), (q2, .inl (a 4, 13, .inr (.inr (.inr (.inr f1))))), (q10, .inr (1, [.ref q11, .int 0, .int 0])), (q11, .inl (a 0, 96, .inl (fun _ => 0))), (q12, .inr (1, [.ref q13, .int 0, .int 0])), (q13, .inl (a 0, 96, .inl (fun _ => 0)))] H locs := w
        refine kx_aast E w 2 4 5 1 rfl rfl rfl rfl (vp_in_nI (by omega) (by omega)) i (nI_clamp (by omega)) d_Isolator_init_59 (ws' := [(h0, .inr (6, [.ref q1, .ref q2, .null, .null, .null, .null, .int 0, .int 0, .int 0, .int 0, .int 0])), (q1, .inl (a 4, 13, .inr (.inr (.inr (.inr (va_up f0 i (some q10))))))), (q2, .inl (a 4, 13, .inr (.inr (.inr (.inr (va_up f1 i (some q12))))))), (q10, .inr (1, [.ref q11, .int 0, .int 0])), (q11, .inl (a 0, 96, .inl (fun _ => 0))), (q12, .inr (1, [.ref q13, .int 0, .int 0])), (q13, .inl (a 0, 96, .inl (fun _ => 0)))]) rfl (fun H locs w => ?_)
        refine lv_iinc (v := (nI (i + 1))) (lv' := [(1, .int (nI (i + 1))), (0, .ref h0)]) hx hb d_Isolator_init_60 hl (k := 1) rfl (kx_inc i) (by decide) rfl (fun ls hl => ?_)
        refine lv_goto (tgt := 24) hx hb d_Isolator_init_63 (by decide) ?_
        have w := kW_sub w (ws' := [(h0, .inr (6, [.ref q1, .ref q2, .null, .null, .null, .null, .int 0, .int 0, .int 0, .int 0, .int 0])), (q1, .inl (a 4, 13, .inr (.inr (.inr (.inr (va_up f0 i (some q10))))))), (q2, .inl (a 4, 13, .inr (.inr (.inr (.inr (va_up f1 i (some q12)))))))]) [0, 1, 2] rfl rfl
        refine W.widen (k := 2 + 4 * (i + 1)) (n := 26 + 198 * (i + 1)) (by omega) (by omega) ?_
        exact ih (i + 1) (by omega) _ _ _ _ _ w (lv_sub hl [1, 0] rfl)
    exact loop 13 0 (by omega) _ _ _ _ _ w (lv_sub hl [1, 0] rfl))
end
section
/-! laid by program (wip/gen) -/
set_option maxRecDepth 100000 in
set_option maxHeartbeats 4000000 in
theorem c_Factors_init (l : Launch) (D : va_G) (a : Nat → ClassId) (h0 : Nat) : ∀ sz : Nat, Met l y_Factors_init (Cond.code y_Factors_init b_Factors_init 1 none :: wA) ({ frames := 3, cells := 85, slots := 1804, locals := 61 } : Room) (va_Pc [.ref h0] (kP D a [(h0, .inr (3, [.null, .null, .null, .null, .null, .null, .null, .null, .null, .null, .null, .null, .null, .null, .null, .null, .int 0, .int 0, .int 0, .int 0]))] sz)) (va_Qv (fun u : va_W => ∃ q1 : Nat, ∃ q8 : Nat, ∃ q10 : Nat, ∃ q12 : Nat, ∃ q13 : Nat, ∃ q14 : Nat, ∃ q15 : Nat, ∃ q16 : Nat, ∃ q17 : Nat, ∃ q18 : Nat, ∃ q19 : Nat, ∃ q20 : Nat, ∃ q21 : Nat, ∃ q22 : Nat, ∃ q23 : Nat, ∃ q24 : Nat, u = [(h0, .inr (3, [.ref q1, .ref q8, .ref q10, .ref q12, .ref q13, .ref q14, .ref q15, .ref q16, .ref q17, .ref q18, .ref q19, .ref q20, .ref q21, .ref q22, .ref q23, .ref q24, .int 0, .int 0, .int 0, .int 0]))]) (kB D a (va_A [(h0, .inr (3, [.null, .null, .null, .null, .null, .null, .null, .null, .null, .null, .null, .null, .null, .null, .null, .null, .int 0, .int 0, .int 0, .int 0]))] sz)) (va_A [(h0, .inr (3, [.null, .null, .null, .null, .null, .null, .null, .null, .null, .null, .null, .null, .null, .null, .null, .null, .int 0, .int 0, .int 0, .int 0]))] sz)) 85 1804 (va_A [(h0, .inr (3, [.null, .null, .null, .null, .null, .null, .null, .null, .null, .null, .null, .null, .null, .null, .null, .null, .int 0, .int 0, .int 0, .int 0]))] sz) :=
  kM (Qc := fun A => va_Qv (fun u : va_W => ∃ q1 : Nat, ∃ q8 : Nat, ∃ q10 : Nat, ∃ q12 : Nat, ∃ q13 : Nat, ∃ q14 : Nat, ∃ q15 : Nat, ∃ q16 : Nat, ∃ q17 : Nat, ∃ q18 : Nat, ∃ q19 : Nat, ∃ q20 : Nat, ∃ q21 : Nat, ∃ q22 : Nat, ∃ q23 : Nat, ∃ q24 : Nat, u = [(h0, .inr (3, [.ref q1, .ref q8, .ref q10, .ref q12, .ref q13, .ref q14, .ref q15, .ref q16, .ref q17, .ref q18, .ref q19, .ref q20, .ref q21, .ref q22, .ref q23, .ref q24, .int 0, .int 0, .int 0, .int 0]))]) (kB D a A) A) (by decide) (Nat.le_of_ble_eq_true rfl) (by
    intro p e s m below meth c A ls H locs E hr hlk hnm w hl
    have hx := E.1.1
    have hb := E.1.2.1
    have E : kE p m c b_Factors_init 1 s [.ref h0].toArray "RootAlgebra$Factors" D a A := E
    have hl : lv_has ls 1 [(0, .ref h0)] := hl
    have hnm : meth.name = "<init>" := hnm
    refine lv_aload_n hx hb d_Factors_init_0 rfl (lv_at hl 0 rfl) ?_
    refine kx_obj E hl.1 mw_82 mw_1 mw_2 d_Factors_init_1 (Nat.le_of_ble_eq_true rfl) (Nat.le_of_ble_eq_true rfl) (Nat.le_of_ble_eq_true rfl) ?_
    refine lv_aload_n hx hb d_Factors_init_4 rfl (lv_at hl 0 rfl) ?_
    refine kx_new E w zC_Field mw_83 mw_84 mw_85 (fs := [.int 0, .null, .null, .null, .null, .null, .null]) z0_Field (Nat.le_of_ble_eq_true rfl) (Nat.le_of_ble_eq_true rfl) d_Factors_init_5 (fun q1 H w => ?_)
    have w : kW D A s [(h0, .inr (3, [.null, .null, .null, .null, .null, .null, .null, .null, .null, .null, .null, .null, .null, .null, .null, .null, .int 0, .int 0, .int 0, .int 0])), (q1, .inr (4, [.int 0, .null, .null, .null, .null, .null, .null]))] H locs := w
    refine lv_dup hx hb d_Factors_init_8 rfl ?_
    refine kx_v E w (wc := [(q1, .inr (4, [.int 0, .null, .null, .null, .null, .null, .null]))]) (wr := [(h0, .inr (3, [.null, .null, .null, .null, .null, .null, .null, .null, .null, .null, .null, .null, .null, .null, .null, .null, .int 0, .int 0, .int 0, .int 0]))]) [1] [0] rfl rfl ⟨rfl, rfl, by decide⟩ (kx_rI E w hl.1 (As := []) (wc := [(q1, .inr (4, [.int 0, .null, .null, .null, .null, .null, .null]))]) (c_Field_init l D a q1 H.size) gc_8 gi_Field_init [1] rfl rfl rfl rfl rfl ⟨(Nat.le_of_ble_eq_true rfl), (Nat.le_of_ble_eq_true rfl)⟩ rfl (Nat.le_of_ble_eq_true rfl) d_Factors_init_9 ⟨(Nat.le_of_ble_eq_true rfl), (Nat.le_of_ble_eq_true rfl)⟩) (fun u H locs hu w => ?_)
    obtain ⟨q2, q3, q4, q5, q6, q7, rfl⟩ := hu
    have w : kW D A s [(h0, .inr (3, [.null, .null, .null, .null, .null, .null, .null, .null, .null, .null, .null, .null, .null, .null, .null, .null, .int 0, .int 0, .int 0, .int 0])), (q1, .inr (4, [.int 3, .ref q2, .ref q3, .ref q4, .ref q5, .ref q6, .ref q7]))] H locs := w
    refine kx_putF E w zC_Factors hnm 0 rfl 0 (by decide) mw_89 rfl rfl rfl rfl (Nat.le_of_ble_eq_true rfl) d_Factors_init_12 (ws' := [(h0, .inr (3, [.ref q1, .null, .null, .null, .null, .null, .null, .null, .null, .null, .null, .null, .null, .null, .null, .null, .int 0, .int 0, .int 0, .int 0])), (q1, .inr (4, [.int 3, .ref q2, .ref q3, .ref q4, .ref q5, .ref q6, .ref q7]))]) rfl (fun H locs w => ?_)
    have w := kW_sub w (ws' := [(h0, .inr (3, [.ref q1, .null, .null, .null, .null, .null, .null, .null, .null, .null, .null, .null, .null, .null, .null, .null, .int 0, .int 0, .int 0, .int 0]))]) [0] rfl rfl
    refine lv_aload_n hx hb d_Factors_init_15 rfl (lv_at hl 0 rfl) ?_
    refine kx_new E w zC_Padic mw_90 mw_91 mw_92 (fs := [.int 0, .long 0, .null]) z0_Padic (Nat.le_of_ble_eq_true rfl) (Nat.le_of_ble_eq_true rfl) d_Factors_init_16 (fun q8 H w => ?_)
    have w : kW D A s [(h0, .inr (3, [.ref q1, .null, .null, .null, .null, .null, .null, .null, .null, .null, .null, .null, .null, .null, .null, .null, .int 0, .int 0, .int 0, .int 0])), (q8, .inr (7, [.int 0, .long 0, .null]))] H locs := w
    refine lv_dup hx hb d_Factors_init_19 rfl ?_
    refine kx_v E w (wc := [(q8, .inr (7, [.int 0, .long 0, .null]))]) (wr := [(h0, .inr (3, [.ref q1, .null, .null, .null, .null, .null, .null, .null, .null, .null, .null, .null, .null, .null, .null, .null, .int 0, .int 0, .int 0, .int 0]))]) [1] [0] rfl rfl ⟨rfl, rfl, by decide⟩ (kx_rI E w hl.1 (As := []) (wc := [(q8, .inr (7, [.int 0, .long 0, .null]))]) (c_Padic_init l D a q8 H.size) gc_9 gi_Padic_init [1] rfl rfl rfl rfl rfl ⟨(Nat.le_of_ble_eq_true rfl), (Nat.le_of_ble_eq_true rfl)⟩ rfl (Nat.le_of_ble_eq_true rfl) d_Factors_init_20 ⟨(Nat.le_of_ble_eq_true rfl), (Nat.le_of_ble_eq_true rfl)⟩) (fun u H locs hu w => ?_)
    obtain ⟨q9, rfl⟩ := hu
    have w : kW D A s [(h0, .inr (3, [.ref q1, .null, .null, .null, .null, .null, .null, .null, .null, .null, .null, .null, .null, .null, .null, .null, .int 0, .int 0, .int 0, .int 0])), (q8, .inr (7, [.int 3, .long 0, .ref q9]))] H locs := w
    refine kx_putF E w zC_Factors hnm 0 rfl 1 (by decide) mw_96 rfl rfl rfl rfl (Nat.le_of_ble_eq_true rfl) d_Factors_init_23 (ws' := [(h0, .inr (3, [.ref q1, .ref q8, .null, .null, .null, .null, .null, .null, .null, .null, .null, .null, .null, .null, .null, .null, .int 0, .int 0, .int 0, .int 0])), (q8, .inr (7, [.int 3, .long 0, .ref q9]))]) rfl (fun H locs w => ?_)
    have w := kW_sub w (ws' := [(h0, .inr (3, [.ref q1, .ref q8, .null, .null, .null, .null, .null, .null, .null, .null, .null, .null, .null, .null, .null, .null, .int 0, .int 0, .int 0, .int 0]))]) [0] rfl rfl
    refine lv_aload_n hx hb d_Factors_init_26 rfl (lv_at hl 0 rfl) ?_
    refine kx_new E w zC_Big mw_97 mw_8 mw_9 (fs := [.null, .int 0, .int 0]) z0_Big (Nat.le_of_ble_eq_true rfl) (Nat.le_of_ble_eq_true rfl) d_Factors_init_27 (fun q10 H w => ?_)
    have w : kW D A s [(h0, .inr (3, [.ref q1, .ref q8, .null, .null, .null, .null, .null, .null, .null, .null, .null, .null, .null, .null, .null, .null, .int 0, .int 0, .int 0, .int 0])), (q10, .inr (1, [.null, .int 0, .int 0]))] H locs := w
    refine lv_dup hx hb d_Factors_init_30 rfl ?_
    refine lv_bipush (v := 28) hx hb d_Factors_init_31 (by decide) ?_
    refine kx_v E w (wc := [(q10, .inr (1, [.null, .int 0, .int 0]))]) (wr := [(h0, .inr (3, [.ref q1, .ref q8, .null, .null, .null, .null, .null, .null, .null, .null, .null, .null, .null, .null, .null, .null, .int 0, .int 0, .int 0, .int 0]))]) [1] [0] rfl rfl ⟨rfl, rfl, by decide⟩ (kx_rI E w hl.1 (As := [.int 28]) (wc := [(q10, .inr (1, [.null, .int 0, .int 0]))]) (c_Big_init_28 l D a q10 H.size) gc_10 gi_Big_init [1] rfl rfl rfl rfl rfl ⟨(Nat.le_of_ble_eq_true rfl), (Nat.le_of_ble_eq_true rfl)⟩ rfl (Nat.le_of_ble_eq_true rfl) d_Factors_init_33 ⟨(Nat.le_of_ble_eq_true rfl), (Nat.le_of_ble_eq_true rfl)⟩) (fun u H locs hu w => ?_)
    obtain ⟨q11, rfl⟩ := hu
    have w : kW D A s [(h0, .inr (3, [.ref q1, .ref q8, .null, .null, .null, .null, .null, .null, .null, .null, .null, .null, .null, .null, .null, .null, .int 0, .int 0, .int 0, .int 0])), (q10, .inr (1, [.ref q11, .int 0, .int 0])), (q11, .inl (a 0, 28, .inl (fun _ => 0)))] H locs := w
    refine kx_putF E w zC_Factors hnm 0 rfl 2 (by decide) mw_99 rfl rfl rfl rfl (Nat.le_of_ble_eq_true rfl) d_Factors_init_36 (ws' := [(h0, .inr (3, [.ref q1, .ref q8, .ref q10, .null, .null, .null, .null, .null, .null, .null, .null, .null, .null, .null, .null, .null, .int 0, .int 0, .int 0, .int 0])), (q10, .inr (1, [.ref q11, .int 0, .int 0])), (q11, .inl (a 0, 28, .inl (fun _ => 0)))]) rfl (fun H locs w => ?_)
    have w := kW_sub w (ws' := [(h0, .inr (3, [.ref q1, .ref q8, .ref q10, .null, .null, .null, .null, .null, .null, .null, .null, .null, .null, .null, .null, .null, .int 0, .int 0, .int 0, .int 0]))]) [0] rfl rfl
    refine lv_aload_n hx hb d_Factors_init_39 rfl (lv_at hl 0 rfl) ?_
    refine lv_bipush (v := 52) hx hb d_Factors_init_40 (by decide) ?_
    refine kx_newa0 (atype := .long) E w rfl mw_36 (N' := 52) (a0 := (52, .inr (.inl (fun _ => 0)))) (fun _ => rfl) (by decide) (by decide) (by decide) (Nat.le_of_ble_eq_true rfl) (Nat.le_of_ble_eq_true rfl) d_Factors_init_42 (fun q12 H w => ?_)
    refine kx_putF E w zC_Factors hnm 0 rfl 3 (by decide) mw_100 rfl rfl rfl rfl (Nat.le_of_ble_eq_true rfl) d_Factors_init_44 (ws' := [(h0, .inr (3, [.ref q1, .ref q8, .ref q10, .ref q12, .null, .null, .null, .null, .null, .null, .null, .null, .null, .null, .null, .null, .int 0, .int 0, .int 0, .int 0]))]) rfl (fun H locs w => ?_)
    refine lv_aload_n hx hb d_Factors_init_47 rfl (lv_at hl 0 rfl) ?_
    refine lv_bipush (v := 52) hx hb d_Factors_init_48 (by decide) ?_
    refine kx_newa0 (atype := .long) E w rfl mw_36 (N' := 52) (a0 := (52, .inr (.inl (fun _ => 0)))) (fun _ => rfl) (by decide) (by decide) (by decide) (Nat.le_of_ble_eq_true rfl) (Nat.le_of_ble_eq_true rfl) d_Factors_init_50 (fun q13 H w => ?_)
    refine kx_putF E w zC_Factors hnm 0 rfl 4 (by decide) mw_101 rfl rfl rfl rfl (Nat.le_of_ble_eq_true rfl) d_Factors_init_52 (ws' := [(h0, .inr (3, [.ref q1, .ref q8, .ref q10, .ref q12, .ref q13, .null, .null, .null, .null, .null, .null, .null, .null, .null, .null, .null, .int 0, .int 0, .int 0, .int 0]))]) rfl (fun H locs w => ?_)
    refine lv_aload_n hx hb d_Factors_init_55 rfl (lv_at hl 0 rfl) ?_
    refine lv_bipush (v := 28) hx hb d_Factors_init_56 (by decide) ?_
    refine kx_newa0 (atype := .long) E w rfl mw_36 (N' := 28) (a0 := (28, .inr (.inl (fun _ => 0)))) (fun _ => rfl) (by decide) (by decide) (by decide) (Nat.le_of_ble_eq_true rfl) (Nat.le_of_ble_eq_true rfl) d_Factors_init_58 (fun q14 H w => ?_)
    refine kx_putF E w zC_Factors hnm 0 rfl 5 (by decide) mw_102 rfl rfl rfl rfl (Nat.le_of_ble_eq_true rfl) d_Factors_init_60 (ws' := [(h0, .inr (3, [.ref q1, .ref q8, .ref q10, .ref q12, .ref q13, .ref q14, .null, .null, .null, .null, .null, .null, .null, .null, .null, .null, .int 0, .int 0, .int 0, .int 0]))]) rfl (fun H locs w => ?_)
    refine lv_aload_n hx hb d_Factors_init_63 rfl (lv_at hl 0 rfl) ?_
    refine lv_bipush (v := 28) hx hb d_Factors_init_64 (by decide) ?_
    refine kx_newa0 (atype := .long) E w rfl mw_36 (N' := 28) (a0 := (28, .inr (.inl (fun _ => 0)))) (fun _ => rfl) (by decide) (by decide) (by decide) (Nat.le_of_ble_eq_true rfl) (Nat.le_of_ble_eq_true rfl) d_Factors_init_66 (fun q15 H w => ?_)
    refine kx_putF E w zC_Factors hnm 0 rfl 6 (by decide) mw_103 rfl rfl rfl rfl (Nat.le_of_ble_eq_true rfl) d_Factors_init_68 (ws' := [(h0, .inr (3, [.ref q1, .ref q8, .ref q10, .ref q12, .ref q13, .ref q14, .ref q15, .null, .null, .null, .null, .null, .null, .null, .null, .null, .int 0, .int 0, .int 0, .int 0]))]) rfl (fun H locs w => ?_)
    refine lv_aload_n hx hb d_Factors_init_71 rfl (lv_at hl 0 rfl) ?_
    refine lv_bipush (v := 28) hx hb d_Factors_init_72 (by decide) ?_
    refine kx_newa0 (atype := .long) E w rfl mw_36 (N' := 28) (a0 := (28, .inr (.inl (fun _ => 0)))) (fun _ => rfl) (by decide) (by decide) (by decide) (Nat.le_of_ble_eq_true rfl) (Nat.le_of_ble_eq_true rfl) d_Factors_init_74 (fun q16 H w => ?_)
    refine kx_putF E w zC_Factors hnm 0 rfl 7 (by decide) mw_104 rfl rfl rfl rfl (Nat.le_of_ble_eq_true rfl) d_Factors_init_76 (ws' := [(h0, .inr (3, [.ref q1, .ref q8, .ref q10, .ref q12, .ref q13, .ref q14, .ref q15, .ref q16, .null, .null, .null, .null, .null, .null, .null, .null, .int 0, .int 0, .int 0, .int 0]))]) rfl (fun H locs w => ?_)
    refine lv_aload_n hx hb d_Factors_init_79 rfl (lv_at hl 0 rfl) ?_
    refine lv_bipush (v := 28) hx hb d_Factors_init_80 (by decide) ?_
    refine kx_newa0 (atype := .long) E w rfl mw_36 (N' := 28) (a0 := (28, .inr (.inl (fun _ => 0)))) (fun _ => rfl) (by decide) (by decide) (by decide) (Nat.le_of_ble_eq_true rfl) (Nat.le_of_ble_eq_true rfl) d_Factors_init_82 (fun q17 H w => ?_)
    refine kx_putF E w zC_Factors hnm 0 rfl 8 (by decide) mw_105 rfl rfl rfl rfl (Nat.le_of_ble_eq_true rfl) d_Factors_init_84 (ws' := [(h0, .inr (3, [.ref q1, .ref q8, .ref q10, .ref q12, .ref q13, .ref q14, .ref q15, .ref q16, .ref q17, .null, .null, .null, .null, .null, .null, .null, .int 0, .int 0, .int 0, .int 0]))]) rfl (fun H locs w => ?_)
    refine lv_aload_n hx hb d_Factors_init_87 rfl (lv_at hl 0 rfl) ?_
    refine lv_bipush (v := 12) hx hb d_Factors_init_88 (by decide) ?_
    refine lv_bipush (v := 12) hx hb d_Factors_init_90 (by decide) ?_
    refine kx_mna E w mw_106 mw_36 (N' := 12) (K' := 12) (by decide) (by decide) (by decide) (by decide) (by decide) (by decide) (Nat.le_of_ble_eq_true rfl) (Nat.le_of_ble_eq_true rfl) d_Factors_init_92 (fun q18 H locs w => ?_)
    refine kx_putF E w zC_Factors hnm 0 rfl 9 (by decide) mw_107 rfl rfl rfl rfl (Nat.le_of_ble_eq_true rfl) d_Factors_init_96 (ws' := [(h0, .inr (3, [.ref q1, .ref q8, .ref q10, .ref q12, .ref q13, .ref q14, .ref q15, .ref q16, .ref q17, .ref q18, .null, .null, .null, .null, .null, .null, .int 0, .int 0, .int 0, .int 0]))]) rfl (fun H locs w => ?_)
    refine lv_aload_n hx hb d_Factors_init_99 rfl (lv_at hl 0 rfl) ?_
    refine lv_bipush (v := 12) hx hb d_Factors_init_100 (by decide) ?_
    refine lv_bipush (v := 12) hx hb d_Factors_init_102 (by decide) ?_
    refine kx_mna E w mw_106 mw_36 (N' := 12) (K' := 12) (by decide) (by decide) (by decide) (by decide) (by decide) (by decide) (Nat.le_of_ble_eq_true rfl) (Nat.le_of_ble_eq_true rfl) d_Factors_init_104 (fun q19 H locs w => ?_)
    refine kx_putF E w zC_Factors hnm 0 rfl 10 (by decide) mw_108 rfl rfl rfl rfl (Nat.le_of_ble_eq_true rfl) d_Factors_init_108 (ws' := [(h0, .inr (3, [.ref q1, .ref q8, .ref q10, .ref q12, .ref q13, .ref q14, .ref q15, .ref q16, .ref q17, .ref q18, .ref q19, .null, .null, .null, .null, .null, .int 0, .int 0, .int 0, .int 0]))]) rfl (fun H locs w => ?_)
    refine lv_aload_n hx hb d_Factors_init_111 rfl (lv_at hl 0 rfl) ?_
    refine lv_bipush (v := 12) hx hb d_Factors_init_112 (by decide) ?_
    refine lv_bipush (v := 13) hx hb d_Factors_init_114 (by decide) ?_
    refine kx_mna E w mw_106 mw_36 (N' := 12) (K' := 13) (by decide) (by decide) (by decide) (by decide) (by decide) (by decide) (Nat.le_of_ble_eq_true rfl) (Nat.le_of_ble_eq_true rfl) d_Factors_init_116 (fun q20 H locs w => ?_)
    refine kx_putF E w zC_Factors hnm 0 rfl 11 (by decide) mw_109 rfl rfl rfl rfl (Nat.le_of_ble_eq_true rfl) d_Factors_init_120 (ws' := [(h0, .inr (3, [.ref q1, .ref q8, .ref q10, .ref q12, .ref q13, .ref q14, .ref q15, .ref q16, .ref q17, .ref q18, .ref q19, .ref q20, .null, .null, .null, .null, .int 0, .int 0, .int 0, .int 0]))]) rfl (fun H locs w => ?_)
    refine lv_aload_n hx hb d_Factors_init_123 rfl (lv_at hl 0 rfl) ?_
    refine lv_bipush (v := 12) hx hb d_Factors_init_124 (by decide) ?_
    refine lv_bipush (v := 13) hx hb d_Factors_init_126 (by decide) ?_
    refine kx_mna E w mw_106 mw_36 (N' := 12) (K' := 13) (by decide) (by decide) (by decide) (by decide) (by decide) (by decide) (Nat.le_of_ble_eq_true rfl) (Nat.le_of_ble_eq_true rfl) d_Factors_init_128 (fun q21 H locs w => ?_)
    refine kx_putF E w zC_Factors hnm 0 rfl 12 (by decide) mw_110 rfl rfl rfl rfl (Nat.le_of_ble_eq_true rfl) d_Factors_init_132 (ws' := [(h0, .inr (3, [.ref q1, .ref q8, .ref q10, .ref q12, .ref q13, .ref q14, .ref q15, .ref q16, .ref q17, .ref q18, .ref q19, .ref q20, .ref q21, .null, .null, .null, .int 0, .int 0, .int 0, .int 0]))]) rfl (fun H locs w => ?_)
    refine lv_aload_n hx hb d_Factors_init_135 rfl (lv_at hl 0 rfl) ?_
    refine lv_bipush (v := 12) hx hb d_Factors_init_136 (by decide) ?_
    refine lv_bipush (v := 52) hx hb d_Factors_init_138 (by decide) ?_
    refine kx_mna E w mw_106 mw_36 (N' := 12) (K' := 52) (by decide) (by decide) (by decide) (by decide) (by decide) (by decide) (Nat.le_of_ble_eq_true rfl) (Nat.le_of_ble_eq_true rfl) d_Factors_init_140 (fun q22 H locs w => ?_)
    refine kx_putF E w zC_Factors hnm 0 rfl 13 (by decide) mw_111 rfl rfl rfl rfl (Nat.le_of_ble_eq_true rfl) d_Factors_init_144 (ws' := [(h0, .inr (3, [.ref q1, .ref q8, .ref q10, .ref q12, .ref q13, .ref q14, .ref q15, .ref q16, .ref q17, .ref q18, .ref q19, .ref q20, .ref q21, .ref q22, .null, .null, .int 0, .int 0, .int 0, .int 0]))]) rfl (fun H locs w => ?_)
    refine lv_aload_n hx hb d_Factors_init_147 rfl (lv_at hl 0 rfl) ?_
    refine lv_bipush (v := 52) hx hb d_Factors_init_148 (by decide) ?_
    refine kx_newa0 (atype := .long) E w rfl mw_36 (N' := 52) (a0 := (52, .inr (.inl (fun _ => 0)))) (fun _ => rfl) (by decide) (by decide) (by decide) (Nat.le_of_ble_eq_true rfl) (Nat.le_of_ble_eq_true rfl) d_Factors_init_150 (fun q23 H w => ?_)
    refine kx_putF E w zC_Factors hnm 0 rfl 14 (by decide) mw_112 rfl rfl rfl rfl (Nat.le_of_ble_eq_true rfl) d_Factors_init_152 (ws' := [(h0, .inr (3, [.ref q1, .ref q8, .ref q10, .ref q12, .ref q13, .ref q14, .ref q15, .ref q16, .ref q17, .ref q18, .ref q19, .ref q20, .ref q21, .ref q22, .ref q23, .null, .int 0, .int 0, .int 0, .int 0]))]) rfl (fun H locs w => ?_)
    refine lv_aload_n hx hb d_Factors_init_155 rfl (lv_at hl 0 rfl) ?_
    refine lv_bipush (v := 12) hx hb d_Factors_init_156 (by decide) ?_
    refine kx_newa0 (atype := .int) E w rfl mw_3 (N' := 12) (a0 := (12, .inl (fun _ => 0))) (fun _ => rfl) (by decide) (by decide) (by decide) (Nat.le_of_ble_eq_true rfl) (Nat.le_of_ble_eq_true rfl) d_Factors_init_158 (fun q24 H w => ?_)
    refine kx_putF E w zC_Factors hnm 0 rfl 15 (by decide) mw_113 rfl rfl rfl rfl (Nat.le_of_ble_eq_true rfl) d_Factors_init_160 (ws' := [(h0, .inr (3, [.ref q1, .ref q8, .ref q10, .ref q12, .ref q13, .ref q14, .ref q15, .ref q16, .ref q17, .ref q18, .ref q19, .ref q20, .ref q21, .ref q22, .ref q23, .ref q24, .int 0, .int 0, .int 0, .int 0]))]) rfl (fun H locs w => ?_)
    refine W.widen (k := 85) (n := 1804) (Nat.le_of_ble_eq_true rfl) (Nat.le_of_ble_eq_true rfl) ?_
    exact kx_vret E w hr hlk d_Factors_init_163 ⟨q1, q8, q10, q12, q13, q14, q15, q16, q17, q18, q19, q20, q21, q22, q23, q24, rfl⟩)
end
section
/-! laid by program (wip/gen) -/
set_option maxRecDepth 100000 in
set_option maxHeartbeats 4000000 in
theorem c_Desk_init (l : Launch) (D : va_G) (a : Nat → ClassId) (h0 : Nat) : ∀ sz : Nat, Met l y_Desk_init (Cond.code y_Desk_init b_Desk_init 2 none :: wA) ({ frames := 4, cells := 494, slots := 11030, locals := 81 } : Room) (va_Pc [.ref h0] (kP D a [(h0, .inr (2, [.null, .null, .null, .null, .null, .null, .null, .null, .null, .int 0, .int 0, .int 0]))] sz)) (va_Qv (fun u : va_W => ∃ q1 : Nat, ∃ q2 : Nat, ∃ q6 : Nat, ∃ q8 : Nat, ∃ q10 : Nat, ∃ q12 : Nat, ∃ q17 : Nat, ∃ q34 : Nat, ∃ q41 : Nat, ∃ q42 : Nat, ∃ q43 : Nat, ∃ q44 : Nat, ∃ q45 : Nat, ∃ q46 : Nat, ∃ q47 : Nat, ∃ q48 : Nat, ∃ q49 : Nat, ∃ q50 : Nat, ∃ q51 : Nat, ∃ q52 : Nat, ∃ q53 : Nat, u = [(h0, .inr (2, [.ref q1, .ref q2, .ref q6, .ref q8, .ref q10, .ref q12, .ref q17, .ref q34, .ref q41, .int 0, .int 0, .int 0])), (q41, .inr (5, [.ref q42, .ref q43, .ref q44, .ref q45, .ref q46, .ref q47, .ref q48, .ref q49, .ref q50, .ref q51, .ref q52, .null, .null, .int 0, .int 0, .int 0, .int 0])), (q51, .inr (1, [.ref q53, .int 0, .int 0])), (q53, .inl (a 0, 72, .inl (fun _ => 0)))]) (kB D a (va_A [(h0, .inr (2, [.null, .null, .null, .null, .null, .null, .null, .null, .null, .int 0, .int 0, .int 0]))] sz)) (va_A [(h0, .inr (2, [.null, .null, .null, .null, .null, .null, .null, .null, .null, .int 0, .int 0, .int 0]))] sz)) 494 11030 (va_A [(h0, .inr (2, [.null, .null, .null, .null, .null, .null, .null, .null, .null, .int 0, .int 0, .int 0]))] sz) :=
  kM (Qc := fun A => va_Qv (fun u : va_W => ∃ q1 : Nat, ∃ q2 : Nat, ∃ q6 : Nat, ∃ q8 : Nat, ∃ q10 : Nat, ∃ q12 : Nat, ∃ q17 : Nat, ∃ q34 : Nat, ∃ q41 : Nat, ∃ q42 : Nat, ∃ q43 : Nat, ∃ q44 : Nat, ∃ q45 : Nat, ∃ q46 : Nat, ∃ q47 : Nat, ∃ q48 : Nat, ∃ q49 : Nat, ∃ q50 : Nat, ∃ q51 : Nat, ∃ q52 : Nat, ∃ q53 : Nat, u = [(h0, .inr (2, [.ref q1, .ref q2, .ref q6, .ref q8, .ref q10, .ref q12, .ref q17, .ref q34, .ref q41, .int 0, .int 0, .int 0])), (q41, .inr (5, [.ref q42, .ref q43, .ref q44, .ref q45, .ref q46, .ref q47, .ref q48, .ref q49, .ref q50, .ref q51, .ref q52, .null, .null, .int 0, .int 0, .int 0, .int 0])), (q51, .inr (1, [.ref q53, .int 0, .int 0])), (q53, .inl (a 0, 72, .inl (fun _ => 0)))]) (kB D a A) A) (by decide) (Nat.le_of_ble_eq_true rfl) (by
    intro p e s m below meth c A ls H locs E hr hlk hnm w hl
    have hx := E.1.1
    have hb := E.1.2.1
    have E : kE p m c b_Desk_init 2 s [.ref h0].toArray "RootAlgebra$Desk" D a A := E
    have hl : lv_has ls 2 [(0, .ref h0)] := hl
    have hnm : meth.name = "<init>" := hnm
    refine lv_aload_n hx hb d_Desk_init_0 rfl (lv_at hl 0 rfl) ?_
    refine kx_obj E hl.1 mw_114 mw_1 mw_2 d_Desk_init_1 (Nat.le_of_ble_eq_true rfl) (Nat.le_of_ble_eq_true rfl) (Nat.le_of_ble_eq_true rfl) ?_
    refine lv_aload_n hx hb d_Desk_init_4 rfl (lv_at hl 0 rfl) ?_
    refine lv_bipush (v := 32) hx hb d_Desk_init_5 (by decide) ?_
    refine kx_newq E w mw_115 E.2.1.2.2.1 5 rfl (N' := 32) (by decide) (by decide) (by decide) (Nat.le_of_ble_eq_true rfl) (Nat.le_of_ble_eq_true rfl) d_Desk_init_7 (fun q1 H w => ?_)
    have w : kW D A s [(h0, .inr (2, [.null, .null, .null, .null, .null, .null, .null, .null, .null, .int 0, .int 0, .int 0])), (q1, .inl (a 5, 32, .inr (.inr (.inr (.inr (fun _ => none))))))] H locs := w
    refine kx_putF E w zC_Desk hnm 0 rfl 0 (by decide) mw_116 rfl rfl rfl rfl (Nat.le_of_ble_eq_true rfl) d_Desk_init_10 (ws' := [(h0, .inr (2, [.ref q1, .null, .null, .null, .null, .null, .null, .null, .null, .int 0, .int 0, .int 0])), (q1, .inl (a 5, 32, .inr (.inr (.inr (.inr (fun _ => none))))))]) rfl (fun H locs w => ?_)
    refine lv_iconst (v := 0) hx hb d_Desk_init_13 (by decide) ?_
    refine lv_istore_n (lv' := [(1, .int 0), (0, .ref h0)]) hx hb d_Desk_init_14 rfl hl (by decide) rfl (fun ls hl => ?_)
    refine W.widen (k := 1 + 4 * 0) (n := 32 + 29 * 0) (Nat.le_of_ble_eq_true rfl) (Nat.le_of_ble_eq_true rfl) ?_
    have loop : ∀ (n i : Nat), i + n = 32 → ∀ (f1 : Nat → Option Nat) (H : Heap) (locs : List Loc) (ls : Array Slot), kW D A s [(h0, .inr (2, [.ref q1, .null, .null, .null, .null, .null, .null, .null, .null, .int 0, .int 0, .int 0])), (q1, .inl (a 5, 32, .inr (.inr (.inr (.inr f1)))))] H locs → lv_has ls 2 [(0, .ref h0), (1, .int (nI i))] → W p l e ({ frames := 4, cells := 494, slots := 11030, locals := 81 } : Room) s m [.ref h0].toArray below meth c H locs (1 + 4 * i) (32 + 29 * i) (MQ below (va_Qv (fun u : va_W => ∃ q1 : Nat, ∃ q2 : Nat, ∃ q6 : Nat, ∃ q8 : Nat, ∃ q10 : Nat, ∃ q12 : Nat, ∃ q17 : Nat, ∃ q34 : Nat, ∃ q41 : Nat, ∃ q42 : Nat, ∃ q43 : Nat, ∃ q44 : Nat, ∃ q45 : Nat, ∃ q46 : Nat, ∃ q47 : Nat, ∃ q48 : Nat, ∃ q49 : Nat, ∃ q50 : Nat, ∃ q51 : Nat, ∃ q52 : Nat, ∃ q53 : Nat, u = [(h0, .inr (2, [.ref q1, .ref q2, .ref q6, .ref q8, .ref q10, .ref q12, .ref q17, .ref q34, .ref q41, .int 0, .int 0, .int 0])), (q41, .inr (5, [.ref q42, .ref q43, .ref q44, .ref q45, .ref q46, .ref q47, .ref q48, .ref q49, .ref q50, .ref q51, .ref q52, .null, .null, .int 0, .int 0, .int 0, .int 0])), (q51, .inr (1, [.ref q53, .int 0, .int 0])), (q53, .inl (a 0, 72, .inl (fun _ => 0)))]) (kB D a A) A) [.ref h0].toArray s 494 11030 A) (F0 m 15 ls [])  := by
      intro n
      induction n with
      | zero =>
        intro i hi f1 H locs ls w hl
        obtain rfl : i = 32 := by omega
        have hl : lv_has ls 2 [(0, .ref h0), (1, .int 32)] := hl
        have w := kW_sub w (ws' := [(h0, .inr (2, [.ref q1, .null, .null, .null, .null, .null, .null, .null, .null, .int 0, .int 0, .int 0]))]) [0] rfl rfl
        refine lv_iload_n hx hb d_Desk_init_15 rfl (lv_at hl 1 rfl) ?_
        refine lv_bipush (v := 32) hx hb d_Desk_init_16 (by decide) ?_
        refine lv_icmp_ge (tgt := 40) hx hb d_Desk_init_18 (by decide) (fun _ => ?_) (fun h => absurd (by decide) h)
        refine lv_aload_n hx hb d_Desk_init_40 rfl (lv_at hl 0 rfl) ?_
        refine kx_new E w zC_Value mw_115 mw_117 mw_26 (fs := [.null, .null, .int 0, .int 0, .int 0, .int 0, .int 0]) z0_Value (Nat.le_of_ble_eq_true rfl) (Nat.le_of_ble_eq_true rfl) d_Desk_init_41 (fun q2 H w => ?_)
        have w : kW D A s [(h0, .inr (2, [.ref q1, .null, .null, .null, .null, .null, .null, .null, .null, .int 0, .int 0, .int 0])), (q2, .inr (11, [.null, .null, .int 0, .int 0, .int 0, .int 0, .int 0]))] H locs := w
        refine lv_dup hx hb d_Desk_init_44 rfl ?_
        refine kx_v E w (wc := [(q2, .inr (11, [.null, .null, .int 0, .int 0, .int 0, .int 0, .int 0]))]) (wr := [(h0, .inr (2, [.ref q1, .null, .null, .null, .null, .null, .null, .null, .null, .int 0, .int 0, .int 0]))]) [1] [0] rfl rfl ⟨rfl, rfl, by decide⟩ (kx_rI E w hl.1 (As := []) (wc := [(q2, .inr (11, [.null, .null, .int 0, .int 0, .int 0, .int 0, .int 0]))]) (c_Value_init l D a q2 H.size) gc_11 gi_Value_init [1] rfl rfl rfl rfl rfl ⟨(Nat.le_of_ble_eq_true rfl), (Nat.le_of_ble_eq_true rfl)⟩ rfl (Nat.le_of_ble_eq_true rfl) d_Desk_init_45 ⟨(Nat.le_of_ble_eq_true rfl), (Nat.le_of_ble_eq_true rfl)⟩) (fun u H locs hu w => ?_)
        obtain ⟨q3, q4, q5, rfl⟩ := hu
        have w : kW D A s [(h0, .inr (2, [.ref q1, .null, .null, .null, .null, .null, .null, .null, .null, .int 0, .int 0, .int 0])), (q2, .inr (11, [.ref q3, .ref q4, .int 0, .int 0, .int 0, .int 0, .int 0])), (q3, .inl (a 0, 7, .inl (fun _ => 0))), (q4, .inr (1, [.ref q5, .int 0, .int 0])), (q5, .inl (a 0, 12, .inl (fun _ => 0)))] H locs := w
        refine kx_putF E w zC_Desk hnm 0 rfl 1 (by decide) mw_121 rfl rfl rfl rfl (Nat.le_of_ble_eq_true rfl) d_Desk_init_48 (ws' := [(h0, .inr (2, [.ref q1, .ref q2, .null, .null, .null, .null, .null, .null, .null, .int 0, .int 0, .int 0])), (q2, .inr (11, [.ref q3, .ref q4, .int 0, .int 0, .int 0, .int 0, .int 0])), (q3, .inl (a 0, 7, .inl (fun _ => 0))), (q4, .inr (1, [.ref q5, .int 0, .int 0])), (q5, .inl (a 0, 12, .inl (fun _ => 0)))]) rfl (fun H locs w => ?_)
        have w := kW_sub w (ws' := [(h0, .inr (2, [.ref q1, .ref q2, .null, .null, .null, .null, .null, .null, .null, .int 0, .int 0, .int 0]))]) [0] rfl rfl
        refine lv_aload_n hx hb d_Desk_init_51 rfl (lv_at hl 0 rfl) ?_
        refine kx_new E w zC_Poly mw_122 mw_123 mw_124 (fs := [.null, .int 0]) z0_Poly (Nat.le_of_ble_eq_true rfl) (Nat.le_of_ble_eq_true rfl) d_Desk_init_52 (fun q6 H w => ?_)
        have w : kW D A s [(h0, .inr (2, [.ref q1, .ref q2, .null, .null, .null, .null, .null, .null, .null, .int 0, .int 0, .int 0])), (q6, .inr (8, [.null, .int 0]))] H locs := w
        refine lv_dup hx hb d_Desk_init_55 rfl ?_
        refine kx_v E w (wc := [(q6, .inr (8, [.null, .int 0]))]) (wr := [(h0, .inr (2, [.ref q1, .ref q2, .null, .null, .null, .null, .null, .null, .null, .int 0, .int 0, .int 0]))]) [1] [0] rfl rfl ⟨rfl, rfl, by decide⟩ (kx_rI E w hl.1 (As := []) (wc := [(q6, .inr (8, [.null, .int 0]))]) (c_Poly_init l D a q6 H.size) gc_12 gi_Poly_init [1] rfl rfl rfl rfl rfl ⟨(Nat.le_of_ble_eq_true rfl), (Nat.le_of_ble_eq_true rfl)⟩ rfl (Nat.le_of_ble_eq_true rfl) d_Desk_init_56 ⟨(Nat.le_of_ble_eq_true rfl), (Nat.le_of_ble_eq_true rfl)⟩) (fun u H locs hu w => ?_)
        obtain ⟨q7, rfl⟩ := hu
        have w : kW D A s [(h0, .inr (2, [.ref q1, .ref q2, .null, .null, .null, .null, .null, .null, .null, .int 0, .int 0, .int 0])), (q6, .inr (8, [.ref q7, .int 0]))] H locs := w
        refine kx_putF E w zC_Desk hnm 0 rfl 2 (by decide) mw_128 rfl rfl rfl rfl (Nat.le_of_ble_eq_true rfl) d_Desk_init_59 (ws' := [(h0, .inr (2, [.ref q1, .ref q2, .ref q6, .null, .null, .null, .null, .null, .null, .int 0, .int 0, .int 0])), (q6, .inr (8, [.ref q7, .int 0]))]) rfl (fun H locs w => ?_)
        have w := kW_sub w (ws' := [(h0, .inr (2, [.ref q1, .ref q2, .ref q6, .null, .null, .null, .null, .null, .null, .int 0, .int 0, .int 0]))]) [0] rfl rfl
        refine lv_aload_n hx hb d_Desk_init_62 rfl (lv_at hl 0 rfl) ?_
        refine kx_new E w zC_Poly mw_122 mw_123 mw_124 (fs := [.null, .int 0]) z0_Poly (Nat.le_of_ble_eq_true rfl) (Nat.le_of_ble_eq_true rfl) d_Desk_init_63 (fun q8 H w => ?_)
        have w : kW D A s [(h0, .inr (2, [.ref q1, .ref q2, .ref q6, .null, .null, .null, .null, .null, .null, .int 0, .int 0, .int 0])), (q8, .inr (8, [.null, .int 0]))] H locs := w
        refine lv_dup hx hb d_Desk_init_66 rfl ?_
        refine kx_v E w (wc := [(q8, .inr (8, [.null, .int 0]))]) (wr := [(h0, .inr (2, [.ref q1, .ref q2, .ref q6, .null, .null, .null, .null, .null, .null, .int 0, .int 0, .int 0]))]) [1] [0] rfl rfl ⟨rfl, rfl, by decide⟩ (kx_rI E w hl.1 (As := []) (wc := [(q8, .inr (8, [.null, .int 0]))]) (c_Poly_init l D a q8 H.size) gc_12 gi_Poly_init [1] rfl rfl rfl rfl rfl ⟨(Nat.le_of_ble_eq_true rfl), (Nat.le_of_ble_eq_true rfl)⟩ rfl (Nat.le_of_ble_eq_true rfl) d_Desk_init_67 ⟨(Nat.le_of_ble_eq_true rfl), (Nat.le_of_ble_eq_true rfl)⟩) (fun u H locs hu w => ?_)
        obtain ⟨q9, rfl⟩ := hu
        have w : kW D A s [(h0, .inr (2, [.ref q1, .ref q2, .ref q6, .null, .null, .null, .null, .null, .null, .int 0, .int 0, .int 0])), (q8, .inr (8, [.ref q9, .int 0]))] H locs := w
        refine kx_putF E w zC_Desk hnm 0 rfl 3 (by decide) mw_129 rfl rfl rfl rfl (Nat.le_of_ble_eq_true rfl) d_Desk_init_70 (ws' := [(h0, .inr (2, [.ref q1, .ref q2, .ref q6, .ref q8, .null, .null, .null, .null, .null, .int 0, .int 0, .int 0])), (q8, .inr (8, [.ref q9, .int 0]))]) rfl (fun H locs w => ?_)
        have w := kW_sub w (ws' := [(h0, .inr (2, [.ref q1, .ref q2, .ref q6, .ref q8, .null, .null, .null, .null, .null, .int 0, .int 0, .int 0]))]) [0] rfl rfl
        refine lv_aload_n hx hb d_Desk_init_73 rfl (lv_at hl 0 rfl) ?_
        refine kx_new E w zC_Poly mw_122 mw_123 mw_124 (fs := [.null, .int 0]) z0_Poly (Nat.le_of_ble_eq_true rfl) (Nat.le_of_ble_eq_true rfl) d_Desk_init_74 (fun q10 H w => ?_)
        have w : kW D A s [(h0, .inr (2, [.ref q1, .ref q2, .ref q6, .ref q8, .null, .null, .null, .null, .null, .int 0, .int 0, .int 0])), (q10, .inr (8, [.null, .int 0]))] H locs := w
        refine lv_dup hx hb d_Desk_init_77 rfl ?_
        refine kx_v E w (wc := [(q10, .inr (8, [.null, .int 0]))]) (wr := [(h0, .inr (2, [.ref q1, .ref q2, .ref q6, .ref q8, .null, .null, .null, .null, .null, .int 0, .int 0, .int 0]))]) [1] [0] rfl rfl ⟨rfl, rfl, by decide⟩ (kx_rI E w hl.1 (As := []) (wc := [(q10, .inr (8, [.null, .int 0]))]) (c_Poly_init l D a q10 H.size) gc_12 gi_Poly_init [1] rfl rfl rfl rfl rfl ⟨(Nat.le_of_ble_eq_true rfl), (Nat.le_of_ble_eq_true rfl)⟩ rfl (Nat.le_of_ble_eq_true rfl) d_Desk_init_78 ⟨(Nat.le_of_ble_eq_true rfl), (Nat.le_of_ble_eq_true rfl)⟩) (fun u H locs hu w => ?_)
        obtain ⟨q11, rfl⟩ := hu
        have w : kW D A s [(h0, .inr (2, [.ref q1, .ref q2, .ref q6, .ref q8, .null, .null, .null, .null, .null, .int 0, .int 0, .int 0])), (q10, .inr (8, [.ref q11, .int 0]))] H locs := w
        refine kx_putF E w zC_Desk hnm 0 rfl 4 (by decide) mw_130 rfl rfl rfl rfl (Nat.le_of_ble_eq_true rfl) d_Desk_init_81 (ws' := [(h0, .inr (2, [.ref q1, .ref q2, .ref q6, .ref q8, .ref q10, .null, .null, .null, .null, .int 0, .int 0, .int 0])), (q10, .inr (8, [.ref q11, .int 0]))]) rfl (fun H locs w => ?_)
        have w := kW_sub w (ws' := [(h0, .inr (2, [.ref q1, .ref q2, .ref q6, .ref q8, .ref q10, .null, .null, .null, .null, .int 0, .int 0, .int 0]))]) [0] rfl rfl
        refine lv_aload_n hx hb d_Desk_init_84 rfl (lv_at hl 0 rfl) ?_
        refine kx_new E w zC_Sums mw_131 mw_132 mw_133 (fs := [.null, .null, .null, .null]) z0_Sums (Nat.le_of_ble_eq_true rfl) (Nat.le_of_ble_eq_true rfl) d_Desk_init_85 (fun q12 H w => ?_)
        have w : kW D A s [(h0, .inr (2, [.ref q1, .ref q2, .ref q6, .ref q8, .ref q10, .null, .null, .null, .null, .int 0, .int 0, .int 0])), (q12, .inr (10, [.null, .null, .null, .null]))] H locs := w
        refine lv_dup hx hb d_Desk_init_88 rfl ?_
        refine kx_v E w (wc := [(q12, .inr (10, [.null, .null, .null, .null]))]) (wr := [(h0, .inr (2, [.ref q1, .ref q2, .ref q6, .ref q8, .ref q10, .null, .null, .null, .null, .int 0, .int 0, .int 0]))]) [1] [0] rfl rfl ⟨rfl, rfl, by decide⟩ (kx_rI E w hl.1 (As := []) (wc := [(q12, .inr (10, [.null, .null, .null, .null]))]) (c_Sums_init l D a q12 H.size) gc_13 gi_Sums_init [1] rfl rfl rfl rfl rfl ⟨(Nat.le_of_ble_eq_true rfl), (Nat.le_of_ble_eq_true rfl)⟩ rfl (Nat.le_of_ble_eq_true rfl) d_Desk_init_89 ⟨(Nat.le_of_ble_eq_true rfl), (Nat.le_of_ble_eq_true rfl)⟩) (fun u H locs hu w => ?_)
        obtain ⟨q13, q14, q15, q16, rfl⟩ := hu
        have w : kW D A s [(h0, .inr (2, [.ref q1, .ref q2, .ref q6, .ref q8, .ref q10, .null, .null, .null, .null, .int 0, .int 0, .int 0])), (q12, .inr (10, [.ref q13, .ref q14, .ref q15, .ref q16]))] H locs := w
        refine kx_putF E w zC_Desk hnm 0 rfl 5 (by decide) mw_137 rfl rfl rfl rfl (Nat.le_of_ble_eq_true rfl) d_Desk_init_92 (ws' := [(h0, .inr (2, [.ref q1, .ref q2, .ref q6, .ref q8, .ref q10, .ref q12, .null, .null, .null, .int 0, .int 0, .int 0])), (q12, .inr (10, [.ref q13, .ref q14, .ref q15, .ref q16]))]) rfl (fun H locs w => ?_)
        have w := kW_sub w (ws' := [(h0, .inr (2, [.ref q1, .ref q2, .ref q6, .ref q8, .ref q10, .ref q12, .null, .null, .null, .int 0, .int 0, .int 0]))]) [0] rfl rfl
        refine lv_aload_n hx hb d_Desk_init_95 rfl (lv_at hl 0 rfl) ?_
        refine kx_new E w zC_Factors mw_138 mw_139 mw_140 (fs := [.null, .null, .null, .null, .null, .null, .null, .null, .null, .null, .null, .null, .null, .null, .null, .null, .int 0, .int 0, .int 0, .int 0]) z0_Factors (Nat.le_of_ble_eq_true rfl) (Nat.le_of_ble_eq_true rfl) d_Desk_init_96 (fun q17 H w => ?_)
        have w : kW D A s [(h0, .inr (2, [.ref q1, .ref q2, .ref q6, .ref q8, .ref q10, .ref q12, .null, .null, .null, .int 0, .int 0, .int 0])), (q17, .inr (3, [.null, .null, .null, .null, .null, .null, .null, .null, .null, .null, .null, .null, .null, .null, .null, .null, .int 0, .int 0, .int 0, .int 0]))] H locs := w
        refine lv_dup hx hb d_Desk_init_99 rfl ?_
        refine kx_v E w (wc := [(q17, .inr (3, [.null, .null, .null, .null, .null, .null, .null, .null, .null, .null, .null, .null, .null, .null, .null, .null, .int 0, .int 0, .int 0, .int 0]))]) (wr := [(h0, .inr (2, [.ref q1, .ref q2, .ref q6, .ref q8, .ref q10, .ref q12, .null, .null, .null, .int 0, .int 0, .int 0]))]) [1] [0] rfl rfl ⟨rfl, rfl, by decide⟩ (kx_rI E w hl.1 (As := []) (wc := [(q17, .inr (3, [.null, .null, .null, .null, .null, .null, .null, .null, .null, .null, .null, .null, .null, .null, .null, .null, .int 0, .int 0, .int 0, .int 0]))]) (c_Factors_init l D a q17 H.size) gc_14 gi_Factors_init [1] rfl rfl rfl rfl rfl ⟨(Nat.le_of_ble_eq_true rfl), (Nat.le_of_ble_eq_true rfl)⟩ rfl (Nat.le_of_ble_eq_true rfl) d_Desk_init_100 ⟨(Nat.le_of_ble_eq_true rfl), (Nat.le_of_ble_eq_true rfl)⟩) (fun u H locs hu w => ?_)
        obtain ⟨q18, q19, q20, q21, q22, q23, q24, q25, q26, q27, q28, q29, q30, q31, q32, q33, rfl⟩ := hu
        have w : kW D A s [(h0, .inr (2, [.ref q1, .ref q2, .ref q6, .ref q8, .ref q10, .ref q12, .null, .null, .null, .int 0, .int 0, .int 0])), (q17, .inr (3, [.ref q18, .ref q19, .ref q20, .ref q21, .ref q22, .ref q23, .ref q24, .ref q25, .ref q26, .ref q27, .ref q28, .ref q29, .ref q30, .ref q31, .ref q32, .ref q33, .int 0, .int 0, .int 0, .int 0]))] H locs := w
        refine kx_putF E w zC_Desk hnm 0 rfl 6 (by decide) mw_144 rfl rfl rfl rfl (Nat.le_of_ble_eq_true rfl) d_Desk_init_103 (ws' := [(h0, .inr (2, [.ref q1, .ref q2, .ref q6, .ref q8, .ref q10, .ref q12, .ref q17, .null, .null, .int 0, .int 0, .int 0])), (q17, .inr (3, [.ref q18, .ref q19, .ref q20, .ref q21, .ref q22, .ref q23, .ref q24, .ref q25, .ref q26, .ref q27, .ref q28, .ref q29, .ref q30, .ref q31, .ref q32, .ref q33, .int 0, .int 0, .int 0, .int 0]))]) rfl (fun H locs w => ?_)
        have w := kW_sub w (ws' := [(h0, .inr (2, [.ref q1, .ref q2, .ref q6, .ref q8, .ref q10, .ref q12, .ref q17, .null, .null, .int 0, .int 0, .int 0]))]) [0] rfl rfl
        refine lv_aload_n hx hb d_Desk_init_106 rfl (lv_at hl 0 rfl) ?_
        refine kx_new E w zC_Isolator mw_145 mw_146 mw_147 (fs := [.null, .null, .null, .null, .null, .null, .int 0, .int 0, .int 0, .int 0, .int 0]) z0_Isolator (Nat.le_of_ble_eq_true rfl) (Nat.le_of_ble_eq_true rfl) d_Desk_init_107 (fun q34 H w => ?_)
        have w : kW D A s [(h0, .inr (2, [.ref q1, .ref q2, .ref q6, .ref q8, .ref q10, .ref q12, .ref q17, .null, .null, .int 0, .int 0, .int 0])), (q34, .inr (6, [.null, .null, .null, .null, .null, .null, .int 0, .int 0, .int 0, .int 0, .int 0]))] H locs := w
        refine lv_dup hx hb d_Desk_init_110 rfl ?_
        refine kx_v E w (wc := [(q34, .inr (6, [.null, .null, .null, .null, .null, .null, .int 0, .int 0, .int 0, .int 0, .int 0]))]) (wr := [(h0, .inr (2, [.ref q1, .ref q2, .ref q6, .ref q8, .ref q10, .ref q12, .ref q17, .null, .null, .int 0, .int 0, .int 0]))]) [1] [0] rfl rfl ⟨rfl, rfl, by decide⟩ (kx_rI E w hl.1 (As := []) (wc := [(q34, .inr (6, [.null, .null, .null, .null, .null, .null, .int 0, .int 0, .int 0, .int 0, .int 0]))]) (c_Isolator_init l D a q34 H.size) gc_15 gi_Isolator_init [1] rfl rfl rfl rfl rfl ⟨(Nat.le_of_ble_eq_true rfl), (Nat.le_of_ble_eq_true rfl)⟩ rfl (Nat.le_of_ble_eq_true rfl) d_Desk_init_111 ⟨(Nat.le_of_ble_eq_true rfl), (Nat.le_of_ble_eq_true rfl)⟩) (fun u H locs hu w => ?_)
        obtain ⟨q35, q36, q37, q38, q39, q40, rfl⟩ := hu
        have w : kW D A s [(h0, .inr (2, [.ref q1, .ref q2, .ref q6, .ref q8, .ref q10, .ref q12, .ref q17, .null, .null, .int 0, .int 0, .int 0])), (q34, .inr (6, [.ref q35, .ref q36, .ref q37, .ref q38, .ref q39, .ref q40, .int 0, .int 0, .int 0, .int 0, .int 0]))] H locs := w
        refine kx_putF E w zC_Desk hnm 0 rfl 7 (by decide) mw_151 rfl rfl rfl rfl (Nat.le_of_ble_eq_true rfl) d_Desk_init_114 (ws' := [(h0, .inr (2, [.ref q1, .ref q2, .ref q6, .ref q8, .ref q10, .ref q12, .ref q17, .ref q34, .null, .int 0, .int 0, .int 0])), (q34, .inr (6, [.ref q35, .ref q36, .ref q37, .ref q38, .ref q39, .ref q40, .int 0, .int 0, .int 0, .int 0, .int 0]))]) rfl (fun H locs w => ?_)
        have w := kW_sub w (ws' := [(h0, .inr (2, [.ref q1, .ref q2, .ref q6, .ref q8, .ref q10, .ref q12, .ref q17, .ref q34, .null, .int 0, .int 0, .int 0]))]) [0] rfl rfl
        refine lv_aload_n hx hb d_Desk_init_117 rfl (lv_at hl 0 rfl) ?_
        refine kx_new E w zC_Gauge mw_152 mw_153 mw_154 (fs := [.null, .null, .null, .null, .null, .null, .null, .null, .null, .null, .null, .null, .null, .int 0, .int 0, .int 0, .int 0]) z0_Gauge (Nat.le_of_ble_eq_true rfl) (Nat.le_of_ble_eq_true rfl) d_Desk_init_118 (fun q41 H w => ?_)
        have w : kW D A s [(h0, .inr (2, [.ref q1, .ref q2, .ref q6, .ref q8, .ref q10, .ref q12, .ref q17, .ref q34, .null, .int 0, .int 0, .int 0])), (q41, .inr (5, [.null, .null, .null, .null, .null, .null, .null, .null, .null, .null, .null, .null, .null, .int 0, .int 0, .int 0, .int 0]))] H locs := w
        refine lv_dup hx hb d_Desk_init_121 rfl ?_
        refine kx_v E w (wc := [(q41, .inr (5, [.null, .null, .null, .null, .null, .null, .null, .null, .null, .null, .null, .null, .null, .int 0, .int 0, .int 0, .int 0]))]) (wr := [(h0, .inr (2, [.ref q1, .ref q2, .ref q6, .ref q8, .ref q10, .ref q12, .ref q17, .ref q34, .null, .int 0, .int 0, .int 0]))]) [1] [0] rfl rfl ⟨rfl, rfl, by decide⟩ (kx_rI E w hl.1 (As := []) (wc := [(q41, .inr (5, [.null, .null, .null, .null, .null, .null, .null, .null, .null, .null, .null, .null, .null, .int 0, .int 0, .int 0, .int 0]))]) (c_Gauge_init l D a q41 H.size) gc_16 gi_Gauge_init [1] rfl rfl rfl rfl rfl ⟨(Nat.le_of_ble_eq_true rfl), (Nat.le_of_ble_eq_true rfl)⟩ rfl (Nat.le_of_ble_eq_true rfl) d_Desk_init_122 ⟨(Nat.le_of_ble_eq_true rfl), (Nat.le_of_ble_eq_true rfl)⟩) (fun u H locs hu w => ?_)
        obtain ⟨q42, q43, q44, q45, q46, q47, q48, q49, q50, q51, q52, q53, rfl⟩ := hu
        have w : kW D A s [(h0, .inr (2, [.ref q1, .ref q2, .ref q6, .ref q8, .ref q10, .ref q12, .ref q17, .ref q34, .null, .int 0, .int 0, .int 0])), (q41, .inr (5, [.ref q42, .ref q43, .ref q44, .ref q45, .ref q46, .ref q47, .ref q48, .ref q49, .ref q50, .ref q51, .ref q52, .null, .null, .int 0, .int 0, .int 0, .int 0])), (q51, .inr (1, [.ref q53, .int 0, .int 0])), (q53, .inl (a 0, 72, .inl (fun _ => 0)))] H locs := w
        refine kx_putF E w zC_Desk hnm 0 rfl 8 (by decide) mw_158 rfl rfl rfl rfl (Nat.le_of_ble_eq_true rfl) d_Desk_init_125 (ws' := [(h0, .inr (2, [.ref q1, .ref q2, .ref q6, .ref q8, .ref q10, .ref q12, .ref q17, .ref q34, .ref q41, .int 0, .int 0, .int 0])), (q41, .inr (5, [.ref q42, .ref q43, .ref q44, .ref q45, .ref q46, .ref q47, .ref q48, .ref q49, .ref q50, .ref q51, .ref q52, .null, .null, .int 0, .int 0, .int 0, .int 0])), (q51, .inr (1, [.ref q53, .int 0, .int 0])), (q53, .inl (a 0, 72, .inl (fun _ => 0)))]) rfl (fun H locs w => ?_)
        refine W.widen (k := 494) (n := 11030) (Nat.le_of_ble_eq_true rfl) (Nat.le_of_ble_eq_true rfl) ?_
        exact kx_vret E w hr hlk d_Desk_init_128 ⟨q1, q2, q6, q8, q10, q12, q17, q34, q41, q42, q43, q44, q45, q46, q47, q48, q49, q50, q51, q52, q53, rfl⟩
      | succ n ih =>
        intro i hi f1 H locs ls w hl
        refine lv_iload_n hx hb d_Desk_init_15 rfl (lv_at hl 1 rfl) ?_
        refine lv_bipush (v := 32) hx hb d_Desk_init_16 (by decide) ?_
        refine lv_icmp_ge (tgt := 40) hx hb d_Desk_init_18 (by decide) (fun h => absurd h (nI_ge (a := i) (b := 32) (by omega) (by omega))) (fun _ => ?_)
        refine lv_aload_n hx hb d_Desk_init_21 rfl (lv_at hl 0 rfl) ?_
        refine kx_get E w zC_Desk 0 rfl 0 (by decide) mw_116 rfl d_Desk_init_22 ?_
        refine lv_iload_n hx hb d_Desk_init_25 rfl (lv_at hl 1 rfl) ?_
        refine kx_new E w zC_Value mw_115 mw_117 mw_26 (fs := [.null, .null, .int 0, .int 0, .int 0, .int 0, .int 0]) z0_Value (show 1 + 4 * i + 1 ≤ 494 from by omega) (show 32 + 29 * i + 7 ≤ 11030 from by omega) d_Desk_init_26 (fun q54 H w => ?_)
        have w : kW D A s [(h0, .inr (2, [.ref q1, .null, .null, .null, .null, .null, .null, .null, .null, .int 0, .int 0, .int 0])), (q1, .inl (a 5, 32, .inr (.inr (.inr (.inr f1))))), (q54, .inr (11, [.null, .null, .int 0, .int 0, .int 0, .int 0, .int 0]))] H locs := w
        refine lv_dup hx hb d_Desk_init_29 rfl ?_
        refine kx_v E w (wc := [(q54, .inr (11, [.null, .null, .int 0, .int 0, .int 0, .int 0, .int 0]))]) (wr := [(h0, .inr (2, [.ref q1, .null, .null, .null, .null, .null, .null, .null, .null, .int 0, .int 0, .int 0])), (q1, .inl (a 5, 32, .inr (.inr (.inr (.inr f1)))))]) [2] [0, 1] rfl rfl ⟨rfl, rfl, by decide⟩ (kx_rI E w hl.1 (As := []) (wc := [(q54, .inr (11, [.null, .null, .int 0, .int 0, .int 0, .int 0, .int 0]))]) (c_Value_init l D a q54 H.size) gc_11 gi_Value_init [2] rfl rfl rfl rfl rfl ⟨(Nat.le_of_ble_eq_true rfl), (Nat.le_of_ble_eq_true rfl)⟩ rfl (Nat.le_of_ble_eq_true rfl) d_Desk_init_30 ⟨(show 1 + 4 * i + 1 + 3 ≤ 494 from by omega), (show 32 + 29 * i + 7 + 22 ≤ 11030 from by omega)⟩) (fun u H locs hu w => ?_)
        obtain ⟨q55, q56, q57, rfl⟩ := hu
        have w : kW D A s [(h0, .inr (2, [.ref q1, .null, .null, .null, .null, .null, .null, .null, .null, .int 0, .int 0, .int 0])), (q1, .inl (a 5, 32, .inr (.inr (.inr (.inr f1))))), (q54, .inr (11, [.ref q55, .ref q56, .int 0, .int 0, .int 0, .int 0, .int 0])), (q55, .inl (a 0, 7, .inl (fun _ => 0))), (q56, .inr (1, [.ref q57, .int 0, .int 0])), (q57, .inl (a 0, 12, .inl (fun _ => 0)))] H locs := w
        refine kx_aast E w 1 5 2 11 rfl rfl rfl rfl (vp_in_nI (by omega) (by omega)) i (nI_clamp (by omega)) d_Desk_init_33 (ws' := [(h0, .inr (2, [.ref q1, .null, .null, .null, .null, .null, .null, .null, .null, .int 0, .int 0, .int 0])), (q1, .inl (a 5, 32, .inr (.inr (.inr (.inr (va_up f1 i (some q54))))))), (q54, .inr (11, [.ref q55, .ref q56, .int 0, .int 0, .int 0, .int 0, .int 0])), (q55, .inl (a 0, 7, .inl (fun _ => 0))), (q56, .inr (1, [.ref q57, .int 0, .int 0])), (q57, .inl (a 0, 12, .inl (fun _ => 0)))]) rfl (fun H locs w => ?_)
        refine lv_iinc (v := (nI (i + 1))) (lv' := [(1, .int (nI (i + 1))), (0, .ref h0)]) hx hb d_Desk_init_34 hl (k := 1) rfl (kx_inc i) (by decide) rfl (fun ls hl => ?_)
        refine lv_goto (tgt := 15) hx hb d_Desk_init_37 (by decide) ?_
        have w := kW_sub w (ws' := [(h0, .inr (2, [.ref q1, .null, .null, .null, .null, .null, .null, .null, .null, .int 0, .int 0, .int 0])), (q1, .inl (a 5, 32, .inr (.inr (.inr (.inr (va_up f1 i (some q54)))))))]) [0, 1] rfl rfl
        refine W.widen (k := 1 + 4 * (i + 1)) (n := 32 + 29 * (i + 1)) (by omega) (by omega) ?_
        exact ih (i + 1) (by omega) _ _ _ _ w (lv_sub hl [1, 0] rfl)
    exact loop 32 0 (by omega) _ _ _ _ w (lv_sub hl [1, 0] rfl))
end
section
/-! laid by program (wip/gen) -/
set_option maxRecDepth 100000 in
set_option maxHeartbeats 4000000 in
theorem c_RA_init (l : Launch) (D : va_G) (a : Nat → ClassId) (h0 : Nat) : ∀ sz : Nat, Met l y_RA_init (Cond.code y_RA_init b_RA_init 2 none :: wA) ({ frames := 5, cells := 571, slots := 13046, locals := 102 } : Room) (va_Pc [.ref h0] (kP D a [(h0, .inr (0, [.null, .null, .null, .null, .null, .null, .null, .int 0, .int 0, .int 0, .int 0]))] sz)) (va_Qv (fun u : va_W => ∃ q1 : Nat, ∃ q2 : Nat, ∃ q3 : Nat, ∃ q4 : Nat, ∃ q6 : Nat, ∃ q75 : Nat, ∃ q77 : Nat, ∃ q5 : Nat, ∃ q7 : Nat, ∃ q11 : Nat, ∃ q15 : Nat, ∃ q19 : Nat, ∃ q23 : Nat, ∃ q27 : Nat, ∃ q31 : Nat, ∃ q35 : Nat, ∃ q39 : Nat, ∃ q43 : Nat, ∃ q47 : Nat, ∃ q51 : Nat, ∃ q55 : Nat, ∃ q59 : Nat, ∃ q63 : Nat, ∃ q67 : Nat, ∃ q71 : Nat, ∃ q8 : Nat, ∃ q9 : Nat, ∃ q12 : Nat, ∃ q13 : Nat, ∃ q16 : Nat, ∃ q17 : Nat, ∃ q20 : Nat, ∃ q21 : Nat, ∃ q24 : Nat, ∃ q25 : Nat, ∃ q28 : Nat, ∃ q29 : Nat, ∃ q32 : Nat, ∃ q33 : Nat, ∃ q36 : Nat, ∃ q37 : Nat, ∃ q40 : Nat, ∃ q41 : Nat, ∃ q44 : Nat, ∃ q45 : Nat, ∃ q48 : Nat, ∃ q49 : Nat, ∃ q52 : Nat, ∃ q53 : Nat, ∃ q56 : Nat, ∃ q57 : Nat, ∃ q60 : Nat, ∃ q61 : Nat, ∃ q64 : Nat, ∃ q65 : Nat, ∃ q68 : Nat, ∃ q69 : Nat, ∃ q72 : Nat, ∃ q73 : Nat, ∃ q76 : Nat, ∃ q78 : Nat, ∃ q79 : Nat, ∃ q80 : Nat, ∃ q81 : Nat, ∃ q82 : Nat, ∃ q83 : Nat, ∃ q84 : Nat, ∃ q85 : Nat, ∃ q86 : Nat, ∃ q87 : Nat, ∃ q88 : Nat, ∃ q89 : Nat, ∃ q90 : Nat, ∃ q91 : Nat, ∃ q92 : Nat, ∃ q93 : Nat, ∃ q94 : Nat, ∃ q95 : Nat, ∃ q96 : Nat, ∃ q97 : Nat, ∃ q98 : Nat, u = [(h0, .inr (0, [.ref q1, .ref q2, .ref q3, .ref q4, .ref q6, .ref q75, .ref q77, .int 0, .int 0, .int (-1), .int 0])), (q1, .inl (a 2, 400, .inl (fun _ => 0))), (q2, .inl (a 2, 128, .inl (fun _ => 0))), (q3, .inl (a 2, 128, .inl (fun _ => 0))), (q4, .inr (1, [.ref q5, .int 0, .int 0])), (q5, .inl (a 0, 8, .inl (fun _ => 0))), (q6, .inl (a 5, 17, .inr (.inr (.inr (.inr (va_up (va_up (va_up (va_up (va_up (va_up (va_up (va_up (va_up (va_up (va_up (va_up (va_up (va_up (va_up (va_up (va_up (fun _ => none) 0 (some q7)) 1 (some q11)) 2 (some q15)) 3 (some q19)) 4 (some q23)) 5 (some q27)) 6 (some q31)) 7 (some q35)) 8 (some q39)) 9 (some q43)) 10 (some q47)) 11 (some q51)) 12 (some q55)) 13 (some q59)) 14 (some q63)) 15 (some q67)) 16 (some q71))))))), (q7, .inr (11, [.ref q8, .ref q9, .int 0, .int 0, .int 0, .int 0, .int 0])), (q11, .inr (11, [.ref q12, .ref q13, .int 0, .int 0, .int 0, .int 0, .int 0])), (q15, .inr (11, [.ref q16, .ref q17, .int 0, .int 0, .int 0, .int 0, .int 0])), (q19, .inr (11, [.ref q20, .ref q21, .int 0, .int 0, .int 0, .int 0, .int 0])), (q23, .inr (11, [.ref q24, .ref q25, .int 0, .int 0, .int 0, .int 0, .int 0])), (q27, .inr (11, [.ref q28, .ref q29, .int 0, .int 0, .int 0, .int 0, .int 0])), (q31, .inr (11, [.ref q32, .ref q33, .int 0, .int 0, .int 0, .int 0, .int 0])), (q35, .inr (11, [.ref q36, .ref q37, .int 0, .int 0, .int 0, .int 0, .int 0])), (q39, .inr (11, [.ref q40, .ref q41, .int 0, .int 0, .int 0, .int 0, .int 0])), (q43, .inr (11, [.ref q44, .ref q45, .int 0, .int 0, .int 0, .int 0, .int 0])), (q47, .inr (11, [.ref q48, .ref q49, .int 0, .int 0, .int 0, .int 0, .int 0])), (q51, .inr (11, [.ref q52, .ref q53, .int 0, .int 0, .int 0, .int 0, .int 0])), (q55, .inr (11, [.ref q56, .ref q57, .int 0, .int 0, .int 0, .int 0, .int 0])), (q59, .inr (11, [.ref q60, .ref q61, .int 0, .int 0, .int 0, .int 0, .int 0])), (q63, .inr (11, [.ref q64, .ref q65, .int 0, .int 0, .int 0, .int 0, .int 0])), (q67, .inr (11, [.ref q68, .ref q69, .int 0, .int 0, .int 0, .int 0, .int 0])), (q71, .inr (11, [.ref q72, .ref q73, .int 1, .int 0, .int 1, .int 0, .int 0])), (q72, .inl (a 0, 7, .inl (upd (upd (fun _ => 0) 0 0) 1 1))), (q75, .inr (9, [.ref q76, .ref q1, .int 0, .int 0, .int 0, .int 0, .int 0])), (q77, .inr (2, [.ref q78, .ref q79, .ref q80, .ref q81, .ref q82, .ref q83, .ref q84, .ref q85, .ref q86, .int 0, .int 0, .int 0])), (q86, .inr (5, [.ref q87, .ref q88, .ref q89, .ref q90, .ref q91, .ref q92, .ref q93, .ref q94, .ref q95, .ref q96, .ref q97, .null, .null, .int 0, .int 0, .int 0, .int 0])), (q96, .inr (1, [.ref q98, .int 0, .int 0])), (q98, .inl (a 0, 72, .inl (fun _ => 0)))]) (kB D a (va_A [(h0, .inr (0, [.null, .null, .null, .null, .null, .null, .null, .int 0, .int 0, .int 0, .int 0]))] sz)) (va_A [(h0, .inr (0, [.null, .null, .null, .null, .null, .null, .null, .int 0, .int 0, .int 0, .int 0]))] sz)) 571 13046 (va_A [(h0, .inr (0, [.null, .null, .null, .null, .null, .null, .null, .int 0, .int 0, .int 0, .int 0]))] sz) :=
  kM (Qc := fun A => va_Qv (fun u : va_W => ∃ q1 : Nat, ∃ q2 : Nat, ∃ q3 : Nat, ∃ q4 : Nat, ∃ q6 : Nat, ∃ q75 : Nat, ∃ q77 : Nat, ∃ q5 : Nat, ∃ q7 : Nat, ∃ q11 : Nat, ∃ q15 : Nat, ∃ q19 : Nat, ∃ q23 : Nat, ∃ q27 : Nat, ∃ q31 : Nat, ∃ q35 : Nat, ∃ q39 : Nat, ∃ q43 : Nat, ∃ q47 : Nat, ∃ q51 : Nat, ∃ q55 : Nat, ∃ q59 : Nat, ∃ q63 : Nat, ∃ q67 : Nat, ∃ q71 : Nat, ∃ q8 : Nat, ∃ q9 : Nat, ∃ q12 : Nat, ∃ q13 : Nat, ∃ q16 : Nat, ∃ q17 : Nat, ∃ q20 : Nat, ∃ q21 : Nat, ∃ q24 : Nat, ∃ q25 : Nat, ∃ q28 : Nat, ∃ q29 : Nat, ∃ q32 : Nat, ∃ q33 : Nat, ∃ q36 : Nat, ∃ q37 : Nat, ∃ q40 : Nat, ∃ q41 : Nat, ∃ q44 : Nat, ∃ q45 : Nat, ∃ q48 : Nat, ∃ q49 : Nat, ∃ q52 : Nat, ∃ q53 : Nat, ∃ q56 : Nat, ∃ q57 : Nat, ∃ q60 : Nat, ∃ q61 : Nat, ∃ q64 : Nat, ∃ q65 : Nat, ∃ q68 : Nat, ∃ q69 : Nat, ∃ q72 : Nat, ∃ q73 : Nat, ∃ q76 : Nat, ∃ q78 : Nat, ∃ q79 : Nat, ∃ q80 : Nat, ∃ q81 : Nat, ∃ q82 : Nat, ∃ q83 : Nat, ∃ q84 : Nat, ∃ q85 : Nat, ∃ q86 : Nat, ∃ q87 : Nat, ∃ q88 : Nat, ∃ q89 : Nat, ∃ q90 : Nat, ∃ q91 : Nat, ∃ q92 : Nat, ∃ q93 : Nat, ∃ q94 : Nat, ∃ q95 : Nat, ∃ q96 : Nat, ∃ q97 : Nat, ∃ q98 : Nat, u = [(h0, .inr (0, [.ref q1, .ref q2, .ref q3, .ref q4, .ref q6, .ref q75, .ref q77, .int 0, .int 0, .int (-1), .int 0])), (q1, .inl (a 2, 400, .inl (fun _ => 0))), (q2, .inl (a 2, 128, .inl (fun _ => 0))), (q3, .inl (a 2, 128, .inl (fun _ => 0))), (q4, .inr (1, [.ref q5, .int 0, .int 0])), (q5, .inl (a 0, 8, .inl (fun _ => 0))), (q6, .inl (a 5, 17, .inr (.inr (.inr (.inr (va_up (va_up (va_up (va_up (va_up (va_up (va_up (va_up (va_up (va_up (va_up (va_up (va_up (va_up (va_up (va_up (va_up (fun _ => none) 0 (some q7)) 1 (some q11)) 2 (some q15)) 3 (some q19)) 4 (some q23)) 5 (some q27)) 6 (some q31)) 7 (some q35)) 8 (some q39)) 9 (some q43)) 10 (some q47)) 11 (some q51)) 12 (some q55)) 13 (some q59)) 14 (some q63)) 15 (some q67)) 16 (some q71))))))), (q7, .inr (11, [.ref q8, .ref q9, .int 0, .int 0, .int 0, .int 0, .int 0])), (q11, .inr (11, [.ref q12, .ref q13, .int 0, .int 0, .int 0, .int 0, .int 0])), (q15, .inr (11, [.ref q16, .ref q17, .int 0, .int 0, .int 0, .int 0, .int 0])), (q19, .inr (11, [.ref q20, .ref q21, .int 0, .int 0, .int 0, .int 0, .int 0])), (q23, .inr (11, [.ref q24, .ref q25, .int 0, .int 0, .int 0, .int 0, .int 0])), (q27, .inr (11, [.ref q28, .ref q29, .int 0, .int 0, .int 0, .int 0, .int 0])), (q31, .inr (11, [.ref q32, .ref q33, .int 0, .int 0, .int 0, .int 0, .int 0])), (q35, .inr (11, [.ref q36, .ref q37, .int 0, .int 0, .int 0, .int 0, .int 0])), (q39, .inr (11, [.ref q40, .ref q41, .int 0, .int 0, .int 0, .int 0, .int 0])), (q43, .inr (11, [.ref q44, .ref q45, .int 0, .int 0, .int 0, .int 0, .int 0])), (q47, .inr (11, [.ref q48, .ref q49, .int 0, .int 0, .int 0, .int 0, .int 0])), (q51, .inr (11, [.ref q52, .ref q53, .int 0, .int 0, .int 0, .int 0, .int 0])), (q55, .inr (11, [.ref q56, .ref q57, .int 0, .int 0, .int 0, .int 0, .int 0])), (q59, .inr (11, [.ref q60, .ref q61, .int 0, .int 0, .int 0, .int 0, .int 0])), (q63, .inr (11, [.ref q64, .ref q65, .int 0, .int 0, .int 0, .int 0, .int 0])), (q67, .inr (11, [.ref q68, .ref q69, .int 0, .int 0, .int 0, .int 0, .int 0])), (q71, .inr (11, [.ref q72, .ref q73, .int 1, .int 0, .int 1, .int 0, .int 0])), (q72, .inl (a 0, 7, .inl (upd (upd (fun _ => 0) 0 0) 1 1))), (q75, .inr (9, [.ref q76, .ref q1, .int 0, .int 0, .int 0, .int 0, .int 0])), (q77, .inr (2, [.ref q78, .ref q79, .ref q80, .ref q81, .ref q82, .ref q83, .ref q84, .ref q85, .ref q86, .int 0, .int 0, .int 0])), (q86, .inr (5, [.ref q87, .ref q88, .ref q89, .ref q90, .ref q91, .ref q92, .ref q93, .ref q94, .ref q95, .ref q96, .ref q97, .null, .null, .int 0, .int 0, .int 0, .int 0])), (q96, .inr (1, [.ref q98, .int 0, .int 0])), (q98, .inl (a 0, 72, .inl (fun _ => 0)))]) (kB D a A) A) (by decide) (Nat.le_of_ble_eq_true rfl) (by
    intro p e s m below meth c A ls H locs E hr hlk hnm w hl
    have hx := E.1.1
    have hb := E.1.2.1
    have E : kE p m c b_RA_init 2 s [.ref h0].toArray "RootAlgebra" D a A := E
    have hl : lv_has ls 2 [(0, .ref h0)] := hl
    have hnm : meth.name = "<init>" := hnm
    refine lv_aload_n hx hb d_RA_init_0 rfl (lv_at hl 0 rfl) ?_
    refine kx_obj E hl.1 mw_159 mw_1 mw_2 d_RA_init_1 (Nat.le_of_ble_eq_true rfl) (Nat.le_of_ble_eq_true rfl) (Nat.le_of_ble_eq_true rfl) ?_
    refine lv_aload_n hx hb d_RA_init_4 rfl (lv_at hl 0 rfl) ?_
    refine lv_sipush (v := 400) hx hb d_RA_init_5 (by decide) ?_
    refine kx_newa (atype := .byte) E w rfl mw_160 2 rfl (N' := 400) (a0 := (400, .inl (fun _ => 0))) (fun _ => rfl) (by decide) (by decide) (by decide) (Nat.le_of_ble_eq_true rfl) (Nat.le_of_ble_eq_true rfl) d_RA_init_8 (fun q1 H w => ?_)
    have w : kW D A s [(h0, .inr (0, [.null, .null, .null, .null, .null, .null, .null, .int 0, .int 0, .int 0, .int 0])), (q1, .inl (a 2, 400, .inl (fun _ => 0)))] H locs := w
    refine kx_putF E w zC_RA hnm 0 rfl 0 (by decide) mw_161 rfl rfl rfl rfl (Nat.le_of_ble_eq_true rfl) d_RA_init_10 (ws' := [(h0, .inr (0, [.ref q1, .null, .null, .null, .null, .null, .null, .int 0, .int 0, .int 0, .int 0])), (q1, .inl (a 2, 400, .inl (fun _ => 0)))]) rfl (fun H locs w => ?_)
    refine lv_aload_n hx hb d_RA_init_13 rfl (lv_at hl 0 rfl) ?_
    refine lv_sipush (v := 128) hx hb d_RA_init_14 (by decide) ?_
    refine kx_newa (atype := .byte) E w rfl mw_160 2 rfl (N' := 128) (a0 := (128, .inl (fun _ => 0))) (fun _ => rfl) (by decide) (by decide) (by decide) (Nat.le_of_ble_eq_true rfl) (Nat.le_of_ble_eq_true rfl) d_RA_init_17 (fun q2 H w => ?_)
    have w : kW D A s [(h0, .inr (0, [.ref q1, .null, .null, .null, .null, .null, .null, .int 0, .int 0, .int 0, .int 0])), (q1, .inl (a 2, 400, .inl (fun _ => 0))), (q2, .inl (a 2, 128, .inl (fun _ => 0)))] H locs := w
    refine kx_putF E w zC_RA hnm 0 rfl 1 (by decide) mw_162 rfl rfl rfl rfl (Nat.le_of_ble_eq_true rfl) d_RA_init_19 (ws' := [(h0, .inr (0, [.ref q1, .ref q2, .null, .null, .null, .null, .null, .int 0, .int 0, .int 0, .int 0])), (q1, .inl (a 2, 400, .inl (fun _ => 0))), (q2, .inl (a 2, 128, .inl (fun _ => 0)))]) rfl (fun H locs w => ?_)
    refine lv_aload_n hx hb d_RA_init_22 rfl (lv_at hl 0 rfl) ?_
    refine lv_sipush (v := 128) hx hb d_RA_init_23 (by decide) ?_
    refine kx_newa (atype := .byte) E w rfl mw_160 2 rfl (N' := 128) (a0 := (128, .inl (fun _ => 0))) (fun _ => rfl) (by decide) (by decide) (by decide) (Nat.le_of_ble_eq_true rfl) (Nat.le_of_ble_eq_true rfl) d_RA_init_26 (fun q3 H w => ?_)
    have w : kW D A s [(h0, .inr (0, [.ref q1, .ref q2, .null, .null, .null, .null, .null, .int 0, .int 0, .int 0, .int 0])), (q1, .inl (a 2, 400, .inl (fun _ => 0))), (q2, .inl (a 2, 128, .inl (fun _ => 0))), (q3, .inl (a 2, 128, .inl (fun _ => 0)))] H locs := w
    refine kx_putF E w zC_RA hnm 0 rfl 2 (by decide) mw_163 rfl rfl rfl rfl (Nat.le_of_ble_eq_true rfl) d_RA_init_28 (ws' := [(h0, .inr (0, [.ref q1, .ref q2, .ref q3, .null, .null, .null, .null, .int 0, .int 0, .int 0, .int 0])), (q1, .inl (a 2, 400, .inl (fun _ => 0))), (q2, .inl (a 2, 128, .inl (fun _ => 0))), (q3, .inl (a 2, 128, .inl (fun _ => 0)))]) rfl (fun H locs w => ?_)
    refine lv_aload_n hx hb d_RA_init_31 rfl (lv_at hl 0 rfl) ?_
    refine kx_new E w zC_Big mw_164 mw_8 mw_9 (fs := [.null, .int 0, .int 0]) z0_Big (Nat.le_of_ble_eq_true rfl) (Nat.le_of_ble_eq_true rfl) d_RA_init_32 (fun q4 H w => ?_)
    have w : kW D A s [(h0, .inr (0, [.ref q1, .ref q2, .ref q3, .null, .null, .null, .null, .int 0, .int 0, .int 0, .int 0])), (q1, .inl (a 2, 400, .inl (fun _ => 0))), (q2, .inl (a 2, 128, .inl (fun _ => 0))), (q3, .inl (a 2, 128, .inl (fun _ => 0))), (q4, .inr (1, [.null, .int 0, .int 0]))] H locs := w
    refine lv_dup hx hb d_RA_init_35 rfl ?_
    refine lv_bipush (v := 8) hx hb d_RA_init_36 (by decide) ?_
    refine kx_v E w (wc := [(q4, .inr (1, [.null, .int 0, .int 0]))]) (wr := [(h0, .inr (0, [.ref q1, .ref q2, .ref q3, .null, .null, .null, .null, .int 0, .int 0, .int 0, .int 0])), (q1, .inl (a 2, 400, .inl (fun _ => 0))), (q2, .inl (a 2, 128, .inl (fun _ => 0))), (q3, .inl (a 2, 128, .inl (fun _ => 0)))]) [4] [0, 1, 2, 3] rfl rfl ⟨rfl, rfl, by decide⟩ (kx_rI E w hl.1 (As := [.int 8]) (wc := [(q4, .inr (1, [.null, .int 0, .int 0]))]) (c_Big_init_8 l D a q4 H.size) gc_17 gi_Big_init [4] rfl rfl rfl rfl rfl ⟨(Nat.le_of_ble_eq_true rfl), (Nat.le_of_ble_eq_true rfl)⟩ rfl (Nat.le_of_ble_eq_true rfl) d_RA_init_38 ⟨(Nat.le_of_ble_eq_true rfl), (Nat.le_of_ble_eq_true rfl)⟩) (fun u H locs hu w => ?_)
    obtain ⟨q5, rfl⟩ := hu
    have w : kW D A s [(h0, .inr (0, [.ref q1, .ref q2, .ref q3, .null, .null, .null, .null, .int 0, .int 0, .int 0, .int 0])), (q1, .inl (a 2, 400, .inl (fun _ => 0))), (q2, .inl (a 2, 128, .inl (fun _ => 0))), (q3, .inl (a 2, 128, .inl (fun _ => 0))), (q4, .inr (1, [.ref q5, .int 0, .int 0])), (q5, .inl (a 0, 8, .inl (fun _ => 0)))] H locs := w
    refine kx_putF E w zC_RA hnm 0 rfl 3 (by decide) mw_166 rfl rfl rfl rfl (Nat.le_of_ble_eq_true rfl) d_RA_init_41 (ws' := [(h0, .inr (0, [.ref q1, .ref q2, .ref q3, .ref q4, .null, .null, .null, .int 0, .int 0, .int 0, .int 0])), (q1, .inl (a 2, 400, .inl (fun _ => 0))), (q2, .inl (a 2, 128, .inl (fun _ => 0))), (q3, .inl (a 2, 128, .inl (fun _ => 0))), (q4, .inr (1, [.ref q5, .int 0, .int 0])), (q5, .inl (a 0, 8, .inl (fun _ => 0)))]) rfl (fun H locs w => ?_)
    refine lv_aload_n hx hb d_RA_init_44 rfl (lv_at hl 0 rfl) ?_
    refine lv_bipush (v := 17) hx hb d_RA_init_45 (by decide) ?_
    refine kx_newq E w mw_167 E.2.1.2.2.1 5 rfl (N' := 17) (by decide) (by decide) (by decide) (Nat.le_of_ble_eq_true rfl) (Nat.le_of_ble_eq_true rfl) d_RA_init_47 (fun q6 H w => ?_)
    have w : kW D A s [(h0, .inr (0, [.ref q1, .ref q2, .ref q3, .ref q4, .null, .null, .null, .int 0, .int 0, .int 0, .int 0])), (q1, .inl (a 2, 400, .inl (fun _ => 0))), (q2, .inl (a 2, 128, .inl (fun _ => 0))), (q3, .inl (a 2, 128, .inl (fun _ => 0))), (q4, .inr (1, [.ref q5, .int 0, .int 0])), (q5, .inl (a 0, 8, .inl (fun _ => 0))), (q6, .inl (a 5, 17, .inr (.inr (.inr (.inr (fun _ => none))))))] H locs := w
    refine kx_putF E w zC_RA hnm 0 rfl 4 (by decide) mw_168 rfl rfl rfl rfl (Nat.le_of_ble_eq_true rfl) d_RA_init_50 (ws' := [(h0, .inr (0, [.ref q1, .ref q2, .ref q3, .ref q4, .ref q6, .null, .null, .int 0, .int 0, .int 0, .int 0])), (q1, .inl (a 2, 400, .inl (fun _ => 0))), (q2, .inl (a 2, 128, .inl (fun _ => 0))), (q3, .inl (a 2, 128, .inl (fun _ => 0))), (q4, .inr (1, [.ref q5, .int 0, .int 0])), (q5, .inl (a 0, 8, .inl (fun _ => 0))), (q6, .inl (a 5, 17, .inr (.inr (.inr (.inr (fun _ => none))))))]) rfl (fun H locs w => ?_)
    refine lv_iconst (v := 0) hx hb d_RA_init_53 (by decide) ?_
    refine lv_istore_n (lv' := [(1, .int 0), (0, .ref h0)]) hx hb d_RA_init_54 rfl hl (by decide) rfl (fun ls hl => ?_)
    refine lv_iload_n hx hb d_RA_init_55 rfl (lv_at hl 0 rfl) ?_
    refine lv_bipush (v := 16) hx hb d_RA_init_56 (by decide) ?_
    refine lv_icmp_gt (tgt := 80) hx hb d_RA_init_58 (by decide) (fun h => absurd h (by decide)) (fun _ => ?_)
    refine lv_aload_n hx hb d_RA_init_61 rfl (lv_at hl 1 rfl) ?_
    refine kx_get E w zC_RA 0 rfl 4 (by decide) mw_168 rfl d_RA_init_62 ?_
    refine lv_iload_n hx hb d_RA_init_65 rfl (lv_at hl 0 rfl) ?_
    refine kx_new E w zC_Value mw_167 mw_117 mw_26 (fs := [.null, .null, .int 0, .int 0, .int 0, .int 0, .int 0]) z0_Value (Nat.le_of_ble_eq_true rfl) (Nat.le_of_ble_eq_true rfl) d_RA_init_66 (fun q7 H w => ?_)
    have w : kW D A s [(h0, .inr (0, [.ref q1, .ref q2, .ref q3, .ref q4, .ref q6, .null, .null, .int 0, .int 0, .int 0, .int 0])), (q1, .inl (a 2, 400, .inl (fun _ => 0))), (q2, .inl (a 2, 128, .inl (fun _ => 0))), (q3, .inl (a 2, 128, .inl (fun _ => 0))), (q4, .inr (1, [.ref q5, .int 0, .int 0])), (q5, .inl (a 0, 8, .inl (fun _ => 0))), (q6, .inl (a 5, 17, .inr (.inr (.inr (.inr (fun _ => none)))))), (q7, .inr (11, [.null, .null, .int 0, .int 0, .int 0, .int 0, .int 0]))] H locs := w
    refine lv_dup hx hb d_RA_init_69 rfl ?_
    refine kx_v E w (wc := [(q7, .inr (11, [.null, .null, .int 0, .int 0, .int 0, .int 0, .int 0]))]) (wr := [(h0, .inr (0, [.ref q1, .ref q2, .ref q3, .ref q4, .ref q6, .null, .null, .int 0, .int 0, .int 0, .int 0])), (q1, .inl (a 2, 400, .inl (fun _ => 0))), (q2, .inl (a 2, 128, .inl (fun _ => 0))), (q3, .inl (a 2, 128, .inl (fun _ => 0))), (q4, .inr (1, [.ref q5, .int 0, .int 0])), (q5, .inl (a 0, 8, .inl (fun _ => 0))), (q6, .inl (a 5, 17, .inr (.inr (.inr (.inr (fun _ => none))))))]) [7] [0, 1, 2, 3, 4, 5, 6] rfl rfl ⟨rfl, rfl, by decide⟩ (kx_rI E w hl.1 (As := []) (wc := [(q7, .inr (11, [.null, .null, .int 0, .int 0, .int 0, .int 0, .int 0]))]) (c_Value_init l D a q7 H.size) gc_18 gi_Value_init [7] rfl rfl rfl rfl rfl ⟨(Nat.le_of_ble_eq_true rfl), (Nat.le_of_ble_eq_true rfl)⟩ rfl (Nat.le_of_ble_eq_true rfl) d_RA_init_70 ⟨(Nat.le_of_ble_eq_true rfl), (Nat.le_of_ble_eq_true rfl)⟩) (fun u H locs hu w => ?_)
    obtain ⟨q8, q9, q10, rfl⟩ := hu
    have w : kW D A s [(h0, .inr (0, [.ref q1, .ref q2, .ref q3, .ref q4, .ref q6, .null, .null, .int 0, .int 0, .int 0, .int 0])), (q1, .inl (a 2, 400, .inl (fun _ => 0))), (q2, .inl (a 2, 128, .inl (fun _ => 0))), (q3, .inl (a 2, 128, .inl (fun _ => 0))), (q4, .inr (1, [.ref q5, .int 0, .int 0])), (q5, .inl (a 0, 8, .inl (fun _ => 0))), (q6, .inl (a 5, 17, .inr (.inr (.inr (.inr (fun _ => none)))))), (q7, .inr (11, [.ref q8, .ref q9, .int 0, .int 0, .int 0, .int 0, .int 0])), (q8, .inl (a 0, 7, .inl (fun _ => 0))), (q9, .inr (1, [.ref q10, .int 0, .int 0])), (q10, .inl (a 0, 12, .inl (fun _ => 0)))] H locs := w
    refine kx_aast E w 6 5 7 11 rfl rfl rfl rfl (by unfold vp_in; decide) 0 (by decide) d_RA_init_73 (ws' := [(h0, .inr (0, [.ref q1, .ref q2, .ref q3, .ref q4, .ref q6, .null, .null, .int 0, .int 0, .int 0, .int 0])), (q1, .inl (a 2, 400, .inl (fun _ => 0))), (q2, .inl (a 2, 128, .inl (fun _ => 0))), (q3, .inl (a 2, 128, .inl (fun _ => 0))), (q4, .inr (1, [.ref q5, .int 0, .int 0])), (q5, .inl (a 0, 8, .inl (fun _ => 0))), (q6, .inl (a 5, 17, .inr (.inr (.inr (.inr (va_up (fun _ => none) 0 (some q7))))))), (q7, .inr (11, [.ref q8, .ref q9, .int 0, .int 0, .int 0, .int 0, .int 0])), (q8, .inl (a 0, 7, .inl (fun _ => 0))), (q9, .inr (1, [.ref q10, .int 0, .int 0])), (q10, .inl (a 0, 12, .inl (fun _ => 0)))]) rfl (fun H locs w => ?_)
    have w := kW_sub w (ws' := [(h0, .inr (0, [.ref q1, .ref q2, .ref q3, .ref q4, .ref q6, .null, .null, .int 0, .int 0, .int 0, .int 0])), (q1, .inl (a 2, 400, .inl (fun _ => 0))), (q2, .inl (a 2, 128, .inl (fun _ => 0))), (q3, .inl (a 2, 128, .inl (fun _ => 0))), (q4, .inr (1, [.ref q5, .int 0, .int 0])), (q5, .inl (a 0, 8, .inl (fun _ => 0))), (q6, .inl (a 5, 17, .inr (.inr (.inr (.inr (va_up (fun _ => none) 0 (some q7))))))), (q7, .inr (11, [.ref q8, .ref q9, .int 0, .int 0, .int 0, .int 0, .int 0]))]) [0, 1, 2, 3, 4, 5, 6, 7] rfl rfl
    refine lv_iinc (v := 1) (lv' := [(1, .int 1), (0, .ref h0)]) hx hb d_RA_init_74 hl (k := 0) rfl (by decide) (by decide) rfl (fun ls hl => ?_)
    refine lv_goto (tgt := 55) hx hb d_RA_init_77 (by decide) ?_
    refine lv_iload_n hx hb d_RA_init_55 rfl (lv_at hl 0 rfl) ?_
    refine lv_bipush (v := 16) hx hb d_RA_init_56 (by decide) ?_
    refine lv_icmp_gt (tgt := 80) hx hb d_RA_init_58 (by decide) (fun h => absurd h (by decide)) (fun _ => ?_)
    refine lv_aload_n hx hb d_RA_init_61 rfl (lv_at hl 1 rfl) ?_
    refine kx_get E w zC_RA 0 rfl 4 (by decide) mw_168 rfl d_RA_init_62 ?_
    refine lv_iload_n hx hb d_RA_init_65 rfl (lv_at hl 0 rfl) ?_
    refine kx_new E w zC_Value mw_167 mw_117 mw_26 (fs := [.null, .null, .int 0, .int 0, .int 0, .int 0, .int 0]) z0_Value (Nat.le_of_ble_eq_true rfl) (Nat.le_of_ble_eq_true rfl) d_RA_init_66 (fun q11 H w => ?_)
    have w : kW D A s [(h0, .inr (0, [.ref q1, .ref q2, .ref q3, .ref q4, .ref q6, .null, .null, .int 0, .int 0, .int 0, .int 0])), (q1, .inl (a 2, 400, .inl (fun _ => 0))), (q2, .inl (a 2, 128, .inl (fun _ => 0))), (q3, .inl (a 2, 128, .inl (fun _ => 0))), (q4, .inr (1, [.ref q5, .int 0, .int 0])), (q5, .inl (a 0, 8, .inl (fun _ => 0))), (q6, .inl (a 5, 17, .inr (.inr (.inr (.inr (va_up (fun _ => none) 0 (some q7))))))), (q7, .inr (11, [.ref q8, .ref q9, .int 0, .int 0, .int 0, .int 0, .int 0])), (q11, .inr (11, [.null, .null, .int 0, .int 0, .int 0, .int 0, .int 0]))] H locs := w
    refine lv_dup hx hb d_RA_init_69 rfl ?_
    refine kx_v E w (wc := [(q11, .inr (11, [.null, .null, .int 0, .int 0, .int 0, .int 0, .int 0]))]) (wr := [(h0, .inr (0, [.ref q1, .ref q2, .ref q3, .ref q4, .ref q6, .null, .null, .int 0, .int 0, .int 0, .int 0])), (q1, .inl (a 2, 400, .inl (fun _ => 0))), (q2, .inl (a 2, 128, .inl (fun _ => 0))), (q3, .inl (a 2, 128, .inl (fun _ => 0))), (q4, .inr (1, [.ref q5, .int 0, .int 0])), (q5, .inl (a 0, 8, .inl (fun _ => 0))), (q6, .inl (a 5, 17, .inr (.inr (.inr (.inr (va_up (fun _ => none) 0 (some q7))))))), (q7, .inr (11, [.ref q8, .ref q9, .int 0, .int 0, .int 0, .int 0, .int 0]))]) [8] [0, 1, 2, 3, 4, 5, 6, 7] rfl rfl ⟨rfl, rfl, by decide⟩ (kx_rI E w hl.1 (As := []) (wc := [(q11, .inr (11, [.null, .null, .int 0, .int 0, .int 0, .int 0, .int 0]))]) (c_Value_init l D a q11 H.size) gc_18 gi_Value_init [8] rfl rfl rfl rfl rfl ⟨(Nat.le_of_ble_eq_true rfl), (Nat.le_of_ble_eq_true rfl)⟩ rfl (Nat.le_of_ble_eq_true rfl) d_RA_init_70 ⟨(Nat.le_of_ble_eq_true rfl), (Nat.le_of_ble_eq_true rfl)⟩) (fun u H locs hu w => ?_)
    obtain ⟨q12, q13, q14, rfl⟩ := hu
    have w : kW D A s [(h0, .inr (0, [.ref q1, .ref q2, .ref q3, .ref q4, .ref q6, .null, .null, .int 0, .int 0, .int 0, .int 0])), (q1, .inl (a 2, 400, .inl (fun _ => 0))), (q2, .inl (a 2, 128, .inl (fun _ => 0))), (q3, .inl (a 2, 128, .inl (fun _ => 0))), (q4, .inr (1, [.ref q5, .int 0, .int 0])), (q5, .inl (a 0, 8, .inl (fun _ => 0))), (q6, .inl (a 5, 17, .inr (.inr (.inr (.inr (va_up (fun _ => none) 0 (some q7))))))), (q7, .inr (11, [.ref q8, .ref q9, .int 0, .int 0, .int 0, .int 0, .int 0])), (q11, .inr (11, [.ref q12, .ref q13, .int 0, .int 0, .int 0, .int 0, .int 0])), (q12, .inl (a 0, 7, .inl (fun _ => 0))), (q13, .inr (1, [.ref q14, .int 0, .int 0])), (q14, .inl (a 0, 12, .inl (fun _ => 0)))] H locs := w
    refine kx_aast E w 6 5 8 11 rfl rfl rfl rfl (by unfold vp_in; decide) 1 (by decide) d_RA_init_73 (ws' := [(h0, .inr (0, [.ref q1, .ref q2, .ref q3, .ref q4, .ref q6, .null, .null, .int 0, .int 0, .int 0, .int 0])), (q1, .inl (a 2, 400, .inl (fun _ => 0))), (q2, .inl (a 2, 128, .inl (fun _ => 0))), (q3, .inl (a 2, 128, .inl (fun _ => 0))), (q4, .inr (1, [.ref q5, .int 0, .int 0])), (q5, .inl (a 0, 8, .inl (fun _ => 0))), (q6, .inl (a 5, 17, .inr (.inr (.inr (.inr (va_up (va_up (fun _ => none) 0 (some q7)) 1 (some q11))))))), (q7, .inr (11, [.ref q8, .ref q9, .int 0, .int 0, .int 0, .int 0, .int 0])), (q11, .inr (11, [.ref q12, .ref q13, .int 0, .int 0, .int 0, .int 0, .int 0])), (q12, .inl (a 0, 7, .inl (fun _ => 0))), (q13, .inr (1, [.ref q14, .int 0, .int 0])), (q14, .inl (a 0, 12, .inl (fun _ => 0)))]) rfl (fun H locs w => ?_)
    have w := kW_sub w (ws' := [(h0, .inr (0, [.ref q1, .ref q2, .ref q3, .ref q4, .ref q6, .null, .null, .int 0, .int 0, .int 0, .int 0])), (q1, .inl (a 2, 400, .inl (fun _ => 0))), (q2, .inl (a 2, 128, .inl (fun _ => 0))), (q3, .inl (a 2, 128, .inl (fun _ => 0))), (q4, .inr (1, [.ref q5, .int 0, .int 0])), (q5, .inl (a 0, 8, .inl (fun _ => 0))), (q6, .inl (a 5, 17, .inr (.inr (.inr (.inr (va_up (va_up (fun _ => none) 0 (some q7)) 1 (some q11))))))), (q7, .inr (11, [.ref q8, .ref q9, .int 0, .int 0, .int 0, .int 0, .int 0])), (q11, .inr (11, [.ref q12, .ref q13, .int 0, .int 0, .int 0, .int 0, .int 0]))]) [0, 1, 2, 3, 4, 5, 6, 7, 8] rfl rfl
    refine lv_iinc (v := 2) (lv' := [(1, .int 2), (0, .ref h0)]) hx hb d_RA_init_74 hl (k := 0) rfl (by decide) (by decide) rfl (fun ls hl => ?_)
    refine lv_goto (tgt := 55) hx hb d_RA_init_77 (by decide) ?_
    refine lv_iload_n hx hb d_RA_init_55 rfl (lv_at hl 0 rfl) ?_
    refine lv_bipush (v := 16) hx hb d_RA_init_56 (by decide) ?_
    refine lv_icmp_gt (tgt := 80) hx hb d_RA_init_58 (by decide) (fun h => absurd h (by decide)) (fun _ => ?_)
    refine lv_aload_n hx hb d_RA_init_61 rfl (lv_at hl 1 rfl) ?_
    refine kx_get E w zC_RA 0 rfl 4 (by decide) mw_168 rfl d_RA_init_62 ?_
    refine lv_iload_n hx hb d_RA_init_65 rfl (lv_at hl 0 rfl) ?_
    refine kx_new E w zC_Value mw_167 mw_117 mw_26 (fs := [.null, .null, .int 0, .int 0, .int 0, .int 0, .int 0]) z0_Value (Nat.le_of_ble_eq_true rfl) (Nat.le_of_ble_eq_true rfl) d_RA_init_66 (fun q15 H w => ?_)
    have w : kW D A s [(h0, .inr (0, [.ref q1, .ref q2, .ref q3, .ref q4, .ref q6, .null, .null, .int 0, .int 0, .int 0, .int 0])), (q1, .inl (a 2, 400, .inl (fun _ => 0))), (q2, .inl (a 2, 128, .inl (fun _ => 0))), (q3, .inl (a 2, 128, .inl (fun _ => 0))), (q4, .inr (1, [.ref q5, .int 0, .int 0])), (q5, .inl (a 0, 8, .inl (fun _ => 0))), (q6, .inl (a 5, 17, .inr (.inr (.inr (.inr (va_up (va_up (fun _ => none) 0 (some q7)) 1 (some q11))))))), (q7, .inr (11, [.ref q8, .ref q9, .int 0, .int 0, .int 0, .int 0, .int 0])), (q11, .inr (11, [.ref q12, .ref q13, .int 0, .int 0, .int 0, .int 0, .int 0])), (q15, .inr (11, [.null, .null, .int 0, .int 0, .int 0, .int 0, .int 0]))] H locs := w
    refine lv_dup hx hb d_RA_init_69 rfl ?_
    refine kx_v E w (wc := [(q15, .inr (11, [.null, .null, .int 0, .int 0, .int 0, .int 0, .int 0]))]) (wr := [(h0, .inr (0, [.ref q1, .ref q2, .ref q3, .ref q4, .ref q6, .null, .null, .int 0, .int 0, .int 0, .int 0])), (q1, .inl (a 2, 400, .inl (fun _ => 0))), (q2, .inl (a 2, 128, .inl (fun _ => 0))), (q3, .inl (a 2, 128, .inl (fun _ => 0))), (q4, .inr (1, [.ref q5, .int 0, .int 0])), (q5, .inl (a 0, 8, .inl (fun _ => 0))), (q6, .inl (a 5, 17, .inr (.inr (.inr (.inr (va_up (va_up (fun _ => none) 0 (some q7)) 1 (some q11))))))), (q7, .inr (11, [.ref q8, .ref q9, .int 0, .int 0, .int 0, .int 0, .int 0])), (q11, .inr (11, [.ref q12, .ref q13, .int 0, .int 0, .int 0, .int 0, .int 0]))]) [9] [0, 1, 2, 3, 4, 5, 6, 7, 8] rfl rfl ⟨rfl, rfl, by decide⟩ (kx_rI E w hl.1 (As := []) (wc := [(q15, .inr (11, [.null, .null, .int 0, .int 0, .int 0, .int 0, .int 0]))]) (c_Value_init l D a q15 H.size) gc_18 gi_Value_init [9] rfl rfl rfl rfl rfl ⟨(Nat.le_of_ble_eq_true rfl), (Nat.le_of_ble_eq_true rfl)⟩ rfl (Nat.le_of_ble_eq_true rfl) d_RA_init_70 ⟨(Nat.le_of_ble_eq_true rfl), (Nat.le_of_ble_eq_true rfl)⟩) (fun u H locs hu w => ?_)
    obtain ⟨q16, q17, q18, rfl⟩ := hu
    have w : kW D A s [(h0, .inr (0, [.ref q1, .ref q2, .ref q3, .ref q4, .ref q6, .null, .null, .int 0, .int 0, .int 0, .int 0])), (q1, .inl (a 2, 400, .inl (fun _ => 0))), (q2, .inl (a 2, 128, .inl (fun _ => 0))), (q3, .inl (a 2, 128, .inl (fun _ => 0))), (q4, .inr (1, [.ref q5, .int 0, .int 0])), (q5, .inl (a 0, 8, .inl (fun _ => 0))), (q6, .inl (a 5, 17, .inr (.inr (.inr (.inr (va_up (va_up (fun _ => none) 0 (some q7)) 1 (some q11))))))), (q7, .inr (11, [.ref q8, .ref q9, .int 0, .int 0, .int 0, .int 0, .int 0])), (q11, .inr (11, [.ref q12, .ref q13, .int 0, .int 0, .int 0, .int 0, .int 0])), (q15, .inr (11, [.ref q16, .ref q17, .int 0, .int 0, .int 0, .int 0, .int 0])), (q16, .inl (a 0, 7, .inl (fun _ => 0))), (q17, .inr (1, [.ref q18, .int 0, .int 0])), (q18, .inl (a 0, 12, .inl (fun _ => 0)))] H locs := w
    refine kx_aast E w 6 5 9 11 rfl rfl rfl rfl (by unfold vp_in; decide) 2 (by decide) d_RA_init_73 (ws' := [(h0, .inr (0, [.ref q1, .ref q2, .ref q3, .ref q4, .ref q6, .null, .null, .int 0, .int 0, .int 0, .int 0])), (q1, .inl (a 2, 400, .inl (fun _ => 0))), (q2, .inl (a 2, 128, .inl (fun _ => 0))), (q3, .inl (a 2, 128, .inl (fun _ => 0))), (q4, .inr (1, [.ref q5, .int 0, .int 0])), (q5, .inl (a 0, 8, .inl (fun _ => 0))), (q6, .inl (a 5, 17, .inr (.inr (.inr (.inr (va_up (va_up (va_up (fun _ => none) 0 (some q7)) 1 (some q11)) 2 (some q15))))))), (q7, .inr (11, [.ref q8, .ref q9, .int 0, .int 0, .int 0, .int 0, .int 0])), (q11, .inr (11, [.ref q12, .ref q13, .int 0, .int 0, .int 0, .int 0, .int 0])), (q15, .inr (11, [.ref q16, .ref q17, .int 0, .int 0, .int 0, .int 0, .int 0])), (q16, .inl (a 0, 7, .inl (fun _ => 0))), (q17, .inr (1, [.ref q18, .int 0, .int 0])), (q18, .inl (a 0, 12, .inl (fun _ => 0)))]) rfl (fun H locs w => ?_)
    have w := kW_sub w (ws' := [(h0, .inr (0, [.ref q1, .ref q2, .ref q3, .ref q4, .ref q6, .null, .null, .int 0, .int 0, .int 0, .int 0])), (q1, .inl (a 2, 400, .inl (fun _ => 0))), (q2, .inl (a 2, 128, .inl (fun _ => 0))), (q3, .inl (a 2, 128, .inl (fun _ => 0))), (q4, .inr (1, [.ref q5, .int 0, .int 0])), (q5, .inl (a 0, 8, .inl (fun _ => 0))), (q6, .inl (a 5, 17, .inr (.inr (.inr (.inr (va_up (va_up (va_up (fun _ => none) 0 (some q7)) 1 (some q11)) 2 (some q15))))))), (q7, .inr (11, [.ref q8, .ref q9, .int 0, .int 0, .int 0, .int 0, .int 0])), (q11, .inr (11, [.ref q12, .ref q13, .int 0, .int 0, .int 0, .int 0, .int 0])), (q15, .inr (11, [.ref q16, .ref q17, .int 0, .int 0, .int 0, .int 0, .int 0]))]) [0, 1, 2, 3, 4, 5, 6, 7, 8, 9] rfl rfl
    refine lv_iinc (v := 3) (lv' := [(1, .int 3), (0, .ref h0)]) hx hb d_RA_init_74 hl (k := 0) rfl (by decide) (by decide) rfl (fun ls hl => ?_)
    refine lv_goto (tgt := 55) hx hb d_RA_init_77 (by decide) ?_
    refine lv_iload_n hx hb d_RA_init_55 rfl (lv_at hl 0 rfl) ?_
    refine lv_bipush (v := 16) hx hb d_RA_init_56 (by decide) ?_
    refine lv_icmp_gt (tgt := 80) hx hb d_RA_init_58 (by decide) (fun h => absurd h (by decide)) (fun _ => ?_)
    refine lv_aload_n hx hb d_RA_init_61 rfl (lv_at hl 1 rfl) ?_
    refine kx_get E w zC_RA 0 rfl 4 (by decide) mw_168 rfl d_RA_init_62 ?_
    refine lv_iload_n hx hb d_RA_init_65 rfl (lv_at hl 0 rfl) ?_
    refine kx_new E w zC_Value mw_167 mw_117 mw_26 (fs := [.null, .null, .int 0, .int 0, .int 0, .int 0, .int 0]) z0_Value (Nat.le_of_ble_eq_true rfl) (Nat.le_of_ble_eq_true rfl) d_RA_init_66 (fun q19 H w => ?_)
    have w : kW D A s [(h0, .inr (0, [.ref q1, .ref q2, .ref q3, .ref q4, .ref q6, .null, .null, .int 0, .int 0, .int 0, .int 0])), (q1, .inl (a 2, 400, .inl (fun _ => 0))), (q2, .inl (a 2, 128, .inl (fun _ => 0))), (q3, .inl (a 2, 128, .inl (fun _ => 0))), (q4, .inr (1, [.ref q5, .int 0, .int 0])), (q5, .inl (a 0, 8, .inl (fun _ => 0))), (q6, .inl (a 5, 17, .inr (.inr (.inr (.inr (va_up (va_up (va_up (fun _ => none) 0 (some q7)) 1 (some q11)) 2 (some q15))))))), (q7, .inr (11, [.ref q8, .ref q9, .int 0, .int 0, .int 0, .int 0, .int 0])), (q11, .inr (11, [.ref q12, .ref q13, .int 0, .int 0, .int 0, .int 0, .int 0])), (q15, .inr (11, [.ref q16, .ref q17, .int 0, .int 0, .int 0, .int 0, .int 0])), (q19, .inr (11, [.null, .null, .int 0, .int 0, .int 0, .int 0, .int 0]))] H locs := w
    refine lv_dup hx hb d_RA_init_69 rfl ?_
    refine kx_v E w (wc := [(q19, .inr (11, [.null, .null, .int 0, .int 0, .int 0, .int 0, .int 0]))]) (wr := [(h0, .inr (0, [.ref q1, .ref q2, .ref q3, .ref q4, .ref q6, .null, .null, .int 0, .int 0, .int 0, .int 0])), (q1, .inl (a 2, 400, .inl (fun _ => 0))), (q2, .inl (a 2, 128, .inl (fun _ => 0))), (q3, .inl (a 2, 128, .inl (fun _ => 0))), (q4, .inr (1, [.ref q5, .int 0, .int 0])), (q5, .inl (a 0, 8, .inl (fun _ => 0))), (q6, .inl (a 5, 17, .inr (.inr (.inr (.inr (va_up (va_up (va_up (fun _ => none) 0 (some q7)) 1 (some q11)) 2 (some q15))))))), (q7, .inr (11, [.ref q8, .ref q9, .int 0, .int 0, .int 0, .int 0, .int 0])), (q11, .inr (11, [.ref q12, .ref q13, .int 0, .int 0, .int 0, .int 0, .int 0])), (q15, .inr (11, [.ref q16, .ref q17, .int 0, .int 0, .int 0, .int 0, .int 0]))]) [10] [0, 1, 2, 3, 4, 5, 6, 7, 8, 9] rfl rfl ⟨rfl, rfl, by decide⟩ (kx_rI E w hl.1 (As := []) (wc := [(q19, .inr (11, [.null, .null, .int 0, .int 0, .int 0, .int 0, .int 0]))]) (c_Value_init l D a q19 H.size) gc_18 gi_Value_init [10] rfl rfl rfl rfl rfl ⟨(Nat.le_of_ble_eq_true rfl), (Nat.le_of_ble_eq_true rfl)⟩ rfl (Nat.le_of_ble_eq_true rfl) d_RA_init_70 ⟨(Nat.le_of_ble_eq_true rfl), (Nat.le_of_ble_eq_true rfl)⟩) (fun u H locs hu w => ?_)
    obtain ⟨q20, q21, q22, rfl⟩ := hu
    have w : kW D A s [(h0, .inr (0, [.ref q1, .ref q2, .ref q3, .ref q4, .ref q6, .null, .null, .int 0, .int 0, .int 0, .int 0])), (q1, .inl (a 2, 400, .inl (fun _ => 0))), (q2, .inl (a 2, 128, .inl (fun _ => 0))), (q3, .inl (a 2, 128, .inl (fun _ => 0))), (q4, .inr (1, [.ref q5, .int 0, .int 0])), (q5, .inl (a 0, 8, .inl (fun _ => 0))), (q6, .inl (a 5, 17, .inr (.inr (.inr (.inr (va_up (va_up (va_up (fun _ => none) 0 (some q7)) 1 (some q11)) 2 (some q15))))))), (q7, .inr (11, [.ref q8, .ref q9, .int 0, .int 0, .int 0, .int 0, .int 0])), (q11, .inr (11, [.ref q12, .ref q13, .int 0, .int 0, .int 0, .int 0, .int 0])), (q15, .inr (11, [.ref q16, .ref q17, .int 0, .int 0, .int 0, .int 0, .int 0])), (q19, .inr (11, [.ref q20, .ref q21, .int 0, .int 0, .int 0, .int 0, .int 0])), (q20, .inl (a 0, 7, .inl (fun _ => 0))), (q21, .inr (1, [.ref q22, .int 0, .int 0])), (q22, .inl (a 0, 12, .inl (fun _ => 0)))] H locs := w
    refine kx_aast E w 6 5 10 11 rfl rfl rfl rfl (by unfold vp_in; decide) 3 (by decide) d_RA_init_73 (ws' := [(h0, .inr (0, [.ref q1, .ref q2, .ref q3, .ref q4, .ref q6, .null, .null, .int 0, .int 0, .int 0, .int 0])), (q1, .inl (a 2, 400, .inl (fun _ => 0))), (q2, .inl (a 2, 128, .inl (fun _ => 0))), (q3, .inl (a 2, 128, .inl (fun _ => 0))), (q4, .inr (1, [.ref q5, .int 0, .int 0])), (q5, .inl (a 0, 8, .inl (fun _ => 0))), (q6, .inl (a 5, 17, .inr (.inr (.inr (.inr (va_up (va_up (va_up (va_up (fun _ => none) 0 (some q7)) 1 (some q11)) 2 (some q15)) 3 (some q19))))))), (q7, .inr (11, [.ref q8, .ref q9, .int 0, .int 0, .int 0, .int 0, .int 0])), (q11, .inr (11, [.ref q12, .ref q13, .int 0, .int 0, .int 0, .int 0, .int 0])), (q15, .inr (11, [.ref q16, .ref q17, .int 0, .int 0, .int 0, .int 0, .int 0])), (q19, .inr (11, [.ref q20, .ref q21, .int 0, .int 0, .int 0, .int 0, .int 0])), (q20, .inl (a 0, 7, .inl (fun _ => 0))), (q21, .inr (1, [.ref q22, .int 0, .int 0])), (q22, .inl (a 0, 12, .inl (fun _ => 0)))]) rfl (fun H locs w => ?_)
    have w := kW_sub w (ws' := [(h0, .inr (0, [.ref q1, .ref q2, .ref q3, .ref q4, .ref q6, .null, .null, .int 0, .int 0, .int 0, .int 0])), (q1, .inl (a 2, 400, .inl (fun _ => 0))), (q2, .inl (a 2, 128, .inl (fun _ => 0))), (q3, .inl (a 2, 128, .inl (fun _ => 0))), (q4, .inr (1, [.ref q5, .int 0, .int 0])), (q5, .inl (a 0, 8, .inl (fun _ => 0))), (q6, .inl (a 5, 17, .inr (.inr (.inr (.inr (va_up (va_up (va_up (va_up (fun _ => none) 0 (some q7)) 1 (some q11)) 2 (some q15)) 3 (some q19))))))), (q7, .inr (11, [.ref q8, .ref q9, .int 0, .int 0, .int 0, .int 0, .int 0])), (q11, .inr (11, [.ref q12, .ref q13, .int 0, .int 0, .int 0, .int 0, .int 0])), (q15, .inr (11, [.ref q16, .ref q17, .int 0, .int 0, .int 0, .int 0, .int 0])), (q19, .inr (11, [.ref q20, .ref q21, .int 0, .int 0, .int 0, .int 0, .int 0]))]) [0, 1, 2, 3, 4, 5, 6, 7, 8, 9, 10] rfl rfl
    refine lv_iinc (v := 4) (lv' := [(1, .int 4), (0, .ref h0)]) hx hb d_RA_init_74 hl (k := 0) rfl (by decide) (by decide) rfl (fun ls hl => ?_)
    refine lv_goto (tgt := 55) hx hb d_RA_init_77 (by decide) ?_
    refine lv_iload_n hx hb d_RA_init_55 rfl (lv_at hl 0 rfl) ?_
    refine lv_bipush (v := 16) hx hb d_RA_init_56 (by decide) ?_
    refine lv_icmp_gt (tgt := 80) hx hb d_RA_init_58 (by decide) (fun h => absurd h (by decide)) (fun _ => ?_)
    refine lv_aload_n hx hb d_RA_init_61 rfl (lv_at hl 1 rfl) ?_
    refine kx_get E w zC_RA 0 rfl 4 (by decide) mw_168 rfl d_RA_init_62 ?_
    refine lv_iload_n hx hb d_RA_init_65 rfl (lv_at hl 0 rfl) ?_
    refine kx_new E w zC_Value mw_167 mw_117 mw_26 (fs := [.null, .null, .int 0, .int 0, .int 0, .int 0, .int 0]) z0_Value (Nat.le_of_ble_eq_true rfl) (Nat.le_of_ble_eq_true rfl) d_RA_init_66 (fun q23 H w => ?_)
    have w : kW D A s [(h0, .inr (0, [.ref q1, .ref q2, .ref q3, .ref q4, .ref q6, .null, .null, .int 0, .int 0, .int 0, .int 0])), (q1, .inl (a 2, 400, .inl (fun _ => 0))), (q2, .inl (a 2, 128, .inl (fun _ => 0))), (q3, .inl (a 2, 128, .inl (fun _ => 0))), (q4, .inr (1, [.ref q5, .int 0, .int 0])), (q5, .inl (a 0, 8, .inl (fun _ => 0))), (q6, .inl (a 5, 17, .inr (.inr (.inr (.inr (va_up (va_up (va_up (va_up (fun _ => none) 0 (some q7)) 1 (some q11)) 2 (some q15)) 3 (some q19))))))), (q7, .inr (11, [.ref q8, .ref q9, .int 0, .int 0, .int 0, .int 0, .int 0])), (q11, .inr (11, [.ref q12, .ref q13, .int 0, .int 0, .int 0, .int 0, .int 0])), (q15, .inr (11, [.ref q16, .ref q17, .int 0, .int 0, .int 0, .int 0, .int 0])), (q19, .inr (11, [.ref q20, .ref q21, .int 0, .int 0, .int 0, .int 0, .int 0])), (q23, .inr (11, [.null, .null, .int 0, .int 0, .int 0, .int 0, .int 0]))] H locs := w
    refine lv_dup hx hb d_RA_init_69 rfl ?_
    refine kx_v E w (wc := [(q23, .inr (11, [.null, .null, .int 0, .int 0, .int 0, .int 0, .int 0]))]) (wr := [(h0, .inr (0, [.ref q1, .ref q2, .ref q3, .ref q4, .ref q6, .null, .null, .int 0, .int 0, .int 0, .int 0])), (q1, .inl (a 2, 400, .inl (fun _ => 0))), (q2, .inl (a 2, 128, .inl (fun _ => 0))), (q3, .inl (a 2, 128, .inl (fun _ => 0))), (q4, .inr (1, [.ref q5, .int 0, .int 0])), (q5, .inl (a 0, 8, .inl (fun _ => 0))), (q6, .inl (a 5, 17, .inr (.inr (.inr (.inr (va_up (va_up (va_up (va_up (fun _ => none) 0 (some q7)) 1 (some q11)) 2 (some q15)) 3 (some q19))))))), (q7, .inr (11, [.ref q8, .ref q9, .int 0, .int 0, .int 0, .int 0, .int 0])), (q11, .inr (11, [.ref q12, .ref q13, .int 0, .int 0, .int 0, .int 0, .int 0])), (q15, .inr (11, [.ref q16, .ref q17, .int 0, .int 0, .int 0, .int 0, .int 0])), (q19, .inr (11, [.ref q20, .ref q21, .int 0, .int 0, .int 0, .int 0, .int 0]))]) [11] [0, 1, 2, 3, 4, 5, 6, 7, 8, 9, 10] rfl rfl ⟨rfl, rfl, by decide⟩ (kx_rI E w hl.1 (As := []) (wc := [(q23, .inr (11, [.null, .null, .int 0, .int 0, .int 0, .int 0, .int 0]))]) (c_Value_init l D a q23 H.size) gc_18 gi_Value_init [11] rfl rfl rfl rfl rfl ⟨(Nat.le_of_ble_eq_true rfl), (Nat.le_of_ble_eq_true rfl)⟩ rfl (Nat.le_of_ble_eq_true rfl) d_RA_init_70 ⟨(Nat.le_of_ble_eq_true rfl), (Nat.le_of_ble_eq_true rfl)⟩) (fun u H locs hu w => ?_)
    obtain ⟨q24, q25, q26, rfl⟩ := hu
    have w : kW D A s [(h0, .inr (0, [.ref q1, .ref q2, .ref q3, .ref q4, .ref q6, .null, .null, .int 0, .int 0, .int 0, .int 0])), (q1, .inl (a 2, 400, .inl (fun _ => 0))), (q2, .inl (a 2, 128, .inl (fun _ => 0))), (q3, .inl (a 2, 128, .inl (fun _ => 0))), (q4, .inr (1, [.ref q5, .int 0, .int 0])), (q5, .inl (a 0, 8, .inl (fun _ => 0))), (q6, .inl (a 5, 17, .inr (.inr (.inr (.inr (va_up (va_up (va_up (va_up (fun _ => none) 0 (some q7)) 1 (some q11)) 2 (some q15)) 3 (some q19))))))), (q7, .inr (11, [.ref q8, .ref q9, .int 0, .int 0, .int 0, .int 0, .int 0])), (q11, .inr (11, [.ref q12, .ref q13, .int 0, .int 0, .int 0, .int 0, .int 0])), (q15, .inr (11, [.ref q16, .ref q17, .int 0, .int 0, .int 0, .int 0, .int 0])), (q19, .inr (11, [.ref q20, .ref q21, .int 0, .int 0, .int 0, .int 0, .int 0])), (q23, .inr (11, [.ref q24, .ref q25, .int 0, .int 0, .int 0, .int 0, .int 0])), (q24, .inl (a 0, 7, .inl (fun _ => 0))), (q25, .inr (1, [.ref q26, .int 0, .int 0])), (q26, .inl (a 0, 12, .inl (fun _ => 0)))] H locs := w
    refine kx_aast E w 6 5 11 11 rfl rfl rfl rfl (by unfold vp_in; decide) 4 (by decide) d_RA_init_73 (ws' := [(h0, .inr (0, [.ref q1, .ref q2, .ref q3, .ref q4, .ref q6, .null, .null, .int 0, .int 0, .int 0, .int 0])), (q1, .inl (a 2, 400, .inl (fun _ => 0))), (q2, .inl (a 2, 128, .inl (fun _ => 0))), (q3, .inl (a 2, 128, .inl (fun _ => 0))), (q4, .inr (1, [.ref q5, .int 0, .int 0])), (q5, .inl (a 0, 8, .inl (fun _ => 0))), (q6, .inl (a 5, 17, .inr (.inr (.inr (.inr (va_up (va_up (va_up (va_up (va_up (fun _ => none) 0 (some q7)) 1 (some q11)) 2 (some q15)) 3 (some q19)) 4 (some q23))))))), (q7, .inr (11, [.ref q8, .ref q9, .int 0, .int 0, .int 0, .int 0, .int 0])), (q11, .inr (11, [.ref q12, .ref q13, .int 0, .int 0, .int 0, .int 0, .int 0])), (q15, .inr (11, [.ref q16, .ref q17, .int 0, .int 0, .int 0, .int 0, .int 0])), (q19, .inr (11, [.ref q20, .ref q21, .int 0, .int 0, .int 0, .int 0, .int 0])), (q23, .inr (11, [.ref q24, .ref q25, .int 0, .int 0, .int 0, .int 0, .int 0])), (q24, .inl (a 0, 7, .inl (fun _ => 0))), (q25, .inr (1, [.ref q26, .int 0, .int 0])), (q26, .inl (a 0, 12, .inl (fun _ => 0)))]) rfl (fun H locs w => ?_)
    have w := kW_sub w (ws' := [(h0, .inr (0, [.ref q1, .ref q2, .ref q3, .ref q4, .ref q6, .null, .null, .int 0, .int 0, .int 0, .int 0])), (q1, .inl (a 2, 400, .inl (fun _ => 0))), (q2, .inl (a 2, 128, .inl (fun _ => 0))), (q3, .inl (a 2, 128, .inl (fun _ => 0))), (q4, .inr (1, [.ref q5, .int 0, .int 0])), (q5, .inl (a 0, 8, .inl (fun _ => 0))), (q6, .inl (a 5, 17, .inr (.inr (.inr (.inr (va_up (va_up (va_up (va_up (va_up (fun _ => none) 0 (some q7)) 1 (some q11)) 2 (some q15)) 3 (some q19)) 4 (some q23))))))), (q7, .inr (11, [.ref q8, .ref q9, .int 0, .int 0, .int 0, .int 0, .int 0])), (q11, .inr (11, [.ref q12, .ref q13, .int 0, .int 0, .int 0, .int 0, .int 0])), (q15, .inr (11, [.ref q16, .ref q17, .int 0, .int 0, .int 0, .int 0, .int 0])), (q19, .inr (11, [.ref q20, .ref q21, .int 0, .int 0, .int 0, .int 0, .int 0])), (q23, .inr (11, [.ref q24, .ref q25, .int 0, .int 0, .int 0, .int 0, .int 0]))]) [0, 1, 2, 3, 4, 5, 6, 7, 8, 9, 10, 11] rfl rfl
    refine lv_iinc (v := 5) (lv' := [(1, .int 5), (0, .ref h0)]) hx hb d_RA_init_74 hl (k := 0) rfl (by decide) (by decide) rfl (fun ls hl => ?_)
    refine lv_goto (tgt := 55) hx hb d_RA_init_77 (by decide) ?_
    refine lv_iload_n hx hb d_RA_init_55 rfl (lv_at hl 0 rfl) ?_
    refine lv_bipush (v := 16) hx hb d_RA_init_56 (by decide) ?_
    refine lv_icmp_gt (tgt := 80) hx hb d_RA_init_58 (by decide) (fun h => absurd h (by decide)) (fun _ => ?_)
    refine lv_aload_n hx hb d_RA_init_61 rfl (lv_at hl 1 rfl) ?_
    refine kx_get E w zC_RA 0 rfl 4 (by decide) mw_168 rfl d_RA_init_62 ?_
    refine lv_iload_n hx hb d_RA_init_65 rfl (lv_at hl 0 rfl) ?_
    refine kx_new E w zC_Value mw_167 mw_117 mw_26 (fs := [.null, .null, .int 0, .int 0, .int 0, .int 0, .int 0]) z0_Value (Nat.le_of_ble_eq_true rfl) (Nat.le_of_ble_eq_true rfl) d_RA_init_66 (fun q27 H w => ?_)
    have w : kW D A s [(h0, .inr (0, [.ref q1, .ref q2, .ref q3, .ref q4, .ref q6, .null, .null, .int 0, .int 0, .int 0, .int 0])), (q1, .inl (a 2, 400, .inl (fun _ => 0))), (q2, .inl (a 2, 128, .inl (fun _ => 0))), (q3, .inl (a 2, 128, .inl (fun _ => 0))), (q4, .inr (1, [.ref q5, .int 0, .int 0])), (q5, .inl (a 0, 8, .inl (fun _ => 0))), (q6, .inl (a 5, 17, .inr (.inr (.inr (.inr (va_up (va_up (va_up (va_up (va_up (fun _ => none) 0 (some q7)) 1 (some q11)) 2 (some q15)) 3 (some q19)) 4 (some q23))))))), (q7, .inr (11, [.ref q8, .ref q9, .int 0, .int 0, .int 0, .int 0, .int 0])), (q11, .inr (11, [.ref q12, .ref q13, .int 0, .int 0, .int 0, .int 0, .int 0])), (q15, .inr (11, [.ref q16, .ref q17, .int 0, .int 0, .int 0, .int 0, .int 0])), (q19, .inr (11, [.ref q20, .ref q21, .int 0, .int 0, .int 0, .int 0, .int 0])), (q23, .inr (11, [.ref q24, .ref q25, .int 0, .int 0, .int 0, .int 0, .int 0])), (q27, .inr (11, [.null, .null, .int 0, .int 0, .int 0, .int 0, .int 0]))] H locs := w
    refine lv_dup hx hb d_RA_init_69 rfl ?_
    refine kx_v E w (wc := [(q27, .inr (11, [.null, .null, .int 0, .int 0, .int 0, .int 0, .int 0]))]) (wr := [(h0, .inr (0, [.ref q1, .ref q2, .ref q3, .ref q4, .ref q6, .null, .null, .int 0, .int 0, .int 0, .int 0])), (q1, .inl (a 2, 400, .inl (fun _ => 0))), (q2, .inl (a 2, 128, .inl (fun _ => 0))), (q3, .inl (a 2, 128, .inl (fun _ => 0))), (q4, .inr (1, [.ref q5, .int 0, .int 0])), (q5, .inl (a 0, 8, .inl (fun _ => 0))), (q6, .inl (a 5, 17, .inr (.inr (.inr (.inr (va_up (va_up (va_up (va_up (va_up (fun _ => none) 0 (some q7)) 1 (some q11)) 2 (some q15)) 3 (some q19)) 4 (some q23))))))), (q7, .inr (11, [.ref q8, .ref q9, .int 0, .int 0, .int 0, .int 0, .int 0])), (q11, .inr (11, [.ref q12, .ref q13, .int 0, .int 0, .int 0, .int 0, .int 0])), (q15, .inr (11, [.ref q16, .ref q17, .int 0, .int 0, .int 0, .int 0, .int 0])), (q19, .inr (11, [.ref q20, .ref q21, .int 0, .int 0, .int 0, .int 0, .int 0])), (q23, .inr (11, [.ref q24, .ref q25, .int 0, .int 0, .int 0, .int 0, .int 0]))]) [12] [0, 1, 2, 3, 4, 5, 6, 7, 8, 9, 10, 11] rfl rfl ⟨rfl, rfl, by decide⟩ (kx_rI E w hl.1 (As := []) (wc := [(q27, .inr (11, [.null, .null, .int 0, .int 0, .int 0, .int 0, .int 0]))]) (c_Value_init l D a q27 H.size) gc_18 gi_Value_init [12] rfl rfl rfl rfl rfl ⟨(Nat.le_of_ble_eq_true rfl), (Nat.le_of_ble_eq_true rfl)⟩ rfl (Nat.le_of_ble_eq_true rfl) d_RA_init_70 ⟨(Nat.le_of_ble_eq_true rfl), (Nat.le_of_ble_eq_true rfl)⟩) (fun u H locs hu w => ?_)
    obtain ⟨q28, q29, q30, rfl⟩ := hu
    have w : kW D A s [(h0, .inr (0, [.ref q1, .ref q2, .ref q3, .ref q4, .ref q6, .null, .null, .int 0, .int 0, .int 0, .int 0])), (q1, .inl (a 2, 400, .inl (fun _ => 0))), (q2, .inl (a 2, 128, .inl (fun _ => 0))), (q3, .inl (a 2, 128, .inl (fun _ => 0))), (q4, .inr (1, [.ref q5, .int 0, .int 0])), (q5, .inl (a 0, 8, .inl (fun _ => 0))), (q6, .inl (a 5, 17, .inr (.inr (.inr (.inr (va_up (va_up (va_up (va_up (va_up (fun _ => none) 0 (some q7)) 1 (some q11)) 2 (some q15)) 3 (some q19)) 4 (some q23))))))), (q7, .inr (11, [.ref q8, .ref q9, .int 0, .int 0, .int 0, .int 0, .int 0])), (q11, .inr (11, [.ref q12, .ref q13, .int 0, .int 0, .int 0, .int 0, .int 0])), (q15, .inr (11, [.ref q16, .ref q17, .int 0, .int 0, .int 0, .int 0, .int 0])), (q19, .inr (11, [.ref q20, .ref q21, .int 0, .int 0, .int 0, .int 0, .int 0])), (q23, .inr (11, [.ref q24, .ref q25, .int 0, .int 0, .int 0, .int 0, .int 0])), (q27, .inr (11, [.ref q28, .ref q29, .int 0, .int 0, .int 0, .int 0, .int 0])), (q28, .inl (a 0, 7, .inl (fun _ => 0))), (q29, .inr (1, [.ref q30, .int 0, .int 0])), (q30, .inl (a 0, 12, .inl (fun _ => 0)))] H locs := w
    refine kx_aast E w 6 5 12 11 rfl rfl rfl rfl (by unfold vp_in; decide) 5 (by decide) d_RA_init_73 (ws' := [(h0, .inr (0, [.ref q1, .ref q2, .ref q3, .ref q4, .ref q6, .null, .null, .int 0, .int 0, .int 0, .int 0])), (q1, .inl (a 2, 400, .inl (fun _ => 0))), (q2, .inl (a 2, 128, .inl (fun _ => 0))), (q3, .inl (a 2, 128, .inl (fun _ => 0))), (q4, .inr (1, [.ref q5, .int 0, .int 0])), (q5, .inl (a 0, 8, .inl (fun _ => 0))), (q6, .inl (a 5, 17, .inr (.inr (.inr (.inr (va_up (va_up (va_up (va_up (va_up (va_up (fun _ => none) 0 (some q7)) 1 (some q11)) 2 (some q15)) 3 (some q19)) 4 (some q23)) 5 (some q27))))))), (q7, .inr (11, [.ref q8, .ref q9, .int 0, .int 0, .int 0, .int 0, .int 0])), (q11, .inr (11, [.ref q12, .ref q13, .int 0, .int 0, .int 0, .int 0, .int 0])), (q15, .inr (11, [.ref q16, .ref q17, .int 0, .int 0, .int 0, .int 0, .int 0])), (q19, .inr (11, [.ref q20, .ref q21, .int 0, .int 0, .int 0, .int 0, .int 0])), (q23, .inr (11, [.ref q24, .ref q25, .int 0, .int 0, .int 0, .int 0, .int 0])), (q27, .inr (11, [.ref q28, .ref q29, .int 0, .int 0, .int 0, .int 0, .int 0])), (q28, .inl (a 0, 7, .inl (fun _ => 0))), (q29, .inr (1, [.ref q30, .int 0, .int 0])), (q30, .inl (a 0, 12, .inl (fun _ => 0)))]) rfl (fun H locs w => ?_)
    have w := kW_sub w (ws' := [(h0, .inr (0, [.ref q1, .ref q2, .ref q3, .ref q4, .ref q6, .null, .null, .int 0, .int 0, .int 0, .int 0])), (q1, .inl (a 2, 400, .inl (fun _ => 0))), (q2, .inl (a 2, 128, .inl (fun _ => 0))), (q3, .inl (a 2, 128, .inl (fun _ => 0))), (q4, .inr (1, [.ref q5, .int 0, .int 0])), (q5, .inl (a 0, 8, .inl (fun _ => 0))), (q6, .inl (a 5, 17, .inr (.inr (.inr (.inr (va_up (va_up (va_up (va_up (va_up (va_up (fun _ => none) 0 (some q7)) 1 (some q11)) 2 (some q15)) 3 (some q19)) 4 (some q23)) 5 (some q27))))))), (q7, .inr (11, [.ref q8, .ref q9, .int 0, .int 0, .int 0, .int 0, .int 0])), (q11, .inr (11, [.ref q12, .ref q13, .int 0, .int 0, .int 0, .int 0, .int 0])), (q15, .inr (11, [.ref q16, .ref q17, .int 0, .int 0, .int 0, .int 0, .int 0])), (q19, .inr (11, [.ref q20, .ref q21, .int 0, .int 0, .int 0, .int 0, .int 0])), (q23, .inr (11, [.ref q24, .ref q25, .int 0, .int 0, .int 0, .int 0, .int 0])), (q27, .inr (11, [.ref q28, .ref q29, .int 0, .int 0, .int 0, .int 0, .int 0]))]) [0, 1, 2, 3, 4, 5, 6, 7, 8, 9, 10, 11, 12] rfl rfl
    refine lv_iinc (v := 6) (lv' := [(1, .int 6), (0, .ref h0)]) hx hb d_RA_init_74 hl (k := 0) rfl (by decide) (by decide) rfl (fun ls hl => ?_)
    refine lv_goto (tgt := 55) hx hb d_RA_init_77 (by decide) ?_
    refine lv_iload_n hx hb d_RA_init_55 rfl (lv_at hl 0 rfl) ?_
    refine lv_bipush (v := 16) hx hb d_RA_init_56 (by decide) ?_
    refine lv_icmp_gt (tgt := 80) hx hb d_RA_init_58 (by decide) (fun h => absurd h (by decide)) (fun _ => ?_)
    refine lv_aload_n hx hb d_RA_init_61 rfl (lv_at hl 1 rfl) ?_
    refine kx_get E w zC_RA 0 rfl 4 (by decide) mw_168 rfl d_RA_init_62 ?_
    refine lv_iload_n hx hb d_RA_init_65 rfl (lv_at hl 0 rfl) ?_
    refine kx_new E w zC_Value mw_167 mw_117 mw_26 (fs := [.null, .null, .int 0, .int 0, .int 0, .int 0, .int 0]) z0_Value (Nat.le_of_ble_eq_true rfl) (Nat.le_of_ble_eq_true rfl) d_RA_init_66 (fun q31 H w => ?_)
    have w : kW D A s [(h0, .inr (0, [.ref q1, .ref q2, .ref q3, .ref q4, .ref q6, .null, .null, .int 0, .int 0, .int 0, .int 0])), (q1, .inl (a 2, 400, .inl (fun _ => 0))), (q2, .inl (a 2, 128, .inl (fun _ => 0))), (q3, .inl (a 2, 128, .inl (fun _ => 0))), (q4, .inr (1, [.ref q5, .int 0, .int 0])), (q5, .inl (a 0, 8, .inl (fun _ => 0))), (q6, .inl (a 5, 17, .inr (.inr (.inr (.inr (va_up (va_up (va_up (va_up (va_up (va_up (fun _ => none) 0 (some q7)) 1 (some q11)) 2 (some q15)) 3 (some q19)) 4 (some q23)) 5 (some q27))))))), (q7, .inr (11, [.ref q8, .ref q9, .int 0, .int 0, .int 0, .int 0, .int 0])), (q11, .inr (11, [.ref q12, .ref q13, .int 0, .int 0, .int 0, .int 0, .int 0])), (q15, .inr (11, [.ref q16, .ref q17, .int 0, .int 0, .int 0, .int 0, .int 0])), (q19, .inr (11, [.ref q20, .ref q21, .int 0, .int 0, .int 0, .int 0, .int 0])), (q23, .inr (11, [.ref q24, .ref q25, .int 0, .int 0, .int 0, .int 0, .int 0])), (q27, .inr (11, [.ref q28, .ref q29, .int 0, .int 0, .int 0, .int 0, .int 0])), (q31, .inr (11, [.null, .null, .int 0, .int 0, .int 0, .int 0, .int 0]))] H locs := w
    refine lv_dup hx hb d_RA_init_69 rfl ?_
    refine kx_v E w (wc := [(q31, .inr (11, [.null, .null, .int 0, .int 0, .int 0, .int 0, .int 0]))]) (wr := [(h0, .inr (0, [.ref q1, .ref q2, .ref q3, .ref q4, .ref q6, .null, .null, .int 0, .int 0, .int 0, .int 0])), (q1, .inl (a 2, 400, .inl (fun _ => 0))), (q2, .inl (a 2, 128, .inl (fun _ => 0))), (q3, .inl (a 2, 128, .inl (fun _ => 0))), (q4, .inr (1, [.ref q5, .int 0, .int 0])), (q5, .inl (a 0, 8, .inl (fun _ => 0))), (q6, .inl (a 5, 17, .inr (.inr (.inr (.inr (va_up (va_up (va_up (va_up (va_up (va_up (fun _ => none) 0 (some q7)) 1 (some q11)) 2 (some q15)) 3 (some q19)) 4 (some q23)) 5 (some q27))))))), (q7, .inr (11, [.ref q8, .ref q9, .int 0, .int 0, .int 0, .int 0, .int 0])), (q11, .inr (11, [.ref q12, .ref q13, .int 0, .int 0, .int 0, .int 0, .int 0])), (q15, .inr (11, [.ref q16, .ref q17, .int 0, .int 0, .int 0, .int 0, .int 0])), (q19, .inr (11, [.ref q20, .ref q21, .int 0, .int 0, .int 0, .int 0, .int 0])), (q23, .inr (11, [.ref q24, .ref q25, .int 0, .int 0, .int 0, .int 0, .int 0])), (q27, .inr (11, [.ref q28, .ref q29, .int 0, .int 0, .int 0, .int 0, .int 0]))]) [13] [0, 1, 2, 3, 4, 5, 6, 7, 8, 9, 10, 11, 12] rfl rfl ⟨rfl, rfl, by decide⟩ (kx_rI E w hl.1 (As := []) (wc := [(q31, .inr (11, [.null, .null, .int 0, .int 0, .int 0, .int 0, .int 0]))]) (c_Value_init l D a q31 H.size) gc_18 gi_Value_init [13] rfl rfl rfl rfl rfl ⟨(Nat.le_of_ble_eq_true rfl), (Nat.le_of_ble_eq_true rfl)⟩ rfl (Nat.le_of_ble_eq_true rfl) d_RA_init_70 ⟨(Nat.le_of_ble_eq_true rfl), (Nat.le_of_ble_eq_true rfl)⟩) (fun u H locs hu w => ?_)
    obtain ⟨q32, q33, q34, rfl⟩ := hu
    have w : kW D A s [(h0, .inr (0, [.ref q1, .ref q2, .ref q3, .ref q4, .ref q6, .null, .null, .int 0, .int 0, .int 0, .int 0])), (q1, .inl (a 2, 400, .inl (fun _ => 0))), (q2, .inl (a 2, 128, .inl (fun _ => 0))), (q3, .inl (a 2, 128, .inl (fun _ => 0))), (q4, .inr (1, [.ref q5, .int 0, .int 0])), (q5, .inl (a 0, 8, .inl (fun _ => 0))), (q6, .inl (a 5, 17, .inr (.inr (.inr (.inr (va_up (va_up (va_up (va_up (va_up (va_up (fun _ => none) 0 (some q7)) 1 (some q11)) 2 (some q15)) 3 (some q19)) 4 (some q23)) 5 (some q27))))))), (q7, .inr (11, [.ref q8, .ref q9, .int 0, .int 0, .int 0, .int 0, .int 0])), (q11, .inr (11, [.ref q12, .ref q13, .int 0, .int 0, .int 0, .int 0, .int 0])), (q15, .inr (11, [.ref q16, .ref q17, .int 0, .int 0, .int 0, .int 0, .int 0])), (q19, .inr (11, [.ref q20, .ref q21, .int 0, .int 0, .int 0, .int 0, .int 0])), (q23, .inr (11, [.ref q24, .ref q25, .int 0, .int 0, .int 0, .int 0, .int 0])), (q27, .inr (11, [.ref q28, .ref q29, .int 0, .int 0, .int 0, .int 0, .int 0])), (q31, .inr (11, [.ref q32, .ref q33, .int 0, .int 0, .int 0, .int 0, .int 0])), (q32, .inl (a 0, 7, .inl (fun _ => 0))), (q33, .inr (1, [.ref q34, .int 0, .int 0])), (q34, .inl (a 0, 12, .inl (fun _ => 0)))] H locs := w
    refine kx_aast E w 6 5 13 11 rfl rfl rfl rfl (by unfold vp_in; decide) 6 (by decide) d_RA_init_73 (ws' := [(h0, .inr (0, [.ref q1, .ref q2, .ref q3, .ref q4, .ref q6, .null, .null, .int 0, .int 0, .int 0, .int 0])), (q1, .inl (a 2, 400, .inl (fun _ => 0))), (q2, .inl (a 2, 128, .inl (fun _ => 0))), (q3, .inl (a 2, 128, .inl (fun _ => 0))), (q4, .inr (1, [.ref q5, .int 0, .int 0])), (q5, .inl (a 0, 8, .inl (fun _ => 0))), (q6, .inl (a 5, 17, .inr (.inr (.inr (.inr (va_up (va_up (va_up (va_up (va_up (va_up (va_up (fun _ => none) 0 (some q7)) 1 (some q11)) 2 (some q15)) 3 (some q19)) 4 (some q23)) 5 (some q27)) 6 (some q31))))))), (q7, .inr (11, [.ref q8, .ref q9, .int 0, .int 0, .int 0, .int 0, .int 0])), (q11, .inr (11, [.ref q12, .ref q13, .int 0, .int 0, .int 0, .int 0, .int 0])), (q15, .inr (11, [.ref q16, .ref q17, .int 0, .int 0, .int 0, .int 0, .int 0])), (q19, .inr (11, [.ref q20, .ref q21, .int 0, .int 0, .int 0, .int 0, .int 0])), (q23, .inr (11, [.ref q24, .ref q25, .int 0, .int 0, .int 0, .int 0, .int 0])), (q27, .inr (11, [.ref q28, .ref q29, .int 0, .int 0, .int 0, .int 0, .int 0])), (q31, .inr (11, [.ref q32, .ref q33, .int 0, .int 0, .int 0, .int 0, .int 0])), (q32, .inl (a 0, 7, .inl (fun _ => 0))), (q33, .inr (1, [.ref q34, .int 0, .int 0])), (q34, .inl (a 0, 12, .inl (fun _ => 0)))]) rfl (fun H locs w => ?_)
    have w := kW_sub w (ws' := [(h0, .inr (0, [.ref q1, .ref q2, .ref q3, .ref q4, .ref q6, .null, .null, .int 0, .int 0, .int 0, .int 0])), (q1, .inl (a 2, 400, .inl (fun _ => 0))), (q2, .inl (a 2, 128, .inl (fun _ => 0))), (q3, .inl (a 2, 128, .inl (fun _ => 0))), (q4, .inr (1, [.ref q5, .int 0, .int 0])), (q5, .inl (a 0, 8, .inl (fun _ => 0))), (q6, .inl (a 5, 17, .inr (.inr (.inr (.inr (va_up (va_up (va_up (va_up (va_up (va_up (va_up (fun _ => none) 0 (some q7)) 1 (some q11)) 2 (some q15)) 3 (some q19)) 4 (some q23)) 5 (some q27)) 6 (some q31))))))), (q7, .inr (11, [.ref q8, .ref q9, .int 0, .int 0, .int 0, .int 0, .int 0])), (q11, .inr (11, [.ref q12, .ref q13, .int 0, .int 0, .int 0, .int 0, .int 0])), (q15, .inr (11, [.ref q16, .ref q17, .int 0, .int 0, .int 0, .int 0, .int 0])), (q19, .inr (11, [.ref q20, .ref q21, .int 0, .int 0, .int 0, .int 0, .int 0])), (q23, .inr (11, [.ref q24, .ref q25, .int 0, .int 0, .int 0, .int 0, .int 0])), (q27, .inr (11, [.ref q28, .ref q29, .int 0, .int 0, .int 0, .int 0, .int 0])), (q31, .inr (11, [.ref q32, .ref q33, .int 0, .int 0, .int 0, .int 0, .int 0]))]) [0, 1, 2, 3, 4, 5, 6, 7, 8, 9, 10, 11, 12, 13] rfl rfl
    refine lv_iinc (v := 7) (lv' := [(1, .int 7), (0, .ref h0)]) hx hb d_RA_init_74 hl (k := 0) rfl (by decide) (by decide) rfl (fun ls hl => ?_)
    refine lv_goto (tgt := 55) hx hb d_RA_init_77 (by decide) ?_
    refine lv_iload_n hx hb d_RA_init_55 rfl (lv_at hl 0 rfl) ?_
    refine lv_bipush (v := 16) hx hb d_RA_init_56 (by decide) ?_
    refine lv_icmp_gt (tgt := 80) hx hb d_RA_init_58 (by decide) (fun h => absurd h (by decide)) (fun _ => ?_)
    refine lv_aload_n hx hb d_RA_init_61 rfl (lv_at hl 1 rfl) ?_
    refine kx_get E w zC_RA 0 rfl 4 (by decide) mw_168 rfl d_RA_init_62 ?_
    refine lv_iload_n hx hb d_RA_init_65 rfl (lv_at hl 0 rfl) ?_
    refine kx_new E w zC_Value mw_167 mw_117 mw_26 (fs := [.null, .null, .int 0, .int 0, .int 0, .int 0, .int 0]) z0_Value (Nat.le_of_ble_eq_true rfl) (Nat.le_of_ble_eq_true rfl) d_RA_init_66 (fun q35 H w => ?_)
    have w : kW D A s [(h0, .inr (0, [.ref q1, .ref q2, .ref q3, .ref q4, .ref q6, .null, .null, .int 0, .int 0, .int 0, .int 0])), (q1, .inl (a 2, 400, .inl (fun _ => 0))), (q2, .inl (a 2, 128, .inl (fun _ => 0))), (q3, .inl (a 2, 128, .inl (fun _ => 0))), (q4, .inr (1, [.ref q5, .int 0, .int 0])), (q5, .inl (a 0, 8, .inl (fun _ => 0))), (q6, .inl (a 5, 17, .inr (.inr (.inr (.inr (va_up (va_up (va_up (va_up (va_up (va_up (va_up (fun _ => none) 0 (some q7)) 1 (some q11)) 2 (some q15)) 3 (some q19)) 4 (some q23)) 5 (some q27)) 6 (some q31))))))), (q7, .inr (11, [.ref q8, .ref q9, .int 0, .int 0, .int 0, .int 0, .int 0])), (q11, .inr (11, [.ref q12, .ref q13, .int 0, .int 0, .int 0, .int 0, .int 0])), (q15, .inr (11, [.ref q16, .ref q17, .int 0, .int 0, .int 0, .int 0, .int 0])), (q19, .inr (11, [.ref q20, .ref q21, .int 0, .int 0, .int 0, .int 0, .int 0])), (q23, .inr (11, [.ref q24, .ref q25, .int 0, .int 0, .int 0, .int 0, .int 0])), (q27, .inr (11, [.ref q28, .ref q29, .int 0, .int 0, .int 0, .int 0, .int 0])), (q31, .inr (11, [.ref q32, .ref q33, .int 0, .int 0, .int 0, .int 0, .int 0])), (q35, .inr (11, [.null, .null, .int 0, .int 0, .int 0, .int 0, .int 0]))] H locs := w
    refine lv_dup hx hb d_RA_init_69 rfl ?_
    refine kx_v E w (wc := [(q35, .inr (11, [.null, .null, .int 0, .int 0, .int 0, .int 0, .int 0]))]) (wr := [(h0, .inr (0, [.ref q1, .ref q2, .ref q3, .ref q4, .ref q6, .null, .null, .int 0, .int 0, .int 0, .int 0])), (q1, .inl (a 2, 400, .inl (fun _ => 0))), (q2, .inl (a 2, 128, .inl (fun _ => 0))), (q3, .inl (a 2, 128, .inl (fun _ => 0))), (q4, .inr (1, [.ref q5, .int 0, .int 0])), (q5, .inl (a 0, 8, .inl (fun _ => 0))), (q6, .inl (a 5, 17, .inr (.inr (.inr (.inr (va_up (va_up (va_up (va_up (va_up (va_up (va_up (fun _ => none) 0 (some q7)) 1 (some q11)) 2 (some q15)) 3 (some q19)) 4 (some q23)) 5 (some q27)) 6 (some q31))))))), (q7, .inr (11, [.ref q8, .ref q9, .int 0, .int 0, .int 0, .int 0, .int 0])), (q11, .inr (11, [.ref q12, .ref q13, .int 0, .int 0, .int 0, .int 0, .int 0])), (q15, .inr (11, [.ref q16, .ref q17, .int 0, .int 0, .int 0, .int 0, .int 0])), (q19, .inr (11, [.ref q20, .ref q21, .int 0, .int 0, .int 0, .int 0, .int 0])), (q23, .inr (11, [.ref q24, .ref q25, .int 0, .int 0, .int 0, .int 0, .int 0])), (q27, .inr (11, [.ref q28, .ref q29, .int 0, .int 0, .int 0, .int 0, .int 0])), (q31, .inr (11, [.ref q32, .ref q33, .int 0, .int 0, .int 0, .int 0, .int 0]))]) [14] [0, 1, 2, 3, 4, 5, 6, 7, 8, 9, 10, 11, 12, 13] rfl rfl ⟨rfl, rfl, by decide⟩ (kx_rI E w hl.1 (As := []) (wc := [(q35, .inr (11, [.null, .null, .int 0, .int 0, .int 0, .int 0, .int 0]))]) (c_Value_init l D a q35 H.size) gc_18 gi_Value_init [14] rfl rfl rfl rfl rfl ⟨(Nat.le_of_ble_eq_true rfl), (Nat.le_of_ble_eq_true rfl)⟩ rfl (Nat.le_of_ble_eq_true rfl) d_RA_init_70 ⟨(Nat.le_of_ble_eq_true rfl), (Nat.le_of_ble_eq_true rfl)⟩) (fun u H locs hu w => ?_)
    obtain ⟨q36, q37, q38, rfl⟩ := hu
    have w : kW D A s [(h0, .inr (0, [.ref q1, .ref q2, .ref q3, .ref q4, .ref q6, .null, .null, .int 0, .int 0, .int 0, .int 0])), (q1, .inl (a 2, 400, .inl (fun _ => 0))), (q2, .inl (a 2, 128, .inl (fun _ => 0))), (q3, .inl (a 2, 128, .inl (fun _ => 0))), (q4, .inr (1, [.ref q5, .int 0, .int 0])), (q5, .inl (a 0, 8, .inl (fun _ => 0))), (q6, .inl (a 5, 17, .inr (.inr (.inr (.inr (va_up (va_up (va_up (va_up (va_up (va_up (va_up (fun _ => none) 0 (some q7)) 1 (some q11)) 2 (some q15)) 3 (some q19)) 4 (some q23)) 5 (some q27)) 6 (some q31))))))), (q7, .inr (11, [.ref q8, .ref q9, .int 0, .int 0, .int 0, .int 0, .int 0])), (q11, .inr (11, [.ref q12, .ref q13, .int 0, .int 0, .int 0, .int 0, .int 0])), (q15, .inr (11, [.ref q16, .ref q17, .int 0, .int 0, .int 0, .int 0, .int 0])), (q19, .inr (11, [.ref q20, .ref q21, .int 0, .int 0, .int 0, .int 0, .int 0])), (q23, .inr (11, [.ref q24, .ref q25, .int 0, .int 0, .int 0, .int 0, .int 0])), (q27, .inr (11, [.ref q28, .ref q29, .int 0, .int 0, .int 0, .int 0, .int 0])), (q31, .inr (11, [.ref q32, .ref q33, .int 0, .int 0, .int 0, .int 0, .int 0])), (q35, .inr (11, [.ref q36, .ref q37, .int 0, .int 0, .int 0, .int 0, .int 0])), (q36, .inl (a 0, 7, .inl (fun _ => 0))), (q37, .inr (1, [.ref q38, .int 0, .int 0])), (q38, .inl (a 0, 12, .inl (fun _ => 0)))] H locs := w
    refine kx_aast E w 6 5 14 11 rfl rfl rfl rfl (by unfold vp_in; decide) 7 (by decide) d_RA_init_73 (ws' := [(h0, .inr (0, [.ref q1, .ref q2, .ref q3, .ref q4, .ref q6, .null, .null, .int 0, .int 0, .int 0, .int 0])), (q1, .inl (a 2, 400, .inl (fun _ => 0))), (q2, .inl (a 2, 128, .inl (fun _ => 0))), (q3, .inl (a 2, 128, .inl (fun _ => 0))), (q4, .inr (1, [.ref q5, .int 0, .int 0])), (q5, .inl (a 0, 8, .inl (fun _ => 0))), (q6, .inl (a 5, 17, .inr (.inr (.inr (.inr (va_up (va_up (va_up (va_up (va_up (va_up (va_up (va_up (fun _ => none) 0 (some q7)) 1 (some q11)) 2 (some q15)) 3 (some q19)) 4 (some q23)) 5 (some q27)) 6 (some q31)) 7 (some q35))))))), (q7, .inr (11, [.ref q8, .ref q9, .int 0, .int 0, .int 0, .int 0, .int 0])), (q11, .inr (11, [.ref q12, .ref q13, .int 0, .int 0, .int 0, .int 0, .int 0])), (q15, .inr (11, [.ref q16, .ref q17, .int 0, .int 0, .int 0, .int 0, .int 0])), (q19, .inr (11, [.ref q20, .ref q21, .int 0, .int 0, .int 0, .int 0, .int 0])), (q23, .inr (11, [.ref q24, .ref q25, .int 0, .int 0, .int 0, .int 0, .int 0])), (q27, .inr (11, [.ref q28, .ref q29, .int 0, .int 0, .int 0, .int 0, .int 0])), (q31, .inr (11, [.ref q32, .ref q33, .int 0, .int 0, .int 0, .int 0, .int 0])), (q35, .inr (11, [.ref q36, .ref q37, .int 0, .int 0, .int 0, .int 0, .int 0])), (q36, .inl (a 0, 7, .inl (fun _ => 0))), (q37, .inr (1, [.ref q38, .int 0, .int 0])), (q38, .inl (a 0, 12, .inl (fun _ => 0)))]) rfl (fun H locs w => ?_)
    have w := kW_sub w (ws' := [(h0, .inr (0, [.ref q1, .ref q2, .ref q3, .ref q4, .ref q6, .null, .null, .int 0, .int 0, .int 0, .int 0])), (q1, .inl (a 2, 400, .inl (fun _ => 0))), (q2, .inl (a 2, 128, .inl (fun _ => 0))), (q3, .inl (a 2, 128, .inl (fun _ => 0))), (q4, .inr (1, [.ref q5, .int 0, .int 0])), (q5, .inl (a 0, 8, .inl (fun _ => 0))), (q6, .inl (a 5, 17, .inr (.inr (.inr (.inr (va_up (va_up (va_up (va_up (va_up (va_up (va_up (va_up (fun _ => none) 0 (some q7)) 1 (some q11)) 2 (some q15)) 3 (some q19)) 4 (some q23)) 5 (some q27)) 6 (some q31)) 7 (some q35))))))), (q7, .inr (11, [.ref q8, .ref q9, .int 0, .int 0, .int 0, .int 0, .int 0])), (q11, .inr (11, [.ref q12, .ref q13, .int 0, .int 0, .int 0, .int 0, .int 0])), (q15, .inr (11, [.ref q16, .ref q17, .int 0, .int 0, .int 0, .int 0, .int 0])), (q19, .inr (11, [.ref q20, .ref q21, .int 0, .int 0, .int 0, .int 0, .int 0])), (q23, .inr (11, [.ref q24, .ref q25, .int 0, .int 0, .int 0, .int 0, .int 0])), (q27, .inr (11, [.ref q28, .ref q29, .int 0, .int 0, .int 0, .int 0, .int 0])), (q31, .inr (11, [.ref q32, .ref q33, .int 0, .int 0, .int 0, .int 0, .int 0])), (q35, .inr (11, [.ref q36, .ref q37, .int 0, .int 0, .int 0, .int 0, .int 0]))]) [0, 1, 2, 3, 4, 5, 6, 7, 8, 9, 10, 11, 12, 13, 14] rfl rfl
    refine lv_iinc (v := 8) (lv' := [(1, .int 8), (0, .ref h0)]) hx hb d_RA_init_74 hl (k := 0) rfl (by decide) (by decide) rfl (fun ls hl => ?_)
    refine lv_goto (tgt := 55) hx hb d_RA_init_77 (by decide) ?_
    refine lv_iload_n hx hb d_RA_init_55 rfl (lv_at hl 0 rfl) ?_
    refine lv_bipush (v := 16) hx hb d_RA_init_56 (by decide) ?_
    refine lv_icmp_gt (tgt := 80) hx hb d_RA_init_58 (by decide) (fun h => absurd h (by decide)) (fun _ => ?_)
    refine lv_aload_n hx hb d_RA_init_61 rfl (lv_at hl 1 rfl) ?_
    refine kx_get E w zC_RA 0 rfl 4 (by decide) mw_168 rfl d_RA_init_62 ?_
    refine lv_iload_n hx hb d_RA_init_65 rfl (lv_at hl 0 rfl) ?_
    refine kx_new E w zC_Value mw_167 mw_117 mw_26 (fs := [.null, .null, .int 0, .int 0, .int 0, .int 0, .int 0]) z0_Value (Nat.le_of_ble_eq_true rfl) (Nat.le_of_ble_eq_true rfl) d_RA_init_66 (fun q39 H w => ?_)
    have w : kW D A s [(h0, .inr (0, [.ref q1, .ref q2, .ref q3, .ref q4, .ref q6, .null, .null, .int 0, .int 0, .int 0, .int 0])), (q1, .inl (a 2, 400, .inl (fun _ => 0))), (q2, .inl (a 2, 128, .inl (fun _ => 0))), (q3, .inl (a 2, 128, .inl (fun _ => 0))), (q4, .inr (1, [.ref q5, .int 0, .int 0])), (q5, .inl (a 0, 8, .inl (fun _ => 0))), (q6, .inl (a 5, 17, .inr (.inr (.inr (.inr (va_up (va_up (va_up (va_up (va_up (va_up (va_up (va_up (fun _ => none) 0 (some q7)) 1 (some q11)) 2 (some q15)) 3 (some q19)) 4 (some q23)) 5 (some q27)) 6 (some q31)) 7 (some q35))))))), (q7, .inr (11, [.ref q8, .ref q9, .int 0, .int 0, .int 0, .int 0, .int 0])), (q11, .inr (11, [.ref q12, .ref q13, .int 0, .int 0, .int 0, .int 0, .int 0])), (q15, .inr (11, [.ref q16, .ref q17, .int 0, .int 0, .int 0, .int 0, .int 0])), (q19, .inr (11, [.ref q20, .ref q21, .int 0, .int 0, .int 0, .int 0, .int 0])), (q23, .inr (11, [.ref q24, .ref q25, .int 0, .int 0, .int 0, .int 0, .int 0])), (q27, .inr (11, [.ref q28, .ref q29, .int 0, .int 0, .int 0, .int 0, .int 0])), (q31, .inr (11, [.ref q32, .ref q33, .int 0, .int 0, .int 0, .int 0, .int 0])), (q35, .inr (11, [.ref q36, .ref q37, .int 0, .int 0, .int 0, .int 0, .int 0])), (q39, .inr (11, [.null, .null, .int 0, .int 0, .int 0, .int 0, .int 0]))] H locs := w
    refine lv_dup hx hb d_RA_init_69 rfl ?_
    refine kx_v E w (wc := [(q39, .inr (11, [.null, .null, .int 0, .int 0, .int 0, .int 0, .int 0]))]) (wr := [(h0, .inr (0, [.ref q1, .ref q2, .ref q3, .ref q4, .ref q6, .null, .null, .int 0, .int 0, .int 0, .int 0])), (q1, .inl (a 2, 400, .inl (fun _ => 0))), (q2, .inl (a 2, 128, .inl (fun _ => 0))), (q3, .inl (a 2, 128, .inl (fun _ => 0))), (q4, .inr (1, [.ref q5, .int 0, .int 0])), (q5, .inl (a 0, 8, .inl (fun _ => 0))), (q6, .inl (a 5, 17, .inr (.inr (.inr (.inr (va_up (va_up (va_up (va_up (va_up (va_up (va_up (va_up (fun _ => none) 0 (some q7)) 1 (some q11)) 2 (some q15)) 3 (some q19)) 4 (some q23)) 5 (some q27)) 6 (some q31)) 7 (some q35))))))), (q7, .inr (11, [.ref q8, .ref q9, .int 0, .int 0, .int 0, .int 0, .int 0])), (q11, .inr (11, [.ref q12, .ref q13, .int 0, .int 0, .int 0, .int 0, .int 0])), (q15, .inr (11, [.ref q16, .ref q17, .int 0, .int 0, .int 0, .int 0, .int 0])), (q19, .inr (11, [.ref q20, .ref q21, .int 0, .int 0, .int 0, .int 0, .int 0])), (q23, .inr (11, [.ref q24, .ref q25, .int 0, .int 0, .int 0, .int 0, .int 0])), (q27, .inr (11, [.ref q28, .ref q29, .int 0, .int 0, .int 0, .int 0, .int 0])), (q31, .inr (11, [.ref q32, .ref q33, .int 0, .int 0, .int 0, .int 0, .int 0])), (q35, .inr (11, [.ref q36, .ref q37, .int 0, .int 0, .int 0, .int 0, .int 0]))]) [15] [0, 1, 2, 3, 4, 5, 6, 7, 8, 9, 10, 11, 12, 13, 14] rfl rfl ⟨rfl, rfl, by decide⟩ (kx_rI E w hl.1 (As := []) (wc := [(q39, .inr (11, [.null, .null, .int 0, .int 0, .int 0, .int 0, .int 0]))]) (c_Value_init l D a q39 H.size) gc_18 gi_Value_init [15] rfl rfl rfl rfl rfl ⟨(Nat.le_of_ble_eq_true rfl), (Nat.le_of_ble_eq_true rfl)⟩ rfl (Nat.le_of_ble_eq_true rfl) d_RA_init_70 ⟨(Nat.le_of_ble_eq_true rfl), (Nat.le_of_ble_eq_true rfl)⟩) (fun u H locs hu w => ?_)
    obtain ⟨q40, q41, q42, rfl⟩ := hu
    have w : kW D A s [(h0, .inr (0, [.ref q1, .ref q2, .ref q3, .ref q4, .ref q6, .null, .null, .int 0, .int 0, .int 0, .int 0])), (q1, .inl (a 2, 400, .inl (fun _ => 0))), (q2, .inl (a 2, 128, .inl (fun _ => 0))), (q3, .inl (a 2, 128, .inl (fun _ => 0))), (q4, .inr (1, [.ref q5, .int 0, .int 0])), (q5, .inl (a 0, 8, .inl (fun _ => 0))), (q6, .inl (a 5, 17, .inr (.inr (.inr (.inr (va_up (va_up (va_up (va_up (va_up (va_up (va_up (va_up (fun _ => none) 0 (some q7)) 1 (some q11)) 2 (some q15)) 3 (some q19)) 4 (some q23)) 5 (some q27)) 6 (some q31)) 7 (some q35))))))), (q7, .inr (11, [.ref q8, .ref q9, .int 0, .int 0, .int 0, .int 0, .int 0])), (q11, .inr (11, [.ref q12, .ref q13, .int 0, .int 0, .int 0, .int 0, .int 0])), (q15, .inr (11, [.ref q16, .ref q17, .int 0, .int 0, .int 0, .int 0, .int 0])), (q19, .inr (11, [.ref q20, .ref q21, .int 0, .int 0, .int 0, .int 0, .int 0])), (q23, .inr (11, [.ref q24, .ref q25, .int 0, .int 0, .int 0, .int 0, .int 0])), (q27, .inr (11, [.ref q28, .ref q29, .int 0, .int 0, .int 0, .int 0, .int 0])), (q31, .inr (11, [.ref q32, .ref q33, .int 0, .int 0, .int 0, .int 0, .int 0])), (q35, .inr (11, [.ref q36, .ref q37, .int 0, .int 0, .int 0, .int 0, .int 0])), (q39, .inr (11, [.ref q40, .ref q41, .int 0, .int 0, .int 0, .int 0, .int 0])), (q40, .inl (a 0, 7, .inl (fun _ => 0))), (q41, .inr (1, [.ref q42, .int 0, .int 0])), (q42, .inl (a 0, 12, .inl (fun _ => 0)))] H locs := w
    refine kx_aast E w 6 5 15 11 rfl rfl rfl rfl (by unfold vp_in; decide) 8 (by decide) d_RA_init_73 (ws' := [(h0, .inr (0, [.ref q1, .ref q2, .ref q3, .ref q4, .ref q6, .null, .null, .int 0, .int 0, .int 0, .int 0])), (q1, .inl (a 2, 400, .inl (fun _ => 0))), (q2, .inl (a 2, 128, .inl (fun _ => 0))), (q3, .inl (a 2, 128, .inl (fun _ => 0))), (q4, .inr (1, [.ref q5, .int 0, .int 0])), (q5, .inl (a 0, 8, .inl (fun _ => 0))), (q6, .inl (a 5, 17, .inr (.inr (.inr (.inr (va_up (va_up (va_up (va_up (va_up (va_up (va_up (va_up (va_up (fun _ => none) 0 (some q7)) 1 (some q11)) 2 (some q15)) 3 (some q19)) 4 (some q23)) 5 (some q27)) 6 (some q31)) 7 (some q35)) 8 (some q39))))))), (q7, .inr (11, [.ref q8, .ref q9, .int 0, .int 0, .int 0, .int 0, .int 0])), (q11, .inr (11, [.ref q12, .ref q13, .int 0, .int 0, .int 0, .int 0, .int 0])), (q15, .inr (11, [.ref q16, .ref q17, .int 0, .int 0, .int 0, .int 0, .int 0])), (q19, .inr (11, [.ref q20, .ref q21, .int 0, .int 0, .int 0, .int 0, .int 0])), (q23, .inr (11, [.ref q24, .ref q25, .int 0, .int 0, .int 0, .int 0, .int 0])), (q27, .inr (11, [.ref q28, .ref q29, .int 0, .int 0, .int 0, .int 0, .int 0])), (q31, .inr (11, [.ref q32, .ref q33, .int 0, .int 0, .int 0, .int 0, .int 0])), (q35, .inr (11, [.ref q36, .ref q37, .int 0, .int 0, .int 0, .int 0, .int 0])), (q39, .inr (11, [.ref q40, .ref q41, .int 0, .int 0, .int 0, .int 0, .int 0])), (q40, .inl (a 0, 7, .inl (fun _ => 0))), (q41, .inr (1, [.ref q42, .int 0, .int 0])), (q42, .inl (a 0, 12, .inl (fun _ => 0)))]) rfl (fun H locs w => ?_)
    have w := kW_sub w (ws' := [(h0, .inr (0, [.ref q1, .ref q2, .ref q3, .ref q4, .ref q6, .null, .null, .int 0, .int 0, .int 0, .int 0])), (q1, .inl (a 2, 400, .inl (fun _ => 0))), (q2, .inl (a 2, 128, .inl (fun _ => 0))), (q3, .inl (a 2, 128, .inl (fun _ => 0))), (q4, .inr (1, [.ref q5, .int 0, .int 0])), (q5, .inl (a 0, 8, .inl (fun _ => 0))), (q6, .inl (a 5, 17, .inr (.inr (.inr (.inr (va_up (va_up (va_up (va_up (va_up (va_up (va_up (va_up (va_up (fun _ => none) 0 (some q7)) 1 (some q11)) 2 (some q15)) 3 (some q19)) 4 (some q23)) 5 (some q27)) 6 (some q31)) 7 (some q35)) 8 (some q39))))))), (q7, .inr (11, [.ref q8, .ref q9, .int 0, .int 0, .int 0, .int 0, .int 0])), (q11, .inr (11, [.ref q12, .ref q13, .int 0, .int 0, .int 0, .int 0, .int 0])), (q15, .inr (11, [.ref q16, .ref q17, .int 0, .int 0, .int 0, .int 0, .int 0])), (q19, .inr (11, [.ref q20, .ref q21, .int 0, .int 0, .int 0, .int 0, .int 0])), (q23, .inr (11, [.ref q24, .ref q25, .int 0, .int 0, .int 0, .int 0, .int 0])), (q27, .inr (11, [.ref q28, .ref q29, .int 0, .int 0, .int 0, .int 0, .int 0])), (q31, .inr (11, [.ref q32, .ref q33, .int 0, .int 0, .int 0, .int 0, .int 0])), (q35, .inr (11, [.ref q36, .ref q37, .int 0, .int 0, .int 0, .int 0, .int 0])), (q39, .inr (11, [.ref q40, .ref q41, .int 0, .int 0, .int 0, .int 0, .int 0]))]) [0, 1, 2, 3, 4, 5, 6, 7, 8, 9, 10, 11, 12, 13, 14, 15] rfl rfl
    refine lv_iinc (v := 9) (lv' := [(1, .int 9), (0, .ref h0)]) hx hb d_RA_init_74 hl (k := 0) rfl (by decide) (by decide) rfl (fun ls hl => ?_)
    refine lv_goto (tgt := 55) hx hb d_RA_init_77 (by decide) ?_
    refine lv_iload_n hx hb d_RA_init_55 rfl (lv_at hl 0 rfl) ?_
    refine lv_bipush (v := 16) hx hb d_RA_init_56 (by decide) ?_
    refine lv_icmp_gt (tgt := 80) hx hb d_RA_init_58 (by decide) (fun h => absurd h (by decide)) (fun _ => ?_)
    refine lv_aload_n hx hb d_RA_init_61 rfl (lv_at hl 1 rfl) ?_
    refine kx_get E w zC_RA 0 rfl 4 (by decide) mw_168 rfl d_RA_init_62 ?_
    refine lv_iload_n hx hb d_RA_init_65 rfl (lv_at hl 0 rfl) ?_
    refine kx_new E w zC_Value mw_167 mw_117 mw_26 (fs := [.null, .null, .int 0, .int 0, .int 0, .int 0, .int 0]) z0_Value (Nat.le_of_ble_eq_true rfl) (Nat.le_of_ble_eq_true rfl) d_RA_init_66 (fun q43 H w => ?_)
    have w : kW D A s [(h0, .inr (0, [.ref q1, .ref q2, .ref q3, .ref q4, .ref q6, .null, .null, .int 0, .int 0, .int 0, .int 0])), (q1, .inl (a 2, 400, .inl (fun _ => 0))), (q2, .inl (a 2, 128, .inl (fun _ => 0))), (q3, .inl (a 2, 128, .inl (fun _ => 0))), (q4, .inr (1, [.ref q5, .int 0, .int 0])), (q5, .inl (a 0, 8, .inl (fun _ => 0))), (q6, .inl (a 5, 17, .inr (.inr (.inr (.inr (va_up (va_up (va_up (va_up (va_up (va_up (va_up (va_up (va_up (fun _ => none) 0 (some q7)) 1 (some q11)) 2 (some q15)) 3 (some q19)) 4 (some q23)) 5 (some q27)) 6 (some q31)) 7 (some q35)) 8 (some q39))))))), (q7, .inr (11, [.ref q8, .ref q9, .int 0, .int 0, .int 0, .int 0, .int 0])), (q11, .inr (11, [.ref q12, .ref q13, .int 0, .int 0, .int 0, .int 0, .int 0])), (q15, .inr (11, [.ref q16, .ref q17, .int 0, .int 0, .int 0, .int 0, .int 0])), (q19, .inr (11, [.ref q20, .ref q21, .int 0, .int 0, .int 0, .int 0, .int 0])), (q23, .inr (11, [.ref q24, .ref q25, .int 0, .int 0, .int 0, .int 0, .int 0])), (q27, .inr (11, [.ref q28, .ref q29, .int 0, .int 0, .int 0, .int 0, .int 0])), (q31, .inr (11, [.ref q32, .ref q33, .int 0, .int 0, .int 0, .int 0, .int 0])), (q35, .inr (11, [.ref q36, .ref q37, .int 0, .int 0, .int 0, .int 0, .int 0])), (q39, .inr (11, [.ref q40, .ref q41, .int 0, .int 0, .int 0, .int 0, .int 0])), (q43, .inr (11, [.null, .null, .int 0, .int 0, .int 0, .int 0, .int 0]))] H locs := w
    refine lv_dup hx hb d_RA_init_69 rfl ?_
    refine kx_v E w (wc := [(q43, .inr (11, [.null, .null, .int 0, .int 0, .int 0, .int 0, .int 0]))]) (wr := [(h0, .inr (0, [.ref q1, .ref q2, .ref q3, .ref q4, .ref q6, .null, .null, .int 0, .int 0, .int 0, .int 0])), (q1, .inl (a 2, 400, .inl (fun _ => 0))), (q2, .inl (a 2, 128, .inl (fun _ => 0))), (q3, .inl (a 2, 128, .inl (fun _ => 0))), (q4, .inr (1, [.ref q5, .int 0, .int 0])), (q5, .inl (a 0, 8, .inl (fun _ => 0))), (q6, .inl (a 5, 17, .inr (.inr (.inr (.inr (va_up (va_up (va_up (va_up (va_up (va_up (va_up (va_up (va_up (fun _ => none) 0 (some q7)) 1 (some q11)) 2 (some q15)) 3 (some q19)) 4 (some q23)) 5 (some q27)) 6 (some q31)) 7 (some q35)) 8 (some q39))))))), (q7, .inr (11, [.ref q8, .ref q9, .int 0, .int 0, .int 0, .int 0, .int 0])), (q11, .inr (11, [.ref q12, .ref q13, .int 0, .int 0, .int 0, .int 0, .int 0])), (q15, .inr (11, [.ref q16, .ref q17, .int 0, .int 0, .int 0, .int 0, .int 0])), (q19, .inr (11, [.ref q20, .ref q21, .int 0, .int 0, .int 0, .int 0, .int 0])), (q23, .inr (11, [.ref q24, .ref q25, .int 0, .int 0, .int 0, .int 0, .int 0])), (q27, .inr (11, [.ref q28, .ref q29, .int 0, .int 0, .int 0, .int 0, .int 0])), (q31, .inr (11, [.ref q32, .ref q33, .int 0, .int 0, .int 0, .int 0, .int 0])), (q35, .inr (11, [.ref q36, .ref q37, .int 0, .int 0, .int 0, .int 0, .int 0])), (q39, .inr (11, [.ref q40, .ref q41, .int 0, .int 0, .int 0, .int 0, .int 0]))]) [16] [0, 1, 2, 3, 4, 5, 6, 7, 8, 9, 10, 11, 12, 13, 14, 15] rfl rfl ⟨rfl, rfl, by decide⟩ (kx_rI E w hl.1 (As := []) (wc := [(q43, .inr (11, [.null, .null, .int 0, .int 0, .int 0, .int 0, .int 0]))]) (c_Value_init l D a q43 H.size) gc_18 gi_Value_init [16] rfl rfl rfl rfl rfl ⟨(Nat.le_of_ble_eq_true rfl), (Nat.le_of_ble_eq_true rfl)⟩ rfl (Nat.le_of_ble_eq_true rfl) d_RA_init_70 ⟨(Nat.le_of_ble_eq_true rfl), (Nat.le_of_ble_eq_true rfl)⟩) (fun u H locs hu w => ?_)
    obtain ⟨q44, q45, q46, rfl⟩ := hu
    have w : kW D A s [(h0, .inr (0, [.ref q1, .ref q2, .ref q3, .ref q4, .ref q6, .null, .null, .int 0, .int 0, .int 0, .int 0])), (q1, .inl (a 2, 400, .inl (fun _ => 0))), (q2, .inl (a 2, 128, .inl (fun _ => 0))), (q3, .inl (a 2, 128, .inl (fun _ => 0))), (q4, .inr (1, [.ref q5, .int 0, .int 0])), (q5, .inl (a 0, 8, .inl (fun _ => 0))), (q6, .inl (a 5, 17, .inr (.inr (.inr (.inr (va_up (va_up (va_up (va_up (va_up (va_up (va_up (va_up (va_up (fun _ => none) 0 (some q7)) 1 (some q11)) 2 (some q15)) 3 (some q19)) 4 (some q23)) 5 (some q27)) 6 (some q31)) 7 (some q35)) 8 (some q39))))))), (q7, .inr (11, [.ref q8, .ref q9, .int 0, .int 0, .int 0, .int 0, .int 0])), (q11, .inr (11, [.ref q12, .ref q13, .int 0, .int 0, .int 0, .int 0, .int 0])), (q15, .inr (11, [.ref q16, .ref q17, .int 0, .int 0, .int 0, .int 0, .int 0])), (q19, .inr (11, [.ref q20, .ref q21, .int 0, .int 0, .int 0, .int 0, .int 0])), (q23, .inr (11, [.ref q24, .ref q25, .int 0, .int 0, .int 0, .int 0, .int 0])), (q27, .inr (11, [.ref q28, .ref q29, .int 0, .int 0, .int 0, .int 0, .int 0])), (q31, .inr (11, [.ref q32, .ref q33, .int 0, .int 0, .int 0, .int 0, .int 0])), (q35, .inr (11, [.ref q36, .ref q37, .int 0, .int 0, .int 0, .int 0, .int 0])), (q39, .inr (11, [.ref q40, .ref q41, .int 0, .int 0, .int 0, .int 0, .int 0])), (q43, .inr (11, [.ref q44, .ref q45, .int 0, .int 0, .int 0, .int 0, .int 0])), (q44, .inl (a 0, 7, .inl (fun _ => 0))), (q45, .inr (1, [.ref q46, .int 0, .int 0])), (q46, .inl (a 0, 12, .inl (fun _ => 0)))] H locs := w
    refine kx_aast E w 6 5 16 11 rfl rfl rfl rfl (by unfold vp_in; decide) 9 (by decide) d_RA_init_73 (ws' := [(h0, .inr (0, [.ref q1, .ref q2, .ref q3, .ref q4, .ref q6, .null, .null, .int 0, .int 0, .int 0, .int 0])), (q1, .inl (a 2, 400, .inl (fun _ => 0))), (q2, .inl (a 2, 128, .inl (fun _ => 0))), (q3, .inl (a 2, 128, .inl (fun _ => 0))), (q4, .inr (1, [.ref q5, .int 0, .int 0])), (q5, .inl (a 0, 8, .inl (fun _ => 0))), (q6, .inl (a 5, 17, .inr (.inr (.inr (.inr (va_up (va_up (va_up (va_up (va_up (va_up (va_up (va_up (va_up (va_up (fun _ => none) 0 (some q7)) 1 (some q11)) 2 (some q15)) 3 (some q19)) 4 (some q23)) 5 (some q27)) 6 (some q31)) 7 (some q35)) 8 (some q39)) 9 (some q43))))))), (q7, .inr (11, [.ref q8, .ref q9, .int 0, .int 0, .int 0, .int 0, .int 0])), (q11, .inr (11, [.ref q12, .ref q13, .int 0, .int 0, .int 0, .int 0, .int 0])), (q15, .inr (11, [.ref q16, .ref q17, .int 0, .int 0, .int 0, .int 0, .int 0])), (q19, .inr (11, [.ref q20, .ref q21, .int 0, .int 0, .int 0, .int 0, .int 0])), (q23, .inr (11, [.ref q24, .ref q25, .int 0, .int 0, .int 0, .int 0, .int 0])), (q27, .inr (11, [.ref q28, .ref q29, .int 0, .int 0, .int 0, .int 0, .int 0])), (q31, .inr (11, [.ref q32, .ref q33, .int 0, .int 0, .int 0, .int 0, .int 0])), (q35, .inr (11, [.ref q36, .ref q37, .int 0, .int 0, .int 0, .int 0, .int 0])), (q39, .inr (11, [.ref q40, .ref q41, .int 0, .int 0, .int 0, .int 0, .int 0])), (q43, .inr (11, [.ref q44, .ref q45, .int 0, .int 0, .int 0, .int 0, .int 0])), (q44, .inl (a 0, 7, .inl (fun _ => 0))), (q45, .inr (1, [.ref q46, .int 0, .int 0])), (q46, .inl (a 0, 12, .inl (fun _ => 0)))]) rfl (fun H locs w => ?_)
    have w := kW_sub w (ws' := [(h0, .inr (0, [.ref q1, .ref q2, .ref q3, .ref q4, .ref q6, .null, .null, .int 0, .int 0, .int 0, .int 0])), (q1, .inl (a 2, 400, .inl (fun _ => 0))), (q2, .inl (a 2, 128, .inl (fun _ => 0))), (q3, .inl (a 2, 128, .inl (fun _ => 0))), (q4, .inr (1, [.ref q5, .int 0, .int 0])), (q5, .inl (a 0, 8, .inl (fun _ => 0))), (q6, .inl (a 5, 17, .inr (.inr (.inr (.inr (va_up (va_up (va_up (va_up (va_up (va_up (va_up (va_up (va_up (va_up (fun _ => none) 0 (some q7)) 1 (some q11)) 2 (some q15)) 3 (some q19)) 4 (some q23)) 5 (some q27)) 6 (some q31)) 7 (some q35)) 8 (some q39)) 9 (some q43))))))), (q7, .inr (11, [.ref q8, .ref q9, .int 0, .int 0, .int 0, .int 0, .int 0])), (q11, .inr (11, [.ref q12, .ref q13, .int 0, .int 0, .int 0, .int 0, .int 0])), (q15, .inr (11, [.ref q16, .ref q17, .int 0, .int 0, .int 0, .int 0, .int 0])), (q19, .inr (11, [.ref q20, .ref q21, .int 0, .int 0, .int 0, .int 0, .int 0])), (q23, .inr (11, [.ref q24, .ref q25, .int 0, .int 0, .int 0, .int 0, .int 0])), (q27, .inr (11, [.ref q28, .ref q29, .int 0, .int 0, .int 0, .int 0, .int 0])), (q31, .inr (11, [.ref q32, .ref q33, .int 0, .int 0, .int 0, .int 0, .int 0])), (q35, .inr (11, [.ref q36, .ref q37, .int 0, .int 0, .int 0, .int 0, .int 0])), (q39, .inr (11, [.ref q40, .ref q41, .int 0, .int 0, .int 0, .int 0, .int 0])), (q43, .inr (11, [.ref q44, .ref q45, .int 0, .int 0, .int 0, .int 0, .int 0]))]) [0, 1, 2, 3, 4, 5, 6, 7, 8, 9, 10, 11, 12, 13, 14, 15, 16] rfl rfl
    refine lv_iinc (v := 10) (lv' := [(1, .int 10), (0, .ref h0)]) hx hb d_RA_init_74 hl (k := 0) rfl (by decide) (by decide) rfl (fun ls hl => ?_)
    refine lv_goto (tgt := 55) hx hb d_RA_init_77 (by decide) ?_
    refine lv_iload_n hx hb d_RA_init_55 rfl (lv_at hl 0 rfl) ?_
    refine lv_bipush (v := 16) hx hb d_RA_init_56 (by decide) ?_
    refine lv_icmp_gt (tgt := 80) hx hb d_RA_init_58 (by decide) (fun h => absurd h (by decide)) (fun _ => ?_)
    refine lv_aload_n hx hb d_RA_init_61 rfl (lv_at hl 1 rfl) ?_
    refine kx_get E w zC_RA 0 rfl 4 (by decide) mw_168 rfl d_RA_init_62 ?_
    refine lv_iload_n hx hb d_RA_init_65 rfl (lv_at hl 0 rfl) ?_
    refine kx_new E w zC_Value mw_167 mw_117 mw_26 (fs := [.null, .null, .int 0, .int 0, .int 0, .int 0, .int 0]) z0_Value (Nat.le_of_ble_eq_true rfl) (Nat.le_of_ble_eq_true rfl) d_RA_init_66 (fun q47 H w => ?_)
    have w : kW D A s [(h0, .inr (0, [.ref q1, .ref q2, .ref q3, .ref q4, .ref q6, .null, .null, .int 0, .int 0, .int 0, .int 0])), (q1, .inl (a 2, 400, .inl (fun _ => 0))), (q2, .inl (a 2, 128, .inl (fun _ => 0))), (q3, .inl (a 2, 128, .inl (fun _ => 0))), (q4, .inr (1, [.ref q5, .int 0, .int 0])), (q5, .inl (a 0, 8, .inl (fun _ => 0))), (q6, .inl (a 5, 17, .inr (.inr (.inr (.inr (va_up (va_up (va_up (va_up (va_up (va_up (va_up (va_up (va_up (va_up (fun _ => none) 0 (some q7)) 1 (some q11)) 2 (some q15)) 3 (some q19)) 4 (some q23)) 5 (some q27)) 6 (some q31)) 7 (some q35)) 8 (some q39)) 9 (some q43))))))), (q7, .inr (11, [.ref q8, .ref q9, .int 0, .int 0, .int 0, .int 0, .int 0])), (q11, .inr (11, [.ref q12, .ref q13, .int 0, .int 0, .int 0, .int 0, .int 0])), (q15, .inr (11, [.ref q16, .ref q17, .int 0, .int 0, .int 0, .int 0, .int 0])), (q19, .inr (11, [.ref q20, .ref q21, .int 0, .int 0, .int 0, .int 0, .int 0])), (q23, .inr (11, [.ref q24, .ref q25, .int 0, .int 0, .int 0, .int 0, .int 0])), (q27, .inr (11, [.ref q28, .ref q29, .int 0, .int 0, .int 0, .int 0, .int 0])), (q31, .inr (11, [.ref q32, .ref q33, .int 0, .int 0, .int 0, .int 0, .int 0])), (q35, .inr (11, [.ref q36, .ref q37, .int 0, .int 0, .int 0, .int 0, .int 0])), (q39, .inr (11, [.ref q40, .ref q41, .int 0, .int 0, .int 0, .int 0, .int 0])), (q43, .inr (11, [.ref q44, .ref q45, .int 0, .int 0, .int 0, .int 0, .int 0])), (q47, .inr (11, [.null, .null, .int 0, .int 0, .int 0, .int 0, .int 0]))] H locs := w
    refine lv_dup hx hb d_RA_init_69 rfl ?_
    refine kx_v E w (wc := [(q47, .inr (11, [.null, .null, .int 0, .int 0, .int 0, .int 0, .int 0]))]) (wr := [(h0, .inr (0, [.ref q1, .ref q2, .ref q3, .ref q4, .ref q6, .null, .null, .int 0, .int 0, .int 0, .int 0])), (q1, .inl (a 2, 400, .inl (fun _ => 0))), (q2, .inl (a 2, 128, .inl (fun _ => 0))), (q3, .inl (a 2, 128, .inl (fun _ => 0))), (q4, .inr (1, [.ref q5, .int 0, .int 0])), (q5, .inl (a 0, 8, .inl (fun _ => 0))), (q6, .inl (a 5, 17, .inr (.inr (.inr (.inr (va_up (va_up (va_up (va_up (va_up (va_up (va_up (va_up (va_up (va_up (fun _ => none) 0 (some q7)) 1 (some q11)) 2 (some q15)) 3 (some q19)) 4 (some q23)) 5 (some q27)) 6 (some q31)) 7 (some q35)) 8 (some q39)) 9 (some q43))))))), (q7, .inr (11, [.ref q8, .ref q9, .int 0, .int 0, .int 0, .int 0, .int 0])), (q11, .inr (11, [.ref q12, .ref q13, .int 0, .int 0, .int 0, .int 0, .int 0])), (q15, .inr (11, [.ref q16, .ref q17, .int 0, .int 0, .int 0, .int 0, .int 0])), (q19, .inr (11, [.ref q20, .ref q21, .int 0, .int 0, .int 0, .int 0, .int 0])), (q23, .inr (11, [.ref q24, .ref q25, .int 0, .int 0, .int 0, .int 0, .int 0])), (q27, .inr (11, [.ref q28, .ref q29, .int 0, .int 0, .int 0, .int 0, .int 0])), (q31, .inr (11, [.ref q32, .ref q33, .int 0, .int 0, .int 0, .int 0, .int 0])), (q35, .inr (11, [.ref q36, .ref q37, .int 0, .int 0, .int 0, .int 0, .int 0])), (q39, .inr (11, [.ref q40, .ref q41, .int 0, .int 0, .int 0, .int 0, .int 0])), (q43, .inr (11, [.ref q44, .ref q45, .int 0, .int 0, .int 0, .int 0, .int 0]))]) [17] [0, 1, 2, 3, 4, 5, 6, 7, 8, 9, 10, 11, 12, 13, 14, 15, 16] rfl rfl ⟨rfl, rfl, by decide⟩ (kx_rI E w hl.1 (As := []) (wc := [(q47, .inr (11, [.null, .null, .int 0, .int 0, .int 0, .int 0, .int 0]))]) (c_Value_init l D a q47 H.size) gc_18 gi_Value_init [17] rfl rfl rfl rfl rfl ⟨(Nat.le_of_ble_eq_true rfl), (Nat.le_of_ble_eq_true rfl)⟩ rfl (Nat.le_of_ble_eq_true rfl) d_RA_init_70 ⟨(Nat.le_of_ble_eq_true rfl), (Nat.le_of_ble_eq_true rfl)⟩) (fun u H locs hu w => ?_)
    obtain ⟨q48, q49, q50, rfl⟩ := hu
    have w : kW D A s [(h0, .inr (0, [.ref q1, .ref q2, .ref q3, .ref q4, .ref q6, .null, .null, .int 0, .int 0, .int 0, .int 0])), (q1, .inl (a 2, 400, .inl (fun _ => 0))), (q2, .inl (a 2, 128, .inl (fun _ => 0))), (q3, .inl (a 2, 128, .inl (fun _ => 0))), (q4, .inr (1, [.ref q5, .int 0, .int 0])), (q5, .inl (a 0, 8, .inl (fun _ => 0))), (q6, .inl (a 5, 17, .inr (.inr (.inr (.inr (va_up (va_up (va_up (va_up (va_up (va_up (va_up (va_up (va_up (va_up (fun _ => none) 0 (some q7)) 1 (some q11)) 2 (some q15)) 3 (some q19)) 4 (some q23)) 5 (some q27)) 6 (some q31)) 7 (some q35)) 8 (some q39)) 9 (some q43))))))), (q7, .inr (11, [.ref q8, .ref q9, .int 0, .int 0, .int 0, .int 0, .int 0])), (q11, .inr (11, [.ref q12, .ref q13, .int 0, .int 0, .int 0, .int 0, .int 0])), (q15, .inr (11, [.ref q16, .ref q17, .int 0, .int 0, .int 0, .int 0, .int 0])), (q19, .inr (11, [.ref q20, .ref q21, .int 0, .int 0, .int 0, .int 0, .int 0])), (q23, .inr (11, [.ref q24, .ref q25, .int 0, .int 0, .int 0, .int 0, .int 0])), (q27, .inr (11, [.ref q28, .ref q29, .int 0, .int 0, .int 0, .int 0, .int 0])), (q31, .inr (11, [.ref q32, .ref q33, .int 0, .int 0, .int 0, .int 0, .int 0])), (q35, .inr (11, [.ref q36, .ref q37, .int 0, .int 0, .int 0, .int 0, .int 0])), (q39, .inr (11, [.ref q40, .ref q41, .int 0, .int 0, .int 0, .int 0, .int 0])), (q43, .inr (11, [.ref q44, .ref q45, .int 0, .int 0, .int 0, .int 0, .int 0])), (q47, .inr (11, [.ref q48, .ref q49, .int 0, .int 0, .int 0, .int 0, .int 0])), (q48, .inl (a 0, 7, .inl (fun _ => 0))), (q49, .inr (1, [.ref q50, .int 0, .int 0])), (q50, .inl (a 0, 12, .inl (fun _ => 0)))] H locs := w
    refine kx_aast E w 6 5 17 11 rfl rfl rfl rfl (by unfold vp_in; decide) 10 (by decide) d_RA_init_73 (ws' := [(h0, .inr (0, [.ref q1, .ref q2, .ref q3, .ref q4, .ref q6, .null, .null, .int 0, .int 0, .int 0, .int 0])), (q1, .inl (a 2, 400, .inl (fun _ => 0))), (q2, .inl (a 2, 128, .inl (fun _ => 0))), (q3, .inl (a 2, 128, .inl (fun _ => 0))), (q4, .inr (1, [.ref q5, .int 0, .int 0])), (q5, .inl (a 0, 8, .inl (fun _ => 0))), (q6, .inl (a 5, 17, .inr (.inr (.inr (.inr (va_up (va_up (va_up (va_up (va_up (va_up (va_up (va_up (va_up (va_up (va_up (fun _ => none) 0 (some q7)) 1 (some q11)) 2 (some q15)) 3 (some q19)) 4 (some q23)) 5 (some q27)) 6 (some q31)) 7 (some q35)) 8 (some q39)) 9 (some q43)) 10 (some q47))))))), (q7, .inr (11, [.ref q8, .ref q9, .int 0, .int 0, .int 0, .int 0, .int 0])), (q11, .inr (11, [.ref q12, .ref q13, .int 0, .int 0, .int 0, .int 0, .int 0])), (q15, .inr (11, [.ref q16, .ref q17, .int 0, .int 0, .int 0, .int 0, .int 0])), (q19, .inr (11, [.ref q20, .ref q21, .int 0, .int 0, .int 0, .int 0, .int 0])), (q23, .inr (11, [.ref q24, .ref q25, .int 0, .int 0, .int 0, .int 0, .int 0])), (q27, .inr (11, [.ref q28, .ref q29, .int 0, .int 0, .int 0, .int 0, .int 0])), (q31, .inr (11, [.ref q32, .ref q33, .int 0, .int 0, .int 0, .int 0, .int 0])), (q35, .inr (11, [.ref q36, .ref q37, .int 0, .int 0, .int 0, .int 0, .int 0])), (q39, .inr (11, [.ref q40, .ref q41, .int 0, .int 0, .int 0, .int 0, .int 0])), (q43, .inr (11, [.ref q44, .ref q45, .int 0, .int 0, .int 0, .int 0, .int 0])), (q47, .inr (11, [.ref q48, .ref q49, .int 0, .int 0, .int 0, .int 0, .int 0])), (q48, .inl (a 0, 7, .inl (fun _ => 0))), (q49, .inr (1, [.ref q50, .int 0, .int 0])), (q50, .inl (a 0, 12, .inl (fun _ => 0)))]) rfl (fun H locs w => ?_)
    have w := kW_sub w (ws' := [(h0, .inr (0, [.ref q1, .ref q2, .ref q3, .ref q4, .ref q6, .null, .null, .int 0, .int 0, .int 0, .int 0])), (q1, .inl (a 2, 400, .inl (fun _ => 0))), (q2, .inl (a 2, 128, .inl (fun _ => 0))), (q3, .inl (a 2, 128, .inl (fun _ => 0))), (q4, .inr (1, [.ref q5, .int 0, .int 0])), (q5, .inl (a 0, 8, .inl (fun _ => 0))), (q6, .inl (a 5, 17, .inr (.inr (.inr (.inr (va_up (va_up (va_up (va_up (va_up (va_up (va_up (va_up (va_up (va_up (va_up (fun _ => none) 0 (some q7)) 1 (some q11)) 2 (some q15)) 3 (some q19)) 4 (some q23)) 5 (some q27)) 6 (some q31)) 7 (some q35)) 8 (some q39)) 9 (some q43)) 10 (some q47))))))), (q7, .inr (11, [.ref q8, .ref q9, .int 0, .int 0, .int 0, .int 0, .int 0])), (q11, .inr (11, [.ref q12, .ref q13, .int 0, .int 0, .int 0, .int 0, .int 0])), (q15, .inr (11, [.ref q16, .ref q17, .int 0, .int 0, .int 0, .int 0, .int 0])), (q19, .inr (11, [.ref q20, .ref q21, .int 0, .int 0, .int 0, .int 0, .int 0])), (q23, .inr (11, [.ref q24, .ref q25, .int 0, .int 0, .int 0, .int 0, .int 0])), (q27, .inr (11, [.ref q28, .ref q29, .int 0, .int 0, .int 0, .int 0, .int 0])), (q31, .inr (11, [.ref q32, .ref q33, .int 0, .int 0, .int 0, .int 0, .int 0])), (q35, .inr (11, [.ref q36, .ref q37, .int 0, .int 0, .int 0, .int 0, .int 0])), (q39, .inr (11, [.ref q40, .ref q41, .int 0, .int 0, .int 0, .int 0, .int 0])), (q43, .inr (11, [.ref q44, .ref q45, .int 0, .int 0, .int 0, .int 0, .int 0])), (q47, .inr (11, [.ref q48, .ref q49, .int 0, .int 0, .int 0, .int 0, .int 0]))]) [0, 1, 2, 3, 4, 5, 6, 7, 8, 9, 10, 11, 12, 13, 14, 15, 16, 17] rfl rfl
    refine lv_iinc (v := 11) (lv' := [(1, .int 11), (0, .ref h0)]) hx hb d_RA_init_74 hl (k := 0) rfl (by decide) (by decide) rfl (fun ls hl => ?_)
    refine lv_goto (tgt := 55) hx hb d_RA_init_77 (by decide) ?_
    refine lv_iload_n hx hb d_RA_init_55 rfl (lv_at hl 0 rfl) ?_
    refine lv_bipush (v := 16) hx hb d_RA_init_56 (by decide) ?_
    refine lv_icmp_gt (tgt := 80) hx hb d_RA_init_58 (by decide) (fun h => absurd h (by decide)) (fun _ => ?_)
    refine lv_aload_n hx hb d_RA_init_61 rfl (lv_at hl 1 rfl) ?_
    refine kx_get E w zC_RA 0 rfl 4 (by decide) mw_168 rfl d_RA_init_62 ?_
    refine lv_iload_n hx hb d_RA_init_65 rfl (lv_at hl 0 rfl) ?_
    refine kx_new E w zC_Value mw_167 mw_117 mw_26 (fs := [.null, .null, .int 0, .int 0, .int 0, .int 0, .int 0]) z0_Value (Nat.le_of_ble_eq_true rfl) (Nat.le_of_ble_eq_true rfl) d_RA_init_66 (fun q51 H w => ?_)
    have w : kW D A s [(h0, .inr (0, [.ref q1, .ref q2, .ref q3, .ref q4, .ref q6, .null, .null, .int 0, .int 0, .int 0, .int 0])), (q1, .inl (a 2, 400, .inl (fun _ => 0))), (q2, .inl (a 2, 128, .inl (fun _ => 0))), (q3, .inl (a 2, 128, .inl (fun _ => 0))), (q4, .inr (1, [.ref q5, .int 0, .int 0])), (q5, .inl (a 0, 8, .inl (fun _ => 0))), (q6, .inl (a 5, 17, .inr (.inr (.inr (.inr (va_up (va_up (va_up (va_up (va_up (va_up (va_up (va_up (va_up (va_up (va_up (fun _ => none) 0 (some q7)) 1 (some q11)) 2 (some q15)) 3 (some q19)) 4 (some q23)) 5 (some q27)) 6 (some q31)) 7 (some q35)) 8 (some q39)) 9 (some q43)) 10 (some q47))))))), (q7, .inr (11, [.ref q8, .ref q9, .int 0, .int 0, .int 0, .int 0, .int 0])), (q11, .inr (11, [.ref q12, .ref q13, .int 0, .int 0, .int 0, .int 0, .int 0])), (q15, .inr (11, [.ref q16, .ref q17, .int 0, .int 0, .int 0, .int 0, .int 0])), (q19, .inr (11, [.ref q20, .ref q21, .int 0, .int 0, .int 0, .int 0, .int 0])), (q23, .inr (11, [.ref q24, .ref q25, .int 0, .int 0, .int 0, .int 0, .int 0])), (q27, .inr (11, [.ref q28, .ref q29, .int 0, .int 0, .int 0, .int 0, .int 0])), (q31, .inr (11, [.ref q32, .ref q33, .int 0, .int 0, .int 0, .int 0, .int 0])), (q35, .inr (11, [.ref q36, .ref q37, .int 0, .int 0, .int 0, .int 0, .int 0])), (q39, .inr (11, [.ref q40, .ref q41, .int 0, .int 0, .int 0, .int 0, .int 0])), (q43, .inr (11, [.ref q44, .ref q45, .int 0, .int 0, .int 0, .int 0, .int 0])), (q47, .inr (11, [.ref q48, .ref q49, .int 0, .int 0, .int 0, .int 0, .int 0])), (q51, .inr (11, [.null, .null, .int 0, .int 0, .int 0, .int 0, .int 0]))] H locs := w
    refine lv_dup hx hb d_RA_init_69 rfl ?_
    refine kx_v E w (wc := [(q51, .inr (11, [.null, .null, .int 0, .int 0, .int 0, .int 0, .int 0]))]) (wr := [(h0, .inr (0, [.ref q1, .ref q2, .ref q3, .ref q4, .ref q6, .null, .null, .int 0, .int 0, .int 0, .int 0])), (q1, .inl (a 2, 400, .inl (fun _ => 0))), (q2, .inl (a 2, 128, .inl (fun _ => 0))), (q3, .inl (a 2, 128, .inl (fun _ => 0))), (q4, .inr (1, [.ref q5, .int 0, .int 0])), (q5, .inl (a 0, 8, .inl (fun _ => 0))), (q6, .inl (a 5, 17, .inr (.inr (.inr (.inr (va_up (va_up (va_up (va_up (va_up (va_up (va_up (va_up (va_up (va_up (va_up (fun _ => none) 0 (some q7)) 1 (some q11)) 2 (some q15)) 3 (some q19)) 4 (some q23)) 5 (some q27)) 6 (some q31)) 7 (some q35)) 8 (some q39)) 9 (some q43)) 10 (some q47))))))), (q7, .inr (11, [.ref q8, .ref q9, .int 0, .int 0, .int 0, .int 0, .int 0])), (q11, .inr (11, [.ref q12, .ref q13, .int 0, .int 0, .int 0, .int 0, .int 0])), (q15, .inr (11, [.ref q16, .ref q17, .int 0, .int 0, .int 0, .int 0, .int 0])), (q19, .inr (11, [.ref q20, .ref q21, .int 0, .int 0, .int 0, .int 0, .int 0])), (q23, .inr (11, [.ref q24, .ref q25, .int 0, .int 0, .int 0, .int 0, .int 0])), (q27, .inr (11, [.ref q28, .ref q29, .int 0, .int 0, .int 0, .int 0, .int 0])), (q31, .inr (11, [.ref q32, .ref q33, .int 0, .int 0, .int 0, .int 0, .int 0])), (q35, .inr (11, [.ref q36, .ref q37, .int 0, .int 0, .int 0, .int 0, .int 0])), (q39, .inr (11, [.ref q40, .ref q41, .int 0, .int 0, .int 0, .int 0, .int 0])), (q43, .inr (11, [.ref q44, .ref q45, .int 0, .int 0, .int 0, .int 0, .int 0])), (q47, .inr (11, [.ref q48, .ref q49, .int 0, .int 0, .int 0, .int 0, .int 0]))]) [18] [0, 1, 2, 3, 4, 5, 6, 7, 8, 9, 10, 11, 12, 13, 14, 15, 16, 17] rfl rfl ⟨rfl, rfl, by decide⟩ (kx_rI E w hl.1 (As := []) (wc := [(q51, .inr (11, [.null, .null, .int 0, .int 0, .int 0, .int 0, .int 0]))]) (c_Value_init l D a q51 H.size) gc_18 gi_Value_init [18] rfl rfl rfl rfl rfl ⟨(Nat.le_of_ble_eq_true rfl), (Nat.le_of_ble_eq_true rfl)⟩ rfl (Nat.le_of_ble_eq_true rfl) d_RA_init_70 ⟨(Nat.le_of_ble_eq_true rfl), (Nat.le_of_ble_eq_true rfl)⟩) (fun u H locs hu w => ?_)
    obtain ⟨q52, q53, q54, rfl⟩ := hu
    have w : kW D A s [(h0, .inr (0, [.ref q1, .ref q2, .ref q3, .ref q4, .ref q6, .null, .null, .int 0, .int 0, .int 0, .int 0])), (q1, .inl (a 2, 400, .inl (fun _ => 0))), (q2, .inl (a 2, 128, .inl (fun _ => 0))), (q3, .inl (a 2, 128, .inl (fun _ => 0))), (q4, .inr (1, [.ref q5, .int 0, .int 0])), (q5, .inl (a 0, 8, .inl (fun _ => 0))), (q6, .inl (a 5, 17, .inr (.inr (.inr (.inr (va_up (va_up (va_up (va_up (va_up (va_up (va_up (va_up (va_up (va_up (va_up (fun _ => none) 0 (some q7)) 1 (some q11)) 2 (some q15)) 3 (some q19)) 4 (some q23)) 5 (some q27)) 6 (some q31)) 7 (some q35)) 8 (some q39)) 9 (some q43)) 10 (some q47))))))), (q7, .inr (11, [.ref q8, .ref q9, .int 0, .int 0, .int 0, .int 0, .int 0])), (q11, .inr (11, [.ref q12, .ref q13, .int 0, .int 0, .int 0, .int 0, .int 0])), (q15, .inr (11, [.ref q16, .ref q17, .int 0, .int 0, .int 0, .int 0, .int 0])), (q19, .inr (11, [.ref q20, .ref q21, .int 0, .int 0, .int 0, .int 0, .int 0])), (q23, .inr (11, [.ref q24, .ref q25, .int 0, .int 0, .int 0, .int 0, .int 0])), (q27, .inr (11, [.ref q28, .ref q29, .int 0, .int 0, .int 0, .int 0, .int 0])), (q31, .inr (11, [.ref q32, .ref q33, .int 0, .int 0, .int 0, .int 0, .int 0])), (q35, .inr (11, [.ref q36, .ref q37, .int 0, .int 0, .int 0, .int 0, .int 0])), (q39, .inr (11, [.ref q40, .ref q41, .int 0, .int 0, .int 0, .int 0, .int 0])), (q43, .inr (11, [.ref q44, .ref q45, .int 0, .int 0, .int 0, .int 0, .int 0])), (q47, .inr (11, [.ref q48, .ref q49, .int 0, .int 0, .int 0, .int 0, .int 0])), (q51, .inr (11, [.ref q52, .ref q53, .int 0, .int 0, .int 0, .int 0, .int 0])), (q52, .inl (a 0, 7, .inl (fun _ => 0))), (q53, .inr (1, [.ref q54, .int 0, .int 0])), (q54, .inl (a 0, 12, .inl (fun _ => 0)))] H locs := w
    refine kx_aast E w 6 5 18 11 rfl rfl rfl rfl (by unfold vp_in; decide) 11 (by decide) d_RA_init_73 (ws' := [(h0, .inr (0, [.ref q1, .ref q2, .ref q3, .ref q4, .ref q6, .null, .null, .int 0, .int 0, .int 0, .int 0])), (q1, .inl (a 2, 400, .inl (fun _ => 0))), (q2, .inl (a 2, 128, .inl (fun _ => 0))), (q3, .inl (a 2, 128, .inl (fun _ => 0))), (q4, .inr (1, [.ref q5, .int 0, .int 0])), (q5, .inl (a 0, 8, .inl (fun _ => 0))), (q6, .inl (a 5, 17, .inr (.inr (.inr (.inr (va_up (va_up (va_up (va_up (va_up (va_up (va_up (va_up (va_up (va_up (va_up (va_up (fun _ => none) 0 (some q7)) 1 (some q11)) 2 (some q15)) 3 (some q19)) 4 (some q23)) 5 (some q27)) 6 (some q31)) 7 (some q35)) 8 (some q39)) 9 (some q43)) 10 (some q47)) 11 (some q51))))))), (q7, .inr (11, [.ref q8, .ref q9, .int 0, .int 0, .int 0, .int 0, .int 0])), (q11, .inr (11, [.ref q12, .ref q13, .int 0, .int 0, .int 0, .int 0, .int 0])), (q15, .inr (11, [.ref q16, .ref q17, .int 0, .int 0, .int 0, .int 0, .int 0])), (q19, .inr (11, [.ref q20, .ref q21, .int 0, .int 0, .int 0, .int 0, .int 0])), (q23, .inr (11, [.ref q24, .ref q25, .int 0, .int 0, .int 0, .int 0, .int 0])), (q27, .inr (11, [.ref q28, .ref q29, .int 0, .int 0, .int 0, .int 0, .int 0])), (q31, .inr (11, [.ref q32, .ref q33, .int 0, .int 0, .int 0, .int 0, .int 0])), (q35, .inr (11, [.ref q36, .ref q37, .int 0, .int 0, .int 0, .int 0, .int 0])), (q39, .inr (11, [.ref q40, .ref q41, .int 0, .int 0, .int 0, .int 0, .int 0])), (q43, .inr (11, [.ref q44, .ref q45, .int 0, .int 0, .int 0, .int 0, .int 0])), (q47, .inr (11, [.ref q48, .ref q49, .int 0, .int 0, .int 0, .int 0, .int 0])), (q51, .inr (11, [.ref q52, .ref q53, .int 0, .int 0, .int 0, .int 0, .int 0])), (q52, .inl (a 0, 7, .inl (fun _ => 0))), (q53, .inr (1, [.ref q54, .int 0, .int 0])), (q54, .inl (a 0, 12, .inl (fun _ => 0)))]) rfl (fun H locs w => ?_)
    have w := kW_sub w (ws' := [(h0, .inr (0, [.ref q1, .ref q2, .ref q3, .ref q4, .ref q6, .null, .null, .int 0, .int 0, .int 0, .int 0])), (q1, .inl (a 2, 400, .inl (fun _ => 0))), (q2, .inl (a 2, 128, .inl (fun _ => 0))), (q3, .inl (a 2, 128, .inl (fun _ => 0))), (q4, .inr (1, [.ref q5, .int 0, .int 0])), (q5, .inl (a 0, 8, .inl (fun _ => 0))), (q6, .inl (a 5, 17, .inr (.inr (.inr (.inr (va_up (va_up (va_up (va_up (va_up (va_up (va_up (va_up (va_up (va_up (va_up (va_up (fun _ => none) 0 (some q7)) 1 (some q11)) 2 (some q15)) 3 (some q19)) 4 (some q23)) 5 (some q27)) 6 (some q31)) 7 (some q35)) 8 (some q39)) 9 (some q43)) 10 (some q47)) 11 (some q51))))))), (q7, .inr (11, [.ref q8, .ref q9, .int 0, .int 0, .int 0, .int 0, .int 0])), (q11, .inr (11, [.ref q12, .ref q13, .int 0, .int 0, .int 0, .int 0, .int 0])), (q15, .inr (11, [.ref q16, .ref q17, .int 0, .int 0, .int 0, .int 0, .int 0])), (q19, .inr (11, [.ref q20, .ref q21, .int 0, .int 0, .int 0, .int 0, .int 0])), (q23, .inr (11, [.ref q24, .ref q25, .int 0, .int 0, .int 0, .int 0, .int 0])), (q27, .inr (11, [.ref q28, .ref q29, .int 0, .int 0, .int 0, .int 0, .int 0])), (q31, .inr (11, [.ref q32, .ref q33, .int 0, .int 0, .int 0, .int 0, .int 0])), (q35, .inr (11, [.ref q36, .ref q37, .int 0, .int 0, .int 0, .int 0, .int 0])), (q39, .inr (11, [.ref q40, .ref q41, .int 0, .int 0, .int 0, .int 0, .int 0])), (q43, .inr (11, [.ref q44, .ref q45, .int 0, .int 0, .int 0, .int 0, .int 0])), (q47, .inr (11, [.ref q48, .ref q49, .int 0, .int 0, .int 0, .int 0, .int 0])), (q51, .inr (11, [.ref q52, .ref q53, .int 0, .int 0, .int 0, .int 0, .int 0]))]) [0, 1, 2, 3, 4, 5, 6, 7, 8, 9, 10, 11, 12, 13, 14, 15, 16, 17, 18] rfl rfl
    refine lv_iinc (v := 12) (lv' := [(1, .int 12), (0, .ref h0)]) hx hb d_RA_init_74 hl (k := 0) rfl (by decide) (by decide) rfl (fun ls hl => ?_)
    refine lv_goto (tgt := 55) hx hb d_RA_init_77 (by decide) ?_
    refine lv_iload_n hx hb d_RA_init_55 rfl (lv_at hl 0 rfl) ?_
    refine lv_bipush (v := 16) hx hb d_RA_init_56 (by decide) ?_
    refine lv_icmp_gt (tgt := 80) hx hb d_RA_init_58 (by decide) (fun h => absurd h (by decide)) (fun _ => ?_)
    refine lv_aload_n hx hb d_RA_init_61 rfl (lv_at hl 1 rfl) ?_
    refine kx_get E w zC_RA 0 rfl 4 (by decide) mw_168 rfl d_RA_init_62 ?_
    refine lv_iload_n hx hb d_RA_init_65 rfl (lv_at hl 0 rfl) ?_
    refine kx_new E w zC_Value mw_167 mw_117 mw_26 (fs := [.null, .null, .int 0, .int 0, .int 0, .int 0, .int 0]) z0_Value (Nat.le_of_ble_eq_true rfl) (Nat.le_of_ble_eq_true rfl) d_RA_init_66 (fun q55 H w => ?_)
    have w : kW D A s [(h0, .inr (0, [.ref q1, .ref q2, .ref q3, .ref q4, .ref q6, .null, .null, .int 0, .int 0, .int 0, .int 0])), (q1, .inl (a 2, 400, .inl (fun _ => 0))), (q2, .inl (a 2, 128, .inl (fun _ => 0))), (q3, .inl (a 2, 128, .inl (fun _ => 0))), (q4, .inr (1, [.ref q5, .int 0, .int 0])), (q5, .inl (a 0, 8, .inl (fun _ => 0))), (q6, .inl (a 5, 17, .inr (.inr (.inr (.inr (va_up (va_up (va_up (va_up (va_up (va_up (va_up (va_up (va_up (va_up (va_up (va_up (fun _ => none) 0 (some q7)) 1 (some q11)) 2 (some q15)) 3 (some q19)) 4 (some q23)) 5 (some q27)) 6 (some q31)) 7 (some q35)) 8 (some q39)) 9 (some q43)) 10 (some q47)) 11 (some q51))))))), (q7, .inr (11, [.ref q8, .ref q9, .int 0, .int 0, .int 0, .int 0, .int 0])), (q11, .inr (11, [.ref q12, .ref q13, .int 0, .int 0, .int 0, .int 0, .int 0])), (q15, .inr (11, [.ref q16, .ref q17, .int 0, .int 0, .int 0, .int 0, .int 0])), (q19, .inr (11, [.ref q20, .ref q21, .int 0, .int 0, .int 0, .int 0, .int 0])), (q23, .inr (11, [.ref q24, .ref q25, .int 0, .int 0, .int 0, .int 0, .int 0])), (q27, .inr (11, [.ref q28, .ref q29, .int 0, .int 0, .int 0, .int 0, .int 0])), (q31, .inr (11, [.ref q32, .ref q33, .int 0, .int 0, .int 0, .int 0, .int 0])), (q35, .inr (11, [.ref q36, .ref q37, .int 0, .int 0, .int 0, .int 0, .int 0])), (q39, .inr (11, [.ref q40, .ref q41, .int 0, .int 0, .int 0, .int 0, .int 0])), (q43, .inr (11, [.ref q44, .ref q45, .int 0, .int 0, .int 0, .int 0, .int 0])), (q47, .inr (11, [.ref q48, .ref q49, .int 0, .int 0, .int 0, .int 0, .int 0])), (q51, .inr (11, [.ref q52, .ref q53, .int 0, .int 0, .int 0, .int 0, .int 0])), (q55, .inr (11, [.null, .null, .int 0, .int 0, .int 0, .int 0, .int 0]))] H locs := w
    refine lv_dup hx hb d_RA_init_69 rfl ?_
    refine kx_v E w (wc := [(q55, .inr (11, [.null, .null, .int 0, .int 0, .int 0, .int 0, .int 0]))]) (wr := [(h0, .inr (0, [.ref q1, .ref q2, .ref q3, .ref q4, .ref q6, .null, .null, .int 0, .int 0, .int 0, .int 0])), (q1, .inl (a 2, 400, .inl (fun _ => 0))), (q2, .inl (a 2, 128, .inl (fun _ => 0))), (q3, .inl (a 2, 128, .inl (fun _ => 0))), (q4, .inr (1, [.ref q5, .int 0, .int 0])), (q5, .inl (a 0, 8, .inl (fun _ => 0))), (q6, .inl (a 5, 17, .inr (.inr (.inr (.inr (va_up (va_up (va_up (va_up (va_up (va_up (va_up (va_up (va_up (va_up (va_up (va_up (fun _ => none) 0 (some q7)) 1 (some q11)) 2 (some q15)) 3 (some q19)) 4 (some q23)) 5 (some q27)) 6 (some q31)) 7 (some q35)) 8 (some q39)) 9 (some q43)) 10 (some q47)) 11 (some q51))))))), (q7, .inr (11, [.ref q8, .ref q9, .int 0, .int 0, .int 0, .int 0, .int 0])), (q11, .inr (11, [.ref q12, .ref q13, .int 0, .int 0, .int 0, .int 0, .int 0])), (q15, .inr (11, [.ref q16, .ref q17, .int 0, .int 0, .int 0, .int 0, .int 0])), (q19, .inr (11, [.ref q20, .ref q21, .int 0, .int 0, .int 0, .int 0, .int 0])), (q23, .inr (11, [.ref q24, .ref q25, .int 0, .int 0, .int 0, .int 0, .int 0])), (q27, .inr (11, [.ref q28, .ref q29, .int 0, .int 0, .int 0, .int 0, .int 0])), (q31, .inr (11, [.ref q32, .ref q33, .int 0, .int 0, .int 0, .int 0, .int 0])), (q35, .inr (11, [.ref q36, .ref q37, .int 0, .int 0, .int 0, .int 0, .int 0])), (q39, .inr (11, [.ref q40, .ref q41, .int 0, .int 0, .int 0, .int 0, .int 0])), (q43, .inr (11, [.ref q44, .ref q45, .int 0, .int 0, .int 0, .int 0, .int 0])), (q47, .inr (11, [.ref q48, .ref q49, .int 0, .int 0, .int 0, .int 0, .int 0])), (q51, .inr (11, [.ref q52, .ref q53, .int 0, .int 0, .int 0, .int 0, .int 0]))]) [19] [0, 1, 2, 3, 4, 5, 6, 7, 8, 9, 10, 11, 12, 13, 14, 15, 16, 17, 18] rfl rfl ⟨rfl, rfl, by decide⟩ (kx_rI E w hl.1 (As := []) (wc := [(q55, .inr (11, [.null, .null, .int 0, .int 0, .int 0, .int 0, .int 0]))]) (c_Value_init l D a q55 H.size) gc_18 gi_Value_init [19] rfl rfl rfl rfl rfl ⟨(Nat.le_of_ble_eq_true rfl), (Nat.le_of_ble_eq_true rfl)⟩ rfl (Nat.le_of_ble_eq_true rfl) d_RA_init_70 ⟨(Nat.le_of_ble_eq_true rfl), (Nat.le_of_ble_eq_true rfl)⟩) (fun u H locs hu w => ?_)
    obtain ⟨q56, q57, q58, rfl⟩ := hu
    have w : kW D A s [(h0, .inr (0, [.ref q1, .ref q2, .ref q3, .ref q4, .ref q6, .null, .null, .int 0, .int 0, .int 0, .int 0])), (q1, .inl (a 2, 400, .inl (fun _ => 0))), (q2, .inl (a 2, 128, .inl (fun _ => 0))), (q3, .inl (a 2, 128, .inl (fun _ => 0))), (q4, .inr (1, [.ref q5, .int 0, .int 0])), (q5, .inl (a 0, 8, .inl (fun _ => 0))), (q6, .inl (a 5, 17, .inr (.inr (.inr (.inr (va_up (va_up (va_up (va_up (va_up (va_up (va_up (va_up (va_up (va_up (va_up (va_up (fun _ => none) 0 (some q7)) 1 (some q11)) 2 (some q15)) 3 (some q19)) 4 (some q23)) 5 (some q27)) 6 (some q31)) 7 (some q35)) 8 (some q39)) 9 (some q43)) 10 (some q47)) 11 (some q51))))))), (q7, .inr (11, [.ref q8, .ref q9, .int 0, .int 0, .int 0, .int 0, .int 0])), (q11, .inr (11, [.ref q12, .ref q13, .int 0, .int 0, .int 0, .int 0, .int 0])), (q15, .inr (11, [.ref q16, .ref q17, .int 0, .int 0, .int 0, .int 0, .int 0])), (q19, .inr (11, [.ref q20, .ref q21, .int 0, .int 0, .int 0, .int 0, .int 0])), (q23, .inr (11, [.ref q24, .ref q25, .int 0, .int 0, .int 0, .int 0, .int 0])), (q27, .inr (11, [.ref q28, .ref q29, .int 0, .int 0, .int 0, .int 0, .int 0])), (q31, .inr (11, [.ref q32, .ref q33, .int 0, .int 0, .int 0, .int 0, .int 0])), (q35, .inr (11, [.ref q36, .ref q37, .int 0, .int 0, .int 0, .int 0, .int 0])), (q39, .inr (11, [.ref q40, .ref q41, .int 0, .int 0, .int 0, .int 0, .int 0])), (q43, .inr (11, [.ref q44, .ref q45, .int 0, .int 0, .int 0, .int 0, .int 0])), (q47, .inr (11, [.ref q48, .ref q49, .int 0, .int 0, .int 0, .int 0, .int 0])), (q51, .inr (11, [.ref q52, .ref q53, .int 0, .int 0, .int 0, .int 0, .int 0])), (q55, .inr (11, [.ref q56, .ref q57, .int 0, .int 0, .int 0, .int 0, .int 0])), (q56, .inl (a 0, 7, .inl (fun _ => 0))), (q57, .inr (1, [.ref q58, .int 0, .int 0])), (q58, .inl (a 0, 12, .inl (fun _ => 0)))] H locs := w
    refine kx_aast E w 6 5 19 11 rfl rfl rfl rfl (by unfold vp_in; decide) 12 (by decide) d_RA_init_73 (ws' := [(h0, .inr (0, [.ref q1, .ref q2, .ref q3, .ref q4, .ref q6, .null, .null, .int 0, .int 0, .int 0, .int 0])), (q1, .inl (a 2, 400, .inl (fun _ => 0))), (q2, .inl (a 2, 128, .inl (fun _ => 0))), (q3, .inl (a 2, 128, .inl (fun _ => 0))), (q4, .inr (1, [.ref q5, .int 0, .int 0])), (q5, .inl (a 0, 8, .inl (fun _ => 0))), (q6, .inl (a 5, 17, .inr (.inr (.inr (.inr (va_up (va_up (va_up (va_up (va_up (va_up (va_up (va_up (va_up (va_up (va_up (va_up (va_up (fun _ => none) 0 (some q7)) 1 (some q11)) 2 (some q15)) 3 (some q19)) 4 (some q23)) 5 (some q27)) 6 (some q31)) 7 (some q35)) 8 (some q39)) 9 (some q43)) 10 (some q47)) 11 (some q51)) 12 (some q55))))))), (q7, .inr (11, [.ref q8, .ref q9, .int 0, .int 0, .int 0, .int 0, .int 0])), (q11, .inr (11, [.ref q12, .ref q13, .int 0, .int 0, .int 0, .int 0, .int 0])), (q15, .inr (11, [.ref q16, .ref q17, .int 0, .int 0, .int 0, .int 0, .int 0])), (q19, .inr (11, [.ref q20, .ref q21, .int 0, .int 0, .int 0, .int 0, .int 0])), (q23, .inr (11, [.ref q24, .ref q25, .int 0, .int 0, .int 0, .int 0, .int 0])), (q27, .inr (11, [.ref q28, .ref q29, .int 0, .int 0, .int 0, .int 0, .int 0])), (q31, .inr (11, [.ref q32, .ref q33, .int 0, .int 0, .int 0, .int 0, .int 0])), (q35, .inr (11, [.ref q36, .ref q37, .int 0, .int 0, .int 0, .int 0, .int 0])), (q39, .inr (11, [.ref q40, .ref q41, .int 0, .int 0, .int 0, .int 0, .int 0])), (q43, .inr (11, [.ref q44, .ref q45, .int 0, .int 0, .int 0, .int 0, .int 0])), (q47, .inr (11, [.ref q48, .ref q49, .int 0, .int 0, .int 0, .int 0, .int 0])), (q51, .inr (11, [.ref q52, .ref q53, .int 0, .int 0, .int 0, .int 0, .int 0])), (q55, .inr (11, [.ref q56, .ref q57, .int 0, .int 0, .int 0, .int 0, .int 0])), (q56, .inl (a 0, 7, .inl (fun _ => 0))), (q57, .inr (1, [.ref q58, .int 0, .int 0])), (q58, .inl (a 0, 12, .inl (fun _ => 0)))]) rfl (fun H locs w => ?_)
    have w := kW_sub w (ws' := [(h0, .inr (0, [.ref q1, .ref q2, .ref q3, .ref q4, .ref q6, .null, .null, .int 0, .int 0, .int 0, .int 0])), (q1, .inl (a 2, 400, .inl (fun _ => 0))), (q2, .inl (a 2, 128, .inl (fun _ => 0))), (q3, .inl (a 2, 128, .inl (fun _ => 0))), (q4, .inr (1, [.ref q5, .int 0, .int 0])), (q5, .inl (a 0, 8, .inl (fun _ => 0))), (q6, .inl (a 5, 17, .inr (.inr (.inr (.inr (va_up (va_up (va_up (va_up (va_up (va_up (va_up (va_up (va_up (va_up (va_up (va_up (va_up (fun _ => none) 0 (some q7)) 1 (some q11)) 2 (some q15)) 3 (some q19)) 4 (some q23)) 5 (some q27)) 6 (some q31)) 7 (some q35)) 8 (some q39)) 9 (some q43)) 10 (some q47)) 11 (some q51)) 12 (some q55))))))), (q7, .inr (11, [.ref q8, .ref q9, .int 0, .int 0, .int 0, .int 0, .int 0])), (q11, .inr (11, [.ref q12, .ref q13, .int 0, .int 0, .int 0, .int 0, .int 0])), (q15, .inr (11, [.ref q16, .ref q17, .int 0, .int 0, .int 0, .int 0, .int 0])), (q19, .inr (11, [.ref q20, .ref q21, .int 0, .int 0, .int 0, .int 0, .int 0])), (q23, .inr (11, [.ref q24, .ref q25, .int 0, .int 0, .int 0, .int 0, .int 0])), (q27, .inr (11, [.ref q28, .ref q29, .int 0, .int 0, .int 0, .int 0, .int 0])), (q31, .inr (11, [.ref q32, .ref q33, .int 0, .int 0, .int 0, .int 0, .int 0])), (q35, .inr (11, [.ref q36, .ref q37, .int 0, .int 0, .int 0, .int 0, .int 0])), (q39, .inr (11, [.ref q40, .ref q41, .int 0, .int 0, .int 0, .int 0, .int 0])), (q43, .inr (11, [.ref q44, .ref q45, .int 0, .int 0, .int 0, .int 0, .int 0])), (q47, .inr (11, [.ref q48, .ref q49, .int 0, .int 0, .int 0, .int 0, .int 0])), (q51, .inr (11, [.ref q52, .ref q53, .int 0, .int 0, .int 0, .int 0, .int 0])), (q55, .inr (11, [.ref q56, .ref q57, .int 0, .int 0, .int 0, .int 0, .int 0]))]) [0, 1, 2, 3, 4, 5, 6, 7, 8, 9, 10, 11, 12, 13, 14, 15, 16, 17, 18, 19] rfl rfl
    refine lv_iinc (v := 13) (lv' := [(1, .int 13), (0, .ref h0)]) hx hb d_RA_init_74 hl (k := 0) rfl (by decide) (by decide) rfl (fun ls hl => ?_)
    refine lv_goto (tgt := 55) hx hb d_RA_init_77 (by decide) ?_
    refine lv_iload_n hx hb d_RA_init_55 rfl (lv_at hl 0 rfl) ?_
    refine lv_bipush (v := 16) hx hb d_RA_init_56 (by decide) ?_
    refine lv_icmp_gt (tgt := 80) hx hb d_RA_init_58 (by decide) (fun h => absurd h (by decide)) (fun _ => ?_)
    refine lv_aload_n hx hb d_RA_init_61 rfl (lv_at hl 1 rfl) ?_
    refine kx_get E w zC_RA 0 rfl 4 (by decide) mw_168 rfl d_RA_init_62 ?_
    refine lv_iload_n hx hb d_RA_init_65 rfl (lv_at hl 0 rfl) ?_
    refine kx_new E w zC_Value mw_167 mw_117 mw_26 (fs := [.null, .null, .int 0, .int 0, .int 0, .int 0, .int 0]) z0_Value (Nat.le_of_ble_eq_true rfl) (Nat.le_of_ble_eq_true rfl) d_RA_init_66 (fun q59 H w => ?_)
    have w : kW D A s [(h0, .inr (0, [.ref q1, .ref q2, .ref q3, .ref q4, .ref q6, .null, .null, .int 0, .int 0, .int 0, .int 0])), (q1, .inl (a 2, 400, .inl (fun _ => 0))), (q2, .inl (a 2, 128, .inl (fun _ => 0))), (q3, .inl (a 2, 128, .inl (fun _ => 0))), (q4, .inr (1, [.ref q5, .int 0, .int 0])), (q5, .inl (a 0, 8, .inl (fun _ => 0))), (q6, .inl (a 5, 17, .inr (.inr (.inr (.inr (va_up (va_up (va_up (va_up (va_up (va_up (va_up (va_up (va_up (va_up (va_up (va_up (va_up (fun _ => none) 0 (some q7)) 1 (some q11)) 2 (some q15)) 3 (some q19)) 4 (some q23)) 5 (some q27)) 6 (some q31)) 7 (some q35)) 8 (some q39)) 9 (some q43)) 10 (some q47)) 11 (some q51)) 12 (some q55))))))), (q7, .inr (11, [.ref q8, .ref q9, .int 0, .int 0, .int 0, .int 0, .int 0])), (q11, .inr (11, [.ref q12, .ref q13, .int 0, .int 0, .int 0, .int 0, .int 0])), (q15, .inr (11, [.ref q16, .ref q17, .int 0, .int 0, .int 0, .int 0, .int 0])), (q19, .inr (11, [.ref q20, .ref q21, .int 0, .int 0, .int 0, .int 0, .int 0])), (q23, .inr (11, [.ref q24, .ref q25, .int 0, .int 0, .int 0, .int 0, .int 0])), (q27, .inr (11, [.ref q28, .ref q29, .int 0, .int 0, .int 0, .int 0, .int 0])), (q31, .inr (11, [.ref q32, .ref q33, .int 0, .int 0, .int 0, .int 0, .int 0])), (q35, .inr (11, [.ref q36, .ref q37, .int 0, .int 0, .int 0, .int 0, .int 0])), (q39, .inr (11, [.ref q40, .ref q41, .int 0, .int 0, .int 0, .int 0, .int 0])), (q43, .inr (11, [.ref q44, .ref q45, .int 0, .int 0, .int 0, .int 0, .int 0])), (q47, .inr (11, [.ref q48, .ref q49, .int 0, .int 0, .int 0, .int 0, .int 0])), (q51, .inr (11, [.ref q52, .ref q53, .int 0, .int 0, .int 0, .int 0, .int 0])), (q55, .inr (11, [.ref q56, .ref q57, .int 0, .int 0, .int 0, .int 0, .int 0])), (q59, .inr (11, [.null, .null, .int 0, .int 0, .int 0, .int 0, .int 0]))] H locs := w
    refine lv_dup hx hb d_RA_init_69 rfl ?_
    refine kx_v E w (wc := [(q59, .inr (11, [.null, .null, .int 0, .int 0, .int 0, .int 0, .int 0]))]) (wr := [(h0, .inr (0, [.ref q1, .ref q2, .ref q3, .ref q4, .ref q6, .null, .null, .int 0, .int 0, .int 0, .int 0])), (q1, .inl (a 2, 400, .inl (fun _ => 0))), (q2, .inl (a 2, 128, .inl (fun _ => 0))), (q3, .inl (a 2, 128, .inl (fun _ => 0))), (q4, .inr (1, [.ref q5, .int 0, .int 0])), (q5, .inl (a 0, 8, .inl (fun _ => 0))), (q6, .inl (a 5, 17, .inr (.inr (.inr (.inr (va_up (va_up (va_up (va_up (va_up (va_up (va_up (va_up (va_up (va_up (va_up (va_up (va_up (fun _ => none) 0 (some q7)) 1 (some q11)) 2 (some q15)) 3 (some q19)) 4 (some q23)) 5 (some q27)) 6 (some q31)) 7 (some q35)) 8 (some q39)) 9 (some q43)) 10 (some q47)) 11 (some q51)) 12 (some q55))))))), (q7, .inr (11, [.ref q8, .ref q9, .int 0, .int 0, .int 0, .int 0, .int 0])), (q11, .inr (11, [.ref q12, .ref q13, .int 0, .int 0, .int 0, .int 0, .int 0])), (q15, .inr (11, [.ref q16, .ref q17, .int 0, .int 0, .int 0, .int 0, .int 0])), (q19, .inr (11, [.ref q20, .ref q21, .int 0, .int 0, .int 0, .int 0, .int 0])), (q23, .inr (11, [.ref q24, .ref q25, .int 0, .int 0, .int 0, .int 0, .int 0])), (q27, .inr (11, [.ref q28, .ref q29, .int 0, .int 0, .int 0, .int 0, .int 0])), (q31, .inr (11, [.ref q32, .ref q33, .int 0, .int 0, .int 0, .int 0, .int 0])), (q35, .inr (11, [.ref q36, .ref q37, .int 0, .int 0, .int 0, .int 0, .int 0])), (q39, .inr (11, [.ref q40, .ref q41, .int 0, .int 0, .int 0, .int 0, .int 0])), (q43, .inr (11, [.ref q44, .ref q45, .int 0, .int 0, .int 0, .int 0, .int 0])), (q47, .inr (11, [.ref q48, .ref q49, .int 0, .int 0, .int 0, .int 0, .int 0])), (q51, .inr (11, [.ref q52, .ref q53, .int 0, .int 0, .int 0, .int 0, .int 0])), (q55, .inr (11, [.ref q56, .ref q57, .int 0, .int 0, .int 0, .int 0, .int 0]))]) [20] [0, 1, 2, 3, 4, 5, 6, 7, 8, 9, 10, 11, 12, 13, 14, 15, 16, 17, 18, 19] rfl rfl ⟨rfl, rfl, by decide⟩ (kx_rI E w hl.1 (As := []) (wc := [(q59, .inr (11, [.null, .null, .int 0, .int 0, .int 0, .int 0, .int 0]))]) (c_Value_init l D a q59 H.size) gc_18 gi_Value_init [20] rfl rfl rfl rfl rfl ⟨(Nat.le_of_ble_eq_true rfl), (Nat.le_of_ble_eq_true rfl)⟩ rfl (Nat.le_of_ble_eq_true rfl) d_RA_init_70 ⟨(Nat.le_of_ble_eq_true rfl), (Nat.le_of_ble_eq_true rfl)⟩) (fun u H locs hu w => ?_)
    obtain ⟨q60, q61, q62, rfl⟩ := hu
    have w : kW D A s [(h0, .inr (0, [.ref q1, .ref q2, .ref q3, .ref q4, .ref q6, .null, .null, .int 0, .int 0, .int 0, .int 0])), (q1, .inl (a 2, 400, .inl (fun _ => 0))), (q2, .inl (a 2, 128, .inl (fun _ => 0))), (q3, .inl (a 2, 128, .inl (fun _ => 0))), (q4, .inr (1, [.ref q5, .int 0, .int 0])), (q5, .inl (a 0, 8, .inl (fun _ => 0))), (q6, .inl (a 5, 17, .inr (.inr (.inr (.inr (va_up (va_up (va_up (va_up (va_up (va_up (va_up (va_up (va_up (va_up (va_up (va_up (va_up (fun _ => none) 0 (some q7)) 1 (some q11)) 2 (some q15)) 3 (some q19)) 4 (some q23)) 5 (some q27)) 6 (some q31)) 7 (some q35)) 8 (some q39)) 9 (some q43)) 10 (some q47)) 11 (some q51)) 12 (some q55))))))), (q7, .inr (11, [.ref q8, .ref q9, .int 0, .int 0, .int 0, .int 0, .int 0])), (q11, .inr (11, [.ref q12, .ref q13, .int 0, .int 0, .int 0, .int 0, .int 0])), (q15, .inr (11, [.ref q16, .ref q17, .int 0, .int 0, .int 0, .int 0, .int 0])), (q19, .inr (11, [.ref q20, .ref q21, .int 0, .int 0, .int 0, .int 0, .int 0])), (q23, .inr (11, [.ref q24, .ref q25, .int 0, .int 0, .int 0, .int 0, .int 0])), (q27, .inr (11, [.ref q28, .ref q29, .int 0, .int 0, .int 0, .int 0, .int 0])), (q31, .inr (11, [.ref q32, .ref q33, .int 0, .int 0, .int 0, .int 0, .int 0])), (q35, .inr (11, [.ref q36, .ref q37, .int 0, .int 0, .int 0, .int 0, .int 0])), (q39, .inr (11, [.ref q40, .ref q41, .int 0, .int 0, .int 0, .int 0, .int 0])), (q43, .inr (11, [.ref q44, .ref q45, .int 0, .int 0, .int 0, .int 0, .int 0])), (q47, .inr (11, [.ref q48, .ref q49, .int 0, .int 0, .int 0, .int 0, .int 0])), (q51, .inr (11, [.ref q52, .ref q53, .int 0, .int 0, .int 0, .int 0, .int 0])), (q55, .inr (11, [.ref q56, .ref q57, .int 0, .int 0, .int 0, .int 0, .int 0])), (q59, .inr (11, [.ref q60, .ref q61, .int 0, .int 0, .int 0, .int 0, .int 0])), (q60, .inl (a 0, 7, .inl (fun _ => 0))), (q61, .inr (1, [.ref q62, .int 0, .int 0])), (q62, .inl (a 0, 12, .inl (fun _ => 0)))] H locs := w
    refine kx_aast E w 6 5 20 11 rfl rfl rfl rfl (by unfold vp_in; decide) 13 (by decide) d_RA_init_73 (ws' := [(h0, .inr (0, [.ref q1, .ref q2, .ref q3, .ref q4, .ref q6, .null, .null, .int 0, .int 0, .int 0, .int 0])), (q1, .inl (a 2, 400, .inl (fun _ => 0))), (q2, .inl (a 2, 128, .inl (fun _ => 0))), (q3, .inl (a 2, 128, .inl (fun _ => 0))), (q4, .inr (1, [.ref q5, .int 0, .int 0])), (q5, .inl (a 0, 8, .inl (fun _ => 0))), (q6, .inl (a 5, 17, .inr (.inr (.inr (.inr (va_up (va_up (va_up (va_up (va_up (va_up (va_up (va_up (va_up (va_up (va_up (va_up (va_up (va_up (fun _ => none) 0 (some q7)) 1 (some q11)) 2 (some q15)) 3 (some q19)) 4 (some q23)) 5 (some q27)) 6 (some q31)) 7 (some q35)) 8 (some q39)) 9 (some q43)) 10 (some q47)) 11 (some q51)) 12 (some q55)) 13 (some q59))))))), (q7, .inr (11, [.ref q8, .ref q9, .int 0, .int 0, .int 0, .int 0, .int 0])), (q11, .inr (11, [.ref q12, .ref q13, .int 0, .int 0, .int 0, .int 0, .int 0])), (q15, .inr (11, [.ref q16, .ref q17, .int 0, .int 0, .int 0, .int 0, .int 0])), (q19, .inr (11, [.ref q20, .ref q21, .int 0, .int 0, .int 0, .int 0, .int 0])), (q23, .inr (11, [.ref q24, .ref q25, .int 0, .int 0, .int 0, .int 0, .int 0])), (q27, .inr (11, [.ref q28, .ref q29, .int 0, .int 0, .int 0, .int 0, .int 0])), (q31, .inr (11, [.ref q32, .ref q33, .int 0, .int 0, .int 0, .int 0, .int 0])), (q35, .inr (11, [.ref q36, .ref q37, .int 0, .int 0, .int 0, .int 0, .int 0])), (q39, .inr (11, [.ref q40, .ref q41, .int 0, .int 0, .int 0, .int 0, .int 0])), (q43, .inr (11, [.ref q44, .ref q45, .int 0, .int 0, .int 0, .int 0, .int 0])), (q47, .inr (11, [.ref q48, .ref q49, .int 0, .int 0, .int 0, .int 0, .int 0])), (q51, .inr (11, [.ref q52, .ref q53, .int 0, .int 0, .int 0, .int 0, .int 0])), (q55, .inr (11, [.ref q56, .ref q57, .int 0, .int 0, .int 0, .int 0, .int 0])), (q59, .inr (11, [.ref q60, .ref q61, .int 0, .int 0, .int 0, .int 0, .int 0])), (q60, .inl (a 0, 7, .inl (fun _ => 0))), (q61, .inr (1, [.ref q62, .int 0, .int 0])), (q62, .inl (a 0, 12, .inl (fun _ => 0)))]) rfl (fun H locs w => ?_)
    have w := kW_sub w (ws' := [(h0, .inr (0, [.ref q1, .ref q2, .ref q3, .ref q4, .ref q6, .null, .null, .int 0, .int 0, .int 0, .int 0])), (q1, .inl (a 2, 400, .inl (fun _ => 0))), (q2, .inl (a 2, 128, .inl (fun _ => 0))), (q3, .inl (a 2, 128, .inl (fun _ => 0))), (q4, .inr (1, [.ref q5, .int 0, .int 0])), (q5, .inl (a 0, 8, .inl (fun _ => 0))), (q6, .inl (a 5, 17, .inr (.inr (.inr (.inr (va_up (va_up (va_up (va_up (va_up (va_up (va_up (va_up (va_up (va_up (va_up (va_up (va_up (va_up (fun _ => none) 0 (some q7)) 1 (some q11)) 2 (some q15)) 3 (some q19)) 4 (some q23)) 5 (some q27)) 6 (some q31)) 7 (some q35)) 8 (some q39)) 9 (some q43)) 10 (some q47)) 11 (some q51)) 12 (some q55)) 13 (some q59))))))), (q7, .inr (11, [.ref q8, .ref q9, .int 0, .int 0, .int 0, .int 0, .int 0])), (q11, .inr (11, [.ref q12, .ref q13, .int 0, .int 0, .int 0, .int 0, .int 0])), (q15, .inr (11, [.ref q16, .ref q17, .int 0, .int 0, .int 0, .int 0, .int 0])), (q19, .inr (11, [.ref q20, .ref q21, .int 0, .int 0, .int 0, .int 0, .int 0])), (q23, .inr (11, [.ref q24, .ref q25, .int 0, .int 0, .int 0, .int 0, .int 0])), (q27, .inr (11, [.ref q28, .ref q29, .int 0, .int 0, .int 0, .int 0, .int 0])), (q31, .inr (11, [.ref q32, .ref q33, .int 0, .int 0, .int 0, .int 0, .int 0])), (q35, .inr (11, [.ref q36, .ref q37, .int 0, .int 0, .int 0, .int 0, .int 0])), (q39, .inr (11, [.ref q40, .ref q41, .int 0, .int 0, .int 0, .int 0, .int 0])), (q43, .inr (11, [.ref q44, .ref q45, .int 0, .int 0, .int 0, .int 0, .int 0])), (q47, .inr (11, [.ref q48, .ref q49, .int 0, .int 0, .int 0, .int 0, .int 0])), (q51, .inr (11, [.ref q52, .ref q53, .int 0, .int 0, .int 0, .int 0, .int 0])), (q55, .inr (11, [.ref q56, .ref q57, .int 0, .int 0, .int 0, .int 0, .int 0])), (q59, .inr (11, [.ref q60, .ref q61, .int 0, .int 0, .int 0, .int 0, .int 0]))]) [0, 1, 2, 3, 4, 5, 6, 7, 8, 9, 10, 11, 12, 13, 14, 15, 16, 17, 18, 19, 20] rfl rfl
    refine lv_iinc (v := 14) (lv' := [(1, .int 14), (0, .ref h0)]) hx hb d_RA_init_74 hl (k := 0) rfl (by decide) (by decide) rfl (fun ls hl => ?_)
    refine lv_goto (tgt := 55) hx hb d_RA_init_77 (by decide) ?_
    refine lv_iload_n hx hb d_RA_init_55 rfl (lv_at hl 0 rfl) ?_
    refine lv_bipush (v := 16) hx hb d_RA_init_56 (by decide) ?_
    refine lv_icmp_gt (tgt := 80) hx hb d_RA_init_58 (by decide) (fun h => absurd h (by decide)) (fun _ => ?_)
    refine lv_aload_n hx hb d_RA_init_61 rfl (lv_at hl 1 rfl) ?_
    refine kx_get E w zC_RA 0 rfl 4 (by decide) mw_168 rfl d_RA_init_62 ?_
    refine lv_iload_n hx hb d_RA_init_65 rfl (lv_at hl 0 rfl) ?_
    refine kx_new E w zC_Value mw_167 mw_117 mw_26 (fs := [.null, .null, .int 0, .int 0, .int 0, .int 0, .int 0]) z0_Value (Nat.le_of_ble_eq_true rfl) (Nat.le_of_ble_eq_true rfl) d_RA_init_66 (fun q63 H w => ?_)
    have w : kW D A s [(h0, .inr (0, [.ref q1, .ref q2, .ref q3, .ref q4, .ref q6, .null, .null, .int 0, .int 0, .int 0, .int 0])), (q1, .inl (a 2, 400, .inl (fun _ => 0))), (q2, .inl (a 2, 128, .inl (fun _ => 0))), (q3, .inl (a 2, 128, .inl (fun _ => 0))), (q4, .inr (1, [.ref q5, .int 0, .int 0])), (q5, .inl (a 0, 8, .inl (fun _ => 0))), (q6, .inl (a 5, 17, .inr (.inr (.inr (.inr (va_up (va_up (va_up (va_up (va_up (va_up (va_up (va_up (va_up (va_up (va_up (va_up (va_up (va_up (fun _ => none) 0 (some q7)) 1 (some q11)) 2 (some q15)) 3 (some q19)) 4 (some q23)) 5 (some q27)) 6 (some q31)) 7 (some q35)) 8 (some q39)) 9 (some q43)) 10 (some q47)) 11 (some q51)) 12 (some q55)) 13 (some q59))))))), (q7, .inr (11, [.ref q8, .ref q9, .int 0, .int 0, .int 0, .int 0, .int 0])), (q11, .inr (11, [.ref q12, .ref q13, .int 0, .int 0, .int 0, .int 0, .int 0])), (q15, .inr (11, [.ref q16, .ref q17, .int 0, .int 0, .int 0, .int 0, .int 0])), (q19, .inr (11, [.ref q20, .ref q21, .int 0, .int 0, .int 0, .int 0, .int 0])), (q23, .inr (11, [.ref q24, .ref q25, .int 0, .int 0, .int 0, .int 0, .int 0])), (q27, .inr (11, [.ref q28, .ref q29, .int 0, .int 0, .int 0, .int 0, .int 0])), (q31, .inr (11, [.ref q32, .ref q33, .int 0, .int 0, .int 0, .int 0, .int 0])), (q35, .inr (11, [.ref q36, .ref q37, .int 0, .int 0, .int 0, .int 0, .int 0])), (q39, .inr (11, [.ref q40, .ref q41, .int 0, .int 0, .int 0, .int 0, .int 0])), (q43, .inr (11, [.ref q44, .ref q45, .int 0, .int 0, .int 0, .int 0, .int 0])), (q47, .inr (11, [.ref q48, .ref q49, .int 0, .int 0, .int 0, .int 0, .int 0])), (q51, .inr (11, [.ref q52, .ref q53, .int 0, .int 0, .int 0, .int 0, .int 0])), (q55, .inr (11, [.ref q56, .ref q57, .int 0, .int 0, .int 0, .int 0, .int 0])), (q59, .inr (11, [.ref q60, .ref q61, .int 0, .int 0, .int 0, .int 0, .int 0])), (q63, .inr (11, [.null, .null, .int 0, .int 0, .int 0, .int 0, .int 0]))] H locs := w
    refine lv_dup hx hb d_RA_init_69 rfl ?_
    refine kx_v E w (wc := [(q63, .inr (11, [.null, .null, .int 0, .int 0, .int 0, .int 0, .int 0]))]) (wr := [(h0, .inr (0, [.ref q1, .ref q2, .ref q3, .ref q4, .ref q6, .null, .null, .int 0, .int 0, .int 0, .int 0])), (q1, .inl (a 2, 400, .inl (fun _ => 0))), (q2, .inl (a 2, 128, .inl (fun _ => 0))), (q3, .inl (a 2, 128, .inl (fun _ => 0))), (q4, .inr (1, [.ref q5, .int 0, .int 0])), (q5, .inl (a 0, 8, .inl (fun _ => 0))), (q6, .inl (a 5, 17, .inr (.inr (.inr (.inr (va_up (va_up (va_up (va_up (va_up (va_up (va_up (va_up (va_up (va_up (va_up (va_up (va_up (va_up (fun _ => none) 0 (some q7)) 1 (some q11)) 2 (some q15)) 3 (some q19)) 4 (some q23)) 5 (some q27)) 6 (some q31)) 7 (some q35)) 8 (some q39)) 9 (some q43)) 10 (some q47)) 11 (some q51)) 12 (some q55)) 13 (some q59))))))), (q7, .inr (11, [.ref q8, .ref q9, .int 0, .int 0, .int 0, .int 0, .int 0])), (q11, .inr (11, [.ref q12, .ref q13, .int 0, .int 0, .int 0, .int 0, .int 0])), (q15, .inr (11, [.ref q16, .ref q17, .int 0, .int 0, .int 0, .int 0, .int 0])), (q19, .inr (11, [.ref q20, .ref q21, .int 0, .int 0, .int 0, .int 0, .int 0])), (q23, .inr (11, [.ref q24, .ref q25, .int 0, .int 0, .int 0, .int 0, .int 0])), (q27, .inr (11, [.ref q28, .ref q29, .int 0, .int 0, .int 0, .int 0, .int 0])), (q31, .inr (11, [.ref q32, .ref q33, .int 0, .int 0, .int 0, .int 0, .int 0])), (q35, .inr (11, [.ref q36, .ref q37, .int 0, .int 0, .int 0, .int 0, .int 0])), (q39, .inr (11, [.ref q40, .ref q41, .int 0, .int 0, .int 0, .int 0, .int 0])), (q43, .inr (11, [.ref q44, .ref q45, .int 0, .int 0, .int 0, .int 0, .int 0])), (q47, .inr (11, [.ref q48, .ref q49, .int 0, .int 0, .int 0, .int 0, .int 0])), (q51, .inr (11, [.ref q52, .ref q53, .int 0, .int 0, .int 0, .int 0, .int 0])), (q55, .inr (11, [.ref q56, .ref q57, .int 0, .int 0, .int 0, .int 0, .int 0])), (q59, .inr (11, [.ref q60, .ref q61, .int 0, .int 0, .int 0, .int 0, .int 0]))]) [21] [0, 1, 2, 3, 4, 5, 6, 7, 8, 9, 10, 11, 12, 13, 14, 15, 16, 17, 18, 19, 20] rfl rfl ⟨rfl, rfl, by decide⟩ (kx_rI E w hl.1 (As := []) (wc := [(q63, .inr (11, [.null, .null, .int 0, .int 0, .int 0, .int 0, .int 0]))]) (c_Value_init l D a q63 H.size) gc_18 gi_Value_init [21] rfl rfl rfl rfl rfl ⟨(Nat.le_of_ble_eq_true rfl), (Nat.le_of_ble_eq_true rfl)⟩ rfl (Nat.le_of_ble_eq_true rfl) d_RA_init_70 ⟨(Nat.le_of_ble_eq_true rfl), (Nat.le_of_ble_eq_true rfl)⟩) (fun u H locs hu w => ?_)
    obtain ⟨q64, q65, q66, rfl⟩ := hu
    have w : kW D A s [(h0, .inr (0, [.ref q1, .ref q2, .ref q3, .ref q4, .ref q6, .null, .null, .int 0, .int 0, .int 0, .int 0])), (q1, .inl (a 2, 400, .inl (fun _ => 0))), (q2, .inl (a 2, 128, .inl (fun _ => 0))), (q3, .inl (a 2, 128, .inl (fun _ => 0))), (q4, .inr (1, [.ref q5, .int 0, .int 0])), (q5, .inl (a 0, 8, .inl (fun _ => 0))), (q6, .inl (a 5, 17, .inr (.inr (.inr (.inr (va_up (va_up (va_up (va_up (va_up (va_up (va_up (va_up (va_up (va_up (va_up (va_up (va_up (va_up (fun _ => none) 0 (some q7)) 1 (some q11)) 2 (some q15)) 3 (some q19)) 4 (some q23)) 5 (some q27)) 6 (some q31)) 7 (some q35)) 8 (some q39)) 9 (some q43)) 10 (some q47)) 11 (some q51)) 12 (some q55)) 13 (some q59))))))), (q7, .inr (11, [.ref q8, .ref q9, .int 0, .int 0, .int 0, .int 0, .int 0])), (q11, .inr (11, [.ref q12, .ref q13, .int 0, .int 0, .int 0, .int 0, .int 0])), (q15, .inr (11, [.ref q16, .ref q17, .int 0, .int 0, .int 0, .int 0, .int 0])), (q19, .inr (11, [.ref q20, .ref q21, .int 0, .int 0, .int 0, .int 0, .int 0])), (q23, .inr (11, [.ref q24, .ref q25, .int 0, .int 0, .int 0, .int 0, .int 0])), (q27, .inr (11, [.ref q28, .ref q29, .int 0, .int 0, .int 0, .int 0, .int 0])), (q31, .inr (11, [.ref q32, .ref q33, .int 0, .int 0, .int 0, .int 0, .int 0])), (q35, .inr (11, [.ref q36, .ref q37, .int 0, .int 0, .int 0, .int 0, .int 0])), (q39, .inr (11, [.ref q40, .ref q41, .int 0, .int 0, .int 0, .int 0, .int 0])), (q43, .inr (11, [.ref q44, .ref q45, .int 0, .int 0, .int 0, .int 0, .int 0])), (q47, .inr (11, [.ref q48, .ref q49, .int 0, .int 0, .int 0, .int 0, .int 0])), (q51, .inr (11, [.ref q52, .ref q53, .int 0, .int 0, .int 0, .int 0, .int 0])), (q55, .inr (11, [.ref q56, .ref q57, .int 0, .int 0, .int 0, .int 0, .int 0])), (q59, .inr (11, [.ref q60, .ref q61, .int 0, .int 0, .int 0, .int 0, .int 0])), (q63, .inr (11, [.ref q64, .ref q65, .int 0, .int 0, .int 0, .int 0, .int 0])), (q64, .inl (a 0, 7, .inl (fun _ => 0))), (q65, .inr (1, [.ref q66, .int 0, .int 0])), (q66, .inl (a 0, 12, .inl (fun _ => 0)))] H locs := w
    refine kx_aast E w 6 5 21 11 rfl rfl rfl rfl (by unfold vp_in; decide) 14 (by decide) d_RA_init_73 (ws' := [(h0, .inr (0, [.ref q1, .ref q2, .ref q3, .ref q4, .ref q6, .null, .null, .int 0, .int 0, .int 0, .int 0])), (q1, .inl (a 2, 400, .inl (fun _ => 0))), (q2, .inl (a 2, 128, .inl (fun _ => 0))), (q3, .inl (a 2, 128, .inl (fun _ => 0))), (q4, .inr (1, [.ref q5, .int 0, .int 0])), (q5, .inl (a 0, 8, .inl (fun _ => 0))), (q6, .inl (a 5, 17, .inr (.inr (.inr (.inr (va_up (va_up (va_up (va_up (va_up (va_up (va_up (va_up (va_up (va_up (va_up (va_up (va_up (va_up (va_up (fun _ => none) 0 (some q7)) 1 (some q11)) 2 (some q15)) 3 (some q19)) 4 (some q23)) 5 (some q27)) 6 (some q31)) 7 (some q35)) 8 (some q39)) 9 (some q43)) 10 (some q47)) 11 (some q51)) 12 (some q55)) 13 (some q59)) 14 (some q63))))))), (q7, .inr (11, [.ref q8, .ref q9, .int 0, .int 0, .int 0, .int 0, .int 0])), (q11, .inr (11, [.ref q12, .ref q13, .int 0, .int 0, .int 0, .int 0, .int 0])), (q15, .inr (11, [.ref q16, .ref q17, .int 0, .int 0, .int 0, .int 0, .int 0])), (q19, .inr (11, [.ref q20, .ref q21, .int 0, .int 0, .int 0, .int 0, .int 0])), (q23, .inr (11, [.ref q24, .ref q25, .int 0, .int 0, .int 0, .int 0, .int 0])), (q27, .inr (11, [.ref q28, .ref q29, .int 0, .int 0, .int 0, .int 0, .int 0])), (q31, .inr (11, [.ref q32, .ref q33, .int 0, .int 0, .int 0, .int 0, .int 0])), (q35, .inr (11, [.ref q36, .ref q37, .int 0, .int 0, .int 0, .int 0, .int 0])), (q39, .inr (11, [.ref q40, .ref q41, .int 0, .int 0, .int 0, .int 0, .int 0])), (q43, .inr (11, [.ref q44, .ref q45, .int 0, .int 0, .int 0, .int 0, .int 0])), (q47, .inr (11, [.ref q48, .ref q49, .int 0, .int 0, .int 0, .int 0, .int 0])), (q51, .inr (11, [.ref q52, .ref q53, .int 0, .int 0, .int 0, .int 0, .int 0])), (q55, .inr (11, [.ref q56, .ref q57, .int 0, .int 0, .int 0, .int 0, .int 0])), (q59, .inr (11, [.ref q60, .ref q61, .int 0, .int 0, .int 0, .int 0, .int 0])), (q63, .inr (11, [.ref q64, .ref q65, .int 0, .int 0, .int 0, .int 0, .int 0])), (q64, .inl (a 0, 7, .inl (fun _ => 0))), (q65, .inr (1, [.ref q66, .int 0, .int 0])), (q66, .inl (a 0, 12, .inl (fun _ => 0)))]) rfl (fun H locs w => ?_)
    have w := kW_sub w (ws' := [(h0, .inr (0, [.ref q1, .ref q2, .ref q3, .ref q4, .ref q6, .null, .null, .int 0, .int 0, .int 0, .int 0])), (q1, .inl (a 2, 400, .inl (fun _ => 0))), (q2, .inl (a 2, 128, .inl (fun _ => 0))), (q3, .inl (a 2, 128, .inl (fun _ => 0))), (q4, .inr (1, [.ref q5, .int 0, .int 0])), (q5, .inl (a 0, 8, .inl (fun _ => 0))), (q6, .inl (a 5, 17, .inr (.inr (.inr (.inr (va_up (va_up (va_up (va_up (va_up (va_up (va_up (va_up (va_up (va_up (va_up (va_up (va_up (va_up (va_up (fun _ => none) 0 (some q7)) 1 (some q11)) 2 (some q15)) 3 (some q19)) 4 (some q23)) 5 (some q27)) 6 (some q31)) 7 (some q35)) 8 (some q39)) 9 (some q43)) 10 (some q47)) 11 (some q51)) 12 (some q55)) 13 (some q59)) 14 (some q63))))))), (q7, .inr (11, [.ref q8, .ref q9, .int 0, .int 0, .int 0, .int 0, .int 0])), (q11, .inr (11, [.ref q12, .ref q13, .int 0, .int 0, .int 0, .int 0, .int 0])), (q15, .inr (11, [.ref q16, .ref q17, .int 0, .int 0, .int 0, .int 0, .int 0])), (q19, .inr (11, [.ref q20, .ref q21, .int 0, .int 0, .int 0, .int 0, .int 0])), (q23, .inr (11, [.ref q24, .ref q25, .int 0, .int 0, .int 0, .int 0, .int 0])), (q27, .inr (11, [.ref q28, .ref q29, .int 0, .int 0, .int 0, .int 0, .int 0])), (q31, .inr (11, [.ref q32, .ref q33, .int 0, .int 0, .int 0, .int 0, .int 0])), (q35, .inr (11, [.ref q36, .ref q37, .int 0, .int 0, .int 0, .int 0, .int 0])), (q39, .inr (11, [.ref q40, .ref q41, .int 0, .int 0, .int 0, .int 0, .int 0])), (q43, .inr (11, [.ref q44, .ref q45, .int 0, .int 0, .int 0, .int 0, .int 0])), (q47, .inr (11, [.ref q48, .ref q49, .int 0, .int 0, .int 0, .int 0, .int 0])), (q51, .inr (11, [.ref q52, .ref q53, .int 0, .int 0, .int 0, .int 0, .int 0])), (q55, .inr (11, [.ref q56, .ref q57, .int 0, .int 0, .int 0, .int 0, .int 0])), (q59, .inr (11, [.ref q60, .ref q61, .int 0, .int 0, .int 0, .int 0, .int 0])), (q63, .inr (11, [.ref q64, .ref q65, .int 0, .int 0, .int 0, .int 0, .int 0]))]) [0, 1, 2, 3, 4, 5, 6, 7, 8, 9, 10, 11, 12, 13, 14, 15, 16, 17, 18, 19, 20, 21] rfl rfl
    refine lv_iinc (v := 15) (lv' := [(1, .int 15), (0, .ref h0)]) hx hb d_RA_init_74 hl (k := 0) rfl (by decide) (by decide) rfl (fun ls hl => ?_)
    refine lv_goto (tgt := 55) hx hb d_RA_init_77 (by decide) ?_
    refine lv_iload_n hx hb d_RA_init_55 rfl (lv_at hl 0 rfl) ?_
    refine lv_bipush (v := 16) hx hb d_RA_init_56 (by decide) ?_
    refine lv_icmp_gt (tgt := 80) hx hb d_RA_init_58 (by decide) (fun h => absurd h (by decide)) (fun _ => ?_)
    refine lv_aload_n hx hb d_RA_init_61 rfl (lv_at hl 1 rfl) ?_
    refine kx_get E w zC_RA 0 rfl 4 (by decide) mw_168 rfl d_RA_init_62 ?_
    refine lv_iload_n hx hb d_RA_init_65 rfl (lv_at hl 0 rfl) ?_
    refine kx_new E w zC_Value mw_167 mw_117 mw_26 (fs := [.null, .null, .int 0, .int 0, .int 0, .int 0, .int 0]) z0_Value (Nat.le_of_ble_eq_true rfl) (Nat.le_of_ble_eq_true rfl) d_RA_init_66 (fun q67 H w => ?_)
    have w : kW D A s [(h0, .inr (0, [.ref q1, .ref q2, .ref q3, .ref q4, .ref q6, .null, .null, .int 0, .int 0, .int 0, .int 0])), (q1, .inl (a 2, 400, .inl (fun _ => 0))), (q2, .inl (a 2, 128, .inl (fun _ => 0))), (q3, .inl (a 2, 128, .inl (fun _ => 0))), (q4, .inr (1, [.ref q5, .int 0, .int 0])), (q5, .inl (a 0, 8, .inl (fun _ => 0))), (q6, .inl (a 5, 17, .inr (.inr (.inr (.inr (va_up (va_up (va_up (va_up (va_up (va_up (va_up (va_up (va_up (va_up (va_up (va_up (va_up (va_up (va_up (fun _ => none) 0 (some q7)) 1 (some q11)) 2 (some q15)) 3 (some q19)) 4 (some q23)) 5 (some q27)) 6 (some q31)) 7 (some q35)) 8 (some q39)) 9 (some q43)) 10 (some q47)) 11 (some q51)) 12 (some q55)) 13 (some q59)) 14 (some q63))))))), (q7, .inr (11, [.ref q8, .ref q9, .int 0, .int 0, .int 0, .int 0, .int 0])), (q11, .inr (11, [.ref q12, .ref q13, .int 0, .int 0, .int 0, .int 0, .int 0])), (q15, .inr (11, [.ref q16, .ref q17, .int 0, .int 0, .int 0, .int 0, .int 0])), (q19, .inr (11, [.ref q20, .ref q21, .int 0, .int 0, .int 0, .int 0, .int 0])), (q23, .inr (11, [.ref q24, .ref q25, .int 0, .int 0, .int 0, .int 0, .int 0])), (q27, .inr (11, [.ref q28, .ref q29, .int 0, .int 0, .int 0, .int 0, .int 0])), (q31, .inr (11, [.ref q32, .ref q33, .int 0, .int 0, .int 0, .int 0, .int 0])), (q35, .inr (11, [.ref q36, .ref q37, .int 0, .int 0, .int 0, .int 0, .int 0])), (q39, .inr (11, [.ref q40, .ref q41, .int 0, .int 0, .int 0, .int 0, .int 0])), (q43, .inr (11, [.ref q44, .ref q45, .int 0, .int 0, .int 0, .int 0, .int 0])), (q47, .inr (11, [.ref q48, .ref q49, .int 0, .int 0, .int 0, .int 0, .int 0])), (q51, .inr (11, [.ref q52, .ref q53, .int 0, .int 0, .int 0, .int 0, .int 0])), (q55, .inr (11, [.ref q56, .ref q57, .int 0, .int 0, .int 0, .int 0, .int 0])), (q59, .inr (11, [.ref q60, .ref q61, .int 0, .int 0, .int 0, .int 0, .int 0])), (q63, .inr (11, [.ref q64, .ref q65, .int 0, .int 0, .int 0, .int 0, .int 0])), (q67, .inr (11, [.null, .null, .int 0, .int 0, .int 0, .int 0, .int 0]))] H locs := w
    refine lv_dup hx hb d_RA_init_69 rfl ?_
    refine kx_v E w (wc := [(q67, .inr (11, [.null, .null, .int 0, .int 0, .int 0, .int 0, .int 0]))]) (wr := [(h0, .inr (0, [.ref q1, .ref q2, .ref q3, .ref q4, .ref q6, .null, .null, .int 0, .int 0, .int 0, .int 0])), (q1, .inl (a 2, 400, .inl (fun _ => 0))), (q2, .inl (a 2, 128, .inl (fun _ => 0))), (q3, .inl (a 2, 128, .inl (fun _ => 0))), (q4, .inr (1, [.ref q5, .int 0, .int 0])), (q5, .inl (a 0, 8, .inl (fun _ => 0))), (q6, .inl (a 5, 17, .inr (.inr (.inr (.inr (va_up (va_up (va_up (va_up (va_up (va_up (va_up (va_up (va_up (va_up (va_up (va_up (va_up (va_up (va_up (fun _ => none) 0 (some q7)) 1 (some q11)) 2 (some q15)) 3 (some q19)) 4 (some q23)) 5 (some q27)) 6 (some q31)) 7 (some q35)) 8 (some q39)) 9 (some q43)) 10 (some q47)) 11 (some q51)) 12 (some q55)) 13 (some q59)) 14 (some q63))))))), (q7, .inr (11, [.ref q8, .ref q9, .int 0, .int 0, .int 0, .int 0, .int 0])), (q11, .inr (11, [.ref q12, .ref q13, .int 0, .int 0, .int 0, .int 0, .int 0])), (q15, .inr (11, [.ref q16, .ref q17, .int 0, .int 0, .int 0, .int 0, .int 0])), (q19, .inr (11, [.ref q20, .ref q21, .int 0, .int 0, .int 0, .int 0, .int 0])), (q23, .inr (11, [.ref q24, .ref q25, .int 0, .int 0, .int 0, .int 0, .int 0])), (q27, .inr (11, [.ref q28, .ref q29, .int 0, .int 0, .int 0, .int 0, .int 0])), (q31, .inr (11, [.ref q32, .ref q33, .int 0, .int 0, .int 0, .int 0, .int 0])), (q35, .inr (11, [.ref q36, .ref q37, .int 0, .int 0, .int 0, .int 0, .int 0])), (q39, .inr (11, [.ref q40, .ref q41, .int 0, .int 0, .int 0, .int 0, .int 0])), (q43, .inr (11, [.ref q44, .ref q45, .int 0, .int 0, .int 0, .int 0, .int 0])), (q47, .inr (11, [.ref q48, .ref q49, .int 0, .int 0, .int 0, .int 0, .int 0])), (q51, .inr (11, [.ref q52, .ref q53, .int 0, .int 0, .int 0, .int 0, .int 0])), (q55, .inr (11, [.ref q56, .ref q57, .int 0, .int 0, .int 0, .int 0, .int 0])), (q59, .inr (11, [.ref q60, .ref q61, .int 0, .int 0, .int 0, .int 0, .int 0])), (q63, .inr (11, [.ref q64, .ref q65, .int 0, .int 0, .int 0, .int 0, .int 0]))]) [22] [0, 1, 2, 3, 4, 5, 6, 7, 8, 9, 10, 11, 12, 13, 14, 15, 16, 17, 18, 19, 20, 21] rfl rfl ⟨rfl, rfl, by decide⟩ (kx_rI E w hl.1 (As := []) (wc := [(q67, .inr (11, [.null, .null, .int 0, .int 0, .int 0, .int 0, .int 0]))]) (c_Value_init l D a q67 H.size) gc_18 gi_Value_init [22] rfl rfl rfl rfl rfl ⟨(Nat.le_of_ble_eq_true rfl), (Nat.le_of_ble_eq_true rfl)⟩ rfl (Nat.le_of_ble_eq_true rfl) d_RA_init_70 ⟨(Nat.le_of_ble_eq_true rfl), (Nat.le_of_ble_eq_true rfl)⟩) (fun u H locs hu w => ?_)
    obtain ⟨q68, q69, q70, rfl⟩ := hu
    have w : kW D A s [(h0, .inr (0, [.ref q1, .ref q2, .ref q3, .ref q4, .ref q6, .null, .null, .int 0, .int 0, .int 0, .int 0])), (q1, .inl (a 2, 400, .inl (fun _ => 0))), (q2, .inl (a 2, 128, .inl (fun _ => 0))), (q3, .inl (a 2, 128, .inl (fun _ => 0))), (q4, .inr (1, [.ref q5, .int 0, .int 0])), (q5, .inl (a 0, 8, .inl (fun _ => 0))), (q6, .inl (a 5, 17, .inr (.inr (.inr (.inr (va_up (va_up (va_up (va_up (va_up (va_up (va_up (va_up (va_up (va_up (va_up (va_up (va_up (va_up (va_up (fun _ => none) 0 (some q7)) 1 (some q11)) 2 (some q15)) 3 (some q19)) 4 (some q23)) 5 (some q27)) 6 (some q31)) 7 (some q35)) 8 (some q39)) 9 (some q43)) 10 (some q47)) 11 (some q51)) 12 (some q55)) 13 (some q59)) 14 (some q63))))))), (q7, .inr (11, [.ref q8, .ref q9, .int 0, .int 0, .int 0, .int 0, .int 0])), (q11, .inr (11, [.ref q12, .ref q13, .int 0, .int 0, .int 0, .int 0, .int 0])), (q15, .inr (11, [.ref q16, .ref q17, .int 0, .int 0, .int 0, .int 0, .int 0])), (q19, .inr (11, [.ref q20, .ref q21, .int 0, .int 0, .int 0, .int 0, .int 0])), (q23, .inr (11, [.ref q24, .ref q25, .int 0, .int 0, .int 0, .int 0, .int 0])), (q27, .inr (11, [.ref q28, .ref q29, .int 0, .int 0, .int 0, .int 0, .int 0])), (q31, .inr (11, [.ref q32, .ref q33, .int 0, .int 0, .int 0, .int 0, .int 0])), (q35, .inr (11, [.ref q36, .ref q37, .int 0, .int 0, .int 0, .int 0, .int 0])), (q39, .inr (11, [.ref q40, .ref q41, .int 0, .int 0, .int 0, .int 0, .int 0])), (q43, .inr (11, [.ref q44, .ref q45, .int 0, .int 0, .int 0, .int 0, .int 0])), (q47, .inr (11, [.ref q48, .ref q49, .int 0, .int 0, .int 0, .int 0, .int 0])), (q51, .inr (11, [.ref q52, .ref q53, .int 0, .int 0, .int 0, .int 0, .int 0])), (q55, .inr (11, [.ref q56, .ref q57, .int 0, .int 0, .int 0, .int 0, .int 0])), (q59, .inr (11, [.ref q60, .ref q61, .int 0, .int 0, .int 0, .int 0, .int 0])), (q63, .inr (11, [.ref q64, .ref q65, .int 0, .int 0, .int 0, .int 0, .int 0])), (q67, .inr (11, [.ref q68, .ref q69, .int 0, .int 0, .int 0, .int 0, .int 0])), (q68, .inl (a 0, 7, .inl (fun _ => 0))), (q69, .inr (1, [.ref q70, .int 0, .int 0])), (q70, .inl (a 0, 12, .inl (fun _ => 0)))] H locs := w
    refine kx_aast E w 6 5 22 11 rfl rfl rfl rfl (by unfold vp_in; decide) 15 (by decide) d_RA_init_73 (ws' := [(h0, .inr (0, [.ref q1, .ref q2, .ref q3, .ref q4, .ref q6, .null, .null, .int 0, .int 0, .int 0, .int 0])), (q1, .inl (a 2, 400, .inl (fun _ => 0))), (q2, .inl (a 2, 128, .inl (fun _ => 0))), (q3, .inl (a 2, 128, .inl (fun _ => 0))), (q4, .inr (1, [.ref q5, .int 0, .int 0])), (q5, .inl (a 0, 8, .inl (fun _ => 0))), (q6, .inl (a 5, 17, .inr (.inr (.inr (.inr (va_up (va_up (va_up (va_up (va_up (va_up (va_up (va_up (va_up (va_up (va_up (va_up (va_up (va_up (va_up (va_up (fun _ => none) 0 (some q7)) 1 (some q11)) 2 (some q15)) 3 (some q19)) 4 (some q23)) 5 (some q27)) 6 (some q31)) 7 (some q35)) 8 (some q39)) 9 (some q43)) 10 (some q47)) 11 (some q51)) 12 (some q55)) 13 (some q59)) 14 (some q63)) 15 (some q67))))))), (q7, .inr (11, [.ref q8, .ref q9, .int 0, .int 0, .int 0, .int 0, .int 0])), (q11, .inr (11, [.ref q12, .ref q13, .int 0, .int 0, .int 0, .int 0, .int 0])), (q15, .inr (11, [.ref q16, .ref q17, .int 0, .int 0, .int 0, .int 0, .int 0])), (q19, .inr (11, [.ref q20, .ref q21, .int 0, .int 0, .int 0, .int 0, .int 0])), (q23, .inr (11, [.ref q24, .ref q25, .int 0, .int 0, .int 0, .int 0, .int 0])), (q27, .inr (11, [.ref q28, .ref q29, .int 0, .int 0, .int 0, .int 0, .int 0])), (q31, .inr (11, [.ref q32, .ref q33, .int 0, .int 0, .int 0, .int 0, .int 0])), (q35, .inr (11, [.ref q36, .ref q37, .int 0, .int 0, .int 0, .int 0, .int 0])), (q39, .inr (11, [.ref q40, .ref q41, .int 0, .int 0, .int 0, .int 0, .int 0])), (q43, .inr (11, [.ref q44, .ref q45, .int 0, .int 0, .int 0, .int 0, .int 0])), (q47, .inr (11, [.ref q48, .ref q49, .int 0, .int 0, .int 0, .int 0, .int 0])), (q51, .inr (11, [.ref q52, .ref q53, .int 0, .int 0, .int 0, .int 0, .int 0])), (q55, .inr (11, [.ref q56, .ref q57, .int 0, .int 0, .int 0, .int 0, .int 0])), (q59, .inr (11, [.ref q60, .ref q61, .int 0, .int 0, .int 0, .int 0, .int 0])), (q63, .inr (11, [.ref q64, .ref q65, .int 0, .int 0, .int 0, .int 0, .int 0])), (q67, .inr (11, [.ref q68, .ref q69, .int 0, .int 0, .int 0, .int 0, .int 0])), (q68, .inl (a 0, 7, .inl (fun _ => 0))), (q69, .inr (1, [.ref q70, .int 0, .int 0])), (q70, .inl (a 0, 12, .inl (fun _ => 0)))]) rfl (fun H locs w => ?_)
    have w := kW_sub w (ws' := [(h0, .inr (0, [.ref q1, .ref q2, .ref q3, .ref q4, .ref q6, .null, .null, .int 0, .int 0, .int 0, .int 0])), (q1, .inl (a 2, 400, .inl (fun _ => 0))), (q2, .inl (a 2, 128, .inl (fun _ => 0))), (q3, .inl (a 2, 128, .inl (fun _ => 0))), (q4, .inr (1, [.ref q5, .int 0, .int 0])), (q5, .inl (a 0, 8, .inl (fun _ => 0))), (q6, .inl (a 5, 17, .inr (.inr (.inr (.inr (va_up (va_up (va_up (va_up (va_up (va_up (va_up (va_up (va_up (va_up (va_up (va_up (va_up (va_up (va_up (va_up (fun _ => none) 0 (some q7)) 1 (some q11)) 2 (some q15)) 3 (some q19)) 4 (some q23)) 5 (some q27)) 6 (some q31)) 7 (some q35)) 8 (some q39)) 9 (some q43)) 10 (some q47)) 11 (some q51)) 12 (some q55)) 13 (some q59)) 14 (some q63)) 15 (some q67))))))), (q7, .inr (11, [.ref q8, .ref q9, .int 0, .int 0, .int 0, .int 0, .int 0])), (q11, .inr (11, [.ref q12, .ref q13, .int 0, .int 0, .int 0, .int 0, .int 0])), (q15, .inr (11, [.ref q16, .ref q17, .int 0, .int 0, .int 0, .int 0, .int 0])), (q19, .inr (11, [.ref q20, .ref q21, .int 0, .int 0, .int 0, .int 0, .int 0])), (q23, .inr (11, [.ref q24, .ref q25, .int 0, .int 0, .int 0, .int 0, .int 0])), (q27, .inr (11, [.ref q28, .ref q29, .int 0, .int 0, .int 0, .int 0, .int 0])), (q31, .inr (11, [.ref q32, .ref q33, .int 0, .int 0, .int 0, .int 0, .int 0])), (q35, .inr (11, [.ref q36, .ref q37, .int 0, .int 0, .int 0, .int 0, .int 0])), (q39, .inr (11, [.ref q40, .ref q41, .int 0, .int 0, .int 0, .int 0, .int 0])), (q43, .inr (11, [.ref q44, .ref q45, .int 0, .int 0, .int 0, .int 0, .int 0])), (q47, .inr (11, [.ref q48, .ref q49, .int 0, .int 0, .int 0, .int 0, .int 0])), (q51, .inr (11, [.ref q52, .ref q53, .int 0, .int 0, .int 0, .int 0, .int 0])), (q55, .inr (11, [.ref q56, .ref q57, .int 0, .int 0, .int 0, .int 0, .int 0])), (q59, .inr (11, [.ref q60, .ref q61, .int 0, .int 0, .int 0, .int 0, .int 0])), (q63, .inr (11, [.ref q64, .ref q65, .int 0, .int 0, .int 0, .int 0, .int 0])), (q67, .inr (11, [.ref q68, .ref q69, .int 0, .int 0, .int 0, .int 0, .int 0]))]) [0, 1, 2, 3, 4, 5, 6, 7, 8, 9, 10, 11, 12, 13, 14, 15, 16, 17, 18, 19, 20, 21, 22] rfl rfl
    refine lv_iinc (v := 16) (lv' := [(1, .int 16), (0, .ref h0)]) hx hb d_RA_init_74 hl (k := 0) rfl (by decide) (by decide) rfl (fun ls hl => ?_)
    refine lv_goto (tgt := 55) hx hb d_RA_init_77 (by decide) ?_
    refine lv_iload_n hx hb d_RA_init_55 rfl (lv_at hl 0 rfl) ?_
    refine lv_bipush (v := 16) hx hb d_RA_init_56 (by decide) ?_
    refine lv_icmp_gt (tgt := 80) hx hb d_RA_init_58 (by decide) (fun h => absurd h (by decide)) (fun _ => ?_)
    refine lv_aload_n hx hb d_RA_init_61 rfl (lv_at hl 1 rfl) ?_
    refine kx_get E w zC_RA 0 rfl 4 (by decide) mw_168 rfl d_RA_init_62 ?_
    refine lv_iload_n hx hb d_RA_init_65 rfl (lv_at hl 0 rfl) ?_
    refine kx_new E w zC_Value mw_167 mw_117 mw_26 (fs := [.null, .null, .int 0, .int 0, .int 0, .int 0, .int 0]) z0_Value (Nat.le_of_ble_eq_true rfl) (Nat.le_of_ble_eq_true rfl) d_RA_init_66 (fun q71 H w => ?_)
    have w : kW D A s [(h0, .inr (0, [.ref q1, .ref q2, .ref q3, .ref q4, .ref q6, .null, .null, .int 0, .int 0, .int 0, .int 0])), (q1, .inl (a 2, 400, .inl (fun _ => 0))), (q2, .inl (a 2, 128, .inl (fun _ => 0))), (q3, .inl (a 2, 128, .inl (fun _ => 0))), (q4, .inr (1, [.ref q5, .int 0, .int 0])), (q5, .inl (a 0, 8, .inl (fun _ => 0))), (q6, .inl (a 5, 17, .inr (.inr (.inr (.inr (va_up (va_up (va_up (va_up (va_up (va_up (va_up (va_up (va_up (va_up (va_up (va_up (va_up (va_up (va_up (va_up (fun _ => none) 0 (some q7)) 1 (some q11)) 2 (some q15)) 3 (some q19)) 4 (some q23)) 5 (some q27)) 6 (some q31)) 7 (some q35)) 8 (some q39)) 9 (some q43)) 10 (some q47)) 11 (some q51)) 12 (some q55)) 13 (some q59)) 14 (some q63)) 15 (some q67))))))), (q7, .inr (11, [.ref q8, .ref q9, .int 0, .int 0, .int 0, .int 0, .int 0])), (q11, .inr (11, [.ref q12, .ref q13, .int 0, .int 0, .int 0, .int 0, .int 0])), (q15, .inr (11, [.ref q16, .ref q17, .int 0, .int 0, .int 0, .int 0, .int 0])), (q19, .inr (11, [.ref q20, .ref q21, .int 0, .int 0, .int 0, .int 0, .int 0])), (q23, .inr (11, [.ref q24, .ref q25, .int 0, .int 0, .int 0, .int 0, .int 0])), (q27, .inr (11, [.ref q28, .ref q29, .int 0, .int 0, .int 0, .int 0, .int 0])), (q31, .inr (11, [.ref q32, .ref q33, .int 0, .int 0, .int 0, .int 0, .int 0])), (q35, .inr (11, [.ref q36, .ref q37, .int 0, .int 0, .int 0, .int 0, .int 0])), (q39, .inr (11, [.ref q40, .ref q41, .int 0, .int 0, .int 0, .int 0, .int 0])), (q43, .inr (11, [.ref q44, .ref q45, .int 0, .int 0, .int 0, .int 0, .int 0])), (q47, .inr (11, [.ref q48, .ref q49, .int 0, .int 0, .int 0, .int 0, .int 0])), (q51, .inr (11, [.ref q52, .ref q53, .int 0, .int 0, .int 0, .int 0, .int 0])), (q55, .inr (11, [.ref q56, .ref q57, .int 0, .int 0, .int 0, .int 0, .int 0])), (q59, .inr (11, [.ref q60, .ref q61, .int 0, .int 0, .int 0, .int 0, .int 0])), (q63, .inr (11, [.ref q64, .ref q65, .int 0, .int 0, .int 0, .int 0, .int 0])), (q67, .inr (11, [.ref q68, .ref q69, .int 0, .int 0, .int 0, .int 0, .int 0])), (q71, .inr (11, [.null, .null, .int 0, .int 0, .int 0, .int 0, .int 0]))] H locs := w
    refine lv_dup hx hb d_RA_init_69 rfl ?_
    refine kx_v E w (wc := [(q71, .inr (11, [.null, .null, .int 0, .int 0, .int 0, .int 0, .int 0]))]) (wr := [(h0, .inr (0, [.ref q1, .ref q2, .ref q3, .ref q4, .ref q6, .null, .null, .int 0, .int 0, .int 0, .int 0])), (q1, .inl (a 2, 400, .inl (fun _ => 0))), (q2, .inl (a 2, 128, .inl (fun _ => 0))), (q3, .inl (a 2, 128, .inl (fun _ => 0))), (q4, .inr (1, [.ref q5, .int 0, .int 0])), (q5, .inl (a 0, 8, .inl (fun _ => 0))), (q6, .inl (a 5, 17, .inr (.inr (.inr (.inr (va_up (va_up (va_up (va_up (va_up (va_up (va_up (va_up (va_up (va_up (va_up (va_up (va_up (va_up (va_up (va_up (fun _ => none) 0 (some q7)) 1 (some q11)) 2 (some q15)) 3 (some q19)) 4 (some q23)) 5 (some q27)) 6 (some q31)) 7 (some q35)) 8 (some q39)) 9 (some q43)) 10 (some q47)) 11 (some q51)) 12 (some q55)) 13 (some q59)) 14 (some q63)) 15 (some q67))))))), (q7, .inr (11, [.ref q8, .ref q9, .int 0, .int 0, .int 0, .int 0, .int 0])), (q11, .inr (11, [.ref q12, .ref q13, .int 0, .int 0, .int 0, .int 0, .int 0])), (q15, .inr (11, [.ref q16, .ref q17, .int 0, .int 0, .int 0, .int 0, .int 0])), (q19, .inr (11, [.ref q20, .ref q21, .int 0, .int 0, .int 0, .int 0, .int 0])), (q23, .inr (11, [.ref q24, .ref q25, .int 0, .int 0, .int 0, .int 0, .int 0])), (q27, .inr (11, [.ref q28, .ref q29, .int 0, .int 0, .int 0, .int 0, .int 0])), (q31, .inr (11, [.ref q32, .ref q33, .int 0, .int 0, .int 0, .int 0, .int 0])), (q35, .inr (11, [.ref q36, .ref q37, .int 0, .int 0, .int 0, .int 0, .int 0])), (q39, .inr (11, [.ref q40, .ref q41, .int 0, .int 0, .int 0, .int 0, .int 0])), (q43, .inr (11, [.ref q44, .ref q45, .int 0, .int 0, .int 0, .int 0, .int 0])), (q47, .inr (11, [.ref q48, .ref q49, .int 0, .int 0, .int 0, .int 0, .int 0])), (q51, .inr (11, [.ref q52, .ref q53, .int 0, .int 0, .int 0, .int 0, .int 0])), (q55, .inr (11, [.ref q56, .ref q57, .int 0, .int 0, .int 0, .int 0, .int 0])), (q59, .inr (11, [.ref q60, .ref q61, .int 0, .int 0, .int 0, .int 0, .int 0])), (q63, .inr (11, [.ref q64, .ref q65, .int 0, .int 0, .int 0, .int 0, .int 0])), (q67, .inr (11, [.ref q68, .ref q69, .int 0, .int 0, .int 0, .int 0, .int 0]))]) [23] [0, 1, 2, 3, 4, 5, 6, 7, 8, 9, 10, 11, 12, 13, 14, 15, 16, 17, 18, 19, 20, 21, 22] rfl rfl ⟨rfl, rfl, by decide⟩ (kx_rI E w hl.1 (As := []) (wc := [(q71, .inr (11, [.null, .null, .int 0, .int 0, .int 0, .int 0, .int 0]))]) (c_Value_init l D a q71 H.size) gc_18 gi_Value_init [23] rfl rfl rfl rfl rfl ⟨(Nat.le_of_ble_eq_true rfl), (Nat.le_of_ble_eq_true rfl)⟩ rfl (Nat.le_of_ble_eq_true rfl) d_RA_init_70 ⟨(Nat.le_of_ble_eq_true rfl), (Nat.le_of_ble_eq_true rfl)⟩) (fun u H locs hu w => ?_)
    obtain ⟨q72, q73, q74, rfl⟩ := hu
    have w : kW D A s [(h0, .inr (0, [.ref q1, .ref q2, .ref q3, .ref q4, .ref q6, .null, .null, .int 0, .int 0, .int 0, .int 0])), (q1, .inl (a 2, 400, .inl (fun _ => 0))), (q2, .inl (a 2, 128, .inl (fun _ => 0))), (q3, .inl (a 2, 128, .inl (fun _ => 0))), (q4, .inr (1, [.ref q5, .int 0, .int 0])), (q5, .inl (a 0, 8, .inl (fun _ => 0))), (q6, .inl (a 5, 17, .inr (.inr (.inr (.inr (va_up (va_up (va_up (va_up (va_up (va_up (va_up (va_up (va_up (va_up (va_up (va_up (va_up (va_up (va_up (va_up (fun _ => none) 0 (some q7)) 1 (some q11)) 2 (some q15)) 3 (some q19)) 4 (some q23)) 5 (some q27)) 6 (some q31)) 7 (some q35)) 8 (some q39)) 9 (some q43)) 10 (some q47)) 11 (some q51)) 12 (some q55)) 13 (some q59)) 14 (some q63)) 15 (some q67))))))), (q7, .inr (11, [.ref q8, .ref q9, .int 0, .int 0, .int 0, .int 0, .int 0])), (q11, .inr (11, [.ref q12, .ref q13, .int 0, .int 0, .int 0, .int 0, .int 0])), (q15, .inr (11, [.ref q16, .ref q17, .int 0, .int 0, .int 0, .int 0, .int 0])), (q19, .inr (11, [.ref q20, .ref q21, .int 0, .int 0, .int 0, .int 0, .int 0])), (q23, .inr (11, [.ref q24, .ref q25, .int 0, .int 0, .int 0, .int 0, .int 0])), (q27, .inr (11, [.ref q28, .ref q29, .int 0, .int 0, .int 0, .int 0, .int 0])), (q31, .inr (11, [.ref q32, .ref q33, .int 0, .int 0, .int 0, .int 0, .int 0])), (q35, .inr (11, [.ref q36, .ref q37, .int 0, .int 0, .int 0, .int 0, .int 0])), (q39, .inr (11, [.ref q40, .ref q41, .int 0, .int 0, .int 0, .int 0, .int 0])), (q43, .inr (11, [.ref q44, .ref q45, .int 0, .int 0, .int 0, .int 0, .int 0])), (q47, .inr (11, [.ref q48, .ref q49, .int 0, .int 0, .int 0, .int 0, .int 0])), (q51, .inr (11, [.ref q52, .ref q53, .int 0, .int 0, .int 0, .int 0, .int 0])), (q55, .inr (11, [.ref q56, .ref q57, .int 0, .int 0, .int 0, .int 0, .int 0])), (q59, .inr (11, [.ref q60, .ref q61, .int 0, .int 0, .int 0, .int 0, .int 0])), (q63, .inr (11, [.ref q64, .ref q65, .int 0, .int 0, .int 0, .int 0, .int 0])), (q67, .inr (11, [.ref q68, .ref q69, .int 0, .int 0, .int 0, .int 0, .int 0])), (q71, .inr (11, [.ref q72, .ref q73, .int 0, .int 0, .int 0, .int 0, .int 0])), (q72, .inl (a 0, 7, .inl (fun _ => 0))), (q73, .inr (1, [.ref q74, .int 0, .int 0])), (q74, .inl (a 0, 12, .inl (fun _ => 0)))] H locs := w
    refine kx_aast E w 6 5 23 11 rfl rfl rfl rfl (by unfold vp_in; decide) 16 (by decide) d_RA_init_73 (ws' := [(h0, .inr (0, [.ref q1, .ref q2, .ref q3, .ref q4, .ref q6, .null, .null, .int 0, .int 0, .int 0, .int 0])), (q1, .inl (a 2, 400, .inl (fun _ => 0))), (q2, .inl (a 2, 128, .inl (fun _ => 0))), (q3, .inl (a 2, 128, .inl (fun _ => 0))), (q4, .inr (1, [.ref q5, .int 0, .int 0])), (q5, .inl (a 0, 8, .inl (fun _ => 0))), (q6, .inl (a 5, 17, .inr (.inr (.inr (.inr (va_up (va_up (va_up (va_up (va_up (va_up (va_up (va_up (va_up (va_up (va_up (va_up (va_up (va_up (va_up (va_up (va_up (fun _ => none) 0 (some q7)) 1 (some q11)) 2 (some q15)) 3 (some q19)) 4 (some q23)) 5 (some q27)) 6 (some q31)) 7 (some q35)) 8 (some q39)) 9 (some q43)) 10 (some q47)) 11 (some q51)) 12 (some q55)) 13 (some q59)) 14 (some q63)) 15 (some q67)) 16 (some q71))))))), (q7, .inr (11, [.ref q8, .ref q9, .int 0, .int 0, .int 0, .int 0, .int 0])), (q11, .inr (11, [.ref q12, .ref q13, .int 0, .int 0, .int 0, .int 0, .int 0])), (q15, .inr (11, [.ref q16, .ref q17, .int 0, .int 0, .int 0, .int 0, .int 0])), (q19, .inr (11, [.ref q20, .ref q21, .int 0, .int 0, .int 0, .int 0, .int 0])), (q23, .inr (11, [.ref q24, .ref q25, .int 0, .int 0, .int 0, .int 0, .int 0])), (q27, .inr (11, [.ref q28, .ref q29, .int 0, .int 0, .int 0, .int 0, .int 0])), (q31, .inr (11, [.ref q32, .ref q33, .int 0, .int 0, .int 0, .int 0, .int 0])), (q35, .inr (11, [.ref q36, .ref q37, .int 0, .int 0, .int 0, .int 0, .int 0])), (q39, .inr (11, [.ref q40, .ref q41, .int 0, .int 0, .int 0, .int 0, .int 0])), (q43, .inr (11, [.ref q44, .ref q45, .int 0, .int 0, .int 0, .int 0, .int 0])), (q47, .inr (11, [.ref q48, .ref q49, .int 0, .int 0, .int 0, .int 0, .int 0])), (q51, .inr (11, [.ref q52, .ref q53, .int 0, .int 0, .int 0, .int 0, .int 0])), (q55, .inr (11, [.ref q56, .ref q57, .int 0, .int 0, .int 0, .int 0, .int 0])), (q59, .inr (11, [.ref q60, .ref q61, .int 0, .int 0, .int 0, .int 0, .int 0])), (q63, .inr (11, [.ref q64, .ref q65, .int 0, .int 0, .int 0, .int 0, .int 0])), (q67, .inr (11, [.ref q68, .ref q69, .int 0, .int 0, .int 0, .int 0, .int 0])), (q71, .inr (11, [.ref q72, .ref q73, .int 0, .int 0, .int 0, .int 0, .int 0])), (q72, .inl (a 0, 7, .inl (fun _ => 0))), (q73, .inr (1, [.ref q74, .int 0, .int 0])), (q74, .inl (a 0, 12, .inl (fun _ => 0)))]) rfl (fun H locs w => ?_)
    refine lv_iinc (v := 17) (lv' := [(1, .int 17), (0, .ref h0)]) hx hb d_RA_init_74 hl (k := 0) rfl (by decide) (by decide) rfl (fun ls hl => ?_)
    refine lv_goto (tgt := 55) hx hb d_RA_init_77 (by decide) ?_
    refine lv_iload_n hx hb d_RA_init_55 rfl (lv_at hl 0 rfl) ?_
    refine lv_bipush (v := 16) hx hb d_RA_init_56 (by decide) ?_
    refine lv_icmp_gt (tgt := 80) hx hb d_RA_init_58 (by decide) (fun _ => ?_) (fun h => absurd (by decide) h)
    refine lv_aload_n hx hb d_RA_init_80 rfl (lv_at hl 1 rfl) ?_
    refine kx_get E w zC_RA 0 rfl 4 (by decide) mw_168 rfl d_RA_init_81 ?_
    refine lv_bipush (v := 16) hx hb d_RA_init_84 (by decide) ?_
    refine kx_aald E w 6 5 rfl rfl (by unfold vp_in; decide) (y := q71) rfl d_RA_init_86 ?_
    refine lv_iconst (v := 0) hx hb d_RA_init_87 (by decide) ?_
    refine lv_iconst (v := 1) hx hb d_RA_init_88 (by decide) ?_
    refine kx_v E w (wc := [(q71, .inr (11, [.ref q72, .ref q73, .int 0, .int 0, .int 0, .int 0, .int 0])), (q72, .inl (a 0, 7, .inl (fun _ => 0))), (q73, .inr (1, [.ref q74, .int 0, .int 0])), (q74, .inl (a 0, 12, .inl (fun _ => 0)))]) (wr := [(h0, .inr (0, [.ref q1, .ref q2, .ref q3, .ref q4, .ref q6, .null, .null, .int 0, .int 0, .int 0, .int 0])), (q1, .inl (a 2, 400, .inl (fun _ => 0))), (q2, .inl (a 2, 128, .inl (fun _ => 0))), (q3, .inl (a 2, 128, .inl (fun _ => 0))), (q4, .inr (1, [.ref q5, .int 0, .int 0])), (q5, .inl (a 0, 8, .inl (fun _ => 0))), (q6, .inl (a 5, 17, .inr (.inr (.inr (.inr (va_up (va_up (va_up (va_up (va_up (va_up (va_up (va_up (va_up (va_up (va_up (va_up (va_up (va_up (va_up (va_up (va_up (fun _ => none) 0 (some q7)) 1 (some q11)) 2 (some q15)) 3 (some q19)) 4 (some q23)) 5 (some q27)) 6 (some q31)) 7 (some q35)) 8 (some q39)) 9 (some q43)) 10 (some q47)) 11 (some q51)) 12 (some q55)) 13 (some q59)) 14 (some q63)) 15 (some q67)) 16 (some q71))))))), (q7, .inr (11, [.ref q8, .ref q9, .int 0, .int 0, .int 0, .int 0, .int 0])), (q11, .inr (11, [.ref q12, .ref q13, .int 0, .int 0, .int 0, .int 0, .int 0])), (q15, .inr (11, [.ref q16, .ref q17, .int 0, .int 0, .int 0, .int 0, .int 0])), (q19, .inr (11, [.ref q20, .ref q21, .int 0, .int 0, .int 0, .int 0, .int 0])), (q23, .inr (11, [.ref q24, .ref q25, .int 0, .int 0, .int 0, .int 0, .int 0])), (q27, .inr (11, [.ref q28, .ref q29, .int 0, .int 0, .int 0, .int 0, .int 0])), (q31, .inr (11, [.ref q32, .ref q33, .int 0, .int 0, .int 0, .int 0, .int 0])), (q35, .inr (11, [.ref q36, .ref q37, .int 0, .int 0, .int 0, .int 0, .int 0])), (q39, .inr (11, [.ref q40, .ref q41, .int 0, .int 0, .int 0, .int 0, .int 0])), (q43, .inr (11, [.ref q44, .ref q45, .int 0, .int 0, .int 0, .int 0, .int 0])), (q47, .inr (11, [.ref q48, .ref q49, .int 0, .int 0, .int 0, .int 0, .int 0])), (q51, .inr (11, [.ref q52, .ref q53, .int 0, .int 0, .int 0, .int 0, .int 0])), (q55, .inr (11, [.ref q56, .ref q57, .int 0, .int 0, .int 0, .int 0, .int 0])), (q59, .inr (11, [.ref q60, .ref q61, .int 0, .int 0, .int 0, .int 0, .int 0])), (q63, .inr (11, [.ref q64, .ref q65, .int 0, .int 0, .int 0, .int 0, .int 0])), (q67, .inr (11, [.ref q68, .ref q69, .int 0, .int 0, .int 0, .int 0, .int 0]))]) [23, 24, 25, 26] [0, 1, 2, 3, 4, 5, 6, 7, 8, 9, 10, 11, 12, 13, 14, 15, 16, 17, 18, 19, 20, 21, 22] rfl rfl ⟨rfl, rfl, by decide⟩ (kx_rV E w hl.1 (As := [.int 0, .int 1]) (wc := [(q71, .inr (11, [.ref q72, .ref q73, .int 0, .int 0, .int 0, .int 0, .int 0])), (q72, .inl (a 0, 7, .inl (fun _ => 0))), (q73, .inr (1, [.ref q74, .int 0, .int 0])), (q74, .inl (a 0, 12, .inl (fun _ => 0)))]) (c_Value_set01 l D a q71 q72 q73 q74 H.size) gc_19 gv_Value_setFraction (kRecv E w 11 23 rfl rfl) [23, 24, 25, 26] rfl rfl rfl rfl rfl ⟨(Nat.le_of_ble_eq_true rfl), (Nat.le_of_ble_eq_true rfl)⟩ rfl (Nat.le_of_ble_eq_true rfl) d_RA_init_89 ⟨(Nat.le_of_ble_eq_true rfl), (Nat.le_of_ble_eq_true rfl)⟩) (fun u H locs hu w => ?_)
    obtain ⟨rfl⟩ := hu
    have w : kW D A s [(h0, .inr (0, [.ref q1, .ref q2, .ref q3, .ref q4, .ref q6, .null, .null, .int 0, .int 0, .int 0, .int 0])), (q1, .inl (a 2, 400, .inl (fun _ => 0))), (q2, .inl (a 2, 128, .inl (fun _ => 0))), (q3, .inl (a 2, 128, .inl (fun _ => 0))), (q4, .inr (1, [.ref q5, .int 0, .int 0])), (q5, .inl (a 0, 8, .inl (fun _ => 0))), (q6, .inl (a 5, 17, .inr (.inr (.inr (.inr (va_up (va_up (va_up (va_up (va_up (va_up (va_up (va_up (va_up (va_up (va_up (va_up (va_up (va_up (va_up (va_up (va_up (fun _ => none) 0 (some q7)) 1 (some q11)) 2 (some q15)) 3 (some q19)) 4 (some q23)) 5 (some q27)) 6 (some q31)) 7 (some q35)) 8 (some q39)) 9 (some q43)) 10 (some q47)) 11 (some q51)) 12 (some q55)) 13 (some q59)) 14 (some q63)) 15 (some q67)) 16 (some q71))))))), (q7, .inr (11, [.ref q8, .ref q9, .int 0, .int 0, .int 0, .int 0, .int 0])), (q11, .inr (11, [.ref q12, .ref q13, .int 0, .int 0, .int 0, .int 0, .int 0])), (q15, .inr (11, [.ref q16, .ref q17, .int 0, .int 0, .int 0, .int 0, .int 0])), (q19, .inr (11, [.ref q20, .ref q21, .int 0, .int 0, .int 0, .int 0, .int 0])), (q23, .inr (11, [.ref q24, .ref q25, .int 0, .int 0, .int 0, .int 0, .int 0])), (q27, .inr (11, [.ref q28, .ref q29, .int 0, .int 0, .int 0, .int 0, .int 0])), (q31, .inr (11, [.ref q32, .ref q33, .int 0, .int 0, .int 0, .int 0, .int 0])), (q35, .inr (11, [.ref q36, .ref q37, .int 0, .int 0, .int 0, .int 0, .int 0])), (q39, .inr (11, [.ref q40, .ref q41, .int 0, .int 0, .int 0, .int 0, .int 0])), (q43, .inr (11, [.ref q44, .ref q45, .int 0, .int 0, .int 0, .int 0, .int 0])), (q47, .inr (11, [.ref q48, .ref q49, .int 0, .int 0, .int 0, .int 0, .int 0])), (q51, .inr (11, [.ref q52, .ref q53, .int 0, .int 0, .int 0, .int 0, .int 0])), (q55, .inr (11, [.ref q56, .ref q57, .int 0, .int 0, .int 0, .int 0, .int 0])), (q59, .inr (11, [.ref q60, .ref q61, .int 0, .int 0, .int 0, .int 0, .int 0])), (q63, .inr (11, [.ref q64, .ref q65, .int 0, .int 0, .int 0, .int 0, .int 0])), (q67, .inr (11, [.ref q68, .ref q69, .int 0, .int 0, .int 0, .int 0, .int 0])), (q71, .inr (11, [.ref q72, .ref q73, .int 1, .int 0, .int 1, .int 0, .int 0])), (q72, .inl (a 0, 7, .inl (upd (upd (fun _ => 0) 0 0) 1 1))), (q73, .inr (1, [.ref q74, .int 0, .int 0])), (q74, .inl (a 0, 12, .inl (fun _ => 0)))] H locs := w
    have w := kW_sub w (ws' := [(h0, .inr (0, [.ref q1, .ref q2, .ref q3, .ref q4, .ref q6, .null, .null, .int 0, .int 0, .int 0, .int 0])), (q1, .inl (a 2, 400, .inl (fun _ => 0))), (q2, .inl (a 2, 128, .inl (fun _ => 0))), (q3, .inl (a 2, 128, .inl (fun _ => 0))), (q4, .inr (1, [.ref q5, .int 0, .int 0])), (q5, .inl (a 0, 8, .inl (fun _ => 0))), (q6, .inl (a 5, 17, .inr (.inr (.inr (.inr (va_up (va_up (va_up (va_up (va_up (va_up (va_up (va_up (va_up (va_up (va_up (va_up (va_up (va_up (va_up (va_up (va_up (fun _ => none) 0 (some q7)) 1 (some q11)) 2 (some q15)) 3 (some q19)) 4 (some q23)) 5 (some q27)) 6 (some q31)) 7 (some q35)) 8 (some q39)) 9 (some q43)) 10 (some q47)) 11 (some q51)) 12 (some q55)) 13 (some q59)) 14 (some q63)) 15 (some q67)) 16 (some q71))))))), (q7, .inr (11, [.ref q8, .ref q9, .int 0, .int 0, .int 0, .int 0, .int 0])), (q11, .inr (11, [.ref q12, .ref q13, .int 0, .int 0, .int 0, .int 0, .int 0])), (q15, .inr (11, [.ref q16, .ref q17, .int 0, .int 0, .int 0, .int 0, .int 0])), (q19, .inr (11, [.ref q20, .ref q21, .int 0, .int 0, .int 0, .int 0, .int 0])), (q23, .inr (11, [.ref q24, .ref q25, .int 0, .int 0, .int 0, .int 0, .int 0])), (q27, .inr (11, [.ref q28, .ref q29, .int 0, .int 0, .int 0, .int 0, .int 0])), (q31, .inr (11, [.ref q32, .ref q33, .int 0, .int 0, .int 0, .int 0, .int 0])), (q35, .inr (11, [.ref q36, .ref q37, .int 0, .int 0, .int 0, .int 0, .int 0])), (q39, .inr (11, [.ref q40, .ref q41, .int 0, .int 0, .int 0, .int 0, .int 0])), (q43, .inr (11, [.ref q44, .ref q45, .int 0, .int 0, .int 0, .int 0, .int 0])), (q47, .inr (11, [.ref q48, .ref q49, .int 0, .int 0, .int 0, .int 0, .int 0])), (q51, .inr (11, [.ref q52, .ref q53, .int 0, .int 0, .int 0, .int 0, .int 0])), (q55, .inr (11, [.ref q56, .ref q57, .int 0, .int 0, .int 0, .int 0, .int 0])), (q59, .inr (11, [.ref q60, .ref q61, .int 0, .int 0, .int 0, .int 0, .int 0])), (q63, .inr (11, [.ref q64, .ref q65, .int 0, .int 0, .int 0, .int 0, .int 0])), (q67, .inr (11, [.ref q68, .ref q69, .int 0, .int 0, .int 0, .int 0, .int 0])), (q71, .inr (11, [.ref q72, .ref q73, .int 1, .int 0, .int 1, .int 0, .int 0])), (q72, .inl (a 0, 7, .inl (upd (upd (fun _ => 0) 0 0) 1 1)))]) [0, 1, 2, 3, 4, 5, 6, 7, 8, 9, 10, 11, 12, 13, 14, 15, 16, 17, 18, 19, 20, 21, 22, 23, 24] rfl rfl
    refine lv_aload_n hx hb d_RA_init_92 rfl (lv_at hl 1 rfl) ?_
    refine kx_new E w zC_Reader mw_174 mw_175 mw_176 (fs := [.null, .null, .int 0, .int 0, .int 0, .int 0, .int 0]) z0_Reader (Nat.le_of_ble_eq_true rfl) (Nat.le_of_ble_eq_true rfl) d_RA_init_93 (fun q75 H w => ?_)
    have w : kW D A s [(h0, .inr (0, [.ref q1, .ref q2, .ref q3, .ref q4, .ref q6, .null, .null, .int 0, .int 0, .int 0, .int 0])), (q1, .inl (a 2, 400, .inl (fun _ => 0))), (q2, .inl (a 2, 128, .inl (fun _ => 0))), (q3, .inl (a 2, 128, .inl (fun _ => 0))), (q4, .inr (1, [.ref q5, .int 0, .int 0])), (q5, .inl (a 0, 8, .inl (fun _ => 0))), (q6, .inl (a 5, 17, .inr (.inr (.inr (.inr (va_up (va_up (va_up (va_up (va_up (va_up (va_up (va_up (va_up (va_up (va_up (va_up (va_up (va_up (va_up (va_up (va_up (fun _ => none) 0 (some q7)) 1 (some q11)) 2 (some q15)) 3 (some q19)) 4 (some q23)) 5 (some q27)) 6 (some q31)) 7 (some q35)) 8 (some q39)) 9 (some q43)) 10 (some q47)) 11 (some q51)) 12 (some q55)) 13 (some q59)) 14 (some q63)) 15 (some q67)) 16 (some q71))))))), (q7, .inr (11, [.ref q8, .ref q9, .int 0, .int 0, .int 0, .int 0, .int 0])), (q11, .inr (11, [.ref q12, .ref q13, .int 0, .int 0, .int 0, .int 0, .int 0])), (q15, .inr (11, [.ref q16, .ref q17, .int 0, .int 0, .int 0, .int 0, .int 0])), (q19, .inr (11, [.ref q20, .ref q21, .int 0, .int 0, .int 0, .int 0, .int 0])), (q23, .inr (11, [.ref q24, .ref q25, .int 0, .int 0, .int 0, .int 0, .int 0])), (q27, .inr (11, [.ref q28, .ref q29, .int 0, .int 0, .int 0, .int 0, .int 0])), (q31, .inr (11, [.ref q32, .ref q33, .int 0, .int 0, .int 0, .int 0, .int 0])), (q35, .inr (11, [.ref q36, .ref q37, .int 0, .int 0, .int 0, .int 0, .int 0])), (q39, .inr (11, [.ref q40, .ref q41, .int 0, .int 0, .int 0, .int 0, .int 0])), (q43, .inr (11, [.ref q44, .ref q45, .int 0, .int 0, .int 0, .int 0, .int 0])), (q47, .inr (11, [.ref q48, .ref q49, .int 0, .int 0, .int 0, .int 0, .int 0])), (q51, .inr (11, [.ref q52, .ref q53, .int 0, .int 0, .int 0, .int 0, .int 0])), (q55, .inr (11, [.ref q56, .ref q57, .int 0, .int 0, .int 0, .int 0, .int 0])), (q59, .inr (11, [.ref q60, .ref q61, .int 0, .int 0, .int 0, .int 0, .int 0])), (q63, .inr (11, [.ref q64, .ref q65, .int 0, .int 0, .int 0, .int 0, .int 0])), (q67, .inr (11, [.ref q68, .ref q69, .int 0, .int 0, .int 0, .int 0, .int 0])), (q71, .inr (11, [.ref q72, .ref q73, .int 1, .int 0, .int 1, .int 0, .int 0])), (q72, .inl (a 0, 7, .inl (upd (upd (fun _ => 0) 0 0) 1 1))), (q75, .inr (9, [.null, .null, .int 0, .int 0, .int 0, .int 0, .int 0]))] H locs := w
    refine lv_dup hx hb d_RA_init_96 rfl ?_
    refine lv_aload_n hx hb d_RA_init_97 rfl (lv_at hl 1 rfl) ?_
    refine kx_get E w zC_RA 0 rfl 0 (by decide) mw_161 rfl d_RA_init_98 ?_
    refine kx_v E w (wc := [(q75, .inr (9, [.null, .null, .int 0, .int 0, .int 0, .int 0, .int 0]))]) (wr := [(h0, .inr (0, [.ref q1, .ref q2, .ref q3, .ref q4, .ref q6, .null, .null, .int 0, .int 0, .int 0, .int 0])), (q1, .inl (a 2, 400, .inl (fun _ => 0))), (q2, .inl (a 2, 128, .inl (fun _ => 0))), (q3, .inl (a 2, 128, .inl (fun _ => 0))), (q4, .inr (1, [.ref q5, .int 0, .int 0])), (q5, .inl (a 0, 8, .inl (fun _ => 0))), (q6, .inl (a 5, 17, .inr (.inr (.inr (.inr (va_up (va_up (va_up (va_up (va_up (va_up (va_up (va_up (va_up (va_up (va_up (va_up (va_up (va_up (va_up (va_up (va_up (fun _ => none) 0 (some q7)) 1 (some q11)) 2 (some q15)) 3 (some q19)) 4 (some q23)) 5 (some q27)) 6 (some q31)) 7 (some q35)) 8 (some q39)) 9 (some q43)) 10 (some q47)) 11 (some q51)) 12 (some q55)) 13 (some q59)) 14 (some q63)) 15 (some q67)) 16 (some q71))))))), (q7, .inr (11, [.ref q8, .ref q9, .int 0, .int 0, .int 0, .int 0, .int 0])), (q11, .inr (11, [.ref q12, .ref q13, .int 0, .int 0, .int 0, .int 0, .int 0])), (q15, .inr (11, [.ref q16, .ref q17, .int 0, .int 0, .int 0, .int 0, .int 0])), (q19, .inr (11, [.ref q20, .ref q21, .int 0, .int 0, .int 0, .int 0, .int 0])), (q23, .inr (11, [.ref q24, .ref q25, .int 0, .int 0, .int 0, .int 0, .int 0])), (q27, .inr (11, [.ref q28, .ref q29, .int 0, .int 0, .int 0, .int 0, .int 0])), (q31, .inr (11, [.ref q32, .ref q33, .int 0, .int 0, .int 0, .int 0, .int 0])), (q35, .inr (11, [.ref q36, .ref q37, .int 0, .int 0, .int 0, .int 0, .int 0])), (q39, .inr (11, [.ref q40, .ref q41, .int 0, .int 0, .int 0, .int 0, .int 0])), (q43, .inr (11, [.ref q44, .ref q45, .int 0, .int 0, .int 0, .int 0, .int 0])), (q47, .inr (11, [.ref q48, .ref q49, .int 0, .int 0, .int 0, .int 0, .int 0])), (q51, .inr (11, [.ref q52, .ref q53, .int 0, .int 0, .int 0, .int 0, .int 0])), (q55, .inr (11, [.ref q56, .ref q57, .int 0, .int 0, .int 0, .int 0, .int 0])), (q59, .inr (11, [.ref q60, .ref q61, .int 0, .int 0, .int 0, .int 0, .int 0])), (q63, .inr (11, [.ref q64, .ref q65, .int 0, .int 0, .int 0, .int 0, .int 0])), (q67, .inr (11, [.ref q68, .ref q69, .int 0, .int 0, .int 0, .int 0, .int 0])), (q71, .inr (11, [.ref q72, .ref q73, .int 1, .int 0, .int 1, .int 0, .int 0])), (q72, .inl (a 0, 7, .inl (upd (upd (fun _ => 0) 0 0) 1 1)))]) [25] [0, 1, 2, 3, 4, 5, 6, 7, 8, 9, 10, 11, 12, 13, 14, 15, 16, 17, 18, 19, 20, 21, 22, 23, 24] rfl rfl ⟨rfl, rfl, by decide⟩ (kx_rI E w hl.1 (As := [.ref q1]) (wc := [(q75, .inr (9, [.null, .null, .int 0, .int 0, .int 0, .int 0, .int 0]))]) (c_Reader_init l D a q75 q1 H.size) gc_20 gi_Reader_init [25] rfl rfl rfl rfl rfl ⟨(Nat.le_of_ble_eq_true rfl), (Nat.le_of_ble_eq_true rfl)⟩ rfl (Nat.le_of_ble_eq_true rfl) d_RA_init_101 ⟨(Nat.le_of_ble_eq_true rfl), (Nat.le_of_ble_eq_true rfl)⟩) (fun u H locs hu w => ?_)
    obtain ⟨q76, rfl⟩ := hu
    have w : kW D A s [(h0, .inr (0, [.ref q1, .ref q2, .ref q3, .ref q4, .ref q6, .null, .null, .int 0, .int 0, .int 0, .int 0])), (q1, .inl (a 2, 400, .inl (fun _ => 0))), (q2, .inl (a 2, 128, .inl (fun _ => 0))), (q3, .inl (a 2, 128, .inl (fun _ => 0))), (q4, .inr (1, [.ref q5, .int 0, .int 0])), (q5, .inl (a 0, 8, .inl (fun _ => 0))), (q6, .inl (a 5, 17, .inr (.inr (.inr (.inr (va_up (va_up (va_up (va_up (va_up (va_up (va_up (va_up (va_up (va_up (va_up (va_up (va_up (va_up (va_up (va_up (va_up (fun _ => none) 0 (some q7)) 1 (some q11)) 2 (some q15)) 3 (some q19)) 4 (some q23)) 5 (some q27)) 6 (some q31)) 7 (some q35)) 8 (some q39)) 9 (some q43)) 10 (some q47)) 11 (some q51)) 12 (some q55)) 13 (some q59)) 14 (some q63)) 15 (some q67)) 16 (some q71))))))), (q7, .inr (11, [.ref q8, .ref q9, .int 0, .int 0, .int 0, .int 0, .int 0])), (q11, .inr (11, [.ref q12, .ref q13, .int 0, .int 0, .int 0, .int 0, .int 0])), (q15, .inr (11, [.ref q16, .ref q17, .int 0, .int 0, .int 0, .int 0, .int 0])), (q19, .inr (11, [.ref q20, .ref q21, .int 0, .int 0, .int 0, .int 0, .int 0])), (q23, .inr (11, [.ref q24, .ref q25, .int 0, .int 0, .int 0, .int 0, .int 0])), (q27, .inr (11, [.ref q28, .ref q29, .int 0, .int 0, .int 0, .int 0, .int 0])), (q31, .inr (11, [.ref q32, .ref q33, .int 0, .int 0, .int 0, .int 0, .int 0])), (q35, .inr (11, [.ref q36, .ref q37, .int 0, .int 0, .int 0, .int 0, .int 0])), (q39, .inr (11, [.ref q40, .ref q41, .int 0, .int 0, .int 0, .int 0, .int 0])), (q43, .inr (11, [.ref q44, .ref q45, .int 0, .int 0, .int 0, .int 0, .int 0])), (q47, .inr (11, [.ref q48, .ref q49, .int 0, .int 0, .int 0, .int 0, .int 0])), (q51, .inr (11, [.ref q52, .ref q53, .int 0, .int 0, .int 0, .int 0, .int 0])), (q55, .inr (11, [.ref q56, .ref q57, .int 0, .int 0, .int 0, .int 0, .int 0])), (q59, .inr (11, [.ref q60, .ref q61, .int 0, .int 0, .int 0, .int 0, .int 0])), (q63, .inr (11, [.ref q64, .ref q65, .int 0, .int 0, .int 0, .int 0, .int 0])), (q67, .inr (11, [.ref q68, .ref q69, .int 0, .int 0, .int 0, .int 0, .int 0])), (q71, .inr (11, [.ref q72, .ref q73, .int 1, .int 0, .int 1, .int 0, .int 0])), (q72, .inl (a 0, 7, .inl (upd (upd (fun _ => 0) 0 0) 1 1))), (q75, .inr (9, [.ref q76, .ref q1, .int 0, .int 0, .int 0, .int 0, .int 0]))] H locs := w
    refine kx_putF E w zC_RA hnm 0 rfl 5 (by decide) mw_180 rfl rfl rfl rfl (Nat.le_of_ble_eq_true rfl) d_RA_init_104 (ws' := [(h0, .inr (0, [.ref q1, .ref q2, .ref q3, .ref q4, .ref q6, .ref q75, .null, .int 0, .int 0, .int 0, .int 0])), (q1, .inl (a 2, 400, .inl (fun _ => 0))), (q2, .inl (a 2, 128, .inl (fun _ => 0))), (q3, .inl (a 2, 128, .inl (fun _ => 0))), (q4, .inr (1, [.ref q5, .int 0, .int 0])), (q5, .inl (a 0, 8, .inl (fun _ => 0))), (q6, .inl (a 5, 17, .inr (.inr (.inr (.inr (va_up (va_up (va_up (va_up (va_up (va_up (va_up (va_up (va_up (va_up (va_up (va_up (va_up (va_up (va_up (va_up (va_up (fun _ => none) 0 (some q7)) 1 (some q11)) 2 (some q15)) 3 (some q19)) 4 (some q23)) 5 (some q27)) 6 (some q31)) 7 (some q35)) 8 (some q39)) 9 (some q43)) 10 (some q47)) 11 (some q51)) 12 (some q55)) 13 (some q59)) 14 (some q63)) 15 (some q67)) 16 (some q71))))))), (q7, .inr (11, [.ref q8, .ref q9, .int 0, .int 0, .int 0, .int 0, .int 0])), (q11, .inr (11, [.ref q12, .ref q13, .int 0, .int 0, .int 0, .int 0, .int 0])), (q15, .inr (11, [.ref q16, .ref q17, .int 0, .int 0, .int 0, .int 0, .int 0])), (q19, .inr (11, [.ref q20, .ref q21, .int 0, .int 0, .int 0, .int 0, .int 0])), (q23, .inr (11, [.ref q24, .ref q25, .int 0, .int 0, .int 0, .int 0, .int 0])), (q27, .inr (11, [.ref q28, .ref q29, .int 0, .int 0, .int 0, .int 0, .int 0])), (q31, .inr (11, [.ref q32, .ref q33, .int 0, .int 0, .int 0, .int 0, .int 0])), (q35, .inr (11, [.ref q36, .ref q37, .int 0, .int 0, .int 0, .int 0, .int 0])), (q39, .inr (11, [.ref q40, .ref q41, .int 0, .int 0, .int 0, .int 0, .int 0])), (q43, .inr (11, [.ref q44, .ref q45, .int 0, .int 0, .int 0, .int 0, .int 0])), (q47, .inr (11, [.ref q48, .ref q49, .int 0, .int 0, .int 0, .int 0, .int 0])), (q51, .inr (11, [.ref q52, .ref q53, .int 0, .int 0, .int 0, .int 0, .int 0])), (q55, .inr (11, [.ref q56, .ref q57, .int 0, .int 0, .int 0, .int 0, .int 0])), (q59, .inr (11, [.ref q60, .ref q61, .int 0, .int 0, .int 0, .int 0, .int 0])), (q63, .inr (11, [.ref q64, .ref q65, .int 0, .int 0, .int 0, .int 0, .int 0])), (q67, .inr (11, [.ref q68, .ref q69, .int 0, .int 0, .int 0, .int 0, .int 0])), (q71, .inr (11, [.ref q72, .ref q73, .int 1, .int 0, .int 1, .int 0, .int 0])), (q72, .inl (a 0, 7, .inl (upd (upd (fun _ => 0) 0 0) 1 1))), (q75, .inr (9, [.ref q76, .ref q1, .int 0, .int 0, .int 0, .int 0, .int 0]))]) rfl (fun H locs w => ?_)
    refine lv_aload_n hx hb d_RA_init_107 rfl (lv_at hl 1 rfl) ?_
    refine kx_new E w zC_Desk mw_181 mw_182 mw_183 (fs := [.null, .null, .null, .null, .null, .null, .null, .null, .null, .int 0, .int 0, .int 0]) z0_Desk (Nat.le_of_ble_eq_true rfl) (Nat.le_of_ble_eq_true rfl) d_RA_init_108 (fun q77 H w => ?_)
    have w : kW D A s [(h0, .inr (0, [.ref q1, .ref q2, .ref q3, .ref q4, .ref q6, .ref q75, .null, .int 0, .int 0, .int 0, .int 0])), (q1, .inl (a 2, 400, .inl (fun _ => 0))), (q2, .inl (a 2, 128, .inl (fun _ => 0))), (q3, .inl (a 2, 128, .inl (fun _ => 0))), (q4, .inr (1, [.ref q5, .int 0, .int 0])), (q5, .inl (a 0, 8, .inl (fun _ => 0))), (q6, .inl (a 5, 17, .inr (.inr (.inr (.inr (va_up (va_up (va_up (va_up (va_up (va_up (va_up (va_up (va_up (va_up (va_up (va_up (va_up (va_up (va_up (va_up (va_up (fun _ => none) 0 (some q7)) 1 (some q11)) 2 (some q15)) 3 (some q19)) 4 (some q23)) 5 (some q27)) 6 (some q31)) 7 (some q35)) 8 (some q39)) 9 (some q43)) 10 (some q47)) 11 (some q51)) 12 (some q55)) 13 (some q59)) 14 (some q63)) 15 (some q67)) 16 (some q71))))))), (q7, .inr (11, [.ref q8, .ref q9, .int 0, .int 0, .int 0, .int 0, .int 0])), (q11, .inr (11, [.ref q12, .ref q13, .int 0, .int 0, .int 0, .int 0, .int 0])), (q15, .inr (11, [.ref q16, .ref q17, .int 0, .int 0, .int 0, .int 0, .int 0])), (q19, .inr (11, [.ref q20, .ref q21, .int 0, .int 0, .int 0, .int 0, .int 0])), (q23, .inr (11, [.ref q24, .ref q25, .int 0, .int 0, .int 0, .int 0, .int 0])), (q27, .inr (11, [.ref q28, .ref q29, .int 0, .int 0, .int 0, .int 0, .int 0])), (q31, .inr (11, [.ref q32, .ref q33, .int 0, .int 0, .int 0, .int 0, .int 0])), (q35, .inr (11, [.ref q36, .ref q37, .int 0, .int 0, .int 0, .int 0, .int 0])), (q39, .inr (11, [.ref q40, .ref q41, .int 0, .int 0, .int 0, .int 0, .int 0])), (q43, .inr (11, [.ref q44, .ref q45, .int 0, .int 0, .int 0, .int 0, .int 0])), (q47, .inr (11, [.ref q48, .ref q49, .int 0, .int 0, .int 0, .int 0, .int 0])), (q51, .inr (11, [.ref q52, .ref q53, .int 0, .int 0, .int 0, .int 0, .int 0])), (q55, .inr (11, [.ref q56, .ref q57, .int 0, .int 0, .int 0, .int 0, .int 0])), (q59, .inr (11, [.ref q60, .ref q61, .int 0, .int 0, .int 0, .int 0, .int 0])), (q63, .inr (11, [.ref q64, .ref q65, .int 0, .int 0, .int 0, .int 0, .int 0])), (q67, .inr (11, [.ref q68, .ref q69, .int 0, .int 0, .int 0, .int 0, .int 0])), (q71, .inr (11, [.ref q72, .ref q73, .int 1, .int 0, .int 1, .int 0, .int 0])), (q72, .inl (a 0, 7, .inl (upd (upd (fun _ => 0) 0 0) 1 1))), (q75, .inr (9, [.ref q76, .ref q1, .int 0, .int 0, .int 0, .int 0, .int 0])), (q77, .inr (2, [.null, .null, .null, .null, .null, .null, .null, .null, .null, .int 0, .int 0, .int 0]))] H locs := w
    refine lv_dup hx hb d_RA_init_111 rfl ?_
    refine kx_v E w (wc := [(q77, .inr (2, [.null, .null, .null, .null, .null, .null, .null, .null, .null, .int 0, .int 0, .int 0]))]) (wr := [(h0, .inr (0, [.ref q1, .ref q2, .ref q3, .ref q4, .ref q6, .ref q75, .null, .int 0, .int 0, .int 0, .int 0])), (q1, .inl (a 2, 400, .inl (fun _ => 0))), (q2, .inl (a 2, 128, .inl (fun _ => 0))), (q3, .inl (a 2, 128, .inl (fun _ => 0))), (q4, .inr (1, [.ref q5, .int 0, .int 0])), (q5, .inl (a 0, 8, .inl (fun _ => 0))), (q6, .inl (a 5, 17, .inr (.inr (.inr (.inr (va_up (va_up (va_up (va_up (va_up (va_up (va_up (va_up (va_up (va_up (va_up (va_up (va_up (va_up (va_up (va_up (va_up (fun _ => none) 0 (some q7)) 1 (some q11)) 2 (some q15)) 3 (some q19)) 4 (some q23)) 5 (some q27)) 6 (some q31)) 7 (some q35)) 8 (some q39)) 9 (some q43)) 10 (some q47)) 11 (some q51)) 12 (some q55)) 13 (some q59)) 14 (some q63)) 15 (some q67)) 16 (some q71))))))), (q7, .inr (11, [.ref q8, .ref q9, .int 0, .int 0, .int 0, .int 0, .int 0])), (q11, .inr (11, [.ref q12, .ref q13, .int 0, .int 0, .int 0, .int 0, .int 0])), (q15, .inr (11, [.ref q16, .ref q17, .int 0, .int 0, .int 0, .int 0, .int 0])), (q19, .inr (11, [.ref q20, .ref q21, .int 0, .int 0, .int 0, .int 0, .int 0])), (q23, .inr (11, [.ref q24, .ref q25, .int 0, .int 0, .int 0, .int 0, .int 0])), (q27, .inr (11, [.ref q28, .ref q29, .int 0, .int 0, .int 0, .int 0, .int 0])), (q31, .inr (11, [.ref q32, .ref q33, .int 0, .int 0, .int 0, .int 0, .int 0])), (q35, .inr (11, [.ref q36, .ref q37, .int 0, .int 0, .int 0, .int 0, .int 0])), (q39, .inr (11, [.ref q40, .ref q41, .int 0, .int 0, .int 0, .int 0, .int 0])), (q43, .inr (11, [.ref q44, .ref q45, .int 0, .int 0, .int 0, .int 0, .int 0])), (q47, .inr (11, [.ref q48, .ref q49, .int 0, .int 0, .int 0, .int 0, .int 0])), (q51, .inr (11, [.ref q52, .ref q53, .int 0, .int 0, .int 0, .int 0, .int 0])), (q55, .inr (11, [.ref q56, .ref q57, .int 0, .int 0, .int 0, .int 0, .int 0])), (q59, .inr (11, [.ref q60, .ref q61, .int 0, .int 0, .int 0, .int 0, .int 0])), (q63, .inr (11, [.ref q64, .ref q65, .int 0, .int 0, .int 0, .int 0, .int 0])), (q67, .inr (11, [.ref q68, .ref q69, .int 0, .int 0, .int 0, .int 0, .int 0])), (q71, .inr (11, [.ref q72, .ref q73, .int 1, .int 0, .int 1, .int 0, .int 0])), (q72, .inl (a 0, 7, .inl (upd (upd (fun _ => 0) 0 0) 1 1))), (q75, .inr (9, [.ref q76, .ref q1, .int 0, .int 0, .int 0, .int 0, .int 0]))]) [26] [0, 1, 2, 3, 4, 5, 6, 7, 8, 9, 10, 11, 12, 13, 14, 15, 16, 17, 18, 19, 20, 21, 22, 23, 24, 25] rfl rfl ⟨rfl, rfl, by decide⟩ (kx_rI E w hl.1 (As := []) (wc := [(q77, .inr (2, [.null, .null, .null, .null, .null, .null, .null, .null, .null, .int 0, .int 0, .int 0]))]) (c_Desk_init l D a q77 H.size) gc_21 gi_Desk_init [26] rfl rfl rfl rfl rfl ⟨(Nat.le_of_ble_eq_true rfl), (Nat.le_of_ble_eq_true rfl)⟩ rfl (Nat.le_of_ble_eq_true rfl) d_RA_init_112 ⟨(Nat.le_of_ble_eq_true rfl), (Nat.le_of_ble_eq_true rfl)⟩) (fun u H locs hu w => ?_)
    obtain ⟨q78, q79, q80, q81, q82, q83, q84, q85, q86, q87, q88, q89, q90, q91, q92, q93, q94, q95, q96, q97, q98, rfl⟩ := hu
    have w : kW D A s [(h0, .inr (0, [.ref q1, .ref q2, .ref q3, .ref q4, .ref q6, .ref q75, .null, .int 0, .int 0, .int 0, .int 0])), (q1, .inl (a 2, 400, .inl (fun _ => 0))), (q2, .inl (a 2, 128, .inl (fun _ => 0))), (q3, .inl (a 2, 128, .inl (fun _ => 0))), (q4, .inr (1, [.ref q5, .int 0, .int 0])), (q5, .inl (a 0, 8, .inl (fun _ => 0))), (q6, .inl (a 5, 17, .inr (.inr (.inr (.inr (va_up (va_up (va_up (va_up (va_up (va_up (va_up (va_up (va_up (va_up (va_up (va_up (va_up (va_up (va_up (va_up (va_up (fun _ => none) 0 (some q7)) 1 (some q11)) 2 (some q15)) 3 (some q19)) 4 (some q23)) 5 (some q27)) 6 (some q31)) 7 (some q35)) 8 (some q39)) 9 (some q43)) 10 (some q47)) 11 (some q51)) 12 (some q55)) 13 (some q59)) 14 (some q63)) 15 (some q67)) 16 (some q71))))))), (q7, .inr (11, [.ref q8, .ref q9, .int 0, .int 0, .int 0, .int 0, .int 0])), (q11, .inr (11, [.ref q12, .ref q13, .int 0, .int 0, .int 0, .int 0, .int 0])), (q15, .inr (11, [.ref q16, .ref q17, .int 0, .int 0, .int 0, .int 0, .int 0])), (q19, .inr (11, [.ref q20, .ref q21, .int 0, .int 0, .int 0, .int 0, .int 0])), (q23, .inr (11, [.ref q24, .ref q25, .int 0, .int 0, .int 0, .int 0, .int 0])), (q27, .inr (11, [.ref q28, .ref q29, .int 0, .int 0, .int 0, .int 0, .int 0])), (q31, .inr (11, [.ref q32, .ref q33, .int 0, .int 0, .int 0, .int 0, .int 0])), (q35, .inr (11, [.ref q36, .ref q37, .int 0, .int 0, .int 0, .int 0, .int 0])), (q39, .inr (11, [.ref q40, .ref q41, .int 0, .int 0, .int 0, .int 0, .int 0])), (q43, .inr (11, [.ref q44, .ref q45, .int 0, .int 0, .int 0, .int 0, .int 0])), (q47, .inr (11, [.ref q48, .ref q49, .int 0, .int 0, .int 0, .int 0, .int 0])), (q51, .inr (11, [.ref q52, .ref q53, .int 0, .int 0, .int 0, .int 0, .int 0])), (q55, .inr (11, [.ref q56, .ref q57, .int 0, .int 0, .int 0, .int 0, .int 0])), (q59, .inr (11, [.ref q60, .ref q61, .int 0, .int 0, .int 0, .int 0, .int 0])), (q63, .inr (11, [.ref q64, .ref q65, .int 0, .int 0, .int 0, .int 0, .int 0])), (q67, .inr (11, [.ref q68, .ref q69, .int 0, .int 0, .int 0, .int 0, .int 0])), (q71, .inr (11, [.ref q72, .ref q73, .int 1, .int 0, .int 1, .int 0, .int 0])), (q72, .inl (a 0, 7, .inl (upd (upd (fun _ => 0) 0 0) 1 1))), (q75, .inr (9, [.ref q76, .ref q1, .int 0, .int 0, .int 0, .int 0, .int 0])), (q77, .inr (2, [.ref q78, .ref q79, .ref q80, .ref q81, .ref q82, .ref q83, .ref q84, .ref q85, .ref q86, .int 0, .int 0, .int 0])), (q86, .inr (5, [.ref q87, .ref q88, .ref q89, .ref q90, .ref q91, .ref q92, .ref q93, .ref q94, .ref q95, .ref q96, .ref q97, .null, .null, .int 0, .int 0, .int 0, .int 0])), (q96, .inr (1, [.ref q98, .int 0, .int 0])), (q98, .inl (a 0, 72, .inl (fun _ => 0)))] H locs := w
    refine kx_putF E w zC_RA hnm 0 rfl 6 (by decide) mw_187 rfl rfl rfl rfl (Nat.le_of_ble_eq_true rfl) d_RA_init_115 (ws' := [(h0, .inr (0, [.ref q1, .ref q2, .ref q3, .ref q4, .ref q6, .ref q75, .ref q77, .int 0, .int 0, .int 0, .int 0])), (q1, .inl (a 2, 400, .inl (fun _ => 0))), (q2, .inl (a 2, 128, .inl (fun _ => 0))), (q3, .inl (a 2, 128, .inl (fun _ => 0))), (q4, .inr (1, [.ref q5, .int 0, .int 0])), (q5, .inl (a 0, 8, .inl (fun _ => 0))), (q6, .inl (a 5, 17, .inr (.inr (.inr (.inr (va_up (va_up (va_up (va_up (va_up (va_up (va_up (va_up (va_up (va_up (va_up (va_up (va_up (va_up (va_up (va_up (va_up (fun _ => none) 0 (some q7)) 1 (some q11)) 2 (some q15)) 3 (some q19)) 4 (some q23)) 5 (some q27)) 6 (some q31)) 7 (some q35)) 8 (some q39)) 9 (some q43)) 10 (some q47)) 11 (some q51)) 12 (some q55)) 13 (some q59)) 14 (some q63)) 15 (some q67)) 16 (some q71))))))), (q7, .inr (11, [.ref q8, .ref q9, .int 0, .int 0, .int 0, .int 0, .int 0])), (q11, .inr (11, [.ref q12, .ref q13, .int 0, .int 0, .int 0, .int 0, .int 0])), (q15, .inr (11, [.ref q16, .ref q17, .int 0, .int 0, .int 0, .int 0, .int 0])), (q19, .inr (11, [.ref q20, .ref q21, .int 0, .int 0, .int 0, .int 0, .int 0])), (q23, .inr (11, [.ref q24, .ref q25, .int 0, .int 0, .int 0, .int 0, .int 0])), (q27, .inr (11, [.ref q28, .ref q29, .int 0, .int 0, .int 0, .int 0, .int 0])), (q31, .inr (11, [.ref q32, .ref q33, .int 0, .int 0, .int 0, .int 0, .int 0])), (q35, .inr (11, [.ref q36, .ref q37, .int 0, .int 0, .int 0, .int 0, .int 0])), (q39, .inr (11, [.ref q40, .ref q41, .int 0, .int 0, .int 0, .int 0, .int 0])), (q43, .inr (11, [.ref q44, .ref q45, .int 0, .int 0, .int 0, .int 0, .int 0])), (q47, .inr (11, [.ref q48, .ref q49, .int 0, .int 0, .int 0, .int 0, .int 0])), (q51, .inr (11, [.ref q52, .ref q53, .int 0, .int 0, .int 0, .int 0, .int 0])), (q55, .inr (11, [.ref q56, .ref q57, .int 0, .int 0, .int 0, .int 0, .int 0])), (q59, .inr (11, [.ref q60, .ref q61, .int 0, .int 0, .int 0, .int 0, .int 0])), (q63, .inr (11, [.ref q64, .ref q65, .int 0, .int 0, .int 0, .int 0, .int 0])), (q67, .inr (11, [.ref q68, .ref q69, .int 0, .int 0, .int 0, .int 0, .int 0])), (q71, .inr (11, [.ref q72, .ref q73, .int 1, .int 0, .int 1, .int 0, .int 0])), (q72, .inl (a 0, 7, .inl (upd (upd (fun _ => 0) 0 0) 1 1))), (q75, .inr (9, [.ref q76, .ref q1, .int 0, .int 0, .int 0, .int 0, .int 0])), (q77, .inr (2, [.ref q78, .ref q79, .ref q80, .ref q81, .ref q82, .ref q83, .ref q84, .ref q85, .ref q86, .int 0, .int 0, .int 0])), (q86, .inr (5, [.ref q87, .ref q88, .ref q89, .ref q90, .ref q91, .ref q92, .ref q93, .ref q94, .ref q95, .ref q96, .ref q97, .null, .null, .int 0, .int 0, .int 0, .int 0])), (q96, .inr (1, [.ref q98, .int 0, .int 0])), (q98, .inl (a 0, 72, .inl (fun _ => 0)))]) rfl (fun H locs w => ?_)
    refine lv_aload_n hx hb d_RA_init_118 rfl (lv_at hl 1 rfl) ?_
    refine lv_iconst (v := (-1)) hx hb d_RA_init_119 (by decide) ?_
    refine kx_put E w zC_RA 0 rfl 9 (by decide) mw_188 rfl rfl rfl (Nat.le_of_ble_eq_true rfl) d_RA_init_120 (ws' := [(h0, .inr (0, [.ref q1, .ref q2, .ref q3, .ref q4, .ref q6, .ref q75, .ref q77, .int 0, .int 0, .int (-1), .int 0])), (q1, .inl (a 2, 400, .inl (fun _ => 0))), (q2, .inl (a 2, 128, .inl (fun _ => 0))), (q3, .inl (a 2, 128, .inl (fun _ => 0))), (q4, .inr (1, [.ref q5, .int 0, .int 0])), (q5, .inl (a 0, 8, .inl (fun _ => 0))), (q6, .inl (a 5, 17, .inr (.inr (.inr (.inr (va_up (va_up (va_up (va_up (va_up (va_up (va_up (va_up (va_up (va_up (va_up (va_up (va_up (va_up (va_up (va_up (va_up (fun _ => none) 0 (some q7)) 1 (some q11)) 2 (some q15)) 3 (some q19)) 4 (some q23)) 5 (some q27)) 6 (some q31)) 7 (some q35)) 8 (some q39)) 9 (some q43)) 10 (some q47)) 11 (some q51)) 12 (some q55)) 13 (some q59)) 14 (some q63)) 15 (some q67)) 16 (some q71))))))), (q7, .inr (11, [.ref q8, .ref q9, .int 0, .int 0, .int 0, .int 0, .int 0])), (q11, .inr (11, [.ref q12, .ref q13, .int 0, .int 0, .int 0, .int 0, .int 0])), (q15, .inr (11, [.ref q16, .ref q17, .int 0, .int 0, .int 0, .int 0, .int 0])), (q19, .inr (11, [.ref q20, .ref q21, .int 0, .int 0, .int 0, .int 0, .int 0])), (q23, .inr (11, [.ref q24, .ref q25, .int 0, .int 0, .int 0, .int 0, .int 0])), (q27, .inr (11, [.ref q28, .ref q29, .int 0, .int 0, .int 0, .int 0, .int 0])), (q31, .inr (11, [.ref q32, .ref q33, .int 0, .int 0, .int 0, .int 0, .int 0])), (q35, .inr (11, [.ref q36, .ref q37, .int 0, .int 0, .int 0, .int 0, .int 0])), (q39, .inr (11, [.ref q40, .ref q41, .int 0, .int 0, .int 0, .int 0, .int 0])), (q43, .inr (11, [.ref q44, .ref q45, .int 0, .int 0, .int 0, .int 0, .int 0])), (q47, .inr (11, [.ref q48, .ref q49, .int 0, .int 0, .int 0, .int 0, .int 0])), (q51, .inr (11, [.ref q52, .ref q53, .int 0, .int 0, .int 0, .int 0, .int 0])), (q55, .inr (11, [.ref q56, .ref q57, .int 0, .int 0, .int 0, .int 0, .int 0])), (q59, .inr (11, [.ref q60, .ref q61, .int 0, .int 0, .int 0, .int 0, .int 0])), (q63, .inr (11, [.ref q64, .ref q65, .int 0, .int 0, .int 0, .int 0, .int 0])), (q67, .inr (11, [.ref q68, .ref q69, .int 0, .int 0, .int 0, .int 0, .int 0])), (q71, .inr (11, [.ref q72, .ref q73, .int 1, .int 0, .int 1, .int 0, .int 0])), (q72, .inl (a 0, 7, .inl (upd (upd (fun _ => 0) 0 0) 1 1))), (q75, .inr (9, [.ref q76, .ref q1, .int 0, .int 0, .int 0, .int 0, .int 0])), (q77, .inr (2, [.ref q78, .ref q79, .ref q80, .ref q81, .ref q82, .ref q83, .ref q84, .ref q85, .ref q86, .int 0, .int 0, .int 0])), (q86, .inr (5, [.ref q87, .ref q88, .ref q89, .ref q90, .ref q91, .ref q92, .ref q93, .ref q94, .ref q95, .ref q96, .ref q97, .null, .null, .int 0, .int 0, .int 0, .int 0])), (q96, .inr (1, [.ref q98, .int 0, .int 0])), (q98, .inl (a 0, 72, .inl (fun _ => 0)))]) rfl (fun H locs w => ?_)
    refine W.widen (k := 571) (n := 13046) (Nat.le_of_ble_eq_true rfl) (Nat.le_of_ble_eq_true rfl) ?_
    exact kx_vret E w hr hlk d_RA_init_123 ⟨q1, q2, q3, q4, q6, q75, q77, q5, q7, q11, q15, q19, q23, q27, q31, q35, q39, q43, q47, q51, q55, q59, q63, q67, q71, q8, q9, q12, q13, q16, q17, q20, q21, q24, q25, q28, q29, q32, q33, q36, q37, q40, q41, q44, q45, q48, q49, q52, q53, q56, q57, q60, q61, q64, q65, q68, q69, q72, q73, q76, q78, q79, q80, q81, q82, q83, q84, q85, q86, q87, q88, q89, q90, q91, q92, q93, q94, q95, q96, q97, q98, rfl⟩)
end
