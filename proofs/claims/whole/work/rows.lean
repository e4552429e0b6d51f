section
-- ===== PART A: goes FIRST, ahead of the names: the tables' words, and 'selects' of the private methods out of them =====
/-- a private method of a class that the tables say can be made, by its rows of tables_1 -/
def lw_okq (q : MethodName × Nat) : Prop := (q.1.cls ≠ "java/lang/invoke/MethodHandle" ∧ q.1.cls ≠ "java/lang/invoke/VarHandle") ∧ Cond.instantiable q.1.cls q.2 ∈ tables_1 ∧ Cond.privateMethod q.1 ∈ tables_1 ∧ Cond.instanceMethod q.1 ∈ tables_1
theorem lw_p0 : lw_okq (⟨"java/lang/Throwable", "fillInStackTrace", "(I)Ljava/lang/Throwable;"⟩, 6) := ⟨⟨by decide +kernel, by decide +kernel⟩, List.mem_of_getElem? (i := 272) (by decide +kernel), List.mem_of_getElem? (i := 270) (by decide +kernel), List.mem_of_getElem? (i := 271) (by decide +kernel)⟩
theorem lw_p1 : lw_okq (⟨"CodeMover", "requireBlock", "(I)V"⟩, 3) := ⟨⟨by decide +kernel, by decide +kernel⟩, List.mem_of_getElem? (i := 13) (by decide +kernel), List.mem_of_getElem? (i := 342) (by decide +kernel), List.mem_of_getElem? (i := 343) (by decide +kernel)⟩
theorem lw_p2 : lw_okq (⟨"CodeMover", "requireExpression", "(I)V"⟩, 3) := ⟨⟨by decide +kernel, by decide +kernel⟩, List.mem_of_getElem? (i := 13) (by decide +kernel), List.mem_of_getElem? (i := 381) (by decide +kernel), List.mem_of_getElem? (i := 382) (by decide +kernel)⟩
theorem lw_p3 : lw_okq (⟨"CodeMover", "requireRoom", "(I)V"⟩, 3) := ⟨⟨by decide +kernel, by decide +kernel⟩, List.mem_of_getElem? (i := 13) (by decide +kernel), List.mem_of_getElem? (i := 386) (by decide +kernel), List.mem_of_getElem? (i := 387) (by decide +kernel)⟩
theorem lw_p4 : lw_okq (⟨"CodeMover", "requireEdge", "(I)V"⟩, 3) := ⟨⟨by decide +kernel, by decide +kernel⟩, List.mem_of_getElem? (i := 13) (by decide +kernel), List.mem_of_getElem? (i := 445) (by decide +kernel), List.mem_of_getElem? (i := 446) (by decide +kernel)⟩
theorem lw_p5 : lw_okq (⟨"CodeMover$Sets", "findSetsOfBlock", "(I)V"⟩, 13) := ⟨⟨by decide +kernel, by decide +kernel⟩, List.mem_of_getElem? (i := 84) (by decide +kernel), List.mem_of_getElem? (i := 462) (by decide +kernel), List.mem_of_getElem? (i := 463) (by decide +kernel)⟩
theorem lw_p6 : lw_okq (⟨"CodeMover$Sets", "findNeeded", "()V"⟩, 13) := ⟨⟨by decide +kernel, by decide +kernel⟩, List.mem_of_getElem? (i := 84) (by decide +kernel), List.mem_of_getElem? (i := 471) (by decide +kernel), List.mem_of_getElem? (i := 472) (by decide +kernel)⟩
theorem lw_p7 : lw_okq (⟨"CodeMover$Sets", "setNeededAtEnd", "(II)V"⟩, 13) := ⟨⟨by decide +kernel, by decide +kernel⟩, List.mem_of_getElem? (i := 84) (by decide +kernel), List.mem_of_getElem? (i := 475) (by decide +kernel), List.mem_of_getElem? (i := 476) (by decide +kernel)⟩
theorem lw_p8 : lw_okq (⟨"CodeMover$Sets", "shrinkNeeded", "()Z"⟩, 13) := ⟨⟨by decide +kernel, by decide +kernel⟩, List.mem_of_getElem? (i := 84) (by decide +kernel), List.mem_of_getElem? (i := 479) (by decide +kernel), List.mem_of_getElem? (i := 480) (by decide +kernel)⟩
theorem lw_p9 : lw_okq (⟨"CodeMover$Sets", "findThere", "()V"⟩, 13) := ⟨⟨by decide +kernel, by decide +kernel⟩, List.mem_of_getElem? (i := 84) (by decide +kernel), List.mem_of_getElem? (i := 483) (by decide +kernel), List.mem_of_getElem? (i := 484) (by decide +kernel)⟩
theorem lw_p10 : lw_okq (⟨"CodeMover$Sets", "fillWhereEdgesLead", "([I)V"⟩, 13) := ⟨⟨by decide +kernel, by decide +kernel⟩, List.mem_of_getElem? (i := 84) (by decide +kernel), List.mem_of_getElem? (i := 487) (by decide +kernel), List.mem_of_getElem? (i := 488) (by decide +kernel)⟩
theorem lw_p11 : lw_okq (⟨"CodeMover$Sets", "setThereAtStart", "(II)V"⟩, 13) := ⟨⟨by decide +kernel, by decide +kernel⟩, List.mem_of_getElem? (i := 84) (by decide +kernel), List.mem_of_getElem? (i := 491) (by decide +kernel), List.mem_of_getElem? (i := 492) (by decide +kernel)⟩
theorem lw_p12 : lw_okq (⟨"CodeMover$Sets", "shrinkThere", "()Z"⟩, 13) := ⟨⟨by decide +kernel, by decide +kernel⟩, List.mem_of_getElem? (i := 84) (by decide +kernel), List.mem_of_getElem? (i := 495) (by decide +kernel), List.mem_of_getElem? (i := 496) (by decide +kernel)⟩
theorem lw_p13 : lw_okq (⟨"CodeMover$Sets", "findEarliest", "()V"⟩, 13) := ⟨⟨by decide +kernel, by decide +kernel⟩, List.mem_of_getElem? (i := 84) (by decide +kernel), List.mem_of_getElem? (i := 499) (by decide +kernel), List.mem_of_getElem? (i := 500) (by decide +kernel)⟩
theorem lw_p14 : lw_okq (⟨"CodeMover$Sets", "findDelayed", "()V"⟩, 13) := ⟨⟨by decide +kernel, by decide +kernel⟩, List.mem_of_getElem? (i := 84) (by decide +kernel), List.mem_of_getElem? (i := 503) (by decide +kernel), List.mem_of_getElem? (i := 504) (by decide +kernel)⟩
theorem lw_p15 : lw_okq (⟨"CodeMover$Sets", "shrinkDelayed", "()Z"⟩, 13) := ⟨⟨by decide +kernel, by decide +kernel⟩, List.mem_of_getElem? (i := 84) (by decide +kernel), List.mem_of_getElem? (i := 507) (by decide +kernel), List.mem_of_getElem? (i := 508) (by decide +kernel)⟩
def lw_privs_1 : List (MethodName × Nat) := [(⟨"java/lang/Throwable", "fillInStackTrace", "(I)Ljava/lang/Throwable;"⟩, 6), (⟨"CodeMover", "requireBlock", "(I)V"⟩, 3), (⟨"CodeMover", "requireExpression", "(I)V"⟩, 3), (⟨"CodeMover", "requireRoom", "(I)V"⟩, 3), (⟨"CodeMover", "requireEdge", "(I)V"⟩, 3), (⟨"CodeMover$Sets", "findSetsOfBlock", "(I)V"⟩, 13), (⟨"CodeMover$Sets", "findNeeded", "()V"⟩, 13), (⟨"CodeMover$Sets", "setNeededAtEnd", "(II)V"⟩, 13), (⟨"CodeMover$Sets", "shrinkNeeded", "()Z"⟩, 13), (⟨"CodeMover$Sets", "findThere", "()V"⟩, 13), (⟨"CodeMover$Sets", "fillWhereEdgesLead", "([I)V"⟩, 13), (⟨"CodeMover$Sets", "setThereAtStart", "(II)V"⟩, 13), (⟨"CodeMover$Sets", "shrinkThere", "()Z"⟩, 13), (⟨"CodeMover$Sets", "findEarliest", "()V"⟩, 13), (⟨"CodeMover$Sets", "findDelayed", "()V"⟩, 13), (⟨"CodeMover$Sets", "shrinkDelayed", "()Z"⟩, 13)]
theorem lw_r1 : ∀ q ∈ lw_privs_1, lw_okq q := List.forall_mem_cons.mpr ⟨lw_p0, List.forall_mem_cons.mpr ⟨lw_p1, List.forall_mem_cons.mpr ⟨lw_p2, List.forall_mem_cons.mpr ⟨lw_p3, List.forall_mem_cons.mpr ⟨lw_p4, List.forall_mem_cons.mpr ⟨lw_p5, List.forall_mem_cons.mpr ⟨lw_p6, List.forall_mem_cons.mpr ⟨lw_p7, List.forall_mem_cons.mpr ⟨lw_p8, List.forall_mem_cons.mpr ⟨lw_p9, List.forall_mem_cons.mpr ⟨lw_p10, List.forall_mem_cons.mpr ⟨lw_p11, List.forall_mem_cons.mpr ⟨lw_p12, List.forall_mem_cons.mpr ⟨lw_p13, List.forall_mem_cons.mpr ⟨lw_p14, List.forall_mem_cons.mpr ⟨lw_p15, fun _ h => absurd h List.not_mem_nil⟩⟩⟩⟩⟩⟩⟩⟩⟩⟩⟩⟩⟩⟩⟩⟩
theorem lw_p16 : lw_okq (⟨"CodeMover$Sets", "findDelayedOnEdge", "(I)I"⟩, 13) := ⟨⟨by decide +kernel, by decide +kernel⟩, List.mem_of_getElem? (i := 84) (by decide +kernel), List.mem_of_getElem? (i := 511) (by decide +kernel), List.mem_of_getElem? (i := 512) (by decide +kernel)⟩
theorem lw_p17 : lw_okq (⟨"CodeMover$Sets", "findInsertionsAndDeletions", "()V"⟩, 13) := ⟨⟨by decide +kernel, by decide +kernel⟩, List.mem_of_getElem? (i := 84) (by decide +kernel), List.mem_of_getElem? (i := 515) (by decide +kernel), List.mem_of_getElem? (i := 516) (by decide +kernel)⟩
theorem lw_p18 : lw_okq (⟨"CodeMover", "deleteComputations", "()V"⟩, 3) := ⟨⟨by decide +kernel, by decide +kernel⟩, List.mem_of_getElem? (i := 13) (by decide +kernel), List.mem_of_getElem? (i := 594) (by decide +kernel), List.mem_of_getElem? (i := 595) (by decide +kernel)⟩
theorem lw_p19 : lw_okq (⟨"CodeMover", "insertComputations", "()V"⟩, 3) := ⟨⟨by decide +kernel, by decide +kernel⟩, List.mem_of_getElem? (i := 13) (by decide +kernel), List.mem_of_getElem? (i := 602) (by decide +kernel), List.mem_of_getElem? (i := 603) (by decide +kernel)⟩
theorem lw_p20 : lw_okq (⟨"CodeMover$Journey", "begin", "()V"⟩, 9) := ⟨⟨by decide +kernel, by decide +kernel⟩, List.mem_of_getElem? (i := 142) (by decide +kernel), List.mem_of_getElem? (i := 625) (by decide +kernel), List.mem_of_getElem? (i := 626) (by decide +kernel)⟩
theorem lw_p21 : lw_okq (⟨"CodeMover$Journey", "goThroughBlock", "(I)V"⟩, 9) := ⟨⟨by decide +kernel, by decide +kernel⟩, List.mem_of_getElem? (i := 142) (by decide +kernel), List.mem_of_getElem? (i := 629) (by decide +kernel), List.mem_of_getElem? (i := 630) (by decide +kernel)⟩
theorem lw_p22 : lw_okq (⟨"CodeMover$Journey", "hold", "(I)V"⟩, 9) := ⟨⟨by decide +kernel, by decide +kernel⟩, List.mem_of_getElem? (i := 142) (by decide +kernel), List.mem_of_getElem? (i := 634) (by decide +kernel), List.mem_of_getElem? (i := 635) (by decide +kernel)⟩
theorem lw_p23 : lw_okq (⟨"CodeMover$Journey", "letGo", "(I)V"⟩, 9) := ⟨⟨by decide +kernel, by decide +kernel⟩, List.mem_of_getElem? (i := 142) (by decide +kernel), List.mem_of_getElem? (i := 638) (by decide +kernel), List.mem_of_getElem? (i := 639) (by decide +kernel)⟩
theorem lw_p24 : lw_okq (⟨"CodeMover$Journey", "blockBehind", "(IJ)I"⟩, 9) := ⟨⟨by decide +kernel, by decide +kernel⟩, List.mem_of_getElem? (i := 142) (by decide +kernel), List.mem_of_getElem? (i := 642) (by decide +kernel), List.mem_of_getElem? (i := 643) (by decide +kernel)⟩
theorem lw_p25 : lw_okq (⟨"CodeMoverModel", "no", "(I)I"⟩, 18) := ⟨⟨by decide +kernel, by decide +kernel⟩, List.mem_of_getElem? (i := 660) (by decide +kernel), List.mem_of_getElem? (i := 729) (by decide +kernel), List.mem_of_getElem? (i := 730) (by decide +kernel)⟩
theorem lw_p26 : lw_okq (⟨"CodeMoverModel", "isBlock", "(I)Z"⟩, 18) := ⟨⟨by decide +kernel, by decide +kernel⟩, List.mem_of_getElem? (i := 660) (by decide +kernel), List.mem_of_getElem? (i := 741) (by decide +kernel), List.mem_of_getElem? (i := 742) (by decide +kernel)⟩
theorem lw_p27 : lw_okq (⟨"CodeMoverModel", "exits", "(I)I"⟩, 18) := ⟨⟨by decide +kernel, by decide +kernel⟩, List.mem_of_getElem? (i := 660) (by decide +kernel), List.mem_of_getElem? (i := 745) (by decide +kernel), List.mem_of_getElem? (i := 746) (by decide +kernel)⟩
theorem lw_p28 : lw_okq (⟨"CodeMoverModel", "isExpression", "(I)Z"⟩, 18) := ⟨⟨by decide +kernel, by decide +kernel⟩, List.mem_of_getElem? (i := 660) (by decide +kernel), List.mem_of_getElem? (i := 753) (by decide +kernel), List.mem_of_getElem? (i := 754) (by decide +kernel)⟩
theorem lw_p29 : lw_okq (⟨"CodeMoverModel", "append", "(II)I"⟩, 18) := ⟨⟨by decide +kernel, by decide +kernel⟩, List.mem_of_getElem? (i := 660) (by decide +kernel), List.mem_of_getElem? (i := 757) (by decide +kernel), List.mem_of_getElem? (i := 758) (by decide +kernel)⟩
theorem lw_p30 : lw_okq (⟨"CodeMoverModel", "at", "(II)I"⟩, 18) := ⟨⟨by decide +kernel, by decide +kernel⟩, List.mem_of_getElem? (i := 660) (by decide +kernel), List.mem_of_getElem? (i := 789) (by decide +kernel), List.mem_of_getElem? (i := 790) (by decide +kernel)⟩
theorem lw_p31 : lw_okq (⟨"CodeMoverModel", "isEdge", "(I)Z"⟩, 18) := ⟨⟨by decide +kernel, by decide +kernel⟩, List.mem_of_getElem? (i := 660) (by decide +kernel), List.mem_of_getElem? (i := 797) (by decide +kernel), List.mem_of_getElem? (i := 798) (by decide +kernel)⟩
def lw_privs_2 : List (MethodName × Nat) := [(⟨"CodeMover$Sets", "findDelayedOnEdge", "(I)I"⟩, 13), (⟨"CodeMover$Sets", "findInsertionsAndDeletions", "()V"⟩, 13), (⟨"CodeMover", "deleteComputations", "()V"⟩, 3), (⟨"CodeMover", "insertComputations", "()V"⟩, 3), (⟨"CodeMover$Journey", "begin", "()V"⟩, 9), (⟨"CodeMover$Journey", "goThroughBlock", "(I)V"⟩, 9), (⟨"CodeMover$Journey", "hold", "(I)V"⟩, 9), (⟨"CodeMover$Journey", "letGo", "(I)V"⟩, 9), (⟨"CodeMover$Journey", "blockBehind", "(IJ)I"⟩, 9), (⟨"CodeMoverModel", "no", "(I)I"⟩, 18), (⟨"CodeMoverModel", "isBlock", "(I)Z"⟩, 18), (⟨"CodeMoverModel", "exits", "(I)I"⟩, 18), (⟨"CodeMoverModel", "isExpression", "(I)Z"⟩, 18), (⟨"CodeMoverModel", "append", "(II)I"⟩, 18), (⟨"CodeMoverModel", "at", "(II)I"⟩, 18), (⟨"CodeMoverModel", "isEdge", "(I)Z"⟩, 18)]
theorem lw_r2 : ∀ q ∈ lw_privs_2, lw_okq q := List.forall_mem_cons.mpr ⟨lw_p16, List.forall_mem_cons.mpr ⟨lw_p17, List.forall_mem_cons.mpr ⟨lw_p18, List.forall_mem_cons.mpr ⟨lw_p19, List.forall_mem_cons.mpr ⟨lw_p20, List.forall_mem_cons.mpr ⟨lw_p21, List.forall_mem_cons.mpr ⟨lw_p22, List.forall_mem_cons.mpr ⟨lw_p23, List.forall_mem_cons.mpr ⟨lw_p24, List.forall_mem_cons.mpr ⟨lw_p25, List.forall_mem_cons.mpr ⟨lw_p26, List.forall_mem_cons.mpr ⟨lw_p27, List.forall_mem_cons.mpr ⟨lw_p28, List.forall_mem_cons.mpr ⟨lw_p29, List.forall_mem_cons.mpr ⟨lw_p30, List.forall_mem_cons.mpr ⟨lw_p31, fun _ h => absurd h List.not_mem_nil⟩⟩⟩⟩⟩⟩⟩⟩⟩⟩⟩⟩⟩⟩⟩⟩
theorem lw_p32 : lw_okq (⟨"CodeMoverModel", "asks", "(Z)Z"⟩, 18) := ⟨⟨by decide +kernel, by decide +kernel⟩, List.mem_of_getElem? (i := 660) (by decide +kernel), List.mem_of_getElem? (i := 805) (by decide +kernel), List.mem_of_getElem? (i := 806) (by decide +kernel)⟩
theorem lw_p33 : lw_okq (⟨"CodeMoverModel", "find", "()V"⟩, 18) := ⟨⟨by decide +kernel, by decide +kernel⟩, List.mem_of_getElem? (i := 660) (by decide +kernel), List.mem_of_getElem? (i := 809) (by decide +kernel), List.mem_of_getElem? (i := 810) (by decide +kernel)⟩
theorem lw_p34 : lw_okq (⟨"CodeMoverModel", "all", "()I"⟩, 18) := ⟨⟨by decide +kernel, by decide +kernel⟩, List.mem_of_getElem? (i := 660) (by decide +kernel), List.mem_of_getElem? (i := 813) (by decide +kernel), List.mem_of_getElem? (i := 814) (by decide +kernel)⟩
theorem lw_p35 : lw_okq (⟨"CodeMoverModel", "findNeeded", "(I)Z"⟩, 18) := ⟨⟨by decide +kernel, by decide +kernel⟩, List.mem_of_getElem? (i := 660) (by decide +kernel), List.mem_of_getElem? (i := 817) (by decide +kernel), List.mem_of_getElem? (i := 818) (by decide +kernel)⟩
theorem lw_p36 : lw_okq (⟨"CodeMoverModel", "earlyIn", "(I)I"⟩, 18) := ⟨⟨by decide +kernel, by decide +kernel⟩, List.mem_of_getElem? (i := 660) (by decide +kernel), List.mem_of_getElem? (i := 821) (by decide +kernel), List.mem_of_getElem? (i := 822) (by decide +kernel)⟩
theorem lw_p37 : lw_okq (⟨"CodeMoverModel", "dependent", "(I)I"⟩, 18) := ⟨⟨by decide +kernel, by decide +kernel⟩, List.mem_of_getElem? (i := 660) (by decide +kernel), List.mem_of_getElem? (i := 825) (by decide +kernel), List.mem_of_getElem? (i := 826) (by decide +kernel)⟩
theorem lw_p38 : lw_okq (⟨"CodeMoverModel", "keptBy", "(I)I"⟩, 18) := ⟨⟨by decide +kernel, by decide +kernel⟩, List.mem_of_getElem? (i := 660) (by decide +kernel), List.mem_of_getElem? (i := 829) (by decide +kernel), List.mem_of_getElem? (i := 830) (by decide +kernel)⟩
theorem lw_p39 : lw_okq (⟨"CodeMoverModel", "findThere", "(I)Z"⟩, 18) := ⟨⟨by decide +kernel, by decide +kernel⟩, List.mem_of_getElem? (i := 660) (by decide +kernel), List.mem_of_getElem? (i := 833) (by decide +kernel), List.mem_of_getElem? (i := 834) (by decide +kernel)⟩
theorem lw_p40 : lw_okq (⟨"CodeMoverModel", "lateIn", "(I)I"⟩, 18) := ⟨⟨by decide +kernel, by decide +kernel⟩, List.mem_of_getElem? (i := 660) (by decide +kernel), List.mem_of_getElem? (i := 837) (by decide +kernel), List.mem_of_getElem? (i := 838) (by decide +kernel)⟩
theorem lw_p41 : lw_okq (⟨"CodeMoverModel", "delayedAlong", "(I)I"⟩, 18) := ⟨⟨by decide +kernel, by decide +kernel⟩, List.mem_of_getElem? (i := 660) (by decide +kernel), List.mem_of_getElem? (i := 841) (by decide +kernel), List.mem_of_getElem? (i := 842) (by decide +kernel)⟩
theorem lw_p42 : lw_okq (⟨"CodeMoverModel", "earliestFor", "(I)I"⟩, 18) := ⟨⟨by decide +kernel, by decide +kernel⟩, List.mem_of_getElem? (i := 660) (by decide +kernel), List.mem_of_getElem? (i := 845) (by decide +kernel), List.mem_of_getElem? (i := 846) (by decide +kernel)⟩
theorem lw_p43 : lw_okq (⟨"CodeMoverModel", "insertedOn", "(I)I"⟩, 18) := ⟨⟨by decide +kernel, by decide +kernel⟩, List.mem_of_getElem? (i := 660) (by decide +kernel), List.mem_of_getElem? (i := 881) (by decide +kernel), List.mem_of_getElem? (i := 882) (by decide +kernel)⟩
theorem lw_p44 : lw_okq (⟨"CodeMoverModel", "deletedIn", "(I)I"⟩, 18) := ⟨⟨by decide +kernel, by decide +kernel⟩, List.mem_of_getElem? (i := 660) (by decide +kernel), List.mem_of_getElem? (i := 889) (by decide +kernel), List.mem_of_getElem? (i := 890) (by decide +kernel)⟩
theorem lw_p45 : lw_okq (⟨"CodeMoverModel", "delete", "(II)V"⟩, 18) := ⟨⟨by decide +kernel, by decide +kernel⟩, List.mem_of_getElem? (i := 660) (by decide +kernel), List.mem_of_getElem? (i := 897) (by decide +kernel), List.mem_of_getElem? (i := 898) (by decide +kernel)⟩
theorem lw_p46 : lw_okq (⟨"CodeMoverModel", "insert", "(II)V"⟩, 18) := ⟨⟨by decide +kernel, by decide +kernel⟩, List.mem_of_getElem? (i := 660) (by decide +kernel), List.mem_of_getElem? (i := 901) (by decide +kernel), List.mem_of_getElem? (i := 902) (by decide +kernel)⟩
theorem lw_p47 : lw_okq (⟨"CodeMoverModel", "go", "(II)I"⟩, 18) := ⟨⟨by decide +kernel, by decide +kernel⟩, List.mem_of_getElem? (i := 660) (by decide +kernel), List.mem_of_getElem? (i := 909) (by decide +kernel), List.mem_of_getElem? (i := 910) (by decide +kernel)⟩
def lw_privs_3 : List (MethodName × Nat) := [(⟨"CodeMoverModel", "asks", "(Z)Z"⟩, 18), (⟨"CodeMoverModel", "find", "()V"⟩, 18), (⟨"CodeMoverModel", "all", "()I"⟩, 18), (⟨"CodeMoverModel", "findNeeded", "(I)Z"⟩, 18), (⟨"CodeMoverModel", "earlyIn", "(I)I"⟩, 18), (⟨"CodeMoverModel", "dependent", "(I)I"⟩, 18), (⟨"CodeMoverModel", "keptBy", "(I)I"⟩, 18), (⟨"CodeMoverModel", "findThere", "(I)Z"⟩, 18), (⟨"CodeMoverModel", "lateIn", "(I)I"⟩, 18), (⟨"CodeMoverModel", "delayedAlong", "(I)I"⟩, 18), (⟨"CodeMoverModel", "earliestFor", "(I)I"⟩, 18), (⟨"CodeMoverModel", "insertedOn", "(I)I"⟩, 18), (⟨"CodeMoverModel", "deletedIn", "(I)I"⟩, 18), (⟨"CodeMoverModel", "delete", "(II)V"⟩, 18), (⟨"CodeMoverModel", "insert", "(II)V"⟩, 18), (⟨"CodeMoverModel", "go", "(II)I"⟩, 18)]
theorem lw_r3 : ∀ q ∈ lw_privs_3, lw_okq q := List.forall_mem_cons.mpr ⟨lw_p32, List.forall_mem_cons.mpr ⟨lw_p33, List.forall_mem_cons.mpr ⟨lw_p34, List.forall_mem_cons.mpr ⟨lw_p35, List.forall_mem_cons.mpr ⟨lw_p36, List.forall_mem_cons.mpr ⟨lw_p37, List.forall_mem_cons.mpr ⟨lw_p38, List.forall_mem_cons.mpr ⟨lw_p39, List.forall_mem_cons.mpr ⟨lw_p40, List.forall_mem_cons.mpr ⟨lw_p41, List.forall_mem_cons.mpr ⟨lw_p42, List.forall_mem_cons.mpr ⟨lw_p43, List.forall_mem_cons.mpr ⟨lw_p44, List.forall_mem_cons.mpr ⟨lw_p45, List.forall_mem_cons.mpr ⟨lw_p46, List.forall_mem_cons.mpr ⟨lw_p47, fun _ h => absurd h List.not_mem_nil⟩⟩⟩⟩⟩⟩⟩⟩⟩⟩⟩⟩⟩⟩⟩⟩
theorem lw_p48 : lw_okq (⟨"CodeMoverModel", "exit", "(II)I"⟩, 18) := ⟨⟨by decide +kernel, by decide +kernel⟩, List.mem_of_getElem? (i := 660) (by decide +kernel), List.mem_of_getElem? (i := 913) (by decide +kernel), List.mem_of_getElem? (i := 914) (by decide +kernel)⟩
def lw_privs_4 : List (MethodName × Nat) := [(⟨"CodeMoverModel", "exit", "(II)I"⟩, 18)]
theorem lw_r4 : ∀ q ∈ lw_privs_4, lw_okq q := List.forall_mem_cons.mpr ⟨lw_p48, fun _ h => absurd h List.not_mem_nil⟩
def lw_privs : List (MethodName × Nat) := lw_privs_1 ++ (lw_privs_2 ++ (lw_privs_3 ++ (lw_privs_4)))
def lw_tbl : List Cond := k2_sels lw_privs ++ tables_1
theorem lw_privs_ok : ∀ q ∈ lw_privs, lw_okq q := by
  show ∀ q ∈ lw_privs_1 ++ (lw_privs_2 ++ (lw_privs_3 ++ (lw_privs_4))), lw_okq q
  exact List.forall_mem_append.mpr ⟨lw_r1, List.forall_mem_append.mpr ⟨lw_r2, List.forall_mem_append.mpr ⟨lw_r3, lw_r4⟩⟩⟩
end
section
/-! ===== BEGIN words of one list among another's, by their places ===== -/
theorem goodIn_r {big : List Cond} (ws : List Cond) (ps : List Nat) (hp : ws = ps.filterMap (fun i => big[i]?)) (h : ws.all goodWord = true) : GoodIn big ws := by
  intro w hw
  have h1 := List.all_eq_true.mp h w hw
  rw [hp] at hw
  obtain ⟨i, -, hi⟩ := List.mem_filterMap.mp hw
  have hm : w ∈ big := by first | exact List.mem_of_getElem? hi | exact List.getElem?_mem hi
  exact ⟨hm, good_of_word h1⟩
theorem goodIn_app {big a b : List Cond} (ha : GoodIn big a) (hb : GoodIn big b) : GoodIn big (a ++ b) := fun w h => (List.mem_append.mp h).elim (ha w) (hb w)
theorem goodIn_ca {big a b : List Cond} {c : Cond} (ha : GoodIn big (c :: a)) (hb : GoodIn big b) : GoodIn big (c :: (a ++ b)) := fun w h => (List.mem_cons.mp h).elim (fun e => ha w (List.mem_cons.mpr (Or.inl e))) (fun h => (List.mem_append.mp h).elim (fun h => ha w (List.mem_cons.mpr (Or.inr h))) (hb w))
theorem goodIn_sub {big ws : List Cond} (hm : ∀ w ∈ ws, w ∈ big) (h : ws.all goodWord = true) : GoodIn big ws := fun w hw => ⟨hm w hw, good_of_word (List.all_eq_true.mp h w hw)⟩
/-! ===== END ===== -/

/-! ===== BEGIN exceptions that leave a method, and their catching by the caller (launches without stack traces) ===== -/
section VXA
/-! The laws vx_back, vx_callV, vx_callS, vx_callSW, vx_throw0, vx_throwS follow proofs of the library, with one case more: JvmDerived/Free/Laws.lean (Back.of_free), Shelf42/LK1.lean (callV, callS), Shelf/KitTraced.lean (throwNew0V, throwNewS). -/
/-- where a method has thrown q: the class by its name, the cell, what was written, the world -/
def vx_T (XC : String → State → State → Prop) (st : State) (q : Addr) (t : State) (mc ms : Nat) (free : Addr → Prop) : Prop :=
  ∃ (E : String) (ce : Cell) (L : List Loc), XC E st t ∧ t.heap[q]? = some ce ∧ ce.vm = .none ∧ st.vm.findClass E = some ce.cls ∧ st.WarmedH t.vm ∧ st.sameButNew ({ t with vm := st.vm } : State) L mc ms ∧ ∀ z ∈ L, free z.base
def vx_Q (Qc : Array Value → State → Outcome → State → Prop) (XC : String → State → State → Prop) (mc ms : Nat) (free : Addr → Prop) : Array Value → State → Outcome → State → Prop := fun a st o t =>
  (Qc a st o t ∧ ∃ L, FrameEnd st o t L mc ms ∧ ∀ q ∈ L, free q.base) ∨ ∃ q, o = .threw q ∧ vx_T XC st q t mc ms free
/-- a callee that returns or throws -/
def vx_Met (l : Launch) (y : MethodName) (ws : List Cond) (rm : Room) (Pc : Array Value → State → Prop) (Qc : Array Value → State → Outcome → State → Prop) (XC : String → State → State → Prop) (mc ms : Nat) (free : Addr → Prop) : Prop :=
  MetFree l y (headSpec ws rm) Pc (fun _ _ _ _ _ => True) (vx_Q Qc XC mc ms free)
def vx_Post (XC : String → State → State → Prop) (mc ms : Nat) (free : Addr → Prop) : Pt → Array Value → Addr → Pt → Prop := fun A a q B =>
  ∃ (g : JFrame) (mk : MethodId) (t : State) (L : List Loc) (E : String) (ce : Cell), B.U.heap = t.heap ∧ B.U.vm = t.vm ∧ XC E (A.U.calling g mk a) t ∧ t.heap[q]? = some ce ∧ ce.vm = .none ∧ A.U.vm.findClass E = some ce.cls ∧ B.locs = A.locs ++ L ∧ (∀ z ∈ L, free z.base) ∧ B.cells = A.cells + mc ∧ B.slots = A.slots + ms
def vx_Back (l : Launch) (R : Room) (p : Program) (e : Env) (below : List Frame) (s : State) (sargs : Array Value) (y : MethodName) (len W9 : Nat)
    (Pre : Pt → Array Value → Prop) (Post : Pt → Array Value → Option Value → Pt → Prop) (PostX : Pt → Array Value → Addr → Pt → Prop) : Prop :=
  ∀ (m : MethodId) (meth : Method) (c : Code) (A : Pt) (g : JFrame) (ig : Instr) (mk : MethodId) (a : Array Value),
    Stand p l e R s m sargs below meth c A.U A.locs A.cells A.slots → g.method = m → g.locals.size = c.maxLocals → decode c.code g.pc = .ok (ig, len) →
    2 * g.monitorRoom + (g.stack.map fun v => v.category).sum ≤ W9 → A.U.methodNamed? y = some mk → Pre A a →
    (∃ (v : Option Value) (B : Pt), Stand p l e R s m sargs below meth c B.U B.locs B.cells B.slots ∧ Post A a v B ∧
      Steps p.tables e below (doInvoke e (A.U.setTop g) [] mk a).1 (B.U.setTop { g with pc := g.pc + len, stack := v.toList ++ g.stack })) ∨
    (∃ (q : Addr) (B : Pt), Stand p l e R s m sargs below meth c B.U B.locs B.cells B.slots ∧ PostX A a q B ∧
      Steps p.tables e below (doInvoke e (A.U.setTop g) [] mk a).1 ((B.U.setTop g).pushFrame (.throwing q)))
section Payer
variable {l : Launch} {R : Room} {p : Program} {e : Env} {below : List Frame} {s : State} {sargs : Array Value} {y : MethodName} {len W9 : Nat}
theorem vx_back {ws : List Cond} {rm : Room} {Pc : Array Value → State → Prop} {Qc : Array Value → State → Outcome → State → Prop} {XC : String → State → State → Prop} {mc ms : Nat} {free : Addr → Prop} {bytes : ByteArray} {maxL : Nat} {ret : Option FieldType}
    (hM : vx_Met l y ws rm Pc Qc XC mc ms free) (hblind : FrameBlind Pc) (hrc : rm.cells = mc) (hrs : rm.slots = ms)
    (hframes : rm.frames + 1 ≤ R.frames) (hlocals : W9 + (maxL + 11) + rm.locals ≤ R.locals)
    (hws : ∀ w ∈ ws, ∀ a' U, s.WarmedH U.vm → w.before a' U = true) (hcode : Cond.code y bytes maxL ret ∈ ws) (hinit : ∀ a' U, s.WarmedH U.vm → (Cond.initialized y.cls).before a' U = true) :
    vx_Back l R p e below s sargs y len W9 (PreOf R mc ms Pc) (PostOf Qc mc ms free) (vx_Post XC mc ms free) := by
  intro m meth c A g ig mk a X hg hsize hdg hW hn hp
  have h1 : (headSpec ws rm).pre.before a A.U = true := atoms_intro fun w hw => hws w hw _ _ X.warmed
  have h2 : (Cond.code y bytes maxL ret).before a A.U = true := hws _ hcode _ _ X.warmed
  have h3 : (Cond.initialized y.cls).before a A.U = true := hinit _ _ X.warmed
  have h4 : A.cells + (headSpec ws rm).room.cells ≤ R.cells := by rw [show (headSpec ws rm).room.cells = mc from hrc]; exact hp.1
  have h5 : A.slots + (headSpec ws rm).room.slots ≤ R.slots := by rw [show (headSpec ws rm).room.slots = ms from hrs]; exact hp.2.1
  have hPc : Pc a (A.U.calling g mk a) := hblind _ _ _ _ hp.2.2
  obtain ⟨U, Ls, c0, s0⟩ := A
  dsimp only [Pt.U, Pt.locs, Pt.cells, Pt.slots] at h1 h2 h3 h4 h5 X hn hPc ⊢
  obtain ⟨methY, cY, hmY, hcY, -, hlY, -, -, -, -⟩ := Cond.code_spec hn h2
  obtain ⟨kY, hkY, -⟩ := className_of_methodNamed hn
  have hinitY : kY.init = .initialized := Cond.initialized_spec (findClass_of_methodNamed hn) hkY h3
  have h : At U g.method c below := by rw [hg]; exact X.here
  have hlocals9 : W9 + (maxL + 11) + (headSpec ws rm).room.locals ≤ R.locals := hlocals
  have happ : (headSpec ws rm).appliesLoose y e.platform (U.calling g mk a) = true :=
    Spec.appliesLoose_calling (g := g) h hdg hn hkY hinitY
      (X.room_calling (g := g) (R' := (headSpec ws rm).room) hsize hmY hcY hframes (by rw [hlY]; omega) h4 h5) h1
  obtain ⟨mid, hmid⟩ := h.above
  have hfr : (U.setTop g).frames = (.java g :: mid) ++ below := by rw [State.frames_setTop' g h.top, hmid]; rfl
  obtain ⟨o, s₂, hsteps, -, hend, hq⟩ := Steps.callFree hM p X.admits X.cas X.clock (acts := []) hfr happ hPc trivial
  have hq' : vx_Q Qc XC mc ms free a (U.calling g mk a) o s₂ := hq
  rw [State.frames_setTop' g h.top] at hend
  obtain ⟨g₀, hg0⟩ := Option.isSome_iff_exists.mp h.top
  obtain ⟨r, hr⟩ := State.topJava?_eq_some.mp hg0
  have hr' : (({ U with heap := s₂.heap, slotsUsed := s₂.slotsUsed } : State).setVm s₂.vm).frames = .java g₀ :: r := hr
  rcases hq' with ⟨hqc, L, hfe, hL⟩ | ⟨q, rfl, E, ce, L, hx, hce, hcv, hcl, hW₂, hsm, hL⟩
  · obtain ⟨⟨v, rfl⟩, hW₂, e2, q2, q3, q4, q5, q6⟩ := id hfe
    have e3 : s₂ = ({ (U.calling g mk a).setFrames s₂.frames with heap := s₂.heap, slotsUsed := s₂.slotsUsed } : State).setVm s₂.vm := by
      have : s₂ = ({ s₂ with vm := (U.calling g mk a).vm } : State).setVm s₂.vm := rfl
      rw [e2] at this
      exact this
    obtain ⟨c₂, i₂, len₂, hc₂, hd₂, hf₂⟩ := hend
    have hW' : U.WarmedH s₂.vm := hW₂
    have hcc : c₂ = c := by
      have h1 : s₂.code? g.method = U.code? g.method := by
        rw [State.code?_eq, State.code?_eq, hW'.alike.method?]
      exact Option.some.inj (hc₂.symm.trans (h1.trans h.code))
    subst hcc
    have hlen : len₂ = len := by rw [hdg] at hd₂; cases hd₂; rfl
    subst hlen
    have hs₂ : s₂ = (({ U with heap := s₂.heap, slotsUsed := s₂.slotsUsed } : State).setVm s₂.vm).setTop { g with pc := g.pc + len₂, stack := v.toList ++ g.stack } := by
      refine e3.trans ?_
      rw [hf₂, State.calling_eq h.top, State.setFrames_setFrames, State.setTop_of_frames _ hr', hr]
      rfl
    have hsame : U.sameButNew ({ U with heap := s₂.heap, slotsUsed := s₂.slotsUsed } : State) L mc ms := by
      refine ⟨?_, q2, q3, q4, q5, q6⟩
      obtain ⟨t, ht, -⟩ := State.frames_cons hr
      show ({ U with heap := s₂.heap, slotsUsed := s₂.slotsUsed } : State) = { U.setFrames U.frames with heap := s₂.heap, slotsUsed := s₂.slotsUsed }
      rw [State.setFrames_self ht]
    subst hg
    refine Or.inl ⟨v, ⟨(({ U with heap := s₂.heap, slotsUsed := s₂.slotsUsed } : State).setVm s₂.vm), Ls ++ L, c0 + mc, s0 + ms⟩,
      ⟨X.admits, X.cas, X.clock, X.frames, X.room, X.hears, X.method, X.code, (X.here.setHeapUsed s₂.heap s₂.slotsUsed).setVm hW'.alike, X.tail, State.WarmedH.trans X.warmed hW', X.limits, X.bytes, X.same.trans (hsame.setVm s.vm)⟩,
      ⟨g, mk, s₂, L, rfl, rfl, hqc, rfl, hL, rfl, rfl⟩, ?_⟩
    show Steps p.tables e below _ ((({ U with heap := s₂.heap, slotsUsed := s₂.slotsUsed } : State).setVm s₂.vm).setTop { g with pc := g.pc + len₂, stack := v.toList ++ g.stack })
    rw [← hs₂]
    exact hsteps
  · obtain ⟨e2, q2, q3, q4, q5, q6⟩ := id hsm
    have e3 : s₂ = ({ (U.calling g mk a).setFrames s₂.frames with heap := s₂.heap, slotsUsed := s₂.slotsUsed } : State).setVm s₂.vm := by
      have : s₂ = ({ s₂ with vm := (U.calling g mk a).vm } : State).setVm s₂.vm := rfl
      rw [e2] at this
      exact this
    have hf₂ : s₂.frames = .throwing q :: .java g :: U.frames.tail := hend
    have hW' : U.WarmedH s₂.vm := hW₂
    have hs₂ : s₂ = ((({ U with heap := s₂.heap, slotsUsed := s₂.slotsUsed } : State).setVm s₂.vm).setTop g).pushFrame (.throwing q) := by
      refine e3.trans ?_
      rw [hf₂, State.calling_eq h.top, State.setFrames_setFrames, State.pushFrame, State.frames_setTop _ hr', State.setTop_of_frames _ hr', State.setFrames_setFrames, hr]
      rfl
    have hsame : U.sameButNew ({ U with heap := s₂.heap, slotsUsed := s₂.slotsUsed } : State) L mc ms := by
      refine ⟨?_, q2, q3, q4, q5, q6⟩
      obtain ⟨t, ht, -⟩ := State.frames_cons hr
      show ({ U with heap := s₂.heap, slotsUsed := s₂.slotsUsed } : State) = { U.setFrames U.frames with heap := s₂.heap, slotsUsed := s₂.slotsUsed }
      rw [State.setFrames_self ht]
    subst hg
    refine Or.inr ⟨q, ⟨(({ U with heap := s₂.heap, slotsUsed := s₂.slotsUsed } : State).setVm s₂.vm), Ls ++ L, c0 + mc, s0 + ms⟩,
      ⟨X.admits, X.cas, X.clock, X.frames, X.room, X.hears, X.method, X.code, (X.here.setHeapUsed s₂.heap s₂.slotsUsed).setVm hW'.alike, X.tail, State.WarmedH.trans X.warmed hW', X.limits, X.bytes, X.same.trans (hsame.setVm s.vm)⟩,
      ⟨g, mk, s₂, L, E, ce, rfl, rfl, hx, hce, hcv, hcl, rfl, hL, rfl, rfl⟩, ?_⟩
    show Steps p.tables e below _ (((({ U with heap := s₂.heap, slotsUsed := s₂.slotsUsed } : State).setVm s₂.vm).setTop g).pushFrame (.throwing q))
    rw [← hs₂]
    exact hsteps
end Payer
section Calls
variable {p : Program} {l : Launch} {e : Env} {R : Room} {s : State} {m : MethodId} {args : Array Value} {below : List Frame} {meth : Method} {c : Code} {T : State} {locs : List Loc} {cells slots : Nat}
theorem vx_callV (X : Stand p l e R s m args below meth c T locs cells slots) (hexec : p.tables.exec = Jvm.exec) {own C : String} {index : Nat} {y : MethodName} {bytes : ByteArray} {maxL : Nat} {ret : Option FieldType}
    (hown : s.vm.findClass own = some m.cls) (hlink : (Cond.methodLink own index y).before args s = true) (hinst : (Cond.instanceMethod y).before args s = true) (hsel : (Cond.selects C y y).before args s = true)
    (hcode : (Cond.code y bytes maxL ret).before args s = true) (hy : y.cls ≠ "java/lang/invoke/MethodHandle" ∧ y.cls ≠ "java/lang/invoke/VarHandle")
    {W9 : Nat} {Pre : Pt → Array Value → Prop} {Post : Pt → Array Value → Option Value → Pt → Prop} {PostX : Pt → Array Value → Addr → Pt → Prop} (hK : vx_Back l R p e below s args y 3 W9 Pre Post PostX)
    {b : Addr} {cellB : Cell} (hcell : T.heap[b]? = some cellB) (hobj : cellB.vm.isStatics = false) (hcls : s.vm.findClass C = some cellB.cls)
    {g : JFrame} (hg : g.method = m) (hsize : g.locals.size = c.maxLocals) {argsL rest : List Value} (hlen : ∀ sig, parseMethodDescriptor y.desc = some sig → argsL.length = sig.parameters.length)
    (hstack : g.stack = argsL.reverse ++ .ref b :: rest) (hW : 2 * g.monitorRoom + (rest.map fun v => v.category).sum ≤ W9) (hdg : decode c.code g.pc = .ok (.invokevirtual index, 3))
    (hpre : ∀ vm₁, s.WarmedH vm₁ → Pre ⟨T.setVm vm₁, locs, cells, slots⟩ (Value.ref b :: argsL).toArray) :
    (∃ (v : Option Value) (vm₁ : Vm) (B : Pt), s.WarmedH vm₁ ∧ Stand p l e R s m args below meth c B.U B.locs B.cells B.slots ∧ Post ⟨T.setVm vm₁, locs, cells, slots⟩ (Value.ref b :: argsL).toArray v B ∧
      ∀ target, Steps p.tables e below (B.U.setTop { g with pc := g.pc + 3, stack := v.toList ++ rest }) target → Steps p.tables e below (T.setTop g) target) ∨
    (∃ (q : Addr) (vm₁ : Vm) (B : Pt), s.WarmedH vm₁ ∧ Stand p l e R s m args below meth c B.U B.locs B.cells B.slots ∧ PostX ⟨T.setVm vm₁, locs, cells, slots⟩ (Value.ref b :: argsL).toArray q B ∧
      Steps p.tables e below (T.setTop g) ((B.U.setTop { g with stack := rest }).pushFrame (.throwing q))) := by
  obtain ⟨mk, methM, hnamed, hmethM, hstM, habM⟩ := Cond.instanceMethod_spec hinst
  obtain ⟨methM', cM, hmethM', -, -, -, -, -, -, hsigM⟩ := Cond.code_spec hnamed hcode
  cases hmethM.symm.trans hmethM'
  obtain ⟨c2, r2, m2, q1, q2, q3, q4, kP, hkP, hkPi⟩ := Cond.selects_spec hsel
  cases hcls.symm.trans q1
  cases (State.methodFound?_of_named hnamed hy).symm.trans q2
  cases hnamed.symm.trans q3
  have hselP : selectMethod e.platform s.vm cellB.cls mk = .method mk := by rw [Launch.admits_selectMethod X.admits]; exact q4
  obtain ⟨vm₁, X₁, hstep₁⟩ := X.invokevirtual hexec hown hlink hnamed hmethM hstM hkP hkPi hy (a := b) (cell := cellB) hcell
    (fun z h => by rw [h] at hobj; cases hobj) hselP hmethM habM hkP hkPi (g := g) hg (argsL := argsL) (rest := rest) (hlen _ hsigM) hstack hdg
  rcases hK m meth c ⟨T.setVm vm₁, locs, cells, slots⟩ { g with stack := rest } (.invokevirtual index) mk (Value.ref b :: argsL).toArray X₁ hg hsize hdg hW (X₁.named hnamed) (hpre vm₁ X₁.warmed) with ⟨v, B, X', hpost, hsteps⟩ | ⟨q, B, X', hpost, hsteps⟩
  · exact Or.inl ⟨v, vm₁, B, X₁.warmed, X', hpost, fun target h => hstep₁ _ fun acts => by rw [doInvoke_state]; exact hsteps.trans h⟩
  · exact Or.inr ⟨q, vm₁, B, X₁.warmed, X', hpost, hstep₁ _ fun acts => by rw [doInvoke_state]; exact hsteps⟩
theorem vx_callS (X : Stand p l e R s m args below meth c T locs cells slots) (hexec : p.tables.exec = Jvm.exec) {own : String} {index : Nat} {y : MethodName} {bytes : ByteArray} {maxL : Nat} {ret : Option FieldType}
    (hown : s.vm.findClass own = some m.cls) (hlink : (Cond.methodLink own index y).before args s = true) (hstat : (Cond.static y).before args s = true) (hinit : (Cond.initialized y.cls).before args s = true)
    (hcode : (Cond.code y bytes maxL ret).before args s = true) (hy : y.cls ≠ "java/lang/invoke/MethodHandle" ∧ y.cls ≠ "java/lang/invoke/VarHandle")
    {W9 : Nat} {Pre : Pt → Array Value → Prop} {Post : Pt → Array Value → Option Value → Pt → Prop} {PostX : Pt → Array Value → Addr → Pt → Prop} (hK : vx_Back l R p e below s args y 3 W9 Pre Post PostX)
    {g : JFrame} (hg : g.method = m) (hsize : g.locals.size = c.maxLocals) {argsL rest : List Value} (hlen : ∀ sig, parseMethodDescriptor y.desc = some sig → argsL.length = sig.parameters.length)
    (hstack : g.stack = argsL.reverse ++ rest) (hW : 2 * g.monitorRoom + (rest.map fun v => v.category).sum ≤ W9) (hdg : decode c.code g.pc = .ok (.invokestatic index, 3))
    (hpre : ∀ vm₁, s.WarmedH vm₁ → Pre ⟨T.setVm vm₁, locs, cells, slots⟩ argsL.toArray) :
    (∃ (v : Option Value) (vm₁ : Vm) (B : Pt), s.WarmedH vm₁ ∧ Stand p l e R s m args below meth c B.U B.locs B.cells B.slots ∧ Post ⟨T.setVm vm₁, locs, cells, slots⟩ argsL.toArray v B ∧
      ∀ target, Steps p.tables e below (B.U.setTop { g with pc := g.pc + 3, stack := v.toList ++ rest }) target → Steps p.tables e below (T.setTop g) target) ∨
    (∃ (q : Addr) (vm₁ : Vm) (B : Pt), s.WarmedH vm₁ ∧ Stand p l e R s m args below meth c B.U B.locs B.cells B.slots ∧ PostX ⟨T.setVm vm₁, locs, cells, slots⟩ argsL.toArray q B ∧
      Steps p.tables e below (T.setTop g) ((B.U.setTop { g with stack := rest }).pushFrame (.throwing q))) := by
  obtain ⟨mk, hnamed⟩ := Cond.code_named hcode
  obtain ⟨methM, cM, hmethM, -, -, -, -, -, -, hsigM⟩ := Cond.code_spec hnamed hcode
  have hstatic : methM.isStatic = true := Cond.static_spec hnamed hmethM hstat
  obtain ⟨kP, hkP, -⟩ := className_of_methodNamed hnamed
  have hinitP : kP.init = .initialized := Cond.initialized_spec (findClass_of_methodNamed hnamed) hkP hinit
  obtain ⟨vm₁, X₁, hstep₁⟩ := X.invokestatic hexec hown hlink hnamed hmethM hstatic hkP hinitP hy (g := g) hg (argsL := argsL) (rest := rest) (hlen _ hsigM) hstack hdg
  rcases hK m meth c ⟨T.setVm vm₁, locs, cells, slots⟩ { g with stack := rest } (.invokestatic index) mk argsL.toArray X₁ hg hsize hdg hW (X₁.named hnamed) (hpre vm₁ X₁.warmed) with ⟨v, B, X', hpost, hsteps⟩ | ⟨q, B, X', hpost, hsteps⟩
  · exact Or.inl ⟨v, vm₁, B, X₁.warmed, X', hpost, fun target h => hstep₁ _ fun acts => by rw [doInvoke_state]; exact hsteps.trans h⟩
  · exact Or.inr ⟨q, vm₁, B, X₁.warmed, X', hpost, hstep₁ _ fun acts => by rw [doInvoke_state]; exact hsteps⟩
end Calls
theorem vx_cls {s : State} {T : State} {vm₁ : Vm} {E : String} {k : ClassId} (hW : s.WarmedH vm₁) (h : (T.setVm vm₁).vm.findClass E = some k) : s.vm.findClass E = some k := by
  have h1 : vm₁.findClass E = some k := h
  rw [hW.alike.findClass] at h1
  exact h1
/-- the method's frame g, with q thrown over it -/
def vx_W (p : Program) (l : Launch) (e : Env) (R : Room) (s : State) (m : MethodId) (args : Array Value) (below : List Frame) (meth : Method) (c : Code) (H : Heap) (locs : List Loc) (cells slots : Nat) (Q : State → Prop) (g : JFrame) (q : Addr) : Prop :=
  ∀ T : State, T.heap = H → Stand p l e R s m args below meth c T locs cells slots → ∃ t, Steps p.tables e below ((T.setTop g).pushFrame (.throwing q)) t ∧ Q t
def vx_Run (p : Program) (l : Launch) (e : Env) (R : Room) (s : State) (m : MethodId) (args : Array Value) (below : List Frame) (meth : Method) (c : Code) (H : Heap) (locs : List Loc) (cells slots mc ms : Nat) (g : JFrame) (rest : List Value) (Qa : State → Outcome → State → Prop) (XC : String → State → State → Prop) (free : Addr → Prop) : Prop :=
  ∀ T : State, T.heap = H → Stand p l e R s m args below meth c T locs cells slots →
    (∃ (v : Option Value) (st₀ t T' : State) (L : List Loc), st₀.heap = H ∧ Stand p l e R s m args below meth c T' (locs ++ L) (cells + mc) (slots + ms) ∧ (∀ q ∈ L, free q.base) ∧ T'.heap = t.heap ∧ T'.vm = t.vm ∧ Qa st₀ (.returned v) t ∧
      Goes p e below T g T' { g with pc := g.pc + 3, stack := v.toList ++ rest }) ∨
    (∃ (q : Addr) (st₀ t T' : State) (L : List Loc) (E : String) (ce : Cell), st₀.heap = H ∧ Stand p l e R s m args below meth c T' (locs ++ L) (cells + mc) (slots + ms) ∧ (∀ z ∈ L, free z.base) ∧ T'.heap = t.heap ∧ T'.vm = t.vm ∧ XC E st₀ t ∧ t.heap[q]? = some ce ∧ ce.vm = .none ∧ s.vm.findClass E = some ce.cls ∧
      Steps p.tables e below (T.setTop g) ((T'.setTop { g with stack := rest }).pushFrame (.throwing q)))
def vx_X {S : Type} (px : S → Prop) (B : String → S → State → Prop) (A : Nat → Prop) : String → State → State → Prop := fun E st t => ∃ u : S, px u ∧ B E u t ∧ va_F A st t
section Runs
variable {p : Program} {l : Launch} {e : Env} {R : Room} {s : State} {m : MethodId} {args : Array Value} {below : List Frame} {meth : Method} {c : Code} {H : Heap} {locs : List Loc} {cells slots : Nat}
variable {y : MethodName} {bytes cc : ByteArray} {maxL nL mc ms n index : Nat} {ret : Option FieldType} {ws : List Cond} {rm : Room} {Pc : Array Value → State → Prop} {Qc : Array Value → State → Outcome → State → Prop} {XC : String → State → State → Prop} {free : Addr → Prop} {Ts : List Cond} {own C : String} {b : Addr} {As rest : List Value} {g : JFrame}
theorem vx_callBack (cb : CallB R s args own index y bytes maxL ret ws rm mc ms n) (hM : vx_Met l y ws rm Pc Qc XC mc ms free) (hbl : FrameBlind Pc) : vx_Back l R p e below s args y 3 8 (PreOf R mc ms Pc) (PostOf Qc mc ms free) (vx_Post XC mc ms free) := by
  obtain ⟨hrc, hrs, hfr, hlo, hws, hcw, -, hini, -⟩ := cb
  exact vx_back (bytes := bytes) (maxL := maxL) (ret := ret) hM hbl hrc hrs hfr hlo hws hcw (fun a' U hW => word_at hW (Or.inl (by first | rfl | simp [Cond.onTables, Cond.keeps, Cond.steady])) hini)
theorem vx_runV (S : CallFix p m c cc nL s args Ts own) (hM : vx_Met l y ws rm Pc Qc XC mc ms free) (cw : CallW R s args own C index y bytes maxL ret ws rm mc ms n) (hp : PreV s H C b Pc As)
    (hg : g.method = m) (hn : As.length = n) (hsize : g.locals.size = nL) (hstack : g.stack = As.reverse ++ .ref b :: rest) (hW : 2 * g.monitorRoom + (rest.map fun v => v.category).sum ≤ 8) (hdg : decode cc g.pc = .ok (.invokevirtual index, 3)) (hf : cells + mc ≤ R.cells ∧ slots + ms ≤ R.slots) :
    vx_Run p l e R s m args below meth c H locs cells slots mc ms g rest (Qc (Value.ref b :: As).toArray) XC free := by
  have hK : vx_Back l R p e below s args y 3 8 (PreOf R mc ms Pc) (PostOf Qc mc ms free) (vx_Post XC mc ms free) := vx_callBack cw.1 hM hp.1
  obtain ⟨⟨-, -, -, -, -, -, hcode, -, hy, hlen, hl⟩, hin, hse⟩ := cw
  obtain ⟨hx, hb, hml, ho, -⟩ := S
  obtain ⟨-, ⟨cellB, hcB, hoB, hclB⟩, hPc⟩ := hp
  intro T hT X
  rcases vx_callV X hx (C := C) (bytes := bytes) (maxL := maxL) (ret := ret) ho hl hin hse hcode hy hK (by rw [hT]; exact hcB) hoB hclB hg (hsize.trans hml.symm) (argsL := As) (rest := rest) (fun sig h => hn.trans (hlen sig h)) hstack hW (by rw [hb]; exact hdg)
    (fun vm₁ hW₁ => ⟨hf.1, hf.2, hPc (T.setVm vm₁) hT hW₁⟩) with ⟨v, vm₁, ⟨U', l2, c2, s2⟩, hW₁, X', ⟨g', mk, t, L, e1, e2, hq, h1, hL, h2, h3⟩, st⟩ | ⟨q, vm₁, ⟨U', l2, c2, s2⟩, hW₁, X', ⟨g', mk, t, L, E, ce, e1, e2, hq, hce, hcv, hcl, h1, hL, h2, h3⟩, st⟩
  · dsimp only [Pt.U, Pt.locs, Pt.cells, Pt.slots] at X' e1 e2 h1 h2 h3 st
    subst h1; subst h2; subst h3
    exact Or.inl ⟨v, (T.setVm vm₁).calling g' mk (Value.ref b :: As).toArray, t, U', L, hT, X', hL, e1, e2, hq, st⟩
  · dsimp only [Pt.U, Pt.locs, Pt.cells, Pt.slots] at X' e1 e2 h1 h2 h3 st hcl
    subst h1; subst h2; subst h3
    exact Or.inr ⟨q, (T.setVm vm₁).calling g' mk (Value.ref b :: As).toArray, t, U', L, E, ce, hT, X', hL, e1, e2, hq, hce, hcv, vx_cls hW₁ hcl, st⟩
theorem vx_runS (S : CallFix p m c cc nL s args Ts own) (hM : vx_Met l y ws rm Pc Qc XC mc ms free) (cw : CallB R s args own index y bytes maxL ret ws rm mc ms n ∧ (Cond.static y).before args s = true) (hp : PreS s H Pc As)
    (hg : g.method = m) (hn : As.length = n) (hsize : g.locals.size = nL) (hstack : g.stack = As.reverse ++ rest) (hW : 2 * g.monitorRoom + (rest.map fun v => v.category).sum ≤ 8) (hdg : decode cc g.pc = .ok (.invokestatic index, 3)) (hf : cells + mc ≤ R.cells ∧ slots + ms ≤ R.slots) :
    vx_Run p l e R s m args below meth c H locs cells slots mc ms g rest (Qc As.toArray) XC free := by
  have hK : vx_Back l R p e below s args y 3 8 (PreOf R mc ms Pc) (PostOf Qc mc ms free) (vx_Post XC mc ms free) := vx_callBack cw.1 hM hp.1
  obtain ⟨⟨-, -, -, -, -, -, hcode, hini, hy, hlen, hl⟩, hstt⟩ := cw
  obtain ⟨hx, hb, hml, ho, -⟩ := S
  intro T hT X
  rcases vx_callS X hx (bytes := bytes) (maxL := maxL) (ret := ret) ho hl hstt hini hcode hy hK hg (hsize.trans hml.symm) (argsL := As) (rest := rest) (fun sig h => hn.trans (hlen sig h)) hstack hW (by rw [hb]; exact hdg)
    (fun vm₁ hW₁ => ⟨hf.1, hf.2, hp.2 (T.setVm vm₁) hT hW₁⟩) with ⟨v, vm₁, ⟨U', l2, c2, s2⟩, hW₁, X', ⟨g', mk, t, L, e1, e2, hq, h1, hL, h2, h3⟩, st⟩ | ⟨q, vm₁, ⟨U', l2, c2, s2⟩, hW₁, X', ⟨g', mk, t, L, E, ce, e1, e2, hq, hce, hcv, hcl, h1, hL, h2, h3⟩, st⟩
  · dsimp only [Pt.U, Pt.locs, Pt.cells, Pt.slots] at X' e1 e2 h1 h2 h3 st
    subst h1; subst h2; subst h3
    exact Or.inl ⟨v, (T.setVm vm₁).calling g' mk As.toArray, t, U', L, hT, X', hL, e1, e2, hq, st⟩
  · dsimp only [Pt.U, Pt.locs, Pt.cells, Pt.slots] at X' e1 e2 h1 h2 h3 st hcl
    subst h1; subst h2; subst h3
    exact Or.inr ⟨q, (T.setVm vm₁).calling g' mk As.toArray, t, U', L, E, ce, hT, X', hL, e1, e2, hq, hce, hcv, vx_cls hW₁ hcl, st⟩
end Runs
section Rows
variable {p : Program} {l : Launch} {e : Env} {R : Room} {s : State} {m : MethodId} {args : Array Value} {below : List Frame} {meth : Method} {c : Code} {H : Heap} {locs : List Loc} {cells slots : Nat} {Q : State → Prop}
variable {mc ms : Nat} {free : Addr → Prop} {A0 A1 : Nat → Prop} {H0 : Heap} {a : Array Value} {pc : Nat} {ls : Array Slot} {st0 rest : List Value}
theorem vx_keep {st₀ t T' : State} {L : List Loc} (h0 : st₀.heap = H) (e1 : T'.heap = t.heap) (hS : va_S A0 H0 H locs) (hA : ∀ q, q < H.size → A1 q → A0 q) (hf : ∀ q, free q → A0 q) (hL : ∀ q ∈ L, free q.base) (hF : va_F A1 st₀ t) :
    H.size ≤ T'.heap.size ∧ (∀ q : Nat, q < H.size → ¬ A1 q → T'.heap[q]? = H[q]?) ∧ va_S A0 H0 T'.heap (locs ++ L) := by
  obtain ⟨hz, hk⟩ := hF
  rw [h0] at hz hk
  exact ⟨by rw [e1]; exact hz, fun q h1 h2 => by rw [e1]; exact hk q h1 h2,
    ⟨Nat.le_trans hS.1 (by rw [e1]; exact hz), fun q h1 h2 => by rw [e1, hk q (Nat.lt_of_lt_of_le h1 hS.1) (fun z => h2 (hA q (Nat.lt_of_lt_of_le h1 hS.1) z))]; exact hS.2.1 q h1 h2, fun q hq => by
      rcases List.mem_append.mp hq with h | h
      · exact hS.2.2 q h
      · exact hf _ (hL q h)⟩⟩
theorem vx_calli {S SX : Type} {post : Int32 → S → Prop} {px : SX → Prop} {B : S → State → Prop} {BX : String → SX → State → Prop} {AX : Nat → Prop} (hr : vx_Run p l e R s m args below meth c H locs cells slots mc ms (F0 m pc ls st0) rest (va_Qi post B A1 a) (vx_X px BX AX) free) (hS : va_S A0 H0 H locs) (hA : ∀ q, q < H.size → A1 q → A0 q) (hf : ∀ q, free q → A0 q) (hAX : ∀ q, q < H.size → AX q → A0 q)
    (kx : ∀ (E : String) (ce : Cell) (q9 : Addr) (u : SX) (t : State) (H1 : Heap) (locs1 : List Loc), t.heap = H1 → s.vm.Alike t.vm → px u → BX E u t → H.size ≤ H1.size → (∀ q : Nat, q < H.size → ¬ AX q → H1[q]? = H[q]?) → va_S A0 H0 H1 locs1 → H1[q9]? = some ce → ce.vm = .none → s.vm.findClass E = some ce.cls → vx_W p l e R s m args below meth c H1 locs1 (cells + mc) (slots + ms) Q (F0 m pc ls rest) q9)
    (kk : ∀ (r : Int32) (u : S) (t : State) (H1 : Heap) (locs1 : List Loc), t.heap = H1 → s.vm.Alike t.vm → post r u → B u t → H.size ≤ H1.size → (∀ q : Nat, q < H.size → ¬ A1 q → H1[q]? = H[q]?) → va_S A0 H0 H1 locs1 → W p l e R s m args below meth c H1 locs1 (cells + mc) (slots + ms) Q (F0 m (pc + 3) ls (.int r :: rest))) : W p l e R s m args below meth c H locs cells slots Q (F0 m pc ls st0) := by
  intro T hT X
  rcases hr T hT X with ⟨v, st₀, t, T', L, h0, X', hL, e1, e2, ⟨⟨r, u, hv, hp, hb⟩, hF⟩, st⟩ | ⟨q, st₀, t, T', L, E, ce, h0, X', hL, e1, e2, ⟨u, hp, hb, hF⟩, hce, hcv, hcl, st⟩
  · cases hv
    obtain ⟨k1, k2, k3⟩ := vx_keep h0 e1 hS hA hf hL hF
    obtain ⟨t2, a1, b1⟩ := kk r u t T'.heap (locs ++ L) e1.symm (by rw [← e2]; exact X'.warmed.alike) hp hb k1 k2 k3 T' rfl X'
    exact ⟨t2, st t2 a1, b1⟩
  · obtain ⟨k1, k2, k3⟩ := vx_keep h0 e1 hS hAX hf hL hF
    obtain ⟨t2, a1, b1⟩ := kx E ce q u t T'.heap (locs ++ L) e1.symm (by rw [← e2]; exact X'.warmed.alike) hp hb k1 k2 k3 (by rw [e1]; exact hce) hcv hcl T' rfl X'
    exact ⟨t2, st.trans a1, b1⟩
theorem vx_calll {S SX : Type} {post : Int64 → S → Prop} {px : SX → Prop} {B : S → State → Prop} {BX : String → SX → State → Prop} {AX : Nat → Prop} (hr : vx_Run p l e R s m args below meth c H locs cells slots mc ms (F0 m pc ls st0) rest (va_Ql post B A1 a) (vx_X px BX AX) free) (hS : va_S A0 H0 H locs) (hA : ∀ q, q < H.size → A1 q → A0 q) (hf : ∀ q, free q → A0 q) (hAX : ∀ q, q < H.size → AX q → A0 q)
    (kx : ∀ (E : String) (ce : Cell) (q9 : Addr) (u : SX) (t : State) (H1 : Heap) (locs1 : List Loc), t.heap = H1 → s.vm.Alike t.vm → px u → BX E u t → H.size ≤ H1.size → (∀ q : Nat, q < H.size → ¬ AX q → H1[q]? = H[q]?) → va_S A0 H0 H1 locs1 → H1[q9]? = some ce → ce.vm = .none → s.vm.findClass E = some ce.cls → vx_W p l e R s m args below meth c H1 locs1 (cells + mc) (slots + ms) Q (F0 m pc ls rest) q9)
    (kk : ∀ (r : Int64) (u : S) (t : State) (H1 : Heap) (locs1 : List Loc), t.heap = H1 → s.vm.Alike t.vm → post r u → B u t → H.size ≤ H1.size → (∀ q : Nat, q < H.size → ¬ A1 q → H1[q]? = H[q]?) → va_S A0 H0 H1 locs1 → W p l e R s m args below meth c H1 locs1 (cells + mc) (slots + ms) Q (F0 m (pc + 3) ls (.long r :: rest))) : W p l e R s m args below meth c H locs cells slots Q (F0 m pc ls st0) := by
  intro T hT X
  rcases hr T hT X with ⟨v, st₀, t, T', L, h0, X', hL, e1, e2, ⟨⟨r, u, hv, hp, hb⟩, hF⟩, st⟩ | ⟨q, st₀, t, T', L, E, ce, h0, X', hL, e1, e2, ⟨u, hp, hb, hF⟩, hce, hcv, hcl, st⟩
  · cases hv
    obtain ⟨k1, k2, k3⟩ := vx_keep h0 e1 hS hA hf hL hF
    obtain ⟨t2, a1, b1⟩ := kk r u t T'.heap (locs ++ L) e1.symm (by rw [← e2]; exact X'.warmed.alike) hp hb k1 k2 k3 T' rfl X'
    exact ⟨t2, st t2 a1, b1⟩
  · obtain ⟨k1, k2, k3⟩ := vx_keep h0 e1 hS hAX hf hL hF
    obtain ⟨t2, a1, b1⟩ := kx E ce q u t T'.heap (locs ++ L) e1.symm (by rw [← e2]; exact X'.warmed.alike) hp hb k1 k2 k3 (by rw [e1]; exact hce) hcv hcl T' rfl X'
    exact ⟨t2, st.trans a1, b1⟩
theorem vx_callf {S SX : Type} {post : UInt32 → S → Prop} {px : SX → Prop} {B : S → State → Prop} {BX : String → SX → State → Prop} {AX : Nat → Prop} (hr : vx_Run p l e R s m args below meth c H locs cells slots mc ms (F0 m pc ls st0) rest (va_Qf post B A1 a) (vx_X px BX AX) free) (hS : va_S A0 H0 H locs) (hA : ∀ q, q < H.size → A1 q → A0 q) (hf : ∀ q, free q → A0 q) (hAX : ∀ q, q < H.size → AX q → A0 q)
    (kx : ∀ (E : String) (ce : Cell) (q9 : Addr) (u : SX) (t : State) (H1 : Heap) (locs1 : List Loc), t.heap = H1 → s.vm.Alike t.vm → px u → BX E u t → H.size ≤ H1.size → (∀ q : Nat, q < H.size → ¬ AX q → H1[q]? = H[q]?) → va_S A0 H0 H1 locs1 → H1[q9]? = some ce → ce.vm = .none → s.vm.findClass E = some ce.cls → vx_W p l e R s m args below meth c H1 locs1 (cells + mc) (slots + ms) Q (F0 m pc ls rest) q9)
    (kk : ∀ (r : UInt32) (u : S) (t : State) (H1 : Heap) (locs1 : List Loc), t.heap = H1 → s.vm.Alike t.vm → post r u → B u t → H.size ≤ H1.size → (∀ q : Nat, q < H.size → ¬ A1 q → H1[q]? = H[q]?) → va_S A0 H0 H1 locs1 → W p l e R s m args below meth c H1 locs1 (cells + mc) (slots + ms) Q (F0 m (pc + 3) ls (.float r :: rest))) : W p l e R s m args below meth c H locs cells slots Q (F0 m pc ls st0) := by
  intro T hT X
  rcases hr T hT X with ⟨v, st₀, t, T', L, h0, X', hL, e1, e2, ⟨⟨r, u, hv, hp, hb⟩, hF⟩, st⟩ | ⟨q, st₀, t, T', L, E, ce, h0, X', hL, e1, e2, ⟨u, hp, hb, hF⟩, hce, hcv, hcl, st⟩
  · cases hv
    obtain ⟨k1, k2, k3⟩ := vx_keep h0 e1 hS hA hf hL hF
    obtain ⟨t2, a1, b1⟩ := kk r u t T'.heap (locs ++ L) e1.symm (by rw [← e2]; exact X'.warmed.alike) hp hb k1 k2 k3 T' rfl X'
    exact ⟨t2, st t2 a1, b1⟩
  · obtain ⟨k1, k2, k3⟩ := vx_keep h0 e1 hS hAX hf hL hF
    obtain ⟨t2, a1, b1⟩ := kx E ce q u t T'.heap (locs ++ L) e1.symm (by rw [← e2]; exact X'.warmed.alike) hp hb k1 k2 k3 (by rw [e1]; exact hce) hcv hcl T' rfl X'
    exact ⟨t2, st.trans a1, b1⟩
theorem vx_calld {S SX : Type} {post : UInt64 → S → Prop} {px : SX → Prop} {B : S → State → Prop} {BX : String → SX → State → Prop} {AX : Nat → Prop} (hr : vx_Run p l e R s m args below meth c H locs cells slots mc ms (F0 m pc ls st0) rest (va_Qd post B A1 a) (vx_X px BX AX) free) (hS : va_S A0 H0 H locs) (hA : ∀ q, q < H.size → A1 q → A0 q) (hf : ∀ q, free q → A0 q) (hAX : ∀ q, q < H.size → AX q → A0 q)
    (kx : ∀ (E : String) (ce : Cell) (q9 : Addr) (u : SX) (t : State) (H1 : Heap) (locs1 : List Loc), t.heap = H1 → s.vm.Alike t.vm → px u → BX E u t → H.size ≤ H1.size → (∀ q : Nat, q < H.size → ¬ AX q → H1[q]? = H[q]?) → va_S A0 H0 H1 locs1 → H1[q9]? = some ce → ce.vm = .none → s.vm.findClass E = some ce.cls → vx_W p l e R s m args below meth c H1 locs1 (cells + mc) (slots + ms) Q (F0 m pc ls rest) q9)
    (kk : ∀ (r : UInt64) (u : S) (t : State) (H1 : Heap) (locs1 : List Loc), t.heap = H1 → s.vm.Alike t.vm → post r u → B u t → H.size ≤ H1.size → (∀ q : Nat, q < H.size → ¬ A1 q → H1[q]? = H[q]?) → va_S A0 H0 H1 locs1 → W p l e R s m args below meth c H1 locs1 (cells + mc) (slots + ms) Q (F0 m (pc + 3) ls (.double r :: rest))) : W p l e R s m args below meth c H locs cells slots Q (F0 m pc ls st0) := by
  intro T hT X
  rcases hr T hT X with ⟨v, st₀, t, T', L, h0, X', hL, e1, e2, ⟨⟨r, u, hv, hp, hb⟩, hF⟩, st⟩ | ⟨q, st₀, t, T', L, E, ce, h0, X', hL, e1, e2, ⟨u, hp, hb, hF⟩, hce, hcv, hcl, st⟩
  · cases hv
    obtain ⟨k1, k2, k3⟩ := vx_keep h0 e1 hS hA hf hL hF
    obtain ⟨t2, a1, b1⟩ := kk r u t T'.heap (locs ++ L) e1.symm (by rw [← e2]; exact X'.warmed.alike) hp hb k1 k2 k3 T' rfl X'
    exact ⟨t2, st t2 a1, b1⟩
  · obtain ⟨k1, k2, k3⟩ := vx_keep h0 e1 hS hAX hf hL hF
    obtain ⟨t2, a1, b1⟩ := kx E ce q u t T'.heap (locs ++ L) e1.symm (by rw [← e2]; exact X'.warmed.alike) hp hb k1 k2 k3 (by rw [e1]; exact hce) hcv hcl T' rfl X'
    exact ⟨t2, st.trans a1, b1⟩
theorem vx_callv {S SX : Type} {post : S → Prop} {px : SX → Prop} {B : S → State → Prop} {BX : String → SX → State → Prop} {AX : Nat → Prop} (hr : vx_Run p l e R s m args below meth c H locs cells slots mc ms (F0 m pc ls st0) rest (va_Qv post B A1 a) (vx_X px BX AX) free) (hS : va_S A0 H0 H locs) (hA : ∀ q, q < H.size → A1 q → A0 q) (hf : ∀ q, free q → A0 q) (hAX : ∀ q, q < H.size → AX q → A0 q)
    (kx : ∀ (E : String) (ce : Cell) (q9 : Addr) (u : SX) (t : State) (H1 : Heap) (locs1 : List Loc), t.heap = H1 → s.vm.Alike t.vm → px u → BX E u t → H.size ≤ H1.size → (∀ q : Nat, q < H.size → ¬ AX q → H1[q]? = H[q]?) → va_S A0 H0 H1 locs1 → H1[q9]? = some ce → ce.vm = .none → s.vm.findClass E = some ce.cls → vx_W p l e R s m args below meth c H1 locs1 (cells + mc) (slots + ms) Q (F0 m pc ls rest) q9)
    (kk : ∀ (u : S) (t : State) (H1 : Heap) (locs1 : List Loc), t.heap = H1 → s.vm.Alike t.vm → post u → B u t → H.size ≤ H1.size → (∀ q : Nat, q < H.size → ¬ A1 q → H1[q]? = H[q]?) → va_S A0 H0 H1 locs1 → W p l e R s m args below meth c H1 locs1 (cells + mc) (slots + ms) Q (F0 m (pc + 3) ls (rest))) : W p l e R s m args below meth c H locs cells slots Q (F0 m pc ls st0) := by
  intro T hT X
  rcases hr T hT X with ⟨v, st₀, t, T', L, h0, X', hL, e1, e2, ⟨⟨u, hv, hp, hb⟩, hF⟩, st⟩ | ⟨q, st₀, t, T', L, E, ce, h0, X', hL, e1, e2, ⟨u, hp, hb, hF⟩, hce, hcv, hcl, st⟩
  · cases hv
    obtain ⟨k1, k2, k3⟩ := vx_keep h0 e1 hS hA hf hL hF
    obtain ⟨t2, a1, b1⟩ := kk u t T'.heap (locs ++ L) e1.symm (by rw [← e2]; exact X'.warmed.alike) hp hb k1 k2 k3 T' rfl X'
    exact ⟨t2, st t2 a1, b1⟩
  · obtain ⟨k1, k2, k3⟩ := vx_keep h0 e1 hS hAX hf hL hF
    obtain ⟨t2, a1, b1⟩ := kx E ce q u t T'.heap (locs ++ L) e1.symm (by rw [← e2]; exact X'.warmed.alike) hp hb k1 k2 k3 (by rw [e1]; exact hce) hcv hcl T' rfl X'
    exact ⟨t2, st.trans a1, b1⟩
/-- caught by the row x of this method's table; the rows ahead don't take it -/
theorem vx_catch {own name : String} {E : String} {ce : Cell} {q : Addr} (hown : s.vm.findClass own = some m.cls) (pre : List ExceptionTableEntry) (x : ExceptionTableEntry) (suf : List ExceptionTableEntry) (hsplit : c.exceptionTable.toList = pre ++ x :: suf)
    (hpass : ∀ z ∈ pre, covers z pc = false ∨ (z.catchType ≠ 0 ∧ ∃ nm : String, (Cond.classLink own z.catchType nm).before args s = true ∧ va_Nc E nm s)) (hx : covers x pc = true) (h0 : x.catchType ≠ 0)
    (hlink : (Cond.classLink own x.catchType name).before args s = true) (hcast : (Cond.castable E name).before args s = true) (hcell : H[q]? = some ce) (hv : ce.vm = .none) (hcl : s.vm.findClass E = some ce.cls)
    (kk : W p l e R s m args below meth c H locs cells slots Q (F0 m x.handlerPc ls [.ref q])) : vx_W p l e R s m args below meth c H locs cells slots Q (F0 m pc ls rest) q := by
  intro T hT X
  have hpl : e.platform.magicAccessors = ({} : Platform).magicAccessors := by rw [X.admits.platform]
  obtain ⟨c3, c4, hc3, hc4, hasg⟩ := Cond.castable_spec hcast
  cases Option.some.inj (hc3.symm.trans hcl)
  obtain ⟨c5, hc5, hcl5⟩ := Cond.classLink_spec hown hlink e.platform hpl
  cases Option.some.inj (hc4.symm.trans hc5)
  obtain ⟨vm', X', st⟩ := X.thenCaughtThrough q (g := F0 m pc ls rest) rfl (Steps.refl _) (by rw [hT]; exact hcell) (by rw [hv]; rfl) (by obtain ⟨k9, h9, -⟩ := Vm.findClass_spec hcl; exact ⟨k9, h9⟩) pre x suf hsplit
    (fun z hz => by
      rcases hpass z hz with h | ⟨hz0, nm, hl1, hn1⟩
      · exact Or.inl h
      · obtain ⟨c6, hc6, hcl6⟩ := Cond.classLink_spec hown hl1 e.platform hpl
        obtain ⟨a8, b8, h1, h2, h3⟩ := hn1
        cases Option.some.inj (h1.symm.trans hcl)
        cases Option.some.inj (h2.symm.trans hc6)
        exact Or.inr ⟨hz0, _, hcl6, h3⟩) hx (Or.inr ⟨h0, c4, hcl5, hasg⟩)
  obtain ⟨t, a1, b1⟩ := kk (T.setVm vm') hT X'
  exact ⟨t, st.trans a1, b1⟩
end Rows
section Ends
variable {p : Program} {l : Launch} {e : Env} {R : Room} {s : State} {m : MethodId} {args : Array Value} {below : List Frame} {meth : Method} {c : Code} {H : Heap} {locs : List Loc} {cells slots : Nat} {Q : State → Prop}
variable {mc ms : Nat} {free : Addr → Prop} {A0 A1 : Nat → Prop} {H0 : Heap} {a : Array Value} {ls : Array Slot} {st0 rest : List Value}
variable {Qc : Array Value → State → Outcome → State → Prop} {XC : String → State → State → Prop}
/-- what a body that may throw owes at its end -/
def vx_MQ (below : List Frame) (Qc : Array Value → State → Outcome → State → Prop) (XC : String → State → State → Prop) (a : Array Value) (s : State) (mc ms : Nat) (free : Addr → Prop) : State → Prop := fun t =>
  ∃ o, t.status = .running ∧ Ended t below o ∧ vx_Q Qc XC mc ms free a s o t
theorem vx_ret {g : JFrame} {mc ms : Nat} (k : W p l e R s m args below meth c H locs cells slots (MQ below Qc args s mc ms free) g) : W p l e R s m args below meth c H locs cells slots (vx_MQ below Qc XC args s mc ms free) g := by
  intro T hT X
  obtain ⟨t, a1, o, b1, b2, b3, b4⟩ := k T hT X
  exact ⟨t, a1, o, b1, b2, Or.inl ⟨b3, b4⟩⟩
/-- not caught here: it goes on to the caller -/
theorem vx_widen {g : JFrame} {q : Addr} {k n : Nat} (h1 : cells ≤ k) (h2 : slots ≤ n) (kk : vx_W p l e R s m args below meth c H locs k n Q g q) : vx_W p l e R s m args below meth c H locs cells slots Q g q := fun T hT X => kk T hT (stand_widen X h1 h2)
theorem vx_out {pc : Nat} {E : String} {ce : Cell} {q : Addr} {mc ms : Nat} (hout : ∀ x ∈ c.exceptionTable.toList, covers x pc = false) (hlocks : meth.locks = false) (hcell : H[q]? = some ce) (hv : ce.vm = .none) (hcl : s.vm.findClass E = some ce.cls)
    (hx : ∀ t : State, t.heap = H → s.vm.Alike t.vm → XC E s t) (hf : ∀ z ∈ locs, free z.base) (hc : cells ≤ mc) (hs : slots ≤ ms) :
    vx_W p l e R s m args below meth c H locs cells slots (vx_MQ below Qc XC args s mc ms free) (F0 m pc ls rest) q := by
  intro T hT X
  obtain ⟨st1, hrun, hend, hW, hsm⟩ := X.leaveThrown q (g := F0 m pc ls rest) rfl rfl rfl hout hlocks
  have hcell9 : (T.setFrames (.throwing q :: below)).heap[q]? = some ce := by
    show T.heap[q]? = some ce
    rw [hT]; exact hcell
  exact ⟨_, st1, .threw q, hrun, hend, Or.inr ⟨q, rfl, E, ce, locs, hx _ hT hW.alike, hcell9, hv, hcl, hW, hsm.mono hc hs, hf⟩⟩
theorem vx_frame {U : State} {k n : Nat} (h : s.sameButNew ({ U with vm := s.vm } : State) locs k n) : s.heap.size ≤ U.heap.size ∧ ∀ q : Nat, q < s.heap.size → (∀ z ∈ locs, z.base ≠ q) → U.heap[q]? = s.heap[q]? := by
  obtain ⟨-, h2, -, -, -, h6⟩ := h
  refine ⟨h2, fun q hq hz => ?_⟩
  obtain ⟨c9, e1, e2, e3, e4⟩ := h6 q _ (Array.getElem?_eq_getElem hq)
  have hs : c9.slots = (s.heap[q]).slots := Array.ext_getElem? fun i => e4 i fun hm => hz _ hm rfl
  have h9 : c9 = s.heap[q] := by
    rw [hs] at e2
    exact e2
  have e5 : U.heap[q]? = some c9 := e1
  rw [e5, h9, Array.getElem?_eq_getElem hq]
/-- the words of a throw but the four that speak of the heap -/
def vx_no (w : Cond) : Bool := decide (w ≠ .isRef (.static Bundle.tN "UNASSIGNED_STACK" Bundle.steD)) && decide (w ≠ .isRef (.static Bundle.tN "SUPPRESSED_SENTINEL" Bundle.listD)) && decide (w ≠ .laysStatic Bundle.tN "UNASSIGNED_STACK" Bundle.steD) && decide (w ≠ .laysStatic Bundle.tN "SUPPRESSED_SENTINEL" Bundle.listD)
def vx_at0 (own : String) (ic : Nat) (X : String) (names : List String) : List Cond := (Bundle.ownAtoms0 own ic X names).filter vx_no
def vx_atS (own : String) (ic : Nat) (X : String) (names : List String) : List Cond := (Bundle.ownAtoms own ic X names).filter vx_no
/-- a word that the tables alone decide, or a good one -/
def vx_ot (w : Cond) : Bool := w.onTables || goodWord w
theorem vx_ot_at {args a' : Array Value} {s U : State} {w : Cond} (hW : s.WarmedH U.vm) (hvm : s.vm = U.vm) (hg : vx_ot w = true) (h : w.before args s = true) : w.before a' U = true := by
  simp only [vx_ot, Bool.or_eq_true] at hg
  rcases hg with hg | hg
  · exact va_tabs hg hvm h
  · exact word_at hW (good_of_word hg) h
/-- a list's words: the good ones out of the method's own list, the others by premises of their own -/
theorem vx_hat {args : Array Value} {s : State} {L B : List Cond} (h1 : ∀ w ∈ L.filter goodWord, w.before args s = true) (h2 : ∀ w ∈ L.filter (fun w => !goodWord w), w ∈ B) (h3 : ∀ w ∈ B, w.before args s = true) : ∀ w ∈ L, w.before args s = true := by
  intro w hw
  by_cases g : goodWord w = true
  · exact h1 w (List.mem_filter.mpr ⟨hw, g⟩)
  · refine h3 w (h2 w (List.mem_filter.mpr ⟨hw, ?_⟩))
    show (!goodWord w) = true
    cases hgw : goodWord w
    · rfl
    · exact absurd hgw g
theorem vx_c {args : Array Value} {s : State} {w : Cond} {B : List Cond} (h : w.before args s = true) (t : ∀ w ∈ B, w.before args s = true) : ∀ w' ∈ w :: B, w'.before args s = true := fun w' h' => (List.mem_cons.mp h').elim (fun e => by rw [e]; exact h) (t w')
theorem vx_n {args : Array Value} {s : State} : ∀ w ∈ ([] : List Cond), w.before args s = true := fun _ h => nomatch h
theorem vx_own {args : Array Value} {s : State} {L : List Cond} (h1 : ∀ w ∈ L.filter vx_no, w.before args s = true)
    (hU : (Cond.isRef (.static Bundle.tN "UNASSIGNED_STACK" Bundle.steD)).before args s = true) (hN : (Cond.isRef (.static Bundle.tN "SUPPRESSED_SENTINEL" Bundle.listD)).before args s = true)
    (lU : (Cond.laysStatic Bundle.tN "UNASSIGNED_STACK" Bundle.steD).before args s = true) (lN : (Cond.laysStatic Bundle.tN "SUPPRESSED_SENTINEL" Bundle.listD).before args s = true) : ∀ w ∈ L, w.before args s = true := by
  intro w hw
  by_cases e1 : w = .isRef (.static Bundle.tN "UNASSIGNED_STACK" Bundle.steD)
  · rw [e1]; exact hU
  · by_cases e2 : w = .isRef (.static Bundle.tN "SUPPRESSED_SENTINEL" Bundle.listD)
    · rw [e2]; exact hN
    · by_cases e3 : w = .laysStatic Bundle.tN "UNASSIGNED_STACK" Bundle.steD
      · rw [e3]; exact lU
      · by_cases e4 : w = .laysStatic Bundle.tN "SUPPRESSED_SENTINEL" Bundle.listD
        · rw [e4]; exact lN
        · exact h1 w (List.mem_filter.mpr ⟨hw, by unfold vx_no; rw [decide_eq_true e1, decide_eq_true e2, decide_eq_true e3, decide_eq_true e4]; rfl⟩)
/-- where a static field lies, its class's statics cell in H -/
def vx_L (C n d : String) (A : Nat → Prop) (U : State) (H : Heap) : Prop := ∃ (c : ClassId) (k : Class) (i : Nat) (f : Field) (a : Nat) (cell : Cell), U.vm.findClass C = some c ∧ U.fieldFound? C n d = some (c, k, i, f) ∧ f.isStatic = true ∧ k.statics = some a ∧ H[a]? = some cell ∧ cell.vm.isStatics = true ∧ cell.cls = c ∧ f.slot < cell.slots.size ∧ k.staticTypes[f.slot]? = some f.type ∧ ¬ A a
theorem vx_L.moved {C n d : String} {A : Nat → Prop} {u U : State} {H : Heap} (hvm : u.vm.Alike U.vm) (h : vx_L C n d A u H) : vx_L C n d A U H := by
  obtain ⟨c, k, i, f, a, cell, h1, h2, h3, h4, h5, h6, h7, h8, h9, h10⟩ := h
  obtain ⟨k', hi', he⟩ := State.fieldFound?_setVm hvm h2
  exact ⟨c, k', i, f, a, cell, by rw [hvm.findClass]; exact h1, hi', h3, by rw [he]; exact h4, h5, h6, h7, h8, by rw [he]; exact h9, h10⟩
theorem vx_L.kept {C n d : String} {A : Nat → Prop} {U : State} {H H1 : Heap} (h : vx_L C n d A U H) (hq : ∀ a : Nat, a < H.size → ¬ A a → H1[a]? = H[a]?) : vx_L C n d A U H1 := by
  obtain ⟨c, k, i, f, a, cell, h1, h2, h3, h4, h5, h6, h7, h8, h9, h10⟩ := h
  exact ⟨c, k, i, f, a, cell, h1, h2, h3, h4, by rw [hq a (Array.getElem?_eq_some_iff.mp h5).1 h10]; exact h5, h6, h7, h8, h9, h10⟩
theorem vx_L.narrow {C n d : String} {A B : Nat → Prop} {U : State} {H : Heap} (h : vx_L C n d A U H) (hAB : ∀ q, B q → A q) : vx_L C n d B U H := by
  obtain ⟨c, k, i, f, a, cell, h1, h2, h3, h4, h5, h6, h7, h8, h9, h10⟩ := h
  exact ⟨c, k, i, f, a, cell, h1, h2, h3, h4, h5, h6, h7, h8, h9, fun z => h10 (hAB _ z)⟩
theorem vx_L.word {C n d : String} {A : Nat → Prop} {s : State} {args : Array Value} (h : vx_L C n d A s s.heap) : (Cond.laysStatic C n d).before args s = true := by
  obtain ⟨c, k, i, f, a, cell, h1, h2, h3, h4, h5, h6, h7, h8, h9, -⟩ := h
  show (Cond.laysStatic C n d).holds args s none s [] = true
  exact Cond.laysStatic_of h1 h2 h3 h4 h5 h6 h7 h8 h9
/-- .. and what it holds: null or some reference -/
def vx_Zq (C n d : String) (A : Nat → Prop) (U : State) (H : Heap) : Prop := va_Zq C n d A U H ∧ vx_L C n d A U H
theorem vx_Zq.moved {C n d : String} {A : Nat → Prop} {u U : State} {H : Heap} (hvm : u.vm.Alike U.vm) (h : vx_Zq C n d A u H) : vx_Zq C n d A U H := ⟨va_Zq.moved hvm h.1, vx_L.moved hvm h.2⟩
theorem vx_Zq.kept {C n d : String} {A : Nat → Prop} {U : State} {H H1 : Heap} (h : vx_Zq C n d A U H) (hq : ∀ a : Nat, a < H.size → ¬ A a → H1[a]? = H[a]?) : vx_Zq C n d A U H1 := ⟨va_Zq.kept h.1 hq, vx_L.kept h.2 hq⟩
theorem vx_Zq.narrow {C n d : String} {A B : Nat → Prop} {U : State} {H : Heap} (h : vx_Zq C n d A U H) (hAB : ∀ q, B q → A q) : vx_Zq C n d B U H := ⟨va_Zq.narrow h.1 hAB, vx_L.narrow h.2 hAB⟩
theorem vx_Zqof {args : Array Value} {s : State} {C n d : String} {A : Nat → Prop} (hl : (Cond.laysStatic C n d).before args s = true) (hini : (Cond.initialized C).before args s = true) (h : (Cond.isRef (.static C n d)).before args s = true) (hA : ∀ a : Nat, a < s.heap.size → ¬ A a) : vx_Zq C n d A s s.heap := by
  refine ⟨va_Zqof hl hini h hA, ?_⟩
  obtain ⟨c, k, i, f, a, cell, h1, h2, h3, h4, h5, h6, h7, h8, h9⟩ := Cond.laysStatic_spec hl
  exact ⟨c, k, i, f, a, cell, h1, h2, h3, h4, h5, h6, h7, h8, h9, hA a (Array.getElem?_eq_some_iff.mp h5).1⟩
theorem vx_isRef {C n d : String} {v : Value} {A : Nat → Prop} {s : State} {args : Array Value} (h : va_Z C n d v A s s.heap) (hv : v.isRef = true) : (Cond.isRef (.static C n d)).before args s = true := by
  obtain ⟨cf, kf, fi, f, a, cell, h1, h2, h3, h4, h5, h6, h7, -⟩ := h
  have he : (Term.static C n d).eval args s none [] s = some v := by
    simp [Term.eval, State.fieldNamed?, h1, h2, h4, h5, h6, h7]
  simp only [Cond.before, Cond.holds, Cond.value, he]
  cases v <;> simp_all [Value.isRef]
theorem vx_isRefq {C n d : String} {A : Nat → Prop} {s : State} {args : Array Value} (h : va_Zq C n d A s s.heap) : (Cond.isRef (.static C n d)).before args s = true := by
  rcases h with h | ⟨t, h⟩
  · exact vx_isRef h rfl
  · exact vx_isRef h rfl
/-- the same frame, seen from here: as if the method were called anew in this heap -/
theorem vx_rebase {T : State} (X : Stand p l e R s m args below meth c T locs cells slots) {R' : Room} (hf : R'.frames ≤ R.frames) (hl : R'.locals ≤ R.locals) (hc : cells + R'.cells ≤ R.cells) (hs : slots + R'.slots ≤ R.slots) :
    Stand p l e R' ((T.setVm s.vm).setFrames (.invoking m args :: below)) m args below meth c T [] 0 0 := by
  have htop : (T.setVm s.vm).topJava?.isSome := X.here.top
  have hF : ((T.setVm s.vm).setFrames (.invoking m args :: below)).frames = .invoking m args :: below := State.frames_setFrames _ (State.cur_lt_of_top htop)
  obtain ⟨g₀, hg0⟩ := Option.isSome_iff_exists.mp htop
  obtain ⟨r, hr⟩ := State.topJava?_eq_some.mp hg0
  have hl9 : e.platform.stackLimits (T.setVm s.vm).me = e.platform.stackLimits s.me := X.limits
  have hb9 : (T.setVm s.vm).me.stackBytes = s.me.stackBytes := X.bytes
  refine ⟨X.admits, X.cas, X.clock, hF, ?_, X.hears, X.method, X.code, X.here, X.tail, X.warmed, ?_, ?_, ?_⟩
  · have h := X.room
    have hU : ((T.setVm s.vm).setFrames (.invoking m args :: below)).localsInUse = s.localsInUse := by
      rw [State.localsInUse_invoking hF (meth := meth) (c := c) X.method X.code, State.localsInUse_invoking X.frames X.method X.code]
    simp only [State.hasRoom, Bool.and_eq_true, decide_eq_true_eq] at h ⊢
    obtain ⟨⟨⟨⟨h1, h2, h3, h4, h5, h6⟩, h7⟩, h8⟩, h9⟩ := h
    rw [X.frames, List.length_cons] at h2 h3
    have q1 := X.heapSize
    have q2 := X.used
    simp only [hF, hU, List.length_cons, State.stackLimits_setFrames, State.stackBytes_setFrames, hl9, hb9]
    refine ⟨⟨⟨⟨by omega, by omega, by omega, by omega, by omega, h6⟩, ?_⟩, ?_⟩, X.book⟩
    · show T.heap.size + R'.cells ≤ e.platform.maxCells
      omega
    · show T.slotsUsed + R'.slots ≤ e.platform.maxSlots
      omega
  · rw [State.stackLimits_setFrames]; rfl
  · rw [State.stackBytes_setFrames]; rfl
  · refine ⟨?_, Nat.le_refl _, Nat.le_refl _, ?_, ?_, fun a c9 h9 => ⟨c9, h9, rfl, rfl, fun _ _ => rfl⟩⟩
    · obtain ⟨t, ht, -⟩ := State.frames_cons hr
      show T.setVm s.vm = { ((T.setVm s.vm).setFrames (.invoking m args :: below)).setFrames (T.setVm s.vm).frames with heap := T.heap, slotsUsed := T.slotsUsed }
      rw [State.setFrames_setFrames, State.setFrames_self ht]
      rfl
    · show T.slotsUsed = T.slotsUsed + ((T.heap.toList.drop T.heap.size).map (·.slots.size)).sum
      rw [List.drop_eq_nil_of_le (Nat.le_of_eq Array.length_toList)]
      rfl
    · show ((T.heap.toList.drop T.heap.size).map (·.slots.size)).sum ≤ 0
      rw [List.drop_eq_nil_of_le (Nat.le_of_eq Array.length_toList)]
      exact Nat.le_refl _
/-- 'throw new E()': new; dup; invokespecial; athrow -/
theorem vx_throw0 {cc : ByteArray} {pc : Nat} (hexec : p.tables.exec = Jvm.exec) (hb : c.code = cc) (hl : l.stackTraces = false) {own cls : String} {names : List String} {ik ic mc ms : Nat} {A : Nat → Prop}
    (hown : s.vm.findClass own = some m.cls) (hcls : Bundle.fit cls = true) (hnames : ∀ n ∈ names, Bundle.fit n = true)
    (hk : (Cond.classLink own ik cls).before args s = true) (hini : (Cond.initialized cls).before args s = true) (hat : ∀ w ∈ vx_at0 own ic cls names, w.before args s = true)
    (hgood : ∀ w ∈ Cond.classLink own ik cls :: Cond.initialized cls :: vx_at0 own ic cls names, vx_ot w = true)
    (hU : vx_Zq Bundle.tN "UNASSIGNED_STACK" Bundle.steD A s s.heap) (hN : vx_Zq Bundle.tN "SUPPRESSED_SENTINEL" Bundle.listD A s s.heap) (hS : va_S A s.heap H locs) (hsize : ls.size = c.maxLocals)
    (d0 : decode cc pc = .ok (.new ik, 3)) (d3 : decode cc (pc + 3) = .ok (.dup, 1)) (d4 : decode cc (pc + 4) = .ok (.invokespecial ic, 3)) (d7 : decode cc (pc + 7) = .ok (.athrow, 1))
    (hout : ∀ x ∈ c.exceptionTable.toList, covers x (pc + 7) = false)
    (hRframes : names.length + 3 < R.frames) (hRlocals : (rest.map fun v => v.category).sum + (13 * (names.length + 1) + 42) ≤ R.locals) (hRcells : cells + 1 ≤ R.cells) (hRslots : slots + 6 ≤ R.slots) (hlocks : meth.locks = false)
    (hx : ∀ t : State, s.vm.Alike t.vm → H.size ≤ t.heap.size → (∀ q : Nat, q < H.size → t.heap[q]? = H[q]?) → XC cls s t)
    (hf : ∀ z ∈ locs, free z.base) (hc : cells + 1 ≤ mc) (hs : slots + 6 ≤ ms) :
    W p l e R s m args below meth c H locs cells slots (vx_MQ below Qc XC args s mc ms free) (F0 m pc ls rest) := by
  intro T hT X
  have htr : e.platform.stackTraces = false := (show e.platform.stackTraces = l.stackTraces by rw [X.admits.platform]).trans hl
  have Y := vx_rebase X (R' := { frames := R.frames, locals := R.locals, cells := 1, slots := 6 }) (Nat.le_refl _) (Nat.le_refl _) hRcells hRslots
  obtain ⟨s', hA⟩ : ∃ z, z = (T.setVm s.vm).setFrames (.invoking m args :: below) := ⟨_, rfl⟩
  rw [← hA] at Y
  have hvm : s'.vm = s.vm := by rw [hA]; rfl
  have hhp : s'.heap = H := by rw [hA]; exact hT
  have hW0 : s.WarmedH s'.vm := by rw [hvm]; exact State.WarmedH.refl s
  have hat' : ∀ w ∈ vx_at0 own ic cls names, w.before args s' = true := fun w hw => vx_ot_at hW0 hvm.symm (hgood w (List.mem_cons_of_mem _ (List.mem_cons_of_mem _ hw))) (hat w hw)
  have hk' : (Cond.classLink own ik cls).before args s' = true := vx_ot_at hW0 hvm.symm (hgood _ List.mem_cons_self) hk
  have hini' : (Cond.initialized cls).before args s' = true := vx_ot_at hW0 hvm.symm (hgood _ (List.mem_cons_of_mem _ List.mem_cons_self)) hini
  have hU' : vx_Zq Bundle.tN "UNASSIGNED_STACK" Bundle.steD A s' s'.heap := by rw [hhp]; exact vx_Zq.moved hW0.alike (hU.kept hS.2.1)
  have hN' : vx_Zq Bundle.tN "SUPPRESSED_SENTINEL" Bundle.listD A s' s'.heap := by rw [hhp]; exact vx_Zq.moved hW0.alike (hN.kept hS.2.1)
  have h : ∀ w ∈ Bundle.ownAtoms0 own ic cls names, w.before args s' = true := vx_own hat' (vx_isRefq hU'.1) (vx_isRefq hN'.1) hU'.2.word hN'.2.word
  have hown' : s'.vm.findClass own = some m.cls := by rw [hvm]; exact hown
  have hins : (Cond.instantiable cls 6).before args s' = true := h _ (by simp [Bundle.ownAtoms0])
  obtain ⟨vm₁, cX, kX, hfX, hkX, -, -, X₁, st1⟩ := Y.newCold hexec (own := own) (C := cls) (index := ik) (n := 6) hown' hk' hins hini'
    (g := F0 m pc ls rest) rfl (by rw [hb]; exact d0) (Nat.le_refl _) (Nat.le_refl _)
  generalize hT1 : (T.setVm vm₁).pushCell { cls := cX, slots := kX.instanceTypes.map defaultValue, vm := .none } = T1 at X₁ st1
  have hcat : (Value.ref T.heap.size).category = 1 := rfl
  have hcellA : T1.heap[T.heap.size]? = some (freshCell cX kX) := by rw [← hT1]; exact State.heap_pushCell_size _ _
  have d3' : decode c.code (pc + 3) = .ok (.dup, 1) := by rw [hb]; exact d3
  obtain ⟨U, hsteps, hrun, hend, hW, hsame, ce, hce, hO⟩ := X₁.ctorThrow0 hexec htr (own := own) (cls := cls) (names := names) (ic := ic) hown' hcls hnames h (fun x hx => nomatch hx) hfX hkX hcellA (by rw [hhp, hT]; exact Nat.le_refl _)
    (g := { method := m, pc := pc + 4, locals := ls, stack := .ref T.heap.size :: .ref T.heap.size :: rest, locked := none }) rfl hsize rfl rfl (rest := rest) rfl
    (by rw [hb]; exact d4) (by rw [hb]; exact d7) hout hRframes (by simp only [List.map_cons, List.sum_cons, hcat]; omega) hlocks
  obtain ⟨f1, f2⟩ := vx_frame hsame
  rw [hhp] at f1 f2
  have hWs : s.WarmedH U.vm := State.WarmedH.trans hW0 hW
  have hcl : s.vm.findClass cls = some ce.cls := by
    have h9 := hO.cls
    rw [hvm] at h9
    exact h9
  have hall : s.sameButNew ({ U with vm := s.vm } : State) locs mc ms := by
    subst hA
    obtain ⟨e1, e2⟩ := hsame
    rw [State.setFrames_setFrames] at e1
    have h2 : (T.setVm s.vm).sameButNew ({ U with vm := s.vm } : State) [] (0 + 1) (0 + 6) := ⟨e1, e2⟩
    have h3 := X.same.trans h2
    rw [List.append_nil] at h3
    exact h3.mono hc hs
  refine ⟨U, ?_, .threw T.heap.size, hrun, hend, Or.inr ⟨T.heap.size, rfl, cls, ce, locs, hx U hWs.alike f1 (fun q hq => f2 q hq (fun z hz => nomatch hz)), hce, hO.vm, hcl, hWs, hall, hf⟩⟩
  refine st1 _ ?_
  show Steps p.tables e below (T1.setTop { method := m, pc := pc + 3, locals := ls, stack := .ref T.heap.size :: rest, locked := none }) _
  jvm_step X₁.here [X₁.here.top, hexec, d3', Value.category]
  exact hsteps
/-- 'throw new E("text")': new; dup; ldc; invokespecial; athrow -/
theorem vx_throwS {cc : ByteArray} {pc : Nat} (hexec : p.tables.exec = Jvm.exec) (hb : c.code = cc) (hl : l.stackTraces = false) {own cls text : String} {names : List String} {ik is ic mc ms sa : Nat} {A : Nat → Prop}
    (hown : s.vm.findClass own = some m.cls) (hcls : Bundle.fit cls = true) (hnames : ∀ n ∈ names, Bundle.fit n = true)
    (hk : (Cond.classLink own ik cls).before args s = true) (hini : (Cond.initialized cls).before args s = true) (hstr : vk_R own is text sa s) (hat : ∀ w ∈ vx_atS own ic cls names, w.before args s = true)
    (hgood : ∀ w ∈ Cond.classLink own ik cls :: Cond.initialized cls :: vx_atS own ic cls names, vx_ot w = true)
    (hU : vx_Zq Bundle.tN "UNASSIGNED_STACK" Bundle.steD A s s.heap) (hN : vx_Zq Bundle.tN "SUPPRESSED_SENTINEL" Bundle.listD A s s.heap) (hS : va_S A s.heap H locs) (hsize : ls.size = c.maxLocals)
    (d0 : decode cc pc = .ok (.new ik, 3)) (d3 : decode cc (pc + 3) = .ok (.dup, 1)) (d4 : decode cc (pc + 4) = .ok (.ldc is, 2)) (d6 : decode cc (pc + 6) = .ok (.invokespecial ic, 3)) (d9 : decode cc (pc + 9) = .ok (.athrow, 1))
    (hout : ∀ x ∈ c.exceptionTable.toList, covers x (pc + 9) = false)
    (hRframes : names.length + 3 < R.frames) (hRlocals : (rest.map fun v => v.category).sum + (13 * (names.length + 1) + 43) ≤ R.locals) (hRcells : cells + 1 ≤ R.cells) (hRslots : slots + 6 ≤ R.slots) (hlocks : meth.locks = false)
    (hx : ∀ t : State, s.vm.Alike t.vm → H.size ≤ t.heap.size → (∀ q : Nat, q < H.size → t.heap[q]? = H[q]?) → XC cls s t)
    (hf : ∀ z ∈ locs, free z.base) (hc : cells + 1 ≤ mc) (hs : slots + 6 ≤ ms) :
    W p l e R s m args below meth c H locs cells slots (vx_MQ below Qc XC args s mc ms free) (F0 m pc ls rest) := by
  intro T hT X
  have htr : e.platform.stackTraces = false := (show e.platform.stackTraces = l.stackTraces by rw [X.admits.platform]).trans hl
  have Y := vx_rebase X (R' := { frames := R.frames, locals := R.locals, cells := 1, slots := 6 }) (Nat.le_refl _) (Nat.le_refl _) hRcells hRslots
  obtain ⟨s', hA⟩ : ∃ z, z = (T.setVm s.vm).setFrames (.invoking m args :: below) := ⟨_, rfl⟩
  rw [← hA] at Y
  have hvm : s'.vm = s.vm := by rw [hA]; rfl
  have hhp : s'.heap = H := by rw [hA]; exact hT
  have hW0 : s.WarmedH s'.vm := by rw [hvm]; exact State.WarmedH.refl s
  have hat' : ∀ w ∈ vx_atS own ic cls names, w.before args s' = true := fun w hw => vx_ot_at hW0 hvm.symm (hgood w (List.mem_cons_of_mem _ (List.mem_cons_of_mem _ hw))) (hat w hw)
  have hk' : (Cond.classLink own ik cls).before args s' = true := vx_ot_at hW0 hvm.symm (hgood _ List.mem_cons_self) hk
  have hini' : (Cond.initialized cls).before args s' = true := vx_ot_at hW0 hvm.symm (hgood _ (List.mem_cons_of_mem _ List.mem_cons_self)) hini
  have hU' : vx_Zq Bundle.tN "UNASSIGNED_STACK" Bundle.steD A s' s'.heap := by rw [hhp]; exact vx_Zq.moved hW0.alike (hU.kept hS.2.1)
  have hN' : vx_Zq Bundle.tN "SUPPRESSED_SENTINEL" Bundle.listD A s' s'.heap := by rw [hhp]; exact vx_Zq.moved hW0.alike (hN.kept hS.2.1)
  have h : ∀ w ∈ Bundle.ownAtoms own ic cls names, w.before args s' = true := vx_own hat' (vx_isRefq hU'.1) (vx_isRefq hN'.1) hU'.2.word hN'.2.word
  have hown' : s'.vm.findClass own = some m.cls := by rw [hvm]; exact hown
  have hins : (Cond.instantiable cls 6).before args s' = true := h _ (by simp [Bundle.ownAtoms])
  obtain ⟨vm₁, cX, kX, hfX, hkX, -, -, X₁, st1⟩ := Y.newCold hexec (own := own) (C := cls) (index := ik) (n := 6) hown' hk' hins hini'
    (g := F0 m pc ls rest) rfl (by rw [hb]; exact d0) (Nat.le_refl _) (Nat.le_refl _)
  generalize hT1 : (T.setVm vm₁).pushCell { cls := cX, slots := kX.instanceTypes.map defaultValue, vm := .none } = T1 at X₁ st1
  have hcat : (Value.ref T.heap.size).category = 1 := rfl
  have hcellA : T1.heap[T.heap.size]? = some (freshCell cX kX) := by rw [← hT1]; exact State.heap_pushCell_size _ _
  have d3' : decode c.code (pc + 3) = .ok (.dup, 1) := by rw [hb]; exact d3
  have d4' : decode c.code (pc + 4) = .ok (.ldc is, 2) := by rw [hb]; exact d4
  have hstr' : vk_R own is text sa s' := vk_R.warm hW0 hstr
  obtain ⟨U, hsteps, hrun, hend, hW, hsame, ce, hce, hO⟩ := X₁.ctorThrowS hexec htr (own := own) (cls := cls) (names := names) (ic := ic) hown' hcls hnames h (fun x hx => nomatch hx) hfX hkX hcellA (by rw [hhp, hT]; exact Nat.le_refl _) (msg := .ref sa) rfl
    (g := { method := m, pc := pc + 6, locals := ls, stack := .ref sa :: .ref T.heap.size :: .ref T.heap.size :: rest, locked := none }) rfl hsize rfl rfl (rest := rest) rfl
    (by rw [hb]; exact d6) (by rw [hb]; exact d9) hout hRframes (by simp only [List.map_cons, List.sum_cons, hcat]; omega) hlocks
  obtain ⟨f1, f2⟩ := vx_frame hsame
  rw [hhp] at f1 f2
  have hWs : s.WarmedH U.vm := State.WarmedH.trans hW0 hW
  have hcl : s.vm.findClass cls = some ce.cls := by
    have h9 := hO.cls
    rw [hvm] at h9
    exact h9
  have hall : s.sameButNew ({ U with vm := s.vm } : State) locs mc ms := by
    subst hA
    obtain ⟨e1, e2⟩ := hsame
    rw [State.setFrames_setFrames] at e1
    have h2 : (T.setVm s.vm).sameButNew ({ U with vm := s.vm } : State) [] (0 + 1) (0 + 6) := ⟨e1, e2⟩
    have h3 := X.same.trans h2
    rw [List.append_nil] at h3
    exact h3.mono hc hs
  refine ⟨U, ?_, .threw T.heap.size, hrun, hend, Or.inr ⟨T.heap.size, rfl, cls, ce, locs, hx U hWs.alike f1 (fun q hq => f2 q hq (fun z hz => nomatch hz)), hce, hO.vm, hcl, hWs, hall, hf⟩⟩
  refine st1 _ ?_
  show Steps p.tables e below (T1.setTop { method := m, pc := pc + 3, locals := ls, stack := .ref T.heap.size :: rest, locked := none }) _
  jvm_step X₁.here [X₁.here.top, hexec, d3', Value.category]
  exact X₁.ldcString hexec (own := own) (text := text) (index := is) (a := sa) hown' hstr'.1 hstr'.2
    (g := { method := m, pc := pc + 4, locals := ls, stack := .ref T.heap.size :: .ref T.heap.size :: rest, locked := none }) rfl d4' _ hsteps
/-- 'throw new E("text")', the text by a wide index -/
theorem vx_throwSW {cc : ByteArray} {pc : Nat} (hexec : p.tables.exec = Jvm.exec) (hb : c.code = cc) (hl : l.stackTraces = false) {own cls text : String} {names : List String} {ik is ic mc ms sa : Nat} {A : Nat → Prop}
    (hown : s.vm.findClass own = some m.cls) (hcls : Bundle.fit cls = true) (hnames : ∀ n ∈ names, Bundle.fit n = true)
    (hk : (Cond.classLink own ik cls).before args s = true) (hini : (Cond.initialized cls).before args s = true) (hstr : vk_R own is text sa s) (hat : ∀ w ∈ vx_atS own ic cls names, w.before args s = true)
    (hgood : ∀ w ∈ Cond.classLink own ik cls :: Cond.initialized cls :: vx_atS own ic cls names, vx_ot w = true)
    (hU : vx_Zq Bundle.tN "UNASSIGNED_STACK" Bundle.steD A s s.heap) (hN : vx_Zq Bundle.tN "SUPPRESSED_SENTINEL" Bundle.listD A s s.heap) (hS : va_S A s.heap H locs) (hsize : ls.size = c.maxLocals)
    (d0 : decode cc pc = .ok (.new ik, 3)) (d3 : decode cc (pc + 3) = .ok (.dup, 1)) (d4 : decode cc (pc + 4) = .ok (.ldc_w is, 3)) (d7 : decode cc (pc + 7) = .ok (.invokespecial ic, 3)) (d10 : decode cc (pc + 10) = .ok (.athrow, 1))
    (hout : ∀ x ∈ c.exceptionTable.toList, covers x (pc + 10) = false)
    (hRframes : names.length + 3 < R.frames) (hRlocals : (rest.map fun v => v.category).sum + (13 * (names.length + 1) + 43) ≤ R.locals) (hRcells : cells + 1 ≤ R.cells) (hRslots : slots + 6 ≤ R.slots) (hlocks : meth.locks = false)
    (hx : ∀ t : State, s.vm.Alike t.vm → H.size ≤ t.heap.size → (∀ q : Nat, q < H.size → t.heap[q]? = H[q]?) → XC cls s t)
    (hf : ∀ z ∈ locs, free z.base) (hc : cells + 1 ≤ mc) (hs : slots + 6 ≤ ms) :
    W p l e R s m args below meth c H locs cells slots (vx_MQ below Qc XC args s mc ms free) (F0 m pc ls rest) := by
  intro T hT X
  have htr : e.platform.stackTraces = false := (show e.platform.stackTraces = l.stackTraces by rw [X.admits.platform]).trans hl
  have Y := vx_rebase X (R' := { frames := R.frames, locals := R.locals, cells := 1, slots := 6 }) (Nat.le_refl _) (Nat.le_refl _) hRcells hRslots
  obtain ⟨s', hA⟩ : ∃ z, z = (T.setVm s.vm).setFrames (.invoking m args :: below) := ⟨_, rfl⟩
  rw [← hA] at Y
  have hvm : s'.vm = s.vm := by rw [hA]; rfl
  have hhp : s'.heap = H := by rw [hA]; exact hT
  have hW0 : s.WarmedH s'.vm := by rw [hvm]; exact State.WarmedH.refl s
  have hat' : ∀ w ∈ vx_atS own ic cls names, w.before args s' = true := fun w hw => vx_ot_at hW0 hvm.symm (hgood w (List.mem_cons_of_mem _ (List.mem_cons_of_mem _ hw))) (hat w hw)
  have hk' : (Cond.classLink own ik cls).before args s' = true := vx_ot_at hW0 hvm.symm (hgood _ List.mem_cons_self) hk
  have hini' : (Cond.initialized cls).before args s' = true := vx_ot_at hW0 hvm.symm (hgood _ (List.mem_cons_of_mem _ List.mem_cons_self)) hini
  have hU' : vx_Zq Bundle.tN "UNASSIGNED_STACK" Bundle.steD A s' s'.heap := by rw [hhp]; exact vx_Zq.moved hW0.alike (hU.kept hS.2.1)
  have hN' : vx_Zq Bundle.tN "SUPPRESSED_SENTINEL" Bundle.listD A s' s'.heap := by rw [hhp]; exact vx_Zq.moved hW0.alike (hN.kept hS.2.1)
  have h : ∀ w ∈ Bundle.ownAtoms own ic cls names, w.before args s' = true := vx_own hat' (vx_isRefq hU'.1) (vx_isRefq hN'.1) hU'.2.word hN'.2.word
  have hown' : s'.vm.findClass own = some m.cls := by rw [hvm]; exact hown
  have hins : (Cond.instantiable cls 6).before args s' = true := h _ (by simp [Bundle.ownAtoms])
  obtain ⟨vm₁, cX, kX, hfX, hkX, -, -, X₁, st1⟩ := Y.newCold hexec (own := own) (C := cls) (index := ik) (n := 6) hown' hk' hins hini'
    (g := F0 m pc ls rest) rfl (by rw [hb]; exact d0) (Nat.le_refl _) (Nat.le_refl _)
  generalize hT1 : (T.setVm vm₁).pushCell { cls := cX, slots := kX.instanceTypes.map defaultValue, vm := .none } = T1 at X₁ st1
  have hcat : (Value.ref T.heap.size).category = 1 := rfl
  have hcellA : T1.heap[T.heap.size]? = some (freshCell cX kX) := by rw [← hT1]; exact State.heap_pushCell_size _ _
  have d3' : decode c.code (pc + 3) = .ok (.dup, 1) := by rw [hb]; exact d3
  have d4' : decode c.code (pc + 4) = .ok (.ldc_w is, 3) := by rw [hb]; exact d4
  have hstr' : vk_R own is text sa s' := vk_R.warm hW0 hstr
  obtain ⟨U, hsteps, hrun, hend, hW, hsame, ce, hce, hO⟩ := X₁.ctorThrowS hexec htr (own := own) (cls := cls) (names := names) (ic := ic) hown' hcls hnames h (fun x hx => nomatch hx) hfX hkX hcellA (by rw [hhp, hT]; exact Nat.le_refl _) (msg := .ref sa) rfl
    (g := { method := m, pc := pc + 7, locals := ls, stack := .ref sa :: .ref T.heap.size :: .ref T.heap.size :: rest, locked := none }) rfl hsize rfl rfl (rest := rest) rfl
    (by rw [hb]; exact d7) (by rw [hb]; exact d10) hout hRframes (by simp only [List.map_cons, List.sum_cons, hcat]; omega) hlocks
  obtain ⟨f1, f2⟩ := vx_frame hsame
  rw [hhp] at f1 f2
  have hWs : s.WarmedH U.vm := State.WarmedH.trans hW0 hW
  have hcl : s.vm.findClass cls = some ce.cls := by
    have h9 := hO.cls
    rw [hvm] at h9
    exact h9
  have hall : s.sameButNew ({ U with vm := s.vm } : State) locs mc ms := by
    subst hA
    obtain ⟨e1, e2⟩ := hsame
    rw [State.setFrames_setFrames] at e1
    have h2 : (T.setVm s.vm).sameButNew ({ U with vm := s.vm } : State) [] (0 + 1) (0 + 6) := ⟨e1, e2⟩
    have h3 := X.same.trans h2
    rw [List.append_nil] at h3
    exact h3.mono hc hs
  refine ⟨U, ?_, .threw T.heap.size, hrun, hend, Or.inr ⟨T.heap.size, rfl, cls, ce, locs, hx U hWs.alike f1 (fun q hq => f2 q hq (fun z hz => nomatch hz)), hce, hO.vm, hcl, hWs, hall, hf⟩⟩
  refine st1 _ ?_
  show Steps p.tables e below (T1.setTop { method := m, pc := pc + 3, locals := ls, stack := .ref T.heap.size :: rest, locked := none }) _
  jvm_step X₁.here [X₁.here.top, hexec, d3', Value.category]
  exact X₁.ldcStringW hexec (own := own) (text := text) (index := is) (a := sa) hown' hstr'.1 hstr'.2
    (g := { method := m, pc := pc + 4, locals := ls, stack := .ref T.heap.size :: .ref T.heap.size :: rest, locked := none }) rfl d4' _ hsteps
end Ends
section Bodies
variable {l : Launch}
theorem vx_ofW {y : MethodName} {ws ws' : List Cond} {rm : Room} {Pc : Array Value → State → Prop} {Qc : Array Value → State → Outcome → State → Prop} {XC : String → State → State → Prop} {mc ms : Nat} {free : Addr → Prop} {cc : ByteArray} {maxL : Nat} {ret : Option FieldType}
    (hy : plainName y.cls = true) (hw : ws = Cond.code y cc maxL ret :: ws')
    (body : ∀ p e s m args below meth c s₁, BodyLoose p l y (headSpec ws rm) cc maxL ret e s m args below meth c s₁ → c.maxLocals = maxL → (∀ x ∈ c.exceptionTable.toList, False) → Pc args s →
      W p l e (headSpec ws rm).room s m args below meth c s.heap [] 0 0 (vx_MQ below Qc XC args s mc ms free) (entryFrame m args maxL)) : vx_Met l y ws rm Pc Qc XC mc ms free := by
  refine MetFree.of_bodyS (code := cc) (maxLocals := maxL) (ret := ret) hy ?_ ?_
  · intro args s m h hn
    obtain ⟨meth, c, h1, h2, h3, h4, h5, h6, -, -⟩ := Cond.code_spec hn (atoms_spec (ws := ws) h _ (by rw [hw]; exact List.mem_cons_self))
    exact ⟨meth, c, h1, h2, h3, h4, h5, h6⟩
  · intro p e s m args below meth c s₁ B hml hP _
    have hh0 : s₁.heap = s.heap := by rw [B.state]; rfl
    have ht : ∀ x ∈ c.exceptionTable.toList, False := by
      obtain ⟨meth9, c9, h1, h2, -, -, -, -, h7, -⟩ := Cond.code_spec B.named (atoms_spec (ws := ws) B.pre _ (by rw [hw]; exact List.mem_cons_self))
      cases Option.some.inj (h1.symm.trans B.method)
      cases Option.some.inj (h2.symm.trans (Stand.of_body B).code)
      intro x hx
      rw [Array.isEmpty_iff.mp h7] at hx
      cases hx
    obtain ⟨t, a1, o, b1, b2, b3⟩ := body p e s m args below meth c s₁ B hml ht hP s₁ hh0 (Stand.of_body B)
    exact ⟨t, o, a1, b1, b2, b3⟩
/-- the table of a body with handlers -/
theorem vx_table {p : Program} {x y : MethodName} {S : Spec} {cc bytes : ByteArray} {maxL maxL' : Nat} {ret ret' : Option FieldType} {e : Env} {s s₁ : State} {m : MethodId} {args : Array Value} {below : List Frame} {meth : Method} {c : Code} {hh : List (Nat × Nat × Nat × Nat)}
    (B : BodyLoose p l y S cc maxL ret e s m args below meth c s₁) (h : (Cond.codeWith y bytes maxL' ret' hh).before args s = true) : c.exceptionTable.toList = tableOf hh := by
  obtain ⟨m9, meth9, c9, hn9, h1, h2, -, -, h6, -⟩ := Cond.codeWith_spec h
  cases Option.some.inj (hn9.symm.trans B.named)
  cases Option.some.inj (h1.symm.trans B.method)
  cases Option.some.inj (h2.symm.trans (Stand.of_body B).code)
  rw [← h6, table_eq]
end Bodies
end VXA
/-! ===== END ===== -/
/-! ===== BEGIN a static call of a method with an exception table ===== -/
section VXS
variable {p : Program} {l : Launch} {e : Env} {R : Room} {s : State} {m : MethodId} {args : Array Value} {below : List Frame} {meth : Method} {c : Code} {T : State} {H : Heap} {locs : List Loc} {cells slots : Nat}
abbrev vx_CSW (R : Room) (s : State) (args : Array Value) (own : String) (index : Nat) (y : MethodName) (bytes : ByteArray) (maxL : Nat) (ret : Option FieldType) (hh : List (Nat × Nat × Nat × Nat)) (ws : List Cond) (rm : Room) (mc ms n : Nat) : Prop :=
  (rm.cells = mc ∧ rm.slots = ms ∧ rm.frames + 1 ≤ R.frames ∧ 8 + (maxL + 11) + rm.locals ≤ R.locals ∧ (∀ w ∈ ws, ∀ (a' : Array Value) (U : State), s.WarmedH U.vm → w.before a' U = true) ∧ Cond.codeWith y bytes maxL ret hh ∈ ws) ∧
  (Cond.codeWith y bytes maxL ret hh).before args s = true ∧ (Cond.initialized y.cls).before args s = true ∧ (y.cls ≠ "java/lang/invoke/MethodHandle" ∧ y.cls ≠ "java/lang/invoke/VarHandle") ∧
  (∀ sig, parseMethodDescriptor y.desc = some sig → n = sig.parameters.length) ∧ (Cond.methodLink own index y).before args s = true ∧ (Cond.static y).before args s = true
theorem vx_cwSW {own : String} {index maxL mc ms : Nat} {y : MethodName} {bytes : ByteArray} {ret : Option FieldType} {hh : List (Nat × Nat × Nat × Nat)} {Ts ws ws' : List Cond} {rm : Room} (n : Nat) (ht : ∀ w ∈ Ts, w.before args s = true) (hT : GoodIn Ts (va_wsS own index y ws)) (hw : ws = Cond.codeWith y bytes maxL ret hh :: ws') (hrc : rm.cells = mc) (hrs : rm.slots = ms)
    (hd : y.cls ≠ "java/lang/invoke/MethodHandle" ∧ y.cls ≠ "java/lang/invoke/VarHandle" ∧ (parseMethodDescriptor y.desc).map (fun d => d.parameters.length) = some n) (hR : rm.frames + 1 ≤ R.frames ∧ 8 + (maxL + 11) + rm.locals ≤ R.locals) :
    vx_CSW R s args own index y bytes maxL ret hh ws rm mc ms n := by
  have ok : ∀ w ∈ va_wsS own index y ws, w.before args s = true := fun w h => ht w (hT w h).1
  have hG : GoodIn Ts ws := fun w h => hT w (by unfold va_wsS; exact List.mem_append_right _ h)
  have hc : Cond.codeWith y bytes maxL ret hh ∈ ws := by rw [hw]; exact List.mem_cons_self
  refine ⟨⟨hrc, hrs, hR.1, hR.2, pay_in ht hG, hc⟩, ht _ (hG _ hc).1, ok _ (by simp [va_wsS]), ⟨hd.1, hd.2.1⟩, fun sig h => ?_, ok _ (by simp [va_wsS]), ok _ (by simp [va_wsS])⟩
  have h2 := hd.2.2
  rw [h] at h2
  exact (Option.some.inj h2).symm
theorem vx_callSW (X : Stand p l e R s m args below meth c T locs cells slots) (hexec : p.tables.exec = Jvm.exec) {own : String} {index : Nat} {y : MethodName} {bytes : ByteArray} {maxL : Nat} {ret : Option FieldType} {hh : List (Nat × Nat × Nat × Nat)}
    (hown : s.vm.findClass own = some m.cls) (hlink : (Cond.methodLink own index y).before args s = true) (hstat : (Cond.static y).before args s = true) (hinit : (Cond.initialized y.cls).before args s = true)
    (hcode : (Cond.codeWith y bytes maxL ret hh).before args s = true) (hy : y.cls ≠ "java/lang/invoke/MethodHandle" ∧ y.cls ≠ "java/lang/invoke/VarHandle")
    {W9 : Nat} {Pre : Pt → Array Value → Prop} {Post : Pt → Array Value → Option Value → Pt → Prop} (hK : Back l R p e below s args y 3 W9 Pre Post)
    {g : JFrame} (hg : g.method = m) (hsize : g.locals.size = c.maxLocals) {argsL rest : List Value} (hlen : ∀ sig, parseMethodDescriptor y.desc = some sig → argsL.length = sig.parameters.length)
    (hstack : g.stack = argsL.reverse ++ rest) (hW : 2 * g.monitorRoom + (rest.map fun v => v.category).sum ≤ W9) (hdg : decode c.code g.pc = .ok (.invokestatic index, 3))
    (hpre : ∀ vm₁, s.WarmedH vm₁ → Pre ⟨T.setVm vm₁, locs, cells, slots⟩ argsL.toArray) :
    ∃ (v : Option Value) (vm₁ : Vm) (B : Pt), s.WarmedH vm₁ ∧ Stand p l e R s m args below meth c B.U B.locs B.cells B.slots ∧ Post ⟨T.setVm vm₁, locs, cells, slots⟩ argsL.toArray v B ∧
      ∀ target, Steps p.tables e below (B.U.setTop { g with pc := g.pc + 3, stack := v.toList ++ rest }) target → Steps p.tables e below (T.setTop g) target := by
  obtain ⟨mk, methM, cM, hnamed, hmethM, -, -, -, -, -, -, hsigM⟩ := Cond.codeWith_spec hcode
  have hstatic : methM.isStatic = true := Cond.static_spec hnamed hmethM hstat
  obtain ⟨kP, hkP, -⟩ := className_of_methodNamed hnamed
  have hinitP : kP.init = .initialized := Cond.initialized_spec (findClass_of_methodNamed hnamed) hkP hinit
  obtain ⟨vm₁, X₁, hstep₁⟩ := X.invokestatic hexec hown hlink hnamed hmethM hstatic hkP hinitP hy (g := g) hg (argsL := argsL) (rest := rest) (hlen _ hsigM) hstack hdg
  obtain ⟨v, B, X', hpost, hsteps⟩ := hK m meth c ⟨T.setVm vm₁, locs, cells, slots⟩ { g with stack := rest } (.invokestatic index) mk argsL.toArray X₁ hg hsize hdg hW (X₁.named hnamed) (hpre vm₁ X₁.warmed)
  exact ⟨v, vm₁, B, X₁.warmed, X', hpost, fun target h => hstep₁ _ fun acts => by rw [doInvoke_state]; exact hsteps.trans h⟩
theorem vx_runSW {y : MethodName} {bytes cc : ByteArray} {maxL nL mc ms n index : Nat} {ret : Option FieldType} {hh : List (Nat × Nat × Nat × Nat)} {ws : List Cond} {rm : Room} {Pc : Array Value → State → Prop} {Qc : Array Value → State → Outcome → State → Prop} {free : Addr → Prop} {Ts : List Cond} {own : String} {As rest : List Value} {g : JFrame}
    (S : CallFix p m c cc nL s args Ts own) (hM : Met l y ws rm Pc Qc mc ms free) (cw : vx_CSW R s args own index y bytes maxL ret hh ws rm mc ms n) (hp : PreS s H Pc As)
    (hg : g.method = m) (hn : As.length = n) (hsize : g.locals.size = nL) (hstack : g.stack = As.reverse ++ rest) (hW : 2 * g.monitorRoom + (rest.map fun v => v.category).sum ≤ 8) (hdg : decode cc g.pc = .ok (.invokestatic index, 3)) (hf : cells + mc ≤ R.cells ∧ slots + ms ≤ R.slots) :
    va_Run p l e R s m args below meth c H locs cells slots mc ms g rest (Qc As.toArray) (free) := by
  obtain ⟨⟨hrc, hrs, hfr, hlo, hws, hcw⟩, hcode, hini, hy, hlen, hl, hstt⟩ := cw
  have hK : Back l R p e below s args y 3 8 (PreOf R mc ms Pc) (PostOf Qc mc ms free) := va_backW (hh := hh) (bytes := bytes) (maxL := maxL) (ret := ret) hM hp.1 hrc hrs hfr hlo hws hcw (fun a' U hW => word_at hW (Or.inl (by first | rfl | simp [Cond.onTables, Cond.keeps, Cond.steady])) hini)
  obtain ⟨hx, hb, hml, ho, -⟩ := S
  intro T hT X
  obtain ⟨v, vm₁, ⟨U', l2, c2, s2⟩, hW₁, X', ⟨g', mk, t, L, e1, e2, hq, h1, hL, h2, h3⟩, st⟩ := vx_callSW X hx (hh := hh) (bytes := bytes) (maxL := maxL) (ret := ret) ho hl hstt hini hcode hy hK hg (hsize.trans hml.symm) (argsL := As) (rest := rest) (fun sig h => hn.trans (hlen sig h)) hstack hW (by rw [hb]; exact hdg)
    (fun vm₁ hW₁ => ⟨hf.1, hf.2, hp.2 (T.setVm vm₁) hT hW₁⟩)
  dsimp only [Pt.U, Pt.locs, Pt.cells, Pt.slots] at X' e1 e2 h1 h2 h3 st
  subst h1; subst h2; subst h3
  exact ⟨v, (T.setVm vm₁).calling g' mk As.toArray, t, U', L, hT, X', hL, e1, e2, hq, st⟩
/-- not caught here, past rows that name other classes: it goes on to the caller -/
theorem vx_outP {p : Program} {l : Launch} {e : Env} {R : Room} {s : State} {m : MethodId} {args : Array Value} {below : List Frame} {meth : Method} {c : Code} {H : Heap} {locs : List Loc} {cells slots : Nat} {free : Addr → Prop} {ls : Array Slot} {rest : List Value} {Qc : Array Value → State → Outcome → State → Prop} {XC : String → State → State → Prop}
    {pc : Nat} {own E : String} {ce : Cell} {q : Addr} {mc ms : Nat} (hown : s.vm.findClass own = some m.cls) (hlocks : meth.locks = false)
    (hpass : ∀ z ∈ c.exceptionTable.toList, covers z pc = false ∨ (z.catchType ≠ 0 ∧ ∃ nm : String, (Cond.classLink own z.catchType nm).before args s = true ∧ va_Nc E nm s)) (hcell : H[q]? = some ce) (hv : ce.vm = .none) (hcl : s.vm.findClass E = some ce.cls)
    (hx : ∀ t : State, t.heap = H → s.vm.Alike t.vm → XC E s t) (hf : ∀ z ∈ locs, free z.base) (hc : cells ≤ mc) (hs : slots ≤ ms) :
    vx_W p l e R s m args below meth c H locs cells slots (vx_MQ below Qc XC args s mc ms free) (F0 m pc ls rest) q := by
  intro T hT X
  have hpl : e.platform.magicAccessors = ({} : Platform).magicAccessors := by rw [X.admits.platform]
  obtain ⟨vm', hW', X', st⟩ := X.outThrough hlocks q (g := F0 m pc ls rest) rfl rfl rfl (cell := ce) (by rw [hT]; exact hcell) (by rw [hv]; rfl)
    (by obtain ⟨k9, h9, -⟩ := Vm.findClass_spec hcl; exact ⟨k9, h9⟩) (fun z hz => by
      rcases hpass z hz with h | ⟨hz0, nm, hl1, hn1⟩
      · exact Or.inl h
      · obtain ⟨c6, hc6, hcl6⟩ := Cond.classLink_spec hown hl1 e.platform hpl
        obtain ⟨a8, b8, h1, h2, h3⟩ := hn1
        cases Option.some.inj (h1.symm.trans hcl)
        cases Option.some.inj (h2.symm.trans hc6)
        exact Or.inr ⟨hz0, _, hcl6, h3⟩)
  obtain ⟨g₀, hfr⟩ := X'.frames_eq
  have hcell9 : ((T.setVm vm').setFrames (.throwing q :: below)).heap[q]? = some ce := by
    show T.heap[q]? = some ce
    rw [hT]; exact hcell
  have hend : Ended ((T.setVm vm').setFrames (.throwing q :: below)) below (.threw q) := State.frames_setFrames _ (State.cur_lt_of_frames hfr)
  refine ⟨(T.setVm vm').setFrames (.throwing q :: below), ?_, .threw q, X'.here.running, hend, Or.inr ⟨q, rfl, E, ce, locs, hx _ hT (X'.ends _).1.alike, hcell9, hv, hcl, (X'.ends _).1, (X'.ends _).2.mono hc hs, hf⟩⟩
  rw [X.pushThrowing_eq]
  exact st
/-- a thing of a world lies in the heap -/
theorem vx_lt {D : va_G} {cl : List vw_C} {ws : va_W} {H1 : Heap} (h : va_P D cl ws H1) {k : Nat} {q : Nat × va_E} (hk : ws[k]? = some q) : q.1 < H1.size := (h k q hk).lt
end VXS
/-! ===== END ===== -/
/-! ===== BEGIN methods with a table of their own: called by a name, returning or throwing ===== -/
section VXH
/-! vx_backW, vx_callVX, vx_callSX, vx_callVW, vx_runVW, vx_runVX, vx_runSX, vx_ofWH follow the same proofs as their sisters above (Free/Laws.lean, Shelf42/LK1.lean); vx_outP calls Shelf42/NT130.lean (outThrough). -/
section
variable {l : Launch} {R : Room} {p : Program} {e : Env} {below : List Frame} {s : State} {sargs : Array Value} {y : MethodName} {len W9 : Nat}
theorem vx_backW {ws : List Cond} {rm : Room} {Pc : Array Value → State → Prop} {Qc : Array Value → State → Outcome → State → Prop} {XC : String → State → State → Prop} {mc ms : Nat} {free : Addr → Prop} {bytes : ByteArray} {maxL : Nat} {ret : Option FieldType} {hh : List (Nat × Nat × Nat × Nat)}
    (hM : vx_Met l y ws rm Pc Qc XC mc ms free) (hblind : FrameBlind Pc) (hrc : rm.cells = mc) (hrs : rm.slots = ms)
    (hframes : rm.frames + 1 ≤ R.frames) (hlocals : W9 + (maxL + 11) + rm.locals ≤ R.locals)
    (hws : ∀ w ∈ ws, ∀ a' U, s.WarmedH U.vm → w.before a' U = true) (hcode : Cond.codeWith y bytes maxL ret hh ∈ ws) (hinit : ∀ a' U, s.WarmedH U.vm → (Cond.initialized y.cls).before a' U = true) :
    vx_Back l R p e below s sargs y len W9 (PreOf R mc ms Pc) (PostOf Qc mc ms free) (vx_Post XC mc ms free) := by
  intro m meth c A g ig mk a X hg hsize hdg hW hn hp
  have h1 : (headSpec ws rm).pre.before a A.U = true := atoms_intro fun w hw => hws w hw _ _ X.warmed
  have h2 : (Cond.codeWith y bytes maxL ret hh).before a A.U = true := hws _ hcode _ _ X.warmed
  have h3 : (Cond.initialized y.cls).before a A.U = true := hinit _ _ X.warmed
  have h4 : A.cells + (headSpec ws rm).room.cells ≤ R.cells := by rw [show (headSpec ws rm).room.cells = mc from hrc]; exact hp.1
  have h5 : A.slots + (headSpec ws rm).room.slots ≤ R.slots := by rw [show (headSpec ws rm).room.slots = ms from hrs]; exact hp.2.1
  have hPc : Pc a (A.U.calling g mk a) := hblind _ _ _ _ hp.2.2
  obtain ⟨U, Ls, c0, s0⟩ := A
  dsimp only [Pt.U, Pt.locs, Pt.cells, Pt.slots] at h1 h2 h3 h4 h5 X hn hPc ⊢
  obtain ⟨m9, methY, cY, hn9, hmY, hcY, -, hlY, -⟩ := Cond.codeWith_spec h2
  cases Option.some.inj (hn9.symm.trans hn)
  obtain ⟨kY, hkY, -⟩ := className_of_methodNamed hn
  have hinitY : kY.init = .initialized := Cond.initialized_spec (findClass_of_methodNamed hn) hkY h3
  have h : At U g.method c below := by rw [hg]; exact X.here
  have hlocals9 : W9 + (maxL + 11) + (headSpec ws rm).room.locals ≤ R.locals := hlocals
  have happ : (headSpec ws rm).appliesLoose y e.platform (U.calling g mk a) = true :=
    Spec.appliesLoose_calling (g := g) h hdg hn hkY hinitY
      (X.room_calling (g := g) (R' := (headSpec ws rm).room) hsize hmY hcY hframes (by rw [hlY]; omega) h4 h5) h1
  obtain ⟨mid, hmid⟩ := h.above
  have hfr : (U.setTop g).frames = (.java g :: mid) ++ below := by rw [State.frames_setTop' g h.top, hmid]; rfl
  obtain ⟨o, s₂, hsteps, -, hend, hq⟩ := Steps.callFree hM p X.admits X.cas X.clock (acts := []) hfr happ hPc trivial
  have hq' : vx_Q Qc XC mc ms free a (U.calling g mk a) o s₂ := hq
  rw [State.frames_setTop' g h.top] at hend
  obtain ⟨g₀, hg0⟩ := Option.isSome_iff_exists.mp h.top
  obtain ⟨r, hr⟩ := State.topJava?_eq_some.mp hg0
  have hr' : (({ U with heap := s₂.heap, slotsUsed := s₂.slotsUsed } : State).setVm s₂.vm).frames = .java g₀ :: r := hr
  rcases hq' with ⟨hqc, L, hfe, hL⟩ | ⟨q, rfl, E, ce, L, hx, hce, hcv, hcl, hW₂, hsm, hL⟩
  · obtain ⟨⟨v, rfl⟩, hW₂, e2, q2, q3, q4, q5, q6⟩ := id hfe
    have e3 : s₂ = ({ (U.calling g mk a).setFrames s₂.frames with heap := s₂.heap, slotsUsed := s₂.slotsUsed } : State).setVm s₂.vm := by
      have : s₂ = ({ s₂ with vm := (U.calling g mk a).vm } : State).setVm s₂.vm := rfl
      rw [e2] at this
      exact this
    obtain ⟨c₂, i₂, len₂, hc₂, hd₂, hf₂⟩ := hend
    have hW' : U.WarmedH s₂.vm := hW₂
    have hcc : c₂ = c := by
      have h1 : s₂.code? g.method = U.code? g.method := by
        rw [State.code?_eq, State.code?_eq, hW'.alike.method?]
      exact Option.some.inj (hc₂.symm.trans (h1.trans h.code))
    subst hcc
    have hlen : len₂ = len := by rw [hdg] at hd₂; cases hd₂; rfl
    subst hlen
    have hs₂ : s₂ = (({ U with heap := s₂.heap, slotsUsed := s₂.slotsUsed } : State).setVm s₂.vm).setTop { g with pc := g.pc + len₂, stack := v.toList ++ g.stack } := by
      refine e3.trans ?_
      rw [hf₂, State.calling_eq h.top, State.setFrames_setFrames, State.setTop_of_frames _ hr', hr]
      rfl
    have hsame : U.sameButNew ({ U with heap := s₂.heap, slotsUsed := s₂.slotsUsed } : State) L mc ms := by
      refine ⟨?_, q2, q3, q4, q5, q6⟩
      obtain ⟨t, ht, -⟩ := State.frames_cons hr
      show ({ U with heap := s₂.heap, slotsUsed := s₂.slotsUsed } : State) = { U.setFrames U.frames with heap := s₂.heap, slotsUsed := s₂.slotsUsed }
      rw [State.setFrames_self ht]
    subst hg
    refine Or.inl ⟨v, ⟨(({ U with heap := s₂.heap, slotsUsed := s₂.slotsUsed } : State).setVm s₂.vm), Ls ++ L, c0 + mc, s0 + ms⟩,
      ⟨X.admits, X.cas, X.clock, X.frames, X.room, X.hears, X.method, X.code, (X.here.setHeapUsed s₂.heap s₂.slotsUsed).setVm hW'.alike, X.tail, State.WarmedH.trans X.warmed hW', X.limits, X.bytes, X.same.trans (hsame.setVm s.vm)⟩,
      ⟨g, mk, s₂, L, rfl, rfl, hqc, rfl, hL, rfl, rfl⟩, ?_⟩
    show Steps p.tables e below _ ((({ U with heap := s₂.heap, slotsUsed := s₂.slotsUsed } : State).setVm s₂.vm).setTop { g with pc := g.pc + len₂, stack := v.toList ++ g.stack })
    rw [← hs₂]
    exact hsteps
  · obtain ⟨e2, q2, q3, q4, q5, q6⟩ := id hsm
    have e3 : s₂ = ({ (U.calling g mk a).setFrames s₂.frames with heap := s₂.heap, slotsUsed := s₂.slotsUsed } : State).setVm s₂.vm := by
      have : s₂ = ({ s₂ with vm := (U.calling g mk a).vm } : State).setVm s₂.vm := rfl
      rw [e2] at this
      exact this
    have hf₂ : s₂.frames = .throwing q :: .java g :: U.frames.tail := hend
    have hW' : U.WarmedH s₂.vm := hW₂
    have hs₂ : s₂ = ((({ U with heap := s₂.heap, slotsUsed := s₂.slotsUsed } : State).setVm s₂.vm).setTop g).pushFrame (.throwing q) := by
      refine e3.trans ?_
      rw [hf₂, State.calling_eq h.top, State.setFrames_setFrames, State.pushFrame, State.frames_setTop _ hr', State.setTop_of_frames _ hr', State.setFrames_setFrames, hr]
      rfl
    have hsame : U.sameButNew ({ U with heap := s₂.heap, slotsUsed := s₂.slotsUsed } : State) L mc ms := by
      refine ⟨?_, q2, q3, q4, q5, q6⟩
      obtain ⟨t, ht, -⟩ := State.frames_cons hr
      show ({ U with heap := s₂.heap, slotsUsed := s₂.slotsUsed } : State) = { U.setFrames U.frames with heap := s₂.heap, slotsUsed := s₂.slotsUsed }
      rw [State.setFrames_self ht]
    subst hg
    refine Or.inr ⟨q, ⟨(({ U with heap := s₂.heap, slotsUsed := s₂.slotsUsed } : State).setVm s₂.vm), Ls ++ L, c0 + mc, s0 + ms⟩,
      ⟨X.admits, X.cas, X.clock, X.frames, X.room, X.hears, X.method, X.code, (X.here.setHeapUsed s₂.heap s₂.slotsUsed).setVm hW'.alike, X.tail, State.WarmedH.trans X.warmed hW', X.limits, X.bytes, X.same.trans (hsame.setVm s.vm)⟩,
      ⟨g, mk, s₂, L, E, ce, rfl, rfl, hx, hce, hcv, hcl, rfl, hL, rfl, rfl⟩, ?_⟩
    show Steps p.tables e below _ (((({ U with heap := s₂.heap, slotsUsed := s₂.slotsUsed } : State).setVm s₂.vm).setTop g).pushFrame (.throwing q))
    rw [← hs₂]
    exact hsteps
end
variable {p : Program} {l : Launch} {e : Env} {R : Room} {s : State} {m : MethodId} {args : Array Value} {below : List Frame} {meth : Method} {c : Code} {T : State} {H : Heap} {locs : List Loc} {cells slots : Nat}
theorem vx_callVX (X : Stand p l e R s m args below meth c T locs cells slots) (hexec : p.tables.exec = Jvm.exec) {own C : String} {index : Nat} {y : MethodName} {bytes : ByteArray} {maxL : Nat} {ret : Option FieldType} {hh : List (Nat × Nat × Nat × Nat)}
    (hown : s.vm.findClass own = some m.cls) (hlink : (Cond.methodLink own index y).before args s = true) (hinst : (Cond.instanceMethod y).before args s = true) (hsel : (Cond.selects C y y).before args s = true)
    (hcode : (Cond.codeWith y bytes maxL ret hh).before args s = true) (hy : y.cls ≠ "java/lang/invoke/MethodHandle" ∧ y.cls ≠ "java/lang/invoke/VarHandle")
    {W9 : Nat} {Pre : Pt → Array Value → Prop} {Post : Pt → Array Value → Option Value → Pt → Prop} {PostX : Pt → Array Value → Addr → Pt → Prop} (hK : vx_Back l R p e below s args y 3 W9 Pre Post PostX)
    {b : Addr} {cellB : Cell} (hcell : T.heap[b]? = some cellB) (hobj : cellB.vm.isStatics = false) (hcls : s.vm.findClass C = some cellB.cls)
    {g : JFrame} (hg : g.method = m) (hsize : g.locals.size = c.maxLocals) {argsL rest : List Value} (hlen : ∀ sig, parseMethodDescriptor y.desc = some sig → argsL.length = sig.parameters.length)
    (hstack : g.stack = argsL.reverse ++ .ref b :: rest) (hW : 2 * g.monitorRoom + (rest.map fun v => v.category).sum ≤ W9) (hdg : decode c.code g.pc = .ok (.invokevirtual index, 3))
    (hpre : ∀ vm₁, s.WarmedH vm₁ → Pre ⟨T.setVm vm₁, locs, cells, slots⟩ (Value.ref b :: argsL).toArray) :
    (∃ (v : Option Value) (vm₁ : Vm) (B : Pt), s.WarmedH vm₁ ∧ Stand p l e R s m args below meth c B.U B.locs B.cells B.slots ∧ Post ⟨T.setVm vm₁, locs, cells, slots⟩ (Value.ref b :: argsL).toArray v B ∧
      ∀ target, Steps p.tables e below (B.U.setTop { g with pc := g.pc + 3, stack := v.toList ++ rest }) target → Steps p.tables e below (T.setTop g) target) ∨
    (∃ (q : Addr) (vm₁ : Vm) (B : Pt), s.WarmedH vm₁ ∧ Stand p l e R s m args below meth c B.U B.locs B.cells B.slots ∧ PostX ⟨T.setVm vm₁, locs, cells, slots⟩ (Value.ref b :: argsL).toArray q B ∧
      Steps p.tables e below (T.setTop g) ((B.U.setTop { g with stack := rest }).pushFrame (.throwing q))) := by
  obtain ⟨mk, methM, hnamed, hmethM, hstM, habM⟩ := Cond.instanceMethod_spec hinst
  obtain ⟨m8, methM', cM, hn8, hmethM', -, -, -, -, -, -, hsigM⟩ := Cond.codeWith_spec hcode
  cases Option.some.inj (hn8.symm.trans hnamed)
  cases hmethM.symm.trans hmethM'
  obtain ⟨c2, r2, m2, q1, q2, q3, q4, kP, hkP, hkPi⟩ := Cond.selects_spec hsel
  cases hcls.symm.trans q1
  cases (State.methodFound?_of_named hnamed hy).symm.trans q2
  cases hnamed.symm.trans q3
  have hselP : selectMethod e.platform s.vm cellB.cls mk = .method mk := by rw [Launch.admits_selectMethod X.admits]; exact q4
  obtain ⟨vm₁, X₁, hstep₁⟩ := X.invokevirtual hexec hown hlink hnamed hmethM hstM hkP hkPi hy (a := b) (cell := cellB) hcell
    (fun z h => by rw [h] at hobj; cases hobj) hselP hmethM habM hkP hkPi (g := g) hg (argsL := argsL) (rest := rest) (hlen _ hsigM) hstack hdg
  rcases hK m meth c ⟨T.setVm vm₁, locs, cells, slots⟩ { g with stack := rest } (.invokevirtual index) mk (Value.ref b :: argsL).toArray X₁ hg hsize hdg hW (X₁.named hnamed) (hpre vm₁ X₁.warmed) with ⟨v, B, X', hpost, hsteps⟩ | ⟨q, B, X', hpost, hsteps⟩
  · exact Or.inl ⟨v, vm₁, B, X₁.warmed, X', hpost, fun target h => hstep₁ _ fun acts => by rw [doInvoke_state]; exact hsteps.trans h⟩
  · exact Or.inr ⟨q, vm₁, B, X₁.warmed, X', hpost, hstep₁ _ fun acts => by rw [doInvoke_state]; exact hsteps⟩
theorem vx_callSX (X : Stand p l e R s m args below meth c T locs cells slots) (hexec : p.tables.exec = Jvm.exec) {own : String} {index : Nat} {y : MethodName} {bytes : ByteArray} {maxL : Nat} {ret : Option FieldType} {hh : List (Nat × Nat × Nat × Nat)}
    (hown : s.vm.findClass own = some m.cls) (hlink : (Cond.methodLink own index y).before args s = true) (hstat : (Cond.static y).before args s = true) (hinit : (Cond.initialized y.cls).before args s = true)
    (hcode : (Cond.codeWith y bytes maxL ret hh).before args s = true) (hy : y.cls ≠ "java/lang/invoke/MethodHandle" ∧ y.cls ≠ "java/lang/invoke/VarHandle")
    {W9 : Nat} {Pre : Pt → Array Value → Prop} {Post : Pt → Array Value → Option Value → Pt → Prop} {PostX : Pt → Array Value → Addr → Pt → Prop} (hK : vx_Back l R p e below s args y 3 W9 Pre Post PostX)
    {g : JFrame} (hg : g.method = m) (hsize : g.locals.size = c.maxLocals) {argsL rest : List Value} (hlen : ∀ sig, parseMethodDescriptor y.desc = some sig → argsL.length = sig.parameters.length)
    (hstack : g.stack = argsL.reverse ++ rest) (hW : 2 * g.monitorRoom + (rest.map fun v => v.category).sum ≤ W9) (hdg : decode c.code g.pc = .ok (.invokestatic index, 3))
    (hpre : ∀ vm₁, s.WarmedH vm₁ → Pre ⟨T.setVm vm₁, locs, cells, slots⟩ argsL.toArray) :
    (∃ (v : Option Value) (vm₁ : Vm) (B : Pt), s.WarmedH vm₁ ∧ Stand p l e R s m args below meth c B.U B.locs B.cells B.slots ∧ Post ⟨T.setVm vm₁, locs, cells, slots⟩ argsL.toArray v B ∧
      ∀ target, Steps p.tables e below (B.U.setTop { g with pc := g.pc + 3, stack := v.toList ++ rest }) target → Steps p.tables e below (T.setTop g) target) ∨
    (∃ (q : Addr) (vm₁ : Vm) (B : Pt), s.WarmedH vm₁ ∧ Stand p l e R s m args below meth c B.U B.locs B.cells B.slots ∧ PostX ⟨T.setVm vm₁, locs, cells, slots⟩ argsL.toArray q B ∧
      Steps p.tables e below (T.setTop g) ((B.U.setTop { g with stack := rest }).pushFrame (.throwing q))) := by
  obtain ⟨mk, methM, cM, hnamed, hmethM, -, -, -, -, -, -, hsigM⟩ := Cond.codeWith_spec hcode
  have hstatic : methM.isStatic = true := Cond.static_spec hnamed hmethM hstat
  obtain ⟨kP, hkP, -⟩ := className_of_methodNamed hnamed
  have hinitP : kP.init = .initialized := Cond.initialized_spec (findClass_of_methodNamed hnamed) hkP hinit
  obtain ⟨vm₁, X₁, hstep₁⟩ := X.invokestatic hexec hown hlink hnamed hmethM hstatic hkP hinitP hy (g := g) hg (argsL := argsL) (rest := rest) (hlen _ hsigM) hstack hdg
  rcases hK m meth c ⟨T.setVm vm₁, locs, cells, slots⟩ { g with stack := rest } (.invokestatic index) mk argsL.toArray X₁ hg hsize hdg hW (X₁.named hnamed) (hpre vm₁ X₁.warmed) with ⟨v, B, X', hpost, hsteps⟩ | ⟨q, B, X', hpost, hsteps⟩
  · exact Or.inl ⟨v, vm₁, B, X₁.warmed, X', hpost, fun target h => hstep₁ _ fun acts => by rw [doInvoke_state]; exact hsteps.trans h⟩
  · exact Or.inr ⟨q, vm₁, B, X₁.warmed, X', hpost, hstep₁ _ fun acts => by rw [doInvoke_state]; exact hsteps⟩
theorem vx_callVW (X : Stand p l e R s m args below meth c T locs cells slots) (hexec : p.tables.exec = Jvm.exec) {own C : String} {index : Nat} {y : MethodName} {bytes : ByteArray} {maxL : Nat} {ret : Option FieldType} {hh : List (Nat × Nat × Nat × Nat)}
    (hown : s.vm.findClass own = some m.cls) (hlink : (Cond.methodLink own index y).before args s = true) (hinst : (Cond.instanceMethod y).before args s = true) (hsel : (Cond.selects C y y).before args s = true)
    (hcode : (Cond.codeWith y bytes maxL ret hh).before args s = true) (hy : y.cls ≠ "java/lang/invoke/MethodHandle" ∧ y.cls ≠ "java/lang/invoke/VarHandle")
    {W9 : Nat} {Pre : Pt → Array Value → Prop} {Post : Pt → Array Value → Option Value → Pt → Prop} (hK : Back l R p e below s args y 3 W9 Pre Post)
    {b : Addr} {cellB : Cell} (hcell : T.heap[b]? = some cellB) (hobj : cellB.vm.isStatics = false) (hcls : s.vm.findClass C = some cellB.cls)
    {g : JFrame} (hg : g.method = m) (hsize : g.locals.size = c.maxLocals) {argsL rest : List Value} (hlen : ∀ sig, parseMethodDescriptor y.desc = some sig → argsL.length = sig.parameters.length)
    (hstack : g.stack = argsL.reverse ++ .ref b :: rest) (hW : 2 * g.monitorRoom + (rest.map fun v => v.category).sum ≤ W9) (hdg : decode c.code g.pc = .ok (.invokevirtual index, 3))
    (hpre : ∀ vm₁, s.WarmedH vm₁ → Pre ⟨T.setVm vm₁, locs, cells, slots⟩ (Value.ref b :: argsL).toArray) :
    ∃ (v : Option Value) (vm₁ : Vm) (B : Pt), s.WarmedH vm₁ ∧ Stand p l e R s m args below meth c B.U B.locs B.cells B.slots ∧ Post ⟨T.setVm vm₁, locs, cells, slots⟩ (Value.ref b :: argsL).toArray v B ∧
      ∀ target, Steps p.tables e below (B.U.setTop { g with pc := g.pc + 3, stack := v.toList ++ rest }) target → Steps p.tables e below (T.setTop g) target := by
  obtain ⟨mk, methM, hnamed, hmethM, hstM, habM⟩ := Cond.instanceMethod_spec hinst
  obtain ⟨m8, methM', cM, hn8, hmethM', -, -, -, -, -, -, hsigM⟩ := Cond.codeWith_spec hcode
  cases Option.some.inj (hn8.symm.trans hnamed)
  cases hmethM.symm.trans hmethM'
  obtain ⟨c2, r2, m2, q1, q2, q3, q4, kP, hkP, hkPi⟩ := Cond.selects_spec hsel
  cases hcls.symm.trans q1
  cases (State.methodFound?_of_named hnamed hy).symm.trans q2
  cases hnamed.symm.trans q3
  have hselP : selectMethod e.platform s.vm cellB.cls mk = .method mk := by rw [Launch.admits_selectMethod X.admits]; exact q4
  obtain ⟨vm₁, X₁, hstep₁⟩ := X.invokevirtual hexec hown hlink hnamed hmethM hstM hkP hkPi hy (a := b) (cell := cellB) hcell
    (fun z h => by rw [h] at hobj; cases hobj) hselP hmethM habM hkP hkPi (g := g) hg (argsL := argsL) (rest := rest) (hlen _ hsigM) hstack hdg
  obtain ⟨v, B, X', hpost, hsteps⟩ := hK m meth c ⟨T.setVm vm₁, locs, cells, slots⟩ { g with stack := rest } (.invokevirtual index) mk (Value.ref b :: argsL).toArray X₁ hg hsize hdg hW (X₁.named hnamed) (hpre vm₁ X₁.warmed)
  exact ⟨v, vm₁, B, X₁.warmed, X', hpost, fun target h => hstep₁ _ fun acts => by rw [doInvoke_state]; exact hsteps.trans h⟩
abbrev vx_CVW (R : Room) (s : State) (args : Array Value) (own C : String) (index : Nat) (y : MethodName) (bytes : ByteArray) (maxL : Nat) (ret : Option FieldType) (hh : List (Nat × Nat × Nat × Nat)) (ws : List Cond) (rm : Room) (mc ms n : Nat) : Prop :=
  (rm.cells = mc ∧ rm.slots = ms ∧ rm.frames + 1 ≤ R.frames ∧ 8 + (maxL + 11) + rm.locals ≤ R.locals ∧ (∀ w ∈ ws, ∀ (a' : Array Value) (U : State), s.WarmedH U.vm → w.before a' U = true) ∧ Cond.codeWith y bytes maxL ret hh ∈ ws) ∧
  (Cond.codeWith y bytes maxL ret hh).before args s = true ∧ (Cond.initialized y.cls).before args s = true ∧ (y.cls ≠ "java/lang/invoke/MethodHandle" ∧ y.cls ≠ "java/lang/invoke/VarHandle") ∧
  (∀ sig, parseMethodDescriptor y.desc = some sig → n = sig.parameters.length) ∧ (Cond.methodLink own index y).before args s = true ∧ (Cond.instanceMethod y).before args s = true ∧ (Cond.selects C y y).before args s = true
theorem vx_cwVW {own C : String} {index maxL mc ms : Nat} {y : MethodName} {bytes : ByteArray} {ret : Option FieldType} {hh : List (Nat × Nat × Nat × Nat)} {Ts ws ws' : List Cond} {rm : Room} (n : Nat) (ht : ∀ w ∈ Ts, w.before args s = true) (hT : GoodIn Ts (wsV own index C y ws)) (hw : ws = Cond.codeWith y bytes maxL ret hh :: ws') (hrc : rm.cells = mc) (hrs : rm.slots = ms)
    (hd : y.cls = C ∧ y.cls ≠ "java/lang/invoke/MethodHandle" ∧ y.cls ≠ "java/lang/invoke/VarHandle" ∧ (parseMethodDescriptor y.desc).map (fun d => d.parameters.length) = some n) (hR : rm.frames + 1 ≤ R.frames ∧ 8 + (maxL + 11) + rm.locals ≤ R.locals) :
    vx_CVW R s args own C index y bytes maxL ret hh ws rm mc ms n := by
  obtain ⟨hC, hd⟩ := hd
  subst hC
  have ok : ∀ w ∈ wsV own index y.cls y ws, w.before args s = true := fun w h => ht w (hT w h).1
  have hG : GoodIn Ts ws := fun w h => hT w (by unfold wsV; exact List.mem_append_right _ h)
  have hc : Cond.codeWith y bytes maxL ret hh ∈ ws := by rw [hw]; exact List.mem_cons_self
  refine ⟨⟨hrc, hrs, hR.1, hR.2, pay_in ht hG, hc⟩, ht _ (hG _ hc).1, ok _ (by simp [wsV]), ⟨hd.1, hd.2.1⟩, fun sig h => ?_, ok _ (by simp [wsV]), ok _ (by simp [wsV]), ok _ (by simp [wsV])⟩
  have h2 := hd.2.2
  rw [h] at h2
  exact (Option.some.inj h2).symm
theorem vx_runVW {y : MethodName} {bytes cc : ByteArray} {maxL nL mc ms n index : Nat} {ret : Option FieldType} {hh : List (Nat × Nat × Nat × Nat)} {ws : List Cond} {rm : Room} {Pc : Array Value → State → Prop} {Qc : Array Value → State → Outcome → State → Prop} {free : Addr → Prop} {Ts : List Cond} {own C : String} {b : Addr} {As rest : List Value} {g : JFrame}
    (S : CallFix p m c cc nL s args Ts own) (hM : Met l y ws rm Pc Qc mc ms free) (cw : vx_CVW R s args own C index y bytes maxL ret hh ws rm mc ms n) (hp : PreV s H C b Pc As)
    (hg : g.method = m) (hn : As.length = n) (hsize : g.locals.size = nL) (hstack : g.stack = As.reverse ++ .ref b :: rest) (hW : 2 * g.monitorRoom + (rest.map fun v => v.category).sum ≤ 8) (hdg : decode cc g.pc = .ok (.invokevirtual index, 3)) (hf : cells + mc ≤ R.cells ∧ slots + ms ≤ R.slots) :
    va_Run p l e R s m args below meth c H locs cells slots mc ms g rest (Qc (Value.ref b :: As).toArray) free := by
  obtain ⟨⟨hrc, hrs, hfr, hlo, hws, hcw⟩, hcode, hini, hy, hlen, hl, hin, hse⟩ := cw
  have hK : Back l R p e below s args y 3 8 (PreOf R mc ms Pc) (PostOf Qc mc ms free) := va_backW (hh := hh) (bytes := bytes) (maxL := maxL) (ret := ret) hM hp.1 hrc hrs hfr hlo hws hcw (fun a' U hW => word_at hW (Or.inl (by first | rfl | simp [Cond.onTables, Cond.keeps, Cond.steady])) hini)
  obtain ⟨hx, hb, hml, ho, -⟩ := S
  obtain ⟨-, ⟨cellB, hcB, hoB, hclB⟩, hPc⟩ := hp
  intro T hT X
  obtain ⟨v, vm₁, ⟨U', l2, c2, s2⟩, hW₁, X', ⟨g', mk, t, L, e1, e2, hq, h1, hL, h2, h3⟩, st⟩ := vx_callVW X hx (C := C) (hh := hh) (bytes := bytes) (maxL := maxL) (ret := ret) ho hl hin hse hcode hy hK (by rw [hT]; exact hcB) hoB hclB hg (hsize.trans hml.symm) (argsL := As) (rest := rest) (fun sig h => hn.trans (hlen sig h)) hstack hW (by rw [hb]; exact hdg)
    (fun vm₁ hW₁ => ⟨hf.1, hf.2, hPc (T.setVm vm₁) hT hW₁⟩)
  dsimp only [Pt.U, Pt.locs, Pt.cells, Pt.slots] at X' e1 e2 h1 h2 h3 st
  subst h1; subst h2; subst h3
  exact ⟨v, (T.setVm vm₁).calling g' mk (Value.ref b :: As).toArray, t, U', L, hT, X', hL, e1, e2, hq, st⟩
section
variable {y : MethodName} {bytes cc : ByteArray} {maxL nL mc ms n index : Nat} {ret : Option FieldType} {ws : List Cond} {rm : Room} {Pc : Array Value → State → Prop} {Qc : Array Value → State → Outcome → State → Prop} {XC : String → State → State → Prop} {free : Addr → Prop} {Ts : List Cond} {own C : String} {b : Addr} {As rest : List Value} {g : JFrame}
theorem vx_runVX {hh : List (Nat × Nat × Nat × Nat)} (S : CallFix p m c cc nL s args Ts own) (hM : vx_Met l y ws rm Pc Qc XC mc ms free) (cw : vx_CVW R s args own C index y bytes maxL ret hh ws rm mc ms n) (hp : PreV s H C b Pc As)
    (hg : g.method = m) (hn : As.length = n) (hsize : g.locals.size = nL) (hstack : g.stack = As.reverse ++ .ref b :: rest) (hW : 2 * g.monitorRoom + (rest.map fun v => v.category).sum ≤ 8) (hdg : decode cc g.pc = .ok (.invokevirtual index, 3)) (hf : cells + mc ≤ R.cells ∧ slots + ms ≤ R.slots) :
    vx_Run p l e R s m args below meth c H locs cells slots mc ms g rest (Qc (Value.ref b :: As).toArray) XC free := by
  obtain ⟨⟨hrc, hrs, hfr, hlo, hws, hcw⟩, hcode, hini, hy, hlen, hl, hin, hse⟩ := cw
  have hK : vx_Back l R p e below s args y 3 8 (PreOf R mc ms Pc) (PostOf Qc mc ms free) (vx_Post XC mc ms free) := vx_backW (hh := hh) (bytes := bytes) (maxL := maxL) (ret := ret) hM hp.1 hrc hrs hfr hlo hws hcw (fun a' U hW => word_at hW (Or.inl (by first | rfl | simp [Cond.onTables, Cond.keeps, Cond.steady])) hini)
  obtain ⟨hx, hb, hml, ho, -⟩ := S
  obtain ⟨-, ⟨cellB, hcB, hoB, hclB⟩, hPc⟩ := hp
  intro T hT X
  rcases vx_callVX X hx (C := C) (hh := hh) (bytes := bytes) (maxL := maxL) (ret := ret) ho hl hin hse hcode hy hK (by rw [hT]; exact hcB) hoB hclB hg (hsize.trans hml.symm) (argsL := As) (rest := rest) (fun sig h => hn.trans (hlen sig h)) hstack hW (by rw [hb]; exact hdg)
    (fun vm₁ hW₁ => ⟨hf.1, hf.2, hPc (T.setVm vm₁) hT hW₁⟩) with ⟨v, vm₁, ⟨U', l2, c2, s2⟩, hW₁, X', ⟨g', mk, t, L, e1, e2, hq, h1, hL, h2, h3⟩, st⟩ | ⟨q, vm₁, ⟨U', l2, c2, s2⟩, hW₁, X', ⟨g', mk, t, L, E, ce, e1, e2, hq, hce, hcv, hcl, h1, hL, h2, h3⟩, st⟩
  · dsimp only [Pt.U, Pt.locs, Pt.cells, Pt.slots] at X' e1 e2 h1 h2 h3 st
    subst h1; subst h2; subst h3
    exact Or.inl ⟨v, (T.setVm vm₁).calling g' mk (Value.ref b :: As).toArray, t, U', L, hT, X', hL, e1, e2, hq, st⟩
  · dsimp only [Pt.U, Pt.locs, Pt.cells, Pt.slots] at X' e1 e2 h1 h2 h3 st hcl
    subst h1; subst h2; subst h3
    exact Or.inr ⟨q, (T.setVm vm₁).calling g' mk (Value.ref b :: As).toArray, t, U', L, E, ce, hT, X', hL, e1, e2, hq, hce, hcv, vx_cls hW₁ hcl, st⟩
theorem vx_runSX {hh : List (Nat × Nat × Nat × Nat)} (S : CallFix p m c cc nL s args Ts own) (hM : vx_Met l y ws rm Pc Qc XC mc ms free) (cw : vx_CSW R s args own index y bytes maxL ret hh ws rm mc ms n) (hp : PreS s H Pc As)
    (hg : g.method = m) (hn : As.length = n) (hsize : g.locals.size = nL) (hstack : g.stack = As.reverse ++ rest) (hW : 2 * g.monitorRoom + (rest.map fun v => v.category).sum ≤ 8) (hdg : decode cc g.pc = .ok (.invokestatic index, 3)) (hf : cells + mc ≤ R.cells ∧ slots + ms ≤ R.slots) :
    vx_Run p l e R s m args below meth c H locs cells slots mc ms g rest (Qc As.toArray) XC free := by
  obtain ⟨⟨hrc, hrs, hfr, hlo, hws, hcw⟩, hcode, hini, hy, hlen, hl, hstt⟩ := cw
  have hK : vx_Back l R p e below s args y 3 8 (PreOf R mc ms Pc) (PostOf Qc mc ms free) (vx_Post XC mc ms free) := vx_backW (hh := hh) (bytes := bytes) (maxL := maxL) (ret := ret) hM hp.1 hrc hrs hfr hlo hws hcw (fun a' U hW => word_at hW (Or.inl (by first | rfl | simp [Cond.onTables, Cond.keeps, Cond.steady])) hini)
  obtain ⟨hx, hb, hml, ho, -⟩ := S
  intro T hT X
  rcases vx_callSX X hx (hh := hh) (bytes := bytes) (maxL := maxL) (ret := ret) ho hl hstt hini hcode hy hK hg (hsize.trans hml.symm) (argsL := As) (rest := rest) (fun sig h => hn.trans (hlen sig h)) hstack hW (by rw [hb]; exact hdg)
    (fun vm₁ hW₁ => ⟨hf.1, hf.2, hp.2 (T.setVm vm₁) hT hW₁⟩) with ⟨v, vm₁, ⟨U', l2, c2, s2⟩, hW₁, X', ⟨g', mk, t, L, e1, e2, hq, h1, hL, h2, h3⟩, st⟩ | ⟨q, vm₁, ⟨U', l2, c2, s2⟩, hW₁, X', ⟨g', mk, t, L, E, ce, e1, e2, hq, hce, hcv, hcl, h1, hL, h2, h3⟩, st⟩
  · dsimp only [Pt.U, Pt.locs, Pt.cells, Pt.slots] at X' e1 e2 h1 h2 h3 st
    subst h1; subst h2; subst h3
    exact Or.inl ⟨v, (T.setVm vm₁).calling g' mk As.toArray, t, U', L, hT, X', hL, e1, e2, hq, st⟩
  · dsimp only [Pt.U, Pt.locs, Pt.cells, Pt.slots] at X' e1 e2 h1 h2 h3 st hcl
    subst h1; subst h2; subst h3
    exact Or.inr ⟨q, (T.setVm vm₁).calling g' mk As.toArray, t, U', L, E, ce, hT, X', hL, e1, e2, hq, hce, hcv, vx_cls hW₁ hcl, st⟩
end
end VXH
theorem vx_ofWH {l : Launch} {y : MethodName} {ws ws' : List Cond} {rm : Room} {Pc : Array Value → State → Prop} {Qc : Array Value → State → Outcome → State → Prop} {XC : String → State → State → Prop} {mc ms : Nat} {free : Addr → Prop} {cc : ByteArray} {maxL : Nat} {ret : Option FieldType} {hh : List (Nat × Nat × Nat × Nat)}
    (hy : plainName y.cls = true) (hw : ws = Cond.codeWith y cc maxL ret hh :: ws')
    (body : ∀ p e s m args below meth c s₁, BodyLoose p l y (headSpec ws rm) cc maxL ret e s m args below meth c s₁ → c.maxLocals = maxL → Pc args s →
      W p l e (headSpec ws rm).room s m args below meth c s.heap [] 0 0 (vx_MQ below Qc XC args s mc ms free) (entryFrame m args maxL)) : vx_Met l y ws rm Pc Qc XC mc ms free := by
  refine MetFree.of_bodyS (code := cc) (maxLocals := maxL) (ret := ret) hy ?_ ?_
  · intro args s m h hn
    obtain ⟨m9, meth, c, hn9, h1, h2, h3, h4, -, h5, h6, -⟩ := Cond.codeWith_spec (atoms_spec (ws := ws) h _ (by rw [hw]; exact List.mem_cons_self))
    cases hn.symm.trans hn9
    exact ⟨meth, c, h1, h2, h3, h4, h5, h6⟩
  · intro p e s m args below meth c s₁ B hml hP _
    have hh0 : s₁.heap = s.heap := by rw [B.state]; rfl
    obtain ⟨t, a1, o, b1, b2, b3⟩ := body p e s m args below meth c s₁ B hml hP s₁ hh0 (Stand.of_body B)
    exact ⟨t, o, a1, b1, b2, b3⟩
/-! ===== END ===== -/
end
section
/-! ===== BEGIN printed: names, fields, word lists, decode rows ===== -/
def RX0 : String := "CodeMover$Journey"
def TX0 : u_T := fun k => match k with
  | 0 => ("CodeMover$Journey", "program", "LCodeMover$Program;", true)
  | 1 => ("CodeMover$Journey", "timesComputed", "[I", true)
  | 2 => ("CodeMover$Journey", "timesHeld", "[I", true)
  | 3 => ("CodeMover$Journey", "missCount", "I", false)
  | 4 => ("CodeMover$Journey", "endBlock", "I", false)
  | 5 => ("CodeMover$Journey", "held", "I", false)
  | 6 => ("CodeMover$Journey", "heldSince", "[I", true)
  | 7 => ("CodeMover$Journey", "instructionsGone", "I", false)
  | _ => ("CodeMover$Journey", "choicesTaken", "I", false)
def tyX0 : Nat → FieldType := fun k => match k with
  | 0 => .object "CodeMover$Program"
  | 1 => .array .int
  | 2 => .array .int
  | 3 => .int
  | 4 => .int
  | 5 => .int
  | 6 => .array .int
  | 7 => .int
  | _ => .int
abbrev wsX00 : List Cond := u_ws RX0 TX0 9
theorem nmX0 : ∀ a, a < 9 → ∀ b, b < 9 → a ≠ b → (TX0 a).2.1 ≠ (TX0 b).2.1 := by decide +kernel
theorem tyX0_ok : ∀ k, k < 9 → parseFieldDescriptor (TX0 k).2.2.1 = some (tyX0 k) := by decide +kernel
abbrev cX0_init : ByteArray := prog_2_method_1_code
def yX0_init : MethodName := ⟨RX0, "<init>", "(LCodeMover$Program;)V"⟩
abbrev cX0_goThrough : ByteArray := prog_2_method_2_code
def yX0_goThrough : MethodName := ⟨RX0, "goThrough", "(JI)I"⟩
abbrev cX0_begin : ByteArray := prog_2_method_3_code
def yX0_begin : MethodName := ⟨RX0, "begin", "()V"⟩
abbrev cX0_goThroughBlock : ByteArray := prog_2_method_4_code
def yX0_goThroughBlock : MethodName := ⟨RX0, "goThroughBlock", "(I)V"⟩
abbrev cX0_hold : ByteArray := prog_2_method_5_code
def yX0_hold : MethodName := ⟨RX0, "hold", "(I)V"⟩
abbrev cX0_letGo : ByteArray := prog_2_method_6_code
def yX0_letGo : MethodName := ⟨RX0, "letGo", "(I)V"⟩
abbrev cX0_blockBehind : ByteArray := prog_2_method_7_code
def yX0_blockBehind : MethodName := ⟨RX0, "blockBehind", "(IJ)I"⟩
def RX1 : String := "CodeMover$Program"
def TX1 : u_T := fun k => match k with
  | 0 => ("CodeMover$Program", "expressions", "I", false)
  | 1 => ("CodeMover$Program", "variablesOf", "[I", true)
  | 2 => ("CodeMover$Program", "dependents", "[I", true)
  | 3 => ("CodeMover$Program", "blocks", "I", false)
  | 4 => ("CodeMover$Program", "sizes", "[I", true)
  | 5 => ("CodeMover$Program", "codes", "[I", true)
  | 6 => ("CodeMover$Program", "edges", "I", false)
  | 7 => ("CodeMover$Program", "from", "[I", true)
  | 8 => ("CodeMover$Program", "to", "[I", true)
  | 9 => ("CodeMover$Program", "firstExit", "[I", true)
  | 10 => ("CodeMover$Program", "secondExit", "[I", true)
  | _ => ("CodeMover$Program", "changed", "Z", false)
def tyX1 : Nat → FieldType := fun k => match k with
  | 0 => .int
  | 1 => .array .int
  | 2 => .array .int
  | 3 => .int
  | 4 => .array .int
  | 5 => .array .int
  | 6 => .int
  | 7 => .array .int
  | 8 => .array .int
  | 9 => .array .int
  | 10 => .array .int
  | _ => .boolean
abbrev wsX10 : List Cond := u_ws RX1 TX1 12
theorem nmX1 : ∀ a, a < 12 → ∀ b, b < 12 → a ≠ b → (TX1 a).2.1 ≠ (TX1 b).2.1 := by decide +kernel
theorem tyX1_ok : ∀ k, k < 12 → parseFieldDescriptor (TX1 k).2.2.1 = some (tyX1 k) := by decide +kernel
abbrev cX1_init : ByteArray := prog_3_method_1_code
def yX1_init : MethodName := ⟨RX1, "<init>", "()V"⟩
abbrev cX1_allExpressions : ByteArray := prog_3_method_2_code
def yX1_allExpressions : MethodName := ⟨RX1, "allExpressions", "()I"⟩
abbrev cX1_newExpression : ByteArray := prog_3_method_3_code
def yX1_newExpression : MethodName := ⟨RX1, "newExpression", "(I)I"⟩
abbrev cX1_newBlock : ByteArray := prog_3_method_4_code
def yX1_newBlock : MethodName := ⟨RX1, "newBlock", "()I"⟩
abbrev cX1_hasEdge : ByteArray := prog_3_method_5_code
def yX1_hasEdge : MethodName := ⟨RX1, "hasEdge", "(II)Z"⟩
abbrev cX1_newEdge : ByteArray := prog_3_method_6_code
def yX1_newEdge : MethodName := ⟨RX1, "newEdge", "(II)I"⟩
abbrev cX1_endsOf : ByteArray := prog_3_method_7_code
def yX1_endsOf : MethodName := ⟨RX1, "endsOf", "(I)I"⟩
abbrev cX1_codeAt : ByteArray := prog_3_method_8_code
def yX1_codeAt : MethodName := ⟨RX1, "codeAt", "(II)I"⟩
abbrev cX1_append : ByteArray := prog_3_method_9_code
def yX1_append : MethodName := ⟨RX1, "append", "(III)I"⟩
abbrev cX1_removeLast : ByteArray := prog_3_method_10_code
def yX1_removeLast : MethodName := ⟨RX1, "removeLast", "(I)I"⟩
abbrev cX1_turnFirstComputesToUses : ByteArray := prog_3_method_11_code
def yX1_turnFirstComputesToUses : MethodName := ⟨RX1, "turnFirstComputesToUses", "(II)V"⟩
abbrev cX1_splitEdge : ByteArray := prog_3_method_12_code
def yX1_splitEdge : MethodName := ⟨RX1, "splitEdge", "(II)V"⟩
abbrev cX1_addToChecksum : ByteArray := prog_3_method_13_code
def yX1_addToChecksum : MethodName := ⟨RX1, "addToChecksum", "(J)J"⟩
def RX2 : String := "CodeMover$Sets"
def TX2 : u_T := fun k => match k with
  | 0 => ("CodeMover$Sets", "program", "LCodeMover$Program;", true)
  | 1 => ("CodeMover$Sets", "keptIn", "[I", true)
  | 2 => ("CodeMover$Sets", "earlyIn", "[I", true)
  | 3 => ("CodeMover$Sets", "lateIn", "[I", true)
  | 4 => ("CodeMover$Sets", "neededAtStart", "[I", true)
  | 5 => ("CodeMover$Sets", "neededAtEnd", "[I", true)
  | 6 => ("CodeMover$Sets", "thereAtStart", "[I", true)
  | 7 => ("CodeMover$Sets", "thereAtEnd", "[I", true)
  | 8 => ("CodeMover$Sets", "delayedAtStart", "[I", true)
  | 9 => ("CodeMover$Sets", "deletedInBlock", "[I", true)
  | 10 => ("CodeMover$Sets", "earliestOnEdge", "[I", true)
  | 11 => ("CodeMover$Sets", "delayedOnEdge", "[I", true)
  | _ => ("CodeMover$Sets", "insertedOnEdge", "[I", true)
def tyX2 : Nat → FieldType := fun k => match k with
  | 0 => .object "CodeMover$Program"
  | 1 => .array .int
  | 2 => .array .int
  | 3 => .array .int
  | 4 => .array .int
  | 5 => .array .int
  | 6 => .array .int
  | 7 => .array .int
  | 8 => .array .int
  | 9 => .array .int
  | 10 => .array .int
  | 11 => .array .int
  | _ => .array .int
abbrev wsX20 : List Cond := u_ws RX2 TX2 13
theorem nmX2 : ∀ a, a < 13 → ∀ b, b < 13 → a ≠ b → (TX2 a).2.1 ≠ (TX2 b).2.1 := by decide +kernel
theorem tyX2_ok : ∀ k, k < 13 → parseFieldDescriptor (TX2 k).2.2.1 = some (tyX2 k) := by decide +kernel
abbrev cX2_init : ByteArray := prog_4_method_1_code
def yX2_init : MethodName := ⟨RX2, "<init>", "(LCodeMover$Program;)V"⟩
abbrev cX2_bringUpToDate : ByteArray := prog_4_method_2_code
def yX2_bringUpToDate : MethodName := ⟨RX2, "bringUpToDate", "()V"⟩
abbrev cX2_countEdgesWithInsertions : ByteArray := prog_4_method_3_code
def yX2_countEdgesWithInsertions : MethodName := ⟨RX2, "countEdgesWithInsertions", "()I"⟩
abbrev cX2_findSetsOfBlock : ByteArray := prog_4_method_4_code
def yX2_findSetsOfBlock : MethodName := ⟨RX2, "findSetsOfBlock", "(I)V"⟩
abbrev cX2_findNeeded : ByteArray := prog_4_method_5_code
def yX2_findNeeded : MethodName := ⟨RX2, "findNeeded", "()V"⟩
abbrev cX2_shrinkNeeded : ByteArray := prog_4_method_6_code
def yX2_shrinkNeeded : MethodName := ⟨RX2, "shrinkNeeded", "()Z"⟩
abbrev cX2_setNeededAtEnd : ByteArray := prog_4_method_7_code
def yX2_setNeededAtEnd : MethodName := ⟨RX2, "setNeededAtEnd", "(II)V"⟩
abbrev cX2_findThere : ByteArray := prog_4_method_8_code
def yX2_findThere : MethodName := ⟨RX2, "findThere", "()V"⟩
abbrev cX2_shrinkThere : ByteArray := prog_4_method_9_code
def yX2_shrinkThere : MethodName := ⟨RX2, "shrinkThere", "()Z"⟩
abbrev cX2_setThereAtStart : ByteArray := prog_4_method_10_code
def yX2_setThereAtStart : MethodName := ⟨RX2, "setThereAtStart", "(II)V"⟩
abbrev cX2_fillWhereEdgesLead : ByteArray := prog_4_method_11_code
def yX2_fillWhereEdgesLead : MethodName := ⟨RX2, "fillWhereEdgesLead", "([I)V"⟩
abbrev cX2_findEarliest : ByteArray := prog_4_method_12_code
def yX2_findEarliest : MethodName := ⟨RX2, "findEarliest", "()V"⟩
abbrev cX2_findDelayed : ByteArray := prog_4_method_13_code
def yX2_findDelayed : MethodName := ⟨RX2, "findDelayed", "()V"⟩
abbrev cX2_shrinkDelayed : ByteArray := prog_4_method_14_code
def yX2_shrinkDelayed : MethodName := ⟨RX2, "shrinkDelayed", "()Z"⟩
abbrev cX2_findDelayedOnEdge : ByteArray := prog_4_method_15_code
def yX2_findDelayedOnEdge : MethodName := ⟨RX2, "findDelayedOnEdge", "(I)I"⟩
abbrev cX2_findInsertionsAndDeletions : ByteArray := prog_4_method_16_code
def yX2_findInsertionsAndDeletions : MethodName := ⟨RX2, "findInsertionsAndDeletions", "()V"⟩
def RX3 : String := "CodeMover"
def TX3 : u_T := fun k => match k with
  | 0 => ("CodeMover", "program", "LCodeMover$Program;", true)
  | 1 => ("CodeMover", "sets", "LCodeMover$Sets;", true)
  | _ => ("CodeMover", "latest", "LCodeMover$Journey;", true)
def tyX3 : Nat → FieldType := fun k => match k with
  | 0 => .object "CodeMover$Program"
  | 1 => .object "CodeMover$Sets"
  | _ => .object "CodeMover$Journey"
abbrev wsX30 : List Cond := u_ws RX3 TX3 3
theorem nmX3 : ∀ a, a < 3 → ∀ b, b < 3 → a ≠ b → (TX3 a).2.1 ≠ (TX3 b).2.1 := by decide +kernel
theorem tyX3_ok : ∀ k, k < 3 → parseFieldDescriptor (TX3 k).2.2.1 = some (tyX3 k) := by decide +kernel
abbrev cX3_init : ByteArray := prog_1_method_1_code
def yX3_init : MethodName := ⟨RX3, "<init>", "()V"⟩
abbrev cX3_addExpression : ByteArray := prog_1_method_2_code
def yX3_addExpression : MethodName := ⟨RX3, "addExpression", "(I)I"⟩
abbrev cX3_addBlock : ByteArray := prog_1_method_3_code
def yX3_addBlock : MethodName := ⟨RX3, "addBlock", "()I"⟩
abbrev cX3_addEdge : ByteArray := prog_1_method_4_code
def yX3_addEdge : MethodName := ⟨RX3, "addEdge", "(II)I"⟩
abbrev cX3_compute : ByteArray := prog_1_method_5_code
def yX3_compute : MethodName := ⟨RX3, "compute", "(II)I"⟩
abbrev cX3_use : ByteArray := prog_1_method_6_code
def yX3_use : MethodName := ⟨RX3, "use", "(II)I"⟩
abbrev cX3_assign : ByteArray := prog_1_method_7_code
def yX3_assign : MethodName := ⟨RX3, "assign", "(II)I"⟩
abbrev cX3_drop : ByteArray := prog_1_method_8_code
def yX3_drop : MethodName := ⟨RX3, "drop", "(I)I"⟩
abbrev cX3_blockCount : ByteArray := prog_1_method_9_code
def yX3_blockCount : MethodName := ⟨RX3, "blockCount", "()I"⟩
abbrev cX3_edgeCount : ByteArray := prog_1_method_10_code
def yX3_edgeCount : MethodName := ⟨RX3, "edgeCount", "()I"⟩
abbrev cX3_size : ByteArray := prog_1_method_11_code
def yX3_size : MethodName := ⟨RX3, "size", "(I)I"⟩
abbrev cX3_instruction : ByteArray := prog_1_method_12_code
def yX3_instruction : MethodName := ⟨RX3, "instruction", "(II)I"⟩
abbrev cX3_ends : ByteArray := prog_1_method_13_code
def yX3_ends : MethodName := ⟨RX3, "ends", "(I)I"⟩
abbrev cX3_kept : ByteArray := prog_1_method_14_code
def yX3_kept : MethodName := ⟨RX3, "kept", "(I)I"⟩
abbrev cX3_early : ByteArray := prog_1_method_15_code
def yX3_early : MethodName := ⟨RX3, "early", "(I)I"⟩
abbrev cX3_late : ByteArray := prog_1_method_16_code
def yX3_late : MethodName := ⟨RX3, "late", "(I)I"⟩
abbrev cX3_needed : ByteArray := prog_1_method_17_code
def yX3_needed : MethodName := ⟨RX3, "needed", "(IZ)I"⟩
abbrev cX3_there : ByteArray := prog_1_method_18_code
def yX3_there : MethodName := ⟨RX3, "there", "(IZ)I"⟩
abbrev cX3_earliest : ByteArray := prog_1_method_19_code
def yX3_earliest : MethodName := ⟨RX3, "earliest", "(I)I"⟩
abbrev cX3_delayedOn : ByteArray := prog_1_method_20_code
def yX3_delayedOn : MethodName := ⟨RX3, "delayedOn", "(I)I"⟩
abbrev cX3_delayedAt : ByteArray := prog_1_method_21_code
def yX3_delayedAt : MethodName := ⟨RX3, "delayedAt", "(I)I"⟩
abbrev cX3_insertions : ByteArray := prog_1_method_22_code
def yX3_insertions : MethodName := ⟨RX3, "insertions", "(I)I"⟩
abbrev cX3_deletions : ByteArray := prog_1_method_23_code
def yX3_deletions : MethodName := ⟨RX3, "deletions", "(I)I"⟩
abbrev cX3_move : ByteArray := prog_1_method_24_code
def yX3_move : MethodName := ⟨RX3, "move", "()I"⟩
abbrev cX3_walk : ByteArray := prog_1_method_25_code
def yX3_walk : MethodName := ⟨RX3, "walk", "(JI)I"⟩
abbrev cX3_computed : ByteArray := prog_1_method_26_code
def yX3_computed : MethodName := ⟨RX3, "computed", "(I)I"⟩
abbrev cX3_misses : ByteArray := prog_1_method_27_code
def yX3_misses : MethodName := ⟨RX3, "misses", "()I"⟩
abbrev cX3_lastBlock : ByteArray := prog_1_method_28_code
def yX3_lastBlock : MethodName := ⟨RX3, "lastBlock", "()I"⟩
abbrev cX3_heldFor : ByteArray := prog_1_method_29_code
def yX3_heldFor : MethodName := ⟨RX3, "heldFor", "(I)I"⟩
abbrev cX3_digest : ByteArray := prog_1_method_30_code
def yX3_digest : MethodName := ⟨RX3, "digest", "()J"⟩
abbrev cX3_requireBlock : ByteArray := prog_1_method_31_code
def yX3_requireBlock : MethodName := ⟨RX3, "requireBlock", "(I)V"⟩
abbrev cX3_requireEdge : ByteArray := prog_1_method_32_code
def yX3_requireEdge : MethodName := ⟨RX3, "requireEdge", "(I)V"⟩
abbrev cX3_requireExpression : ByteArray := prog_1_method_33_code
def yX3_requireExpression : MethodName := ⟨RX3, "requireExpression", "(I)V"⟩
abbrev cX3_requireRoom : ByteArray := prog_1_method_34_code
def yX3_requireRoom : MethodName := ⟨RX3, "requireRoom", "(I)V"⟩
abbrev cX3_deleteComputations : ByteArray := prog_1_method_35_code
def yX3_deleteComputations : MethodName := ⟨RX3, "deleteComputations", "()V"⟩
abbrev cX3_insertComputations : ByteArray := prog_1_method_36_code
def yX3_insertComputations : MethodName := ⟨RX3, "insertComputations", "()V"⟩
def RX4 : String := "CodeMoverModel"
def TX4 : u_T := fun k => match k with
  | 0 => ("CodeMoverModel", "thrown", "I", false)
  | 1 => ("CodeMoverModel", "expressions", "I", false)
  | 2 => ("CodeMoverModel", "variables", "[I", true)
  | 3 => ("CodeMoverModel", "blocks", "I", false)
  | 4 => ("CodeMoverModel", "sizes", "[I", true)
  | 5 => ("CodeMoverModel", "code", "[I", true)
  | 6 => ("CodeMoverModel", "edges", "I", false)
  | 7 => ("CodeMoverModel", "froms", "[I", true)
  | 8 => ("CodeMoverModel", "tos", "[I", true)
  | 9 => ("CodeMoverModel", "neededAt", "[I", true)
  | 10 => ("CodeMoverModel", "neededBehind", "[I", true)
  | 11 => ("CodeMoverModel", "thereAt", "[I", true)
  | 12 => ("CodeMoverModel", "thereBehind", "[I", true)
  | 13 => ("CodeMoverModel", "delayed", "[I", true)
  | 14 => ("CodeMoverModel", "computed", "[I", true)
  | 15 => ("CodeMoverModel", "held", "[I", true)
  | 16 => ("CodeMoverModel", "misses", "I", false)
  | _ => ("CodeMoverModel", "last", "I", false)
def tyX4 : Nat → FieldType := fun k => match k with
  | 0 => .int
  | 1 => .int
  | 2 => .array .int
  | 3 => .int
  | 4 => .array .int
  | 5 => .array .int
  | 6 => .int
  | 7 => .array .int
  | 8 => .array .int
  | 9 => .array .int
  | 10 => .array .int
  | 11 => .array .int
  | 12 => .array .int
  | 13 => .array .int
  | 14 => .array .int
  | 15 => .array .int
  | 16 => .int
  | _ => .int
abbrev wsX40 : List Cond := u_ws RX4 TX4 18
theorem nmX4 : ∀ a, a < 18 → ∀ b, b < 18 → a ≠ b → (TX4 a).2.1 ≠ (TX4 b).2.1 := by decide +kernel
theorem tyX4_ok : ∀ k, k < 18 → parseFieldDescriptor (TX4 k).2.2.1 = some (tyX4 k) := by decide +kernel
abbrev cX4_init : ByteArray := prog_6_method_1_code
def yX4_init : MethodName := ⟨RX4, "<init>", "()V"⟩
abbrev cX4_thrown : ByteArray := prog_6_method_2_code
def yX4_thrown : MethodName := ⟨RX4, "thrown", "()I"⟩
abbrev cX4_no : ByteArray := prog_6_method_3_code
def yX4_no : MethodName := ⟨RX4, "no", "(I)I"⟩
abbrev cX4_isBlock : ByteArray := prog_6_method_4_code
def yX4_isBlock : MethodName := ⟨RX4, "isBlock", "(I)Z"⟩
abbrev cX4_isEdge : ByteArray := prog_6_method_5_code
def yX4_isEdge : MethodName := ⟨RX4, "isEdge", "(I)Z"⟩
abbrev cX4_isExpression : ByteArray := prog_6_method_6_code
def yX4_isExpression : MethodName := ⟨RX4, "isExpression", "(I)Z"⟩
abbrev cX4_addExpression : ByteArray := prog_6_method_7_code
def yX4_addExpression : MethodName := ⟨RX4, "addExpression", "(I)I"⟩
abbrev cX4_addBlock : ByteArray := prog_6_method_8_code
def yX4_addBlock : MethodName := ⟨RX4, "addBlock", "()I"⟩
abbrev cX4_exits : ByteArray := prog_6_method_9_code
def yX4_exits : MethodName := ⟨RX4, "exits", "(I)I"⟩
abbrev cX4_addEdge : ByteArray := prog_6_method_10_code
def yX4_addEdge : MethodName := ⟨RX4, "addEdge", "(II)I"⟩
abbrev cX4_append : ByteArray := prog_6_method_11_code
def yX4_append : MethodName := ⟨RX4, "append", "(II)I"⟩
abbrev cX4_compute : ByteArray := prog_6_method_12_code
def yX4_compute : MethodName := ⟨RX4, "compute", "(II)I"⟩
abbrev cX4_use : ByteArray := prog_6_method_13_code
def yX4_use : MethodName := ⟨RX4, "use", "(II)I"⟩
abbrev cX4_assign : ByteArray := prog_6_method_14_code
def yX4_assign : MethodName := ⟨RX4, "assign", "(II)I"⟩
abbrev cX4_drop : ByteArray := prog_6_method_15_code
def yX4_drop : MethodName := ⟨RX4, "drop", "(I)I"⟩
abbrev cX4_blockCount : ByteArray := prog_6_method_16_code
def yX4_blockCount : MethodName := ⟨RX4, "blockCount", "()I"⟩
abbrev cX4_edgeCount : ByteArray := prog_6_method_17_code
def yX4_edgeCount : MethodName := ⟨RX4, "edgeCount", "()I"⟩
abbrev cX4_size : ByteArray := prog_6_method_18_code
def yX4_size : MethodName := ⟨RX4, "size", "(I)I"⟩
abbrev cX4_at : ByteArray := prog_6_method_19_code
def yX4_at : MethodName := ⟨RX4, "at", "(II)I"⟩
abbrev cX4_instruction : ByteArray := prog_6_method_20_code
def yX4_instruction : MethodName := ⟨RX4, "instruction", "(II)I"⟩
abbrev cX4_ends : ByteArray := prog_6_method_21_code
def yX4_ends : MethodName := ⟨RX4, "ends", "(I)I"⟩
abbrev cX4_all : ByteArray := prog_6_method_22_code
def yX4_all : MethodName := ⟨RX4, "all", "()I"⟩
abbrev cX4_dependent : ByteArray := prog_6_method_23_code
def yX4_dependent : MethodName := ⟨RX4, "dependent", "(I)I"⟩
abbrev cX4_keptBy : ByteArray := prog_6_method_24_code
def yX4_keptBy : MethodName := ⟨RX4, "keptBy", "(I)I"⟩
abbrev cX4_earlyIn : ByteArray := prog_6_method_25_code
def yX4_earlyIn : MethodName := ⟨RX4, "earlyIn", "(I)I"⟩
abbrev cX4_lateIn : ByteArray := prog_6_method_26_code
def yX4_lateIn : MethodName := ⟨RX4, "lateIn", "(I)I"⟩
abbrev cX4_find : ByteArray := prog_6_method_27_code
def yX4_find : MethodName := ⟨RX4, "find", "()V"⟩
abbrev cX4_findNeeded : ByteArray := prog_6_method_28_code
def yX4_findNeeded : MethodName := ⟨RX4, "findNeeded", "(I)Z"⟩
abbrev cX4_findThere : ByteArray := prog_6_method_29_code
def yX4_findThere : MethodName := ⟨RX4, "findThere", "(I)Z"⟩
abbrev cX4_earliestFor : ByteArray := prog_6_method_30_code
def yX4_earliestFor : MethodName := ⟨RX4, "earliestFor", "(I)I"⟩
abbrev cX4_delayedAlong : ByteArray := prog_6_method_31_code
def yX4_delayedAlong : MethodName := ⟨RX4, "delayedAlong", "(I)I"⟩
abbrev cX4_insertedOn : ByteArray := prog_6_method_32_code
def yX4_insertedOn : MethodName := ⟨RX4, "insertedOn", "(I)I"⟩
abbrev cX4_deletedIn : ByteArray := prog_6_method_33_code
def yX4_deletedIn : MethodName := ⟨RX4, "deletedIn", "(I)I"⟩
abbrev cX4_asks : ByteArray := prog_6_method_34_code
def yX4_asks : MethodName := ⟨RX4, "asks", "(Z)Z"⟩
abbrev cX4_kept : ByteArray := prog_6_method_35_code
def yX4_kept : MethodName := ⟨RX4, "kept", "(I)I"⟩
abbrev cX4_early : ByteArray := prog_6_method_36_code
def yX4_early : MethodName := ⟨RX4, "early", "(I)I"⟩
abbrev cX4_late : ByteArray := prog_6_method_37_code
def yX4_late : MethodName := ⟨RX4, "late", "(I)I"⟩
abbrev cX4_needed : ByteArray := prog_6_method_38_code
def yX4_needed : MethodName := ⟨RX4, "needed", "(IZ)I"⟩
abbrev cX4_there : ByteArray := prog_6_method_39_code
def yX4_there : MethodName := ⟨RX4, "there", "(IZ)I"⟩
abbrev cX4_earliest : ByteArray := prog_6_method_40_code
def yX4_earliest : MethodName := ⟨RX4, "earliest", "(I)I"⟩
abbrev cX4_delayedOn : ByteArray := prog_6_method_41_code
def yX4_delayedOn : MethodName := ⟨RX4, "delayedOn", "(I)I"⟩
abbrev cX4_delayedAt : ByteArray := prog_6_method_42_code
def yX4_delayedAt : MethodName := ⟨RX4, "delayedAt", "(I)I"⟩
abbrev cX4_insertions : ByteArray := prog_6_method_43_code
def yX4_insertions : MethodName := ⟨RX4, "insertions", "(I)I"⟩
abbrev cX4_deletions : ByteArray := prog_6_method_44_code
def yX4_deletions : MethodName := ⟨RX4, "deletions", "(I)I"⟩
abbrev cX4_move : ByteArray := prog_6_method_45_code
def yX4_move : MethodName := ⟨RX4, "move", "()I"⟩
abbrev cX4_delete : ByteArray := prog_6_method_46_code
def yX4_delete : MethodName := ⟨RX4, "delete", "(II)V"⟩
abbrev cX4_insert : ByteArray := prog_6_method_47_code
def yX4_insert : MethodName := ⟨RX4, "insert", "(II)V"⟩
abbrev cX4_walk : ByteArray := prog_6_method_48_code
def yX4_walk : MethodName := ⟨RX4, "walk", "(JI)I"⟩
abbrev cX4_go : ByteArray := prog_6_method_49_code
def yX4_go : MethodName := ⟨RX4, "go", "(II)I"⟩
abbrev cX4_exit : ByteArray := prog_6_method_50_code
def yX4_exit : MethodName := ⟨RX4, "exit", "(II)I"⟩
abbrev cX4_computed : ByteArray := prog_6_method_51_code
def yX4_computed : MethodName := ⟨RX4, "computed", "(I)I"⟩
abbrev cX4_misses : ByteArray := prog_6_method_52_code
def yX4_misses : MethodName := ⟨RX4, "misses", "()I"⟩
abbrev cX4_lastBlock : ByteArray := prog_6_method_53_code
def yX4_lastBlock : MethodName := ⟨RX4, "lastBlock", "()I"⟩
abbrev cX4_heldFor : ByteArray := prog_6_method_54_code
def yX4_heldFor : MethodName := ⟨RX4, "heldFor", "(I)I"⟩
abbrev cX4_digest : ByteArray := prog_6_method_55_code
def yX4_digest : MethodName := ⟨RX4, "digest", "()J"⟩
def RJ0 : String := "java/lang/String"
def TJ0 : u_T := fun k => match k with
  | _ => ("", "", "", false)
def tyJ0 : Nat → FieldType := fun k => match k with
  | _ => .int
abbrev wsJ00 : List Cond := u_ws RJ0 TJ0 0
theorem nmJ0 : ∀ a, a < 0 → ∀ b, b < 0 → a ≠ b → (TJ0 a).2.1 ≠ (TJ0 b).2.1 := by decide +kernel
theorem tyJ0_ok : ∀ k, k < 0 → parseFieldDescriptor (TJ0 k).2.2.1 = some (tyJ0 k) := by decide +kernel
def RL : String := "CodeMoverLaw"
abbrev cL_addExpression : ByteArray := method_3_code
def yL_addExpression : MethodName := ⟨RL, "addExpression", "(LCodeMover;I[J)I"⟩
abbrev cL_addBlock : ByteArray := method_4_code
def yL_addBlock : MethodName := ⟨RL, "addBlock", "(LCodeMover;[J)I"⟩
abbrev cL_addEdge : ByteArray := method_5_code
def yL_addEdge : MethodName := ⟨RL, "addEdge", "(LCodeMover;II[J)I"⟩
abbrev cL_compute : ByteArray := method_6_code
def yL_compute : MethodName := ⟨RL, "compute", "(LCodeMover;II[J)I"⟩
abbrev cL_use : ByteArray := method_7_code
def yL_use : MethodName := ⟨RL, "use", "(LCodeMover;II[J)I"⟩
abbrev cL_assign : ByteArray := method_8_code
def yL_assign : MethodName := ⟨RL, "assign", "(LCodeMover;II[J)I"⟩
abbrev cL_drop : ByteArray := method_9_code
def yL_drop : MethodName := ⟨RL, "drop", "(LCodeMover;I[J)I"⟩
abbrev cL_size : ByteArray := method_10_code
def yL_size : MethodName := ⟨RL, "size", "(LCodeMover;I[J)I"⟩
abbrev cL_instruction : ByteArray := method_11_code
def yL_instruction : MethodName := ⟨RL, "instruction", "(LCodeMover;II[J)I"⟩
abbrev cL_ends : ByteArray := method_12_code
def yL_ends : MethodName := ⟨RL, "ends", "(LCodeMover;I[J)I"⟩
abbrev cL_kept : ByteArray := method_13_code
def yL_kept : MethodName := ⟨RL, "kept", "(LCodeMover;I[J)I"⟩
abbrev cL_early : ByteArray := method_14_code
def yL_early : MethodName := ⟨RL, "early", "(LCodeMover;I[J)I"⟩
abbrev cL_late : ByteArray := method_15_code
def yL_late : MethodName := ⟨RL, "late", "(LCodeMover;I[J)I"⟩
abbrev cL_needed : ByteArray := method_16_code
def yL_needed : MethodName := ⟨RL, "needed", "(LCodeMover;IZ[J)I"⟩
abbrev cL_there : ByteArray := method_17_code
def yL_there : MethodName := ⟨RL, "there", "(LCodeMover;IZ[J)I"⟩
abbrev cL_earliest : ByteArray := method_18_code
def yL_earliest : MethodName := ⟨RL, "earliest", "(LCodeMover;I[J)I"⟩
abbrev cL_delayedOn : ByteArray := method_19_code
def yL_delayedOn : MethodName := ⟨RL, "delayedOn", "(LCodeMover;I[J)I"⟩
abbrev cL_delayedAt : ByteArray := method_20_code
def yL_delayedAt : MethodName := ⟨RL, "delayedAt", "(LCodeMover;I[J)I"⟩
abbrev cL_insertions : ByteArray := method_21_code
def yL_insertions : MethodName := ⟨RL, "insertions", "(LCodeMover;I[J)I"⟩
abbrev cL_deletions : ByteArray := method_22_code
def yL_deletions : MethodName := ⟨RL, "deletions", "(LCodeMover;I[J)I"⟩
abbrev cL_move : ByteArray := method_23_code
def yL_move : MethodName := ⟨RL, "move", "(LCodeMover;[J)I"⟩
abbrev cL_walk : ByteArray := method_24_code
def yL_walk : MethodName := ⟨RL, "walk", "(LCodeMover;JI[J)I"⟩
abbrev cL_computed : ByteArray := method_25_code
def yL_computed : MethodName := ⟨RL, "computed", "(LCodeMover;I[J)I"⟩
abbrev cL_heldFor : ByteArray := method_26_code
def yL_heldFor : MethodName := ⟨RL, "heldFor", "(LCodeMover;I[J)I"⟩
abbrev cL_law : ByteArray := code
def yL_law : MethodName := ⟨RL, "law", "([I)Z"⟩
def wsX0_init : List Cond := .code yX0_init cX0_init 2 none :: ([.methodLink RX0 3 objectInit, .instanceMethod objectInit, .code objectInit ⟨#[0xb1]⟩ 1 none, .arrayClass .int, .fieldLink RX0 9 "CodeMover$Journey" "timesComputed" "[I", .fieldLink RX0 15 "CodeMover$Journey" "timesHeld" "[I", .fieldLink RX0 18 "CodeMover$Journey" "missCount" "I", .fieldLink RX0 22 "CodeMover$Journey" "endBlock" "I", .fieldLink RX0 25 "CodeMover$Journey" "held" "I", .fieldLink RX0 28 "CodeMover$Journey" "heldSince" "[I", .fieldLink RX0 31 "CodeMover$Journey" "instructionsGone" "I", .fieldLink RX0 34 "CodeMover$Journey" "choicesTaken" "I", .fieldLink RX0 37 "CodeMover$Journey" "program" "LCodeMover$Program;"] ++ wsX00)
def wsX0_begin : List Cond := .code yX0_begin cX0_begin 2 none :: ([.fieldLink RX0 9 "CodeMover$Journey" "timesComputed" "[I", .fieldLink RX0 15 "CodeMover$Journey" "timesHeld" "[I", .fieldLink RX0 18 "CodeMover$Journey" "missCount" "I", .fieldLink RX0 25 "CodeMover$Journey" "held" "I", .fieldLink RX0 31 "CodeMover$Journey" "instructionsGone" "I", .fieldLink RX0 34 "CodeMover$Journey" "choicesTaken" "I"] ++ wsX00)
def wsX1_codeAt : List Cond := .code yX1_codeAt cX1_codeAt 3 (some .int) :: ([.fieldLink RX1 28 "CodeMover$Program" "codes" "[I"] ++ wsX10)
def wsX0_hold : List Cond := .code yX0_hold cX0_hold 2 none :: ([.fieldLink RX0 9 "CodeMover$Journey" "timesComputed" "[I", .fieldLink RX0 25 "CodeMover$Journey" "held" "I", .fieldLink RX0 28 "CodeMover$Journey" "heldSince" "[I", .fieldLink RX0 31 "CodeMover$Journey" "instructionsGone" "I"] ++ wsX00)
def wsX0_letGo : List Cond := .code yX0_letGo cX0_letGo 3 none :: ([.fieldLink RX0 37 "CodeMover$Journey" "program" "LCodeMover$Program;", .fieldLink RX0 70 "CodeMover$Program" "expressions" "I", .fieldLink RX0 15 "CodeMover$Journey" "timesHeld" "[I", .fieldLink RX0 31 "CodeMover$Journey" "instructionsGone" "I", .fieldLink RX0 28 "CodeMover$Journey" "heldSince" "[I", .fieldLink RX0 25 "CodeMover$Journey" "held" "I"] ++ wsX00 ++ wsX10)
def wsX0_goThroughBlock_r1 : List Cond := [Cond.fieldLink RX0 37 "CodeMover$Journey" "program" "LCodeMover$Program;", Cond.fieldLink RX0 55 "CodeMover$Program" "sizes" "[I", Cond.fieldLink RX0 31 "CodeMover$Journey" "instructionsGone" "I", Cond.fieldLink RX0 25 "CodeMover$Journey" "held" "I", Cond.fieldLink RX0 67 "CodeMover$Program" "dependents" "[I", Cond.fieldLink RX0 18 "CodeMover$Journey" "missCount" "I", Cond.methodLink RX0 60 yX1_codeAt, Cond.instanceMethod yX1_codeAt, Cond.selects RX1 yX1_codeAt yX1_codeAt, Cond.initialized RX1, Cond.code yX1_codeAt cX1_codeAt 3 (some .int), Cond.fieldLink RX1 28 "CodeMover$Program" "codes" "[I", Cond.methodLink RX0 64 yX0_hold, Cond.instanceMethod yX0_hold, Cond.selects RX0 yX0_hold yX0_hold, Cond.initialized RX0, Cond.code yX0_hold cX0_hold 2 none, Cond.fieldLink RX0 9 "CodeMover$Journey" "timesComputed" "[I", Cond.fieldLink RX0 28 "CodeMover$Journey" "heldSince" "[I", Cond.methodLink RX0 52 yX0_letGo, Cond.instanceMethod yX0_letGo, Cond.selects RX0 yX0_letGo yX0_letGo, Cond.code yX0_letGo cX0_letGo 3 none, Cond.fieldLink RX0 70 "CodeMover$Program" "expressions" "I"]
def wsX0_goThroughBlock_r2 : List Cond := [Cond.fieldLink RX0 15 "CodeMover$Journey" "timesHeld" "[I"]
def wsX0_goThroughBlock : List Cond := .code yX0_goThroughBlock cX0_goThroughBlock 6 none :: ((wsX0_goThroughBlock_r1 ++ wsX0_goThroughBlock_r2) ++ wsX00 ++ wsX10)
def wsX0_blockBehind : List Cond := .code yX0_blockBehind cX0_blockBehind 5 (some .int) :: ([.fieldLink RX0 37 "CodeMover$Journey" "program" "LCodeMover$Program;", .fieldLink RX0 73 "CodeMover$Program" "firstExit" "[I", .fieldLink RX0 76 "CodeMover$Program" "secondExit" "[I", .fieldLink RX0 34 "CodeMover$Journey" "choicesTaken" "I", .fieldLink RX0 79 "CodeMover$Program" "to" "[I"] ++ wsX00 ++ wsX10)
def wsX0_goThrough_r1 : List Cond := [Cond.fieldLink RX0 22 "CodeMover$Journey" "endBlock" "I", Cond.fieldLink RX0 25 "CodeMover$Journey" "held" "I", Cond.methodLink RX0 41 yX0_begin, Cond.instanceMethod yX0_begin, Cond.selects RX0 yX0_begin yX0_begin, Cond.initialized RX0, Cond.code yX0_begin cX0_begin 2 none, Cond.fieldLink RX0 9 "CodeMover$Journey" "timesComputed" "[I", Cond.fieldLink RX0 15 "CodeMover$Journey" "timesHeld" "[I", Cond.fieldLink RX0 18 "CodeMover$Journey" "missCount" "I", Cond.fieldLink RX0 31 "CodeMover$Journey" "instructionsGone" "I", Cond.fieldLink RX0 34 "CodeMover$Journey" "choicesTaken" "I", Cond.methodLink RX0 44 yX0_goThroughBlock, Cond.instanceMethod yX0_goThroughBlock, Cond.selects RX0 yX0_goThroughBlock yX0_goThroughBlock, Cond.code yX0_goThroughBlock cX0_goThroughBlock 6 none, Cond.fieldLink RX0 37 "CodeMover$Journey" "program" "LCodeMover$Program;", Cond.fieldLink RX0 55 "CodeMover$Program" "sizes" "[I", Cond.fieldLink RX0 67 "CodeMover$Program" "dependents" "[I", Cond.methodLink RX0 60 yX1_codeAt, Cond.instanceMethod yX1_codeAt, Cond.selects RX1 yX1_codeAt yX1_codeAt, Cond.initialized RX1, Cond.code yX1_codeAt cX1_codeAt 3 (some .int)]
def wsX0_goThrough_r2 : List Cond := [Cond.fieldLink RX1 28 "CodeMover$Program" "codes" "[I", Cond.methodLink RX0 64 yX0_hold, Cond.instanceMethod yX0_hold, Cond.selects RX0 yX0_hold yX0_hold, Cond.code yX0_hold cX0_hold 2 none, Cond.fieldLink RX0 28 "CodeMover$Journey" "heldSince" "[I", Cond.methodLink RX0 52 yX0_letGo, Cond.instanceMethod yX0_letGo, Cond.selects RX0 yX0_letGo yX0_letGo, Cond.code yX0_letGo cX0_letGo 3 none, Cond.fieldLink RX0 70 "CodeMover$Program" "expressions" "I", Cond.methodLink RX0 48 yX0_blockBehind, Cond.instanceMethod yX0_blockBehind, Cond.selects RX0 yX0_blockBehind yX0_blockBehind, Cond.code yX0_blockBehind cX0_blockBehind 5 (some .int), Cond.fieldLink RX0 73 "CodeMover$Program" "firstExit" "[I", Cond.fieldLink RX0 76 "CodeMover$Program" "secondExit" "[I", Cond.fieldLink RX0 79 "CodeMover$Program" "to" "[I"]
def wsX0_goThrough : List Cond := .code yX0_goThrough cX0_goThrough 6 (some .int) :: ((wsX0_goThrough_r1 ++ wsX0_goThrough_r2) ++ wsX00 ++ wsX10)
def wsX1_init : List Cond := .code yX1_init cX1_init 2 none :: ([.methodLink RX1 3 objectInit, .instanceMethod objectInit, .code objectInit ⟨#[0xb1]⟩ 1 none, .fieldLink RX1 9 "CodeMover$Program" "expressions" "I", .arrayClass .int, .fieldLink RX1 15 "CodeMover$Program" "variablesOf" "[I", .fieldLink RX1 19 "CodeMover$Program" "dependents" "[I", .fieldLink RX1 22 "CodeMover$Program" "blocks" "I", .fieldLink RX1 25 "CodeMover$Program" "sizes" "[I", .fieldLink RX1 28 "CodeMover$Program" "codes" "[I", .fieldLink RX1 31 "CodeMover$Program" "edges" "I", .fieldLink RX1 34 "CodeMover$Program" "from" "[I", .fieldLink RX1 37 "CodeMover$Program" "to" "[I", .fieldLink RX1 40 "CodeMover$Program" "firstExit" "[I", .fieldLink RX1 43 "CodeMover$Program" "secondExit" "[I", .fieldLink RX1 46 "CodeMover$Program" "changed" "Z"] ++ wsX10)
def wsX1_allExpressions : List Cond := .code yX1_allExpressions cX1_allExpressions 1 (some .int) :: ([.fieldLink RX1 9 "CodeMover$Program" "expressions" "I"] ++ wsX10)
def wsX1_newExpression : List Cond := .code yX1_newExpression cX1_newExpression 4 (some .int) :: ([.fieldLink RX1 9 "CodeMover$Program" "expressions" "I", .fieldLink RX1 15 "CodeMover$Program" "variablesOf" "[I", .fieldLink RX1 19 "CodeMover$Program" "dependents" "[I", .fieldLink RX1 46 "CodeMover$Program" "changed" "Z"] ++ wsX10)
def wsX1_newBlock : List Cond := .code yX1_newBlock cX1_newBlock 2 (some .int) :: ([.fieldLink RX1 22 "CodeMover$Program" "blocks" "I", .fieldLink RX1 46 "CodeMover$Program" "changed" "Z"] ++ wsX10)
def wsX1_hasEdge : List Cond := .code yX1_hasEdge cX1_hasEdge 5 (some .boolean) :: ([.fieldLink RX1 40 "CodeMover$Program" "firstExit" "[I", .fieldLink RX1 43 "CodeMover$Program" "secondExit" "[I", .fieldLink RX1 37 "CodeMover$Program" "to" "[I"] ++ wsX10)
def wsX1_newEdge : List Cond := .code yX1_newEdge cX1_newEdge 4 (some .int) :: ([.fieldLink RX1 31 "CodeMover$Program" "edges" "I", .fieldLink RX1 34 "CodeMover$Program" "from" "[I", .fieldLink RX1 37 "CodeMover$Program" "to" "[I", .fieldLink RX1 40 "CodeMover$Program" "firstExit" "[I", .fieldLink RX1 43 "CodeMover$Program" "secondExit" "[I", .fieldLink RX1 46 "CodeMover$Program" "changed" "Z"] ++ wsX10)
def wsX1_endsOf : List Cond := .code yX1_endsOf cX1_endsOf 2 (some .int) :: ([.fieldLink RX1 34 "CodeMover$Program" "from" "[I", .fieldLink RX1 37 "CodeMover$Program" "to" "[I"] ++ wsX10)
def wsX1_append : List Cond := .code yX1_append cX1_append 4 (some .int) :: ([.fieldLink RX1 28 "CodeMover$Program" "codes" "[I", .fieldLink RX1 25 "CodeMover$Program" "sizes" "[I", .fieldLink RX1 46 "CodeMover$Program" "changed" "Z"] ++ wsX10)
def wsX1_removeLast : List Cond := .code yX1_removeLast cX1_removeLast 2 (some .int) :: ([.fieldLink RX1 25 "CodeMover$Program" "sizes" "[I", .fieldLink RX1 46 "CodeMover$Program" "changed" "Z"] ++ wsX10)
def wsX1_turnFirstComputesToUses : List Cond := .code yX1_turnFirstComputesToUses cX1_turnFirstComputesToUses 7 none :: ([.fieldLink RX1 25 "CodeMover$Program" "sizes" "[I", .fieldLink RX1 28 "CodeMover$Program" "codes" "[I", .fieldLink RX1 46 "CodeMover$Program" "changed" "Z", .methodLink RX1 50 yX1_codeAt, .instanceMethod yX1_codeAt, .selects RX1 yX1_codeAt yX1_codeAt, .initialized RX1, .code yX1_codeAt cX1_codeAt 3 (some .int)] ++ wsX10)
def wsX1_splitEdge : List Cond := .code yX1_splitEdge cX1_splitEdge 5 none :: ([.fieldLink RX1 9 "CodeMover$Program" "expressions" "I", .fieldLink RX1 37 "CodeMover$Program" "to" "[I", .methodLink RX1 54 yX1_newBlock, .instanceMethod yX1_newBlock, .selects RX1 yX1_newBlock yX1_newBlock, .initialized RX1, .code yX1_newBlock cX1_newBlock 2 (some .int), .fieldLink RX1 22 "CodeMover$Program" "blocks" "I", .fieldLink RX1 46 "CodeMover$Program" "changed" "Z", .methodLink RX1 58 yX1_append, .instanceMethod yX1_append, .selects RX1 yX1_append yX1_append, .code yX1_append cX1_append 4 (some .int), .fieldLink RX1 28 "CodeMover$Program" "codes" "[I", .fieldLink RX1 25 "CodeMover$Program" "sizes" "[I", .methodLink RX1 62 yX1_newEdge, .instanceMethod yX1_newEdge, .selects RX1 yX1_newEdge yX1_newEdge, .code yX1_newEdge cX1_newEdge 4 (some .int), .fieldLink RX1 31 "CodeMover$Program" "edges" "I", .fieldLink RX1 34 "CodeMover$Program" "from" "[I", .fieldLink RX1 40 "CodeMover$Program" "firstExit" "[I", .fieldLink RX1 43 "CodeMover$Program" "secondExit" "[I"] ++ wsX10)
def wsX1_addToChecksum : List Cond := .code yX1_addToChecksum cX1_addToChecksum 7 (some .long) :: ([.constantLong RX1 65 (31), .fieldLink RX1 9 "CodeMover$Program" "expressions" "I", .fieldLink RX1 15 "CodeMover$Program" "variablesOf" "[I", .fieldLink RX1 22 "CodeMover$Program" "blocks" "I", .fieldLink RX1 25 "CodeMover$Program" "sizes" "[I", .fieldLink RX1 31 "CodeMover$Program" "edges" "I", .methodLink RX1 50 yX1_codeAt, .instanceMethod yX1_codeAt, .selects RX1 yX1_codeAt yX1_codeAt, .initialized RX1, .code yX1_codeAt cX1_codeAt 3 (some .int), .fieldLink RX1 28 "CodeMover$Program" "codes" "[I", .methodLink RX1 67 yX1_endsOf, .instanceMethod yX1_endsOf, .selects RX1 yX1_endsOf yX1_endsOf, .code yX1_endsOf cX1_endsOf 2 (some .int), .fieldLink RX1 34 "CodeMover$Program" "from" "[I", .fieldLink RX1 37 "CodeMover$Program" "to" "[I"] ++ wsX10)
def wsX2_init : List Cond := .code yX2_init cX2_init 2 none :: ([.methodLink RX2 3 objectInit, .instanceMethod objectInit, .code objectInit ⟨#[0xb1]⟩ 1 none, .arrayClass .int, .fieldLink RX2 9 "CodeMover$Sets" "keptIn" "[I", .fieldLink RX2 15 "CodeMover$Sets" "earlyIn" "[I", .fieldLink RX2 18 "CodeMover$Sets" "lateIn" "[I", .fieldLink RX2 21 "CodeMover$Sets" "neededAtStart" "[I", .fieldLink RX2 24 "CodeMover$Sets" "neededAtEnd" "[I", .fieldLink RX2 27 "CodeMover$Sets" "thereAtStart" "[I", .fieldLink RX2 30 "CodeMover$Sets" "thereAtEnd" "[I", .fieldLink RX2 33 "CodeMover$Sets" "delayedAtStart" "[I", .fieldLink RX2 36 "CodeMover$Sets" "deletedInBlock" "[I", .fieldLink RX2 39 "CodeMover$Sets" "earliestOnEdge" "[I", .fieldLink RX2 42 "CodeMover$Sets" "delayedOnEdge" "[I", .fieldLink RX2 45 "CodeMover$Sets" "insertedOnEdge" "[I", .fieldLink RX2 48 "CodeMover$Sets" "program" "LCodeMover$Program;"] ++ wsX20)
def wsX2_findSetsOfBlock : List Cond := .code yX2_findSetsOfBlock cX2_findSetsOfBlock 9 none :: ([.fieldLink RX2 48 "CodeMover$Sets" "program" "LCodeMover$Program;", .fieldLink RX2 84 "CodeMover$Program" "sizes" "[I", .fieldLink RX2 91 "CodeMover$Program" "dependents" "[I", .fieldLink RX2 9 "CodeMover$Sets" "keptIn" "[I", .fieldLink RX2 15 "CodeMover$Sets" "earlyIn" "[I", .fieldLink RX2 18 "CodeMover$Sets" "lateIn" "[I", .methodLink RX2 87 yX1_codeAt, .instanceMethod yX1_codeAt, .selects RX1 yX1_codeAt yX1_codeAt, .initialized RX1, .code yX1_codeAt cX1_codeAt 3 (some .int), .fieldLink RX1 28 "CodeMover$Program" "codes" "[I", .methodLink RX2 94 yX1_allExpressions, .instanceMethod yX1_allExpressions, .selects RX1 yX1_allExpressions yX1_allExpressions, .code yX1_allExpressions cX1_allExpressions 1 (some .int), .fieldLink RX1 9 "CodeMover$Program" "expressions" "I"] ++ wsX20 ++ wsX10)
def wsX2_setNeededAtEnd : List Cond := .code yX2_setNeededAtEnd cX2_setNeededAtEnd 3 none :: ([.fieldLink RX2 24 "CodeMover$Sets" "neededAtEnd" "[I", .fieldLink RX2 21 "CodeMover$Sets" "neededAtStart" "[I", .fieldLink RX2 15 "CodeMover$Sets" "earlyIn" "[I", .fieldLink RX2 9 "CodeMover$Sets" "keptIn" "[I"] ++ wsX20)
def wsX2_shrinkNeeded : List Cond := .code yX2_shrinkNeeded cX2_shrinkNeeded 5 (some .boolean) :: ([.fieldLink RX2 48 "CodeMover$Sets" "program" "LCodeMover$Program;", .fieldLink RX2 81 "CodeMover$Program" "edges" "I", .fieldLink RX2 109 "CodeMover$Program" "from" "[I", .fieldLink RX2 24 "CodeMover$Sets" "neededAtEnd" "[I", .fieldLink RX2 21 "CodeMover$Sets" "neededAtStart" "[I", .fieldLink RX2 112 "CodeMover$Program" "to" "[I", .methodLink RX2 101 yX2_setNeededAtEnd, .instanceMethod yX2_setNeededAtEnd, .selects RX2 yX2_setNeededAtEnd yX2_setNeededAtEnd, .initialized RX2, .code yX2_setNeededAtEnd cX2_setNeededAtEnd 3 none, .fieldLink RX2 15 "CodeMover$Sets" "earlyIn" "[I", .fieldLink RX2 9 "CodeMover$Sets" "keptIn" "[I"] ++ wsX20 ++ wsX10)
def wsX2_findNeeded_r1 : List Cond := [Cond.fieldLink RX2 48 "CodeMover$Sets" "program" "LCodeMover$Program;", Cond.fieldLink RX2 58 "CodeMover$Program" "blocks" "I", Cond.fieldLink RX2 98 "CodeMover$Program" "firstExit" "[I", Cond.methodLink RX2 94 yX1_allExpressions, Cond.instanceMethod yX1_allExpressions, Cond.selects RX1 yX1_allExpressions yX1_allExpressions, Cond.initialized RX1, Cond.code yX1_allExpressions cX1_allExpressions 1 (some .int), Cond.fieldLink RX1 9 "CodeMover$Program" "expressions" "I", Cond.methodLink RX2 101 yX2_setNeededAtEnd, Cond.instanceMethod yX2_setNeededAtEnd, Cond.selects RX2 yX2_setNeededAtEnd yX2_setNeededAtEnd, Cond.initialized RX2, Cond.code yX2_setNeededAtEnd cX2_setNeededAtEnd 3 none, Cond.fieldLink RX2 24 "CodeMover$Sets" "neededAtEnd" "[I", Cond.fieldLink RX2 21 "CodeMover$Sets" "neededAtStart" "[I", Cond.fieldLink RX2 15 "CodeMover$Sets" "earlyIn" "[I", Cond.fieldLink RX2 9 "CodeMover$Sets" "keptIn" "[I", Cond.methodLink RX2 105 yX2_shrinkNeeded, Cond.instanceMethod yX2_shrinkNeeded, Cond.selects RX2 yX2_shrinkNeeded yX2_shrinkNeeded, Cond.code yX2_shrinkNeeded cX2_shrinkNeeded 5 (some .boolean), Cond.fieldLink RX2 81 "CodeMover$Program" "edges" "I", Cond.fieldLink RX2 109 "CodeMover$Program" "from" "[I"]
def wsX2_findNeeded_r2 : List Cond := [Cond.fieldLink RX2 112 "CodeMover$Program" "to" "[I"]
def wsX2_findNeeded : List Cond := .code yX2_findNeeded cX2_findNeeded 3 none :: ((wsX2_findNeeded_r1 ++ wsX2_findNeeded_r2) ++ wsX20 ++ wsX10)
def wsX2_fillWhereEdgesLead : List Cond := .code yX2_fillWhereEdgesLead cX2_fillWhereEdgesLead 3 none :: ([.fieldLink RX2 48 "CodeMover$Sets" "program" "LCodeMover$Program;", .fieldLink RX2 58 "CodeMover$Program" "blocks" "I", .fieldLink RX2 81 "CodeMover$Program" "edges" "I", .fieldLink RX2 112 "CodeMover$Program" "to" "[I", .methodLink RX2 94 yX1_allExpressions, .instanceMethod yX1_allExpressions, .selects RX1 yX1_allExpressions yX1_allExpressions, .initialized RX1, .code yX1_allExpressions cX1_allExpressions 1 (some .int), .fieldLink RX1 9 "CodeMover$Program" "expressions" "I"] ++ wsX20 ++ wsX10)
def wsX2_setThereAtStart : List Cond := .code yX2_setThereAtStart cX2_setThereAtStart 3 none :: ([.fieldLink RX2 27 "CodeMover$Sets" "thereAtStart" "[I", .fieldLink RX2 30 "CodeMover$Sets" "thereAtEnd" "[I", .fieldLink RX2 18 "CodeMover$Sets" "lateIn" "[I", .fieldLink RX2 9 "CodeMover$Sets" "keptIn" "[I"] ++ wsX20)
def wsX2_shrinkThere : List Cond := .code yX2_shrinkThere cX2_shrinkThere 5 (some .boolean) :: ([.fieldLink RX2 48 "CodeMover$Sets" "program" "LCodeMover$Program;", .fieldLink RX2 81 "CodeMover$Program" "edges" "I", .fieldLink RX2 112 "CodeMover$Program" "to" "[I", .fieldLink RX2 27 "CodeMover$Sets" "thereAtStart" "[I", .fieldLink RX2 30 "CodeMover$Sets" "thereAtEnd" "[I", .fieldLink RX2 109 "CodeMover$Program" "from" "[I", .methodLink RX2 119 yX2_setThereAtStart, .instanceMethod yX2_setThereAtStart, .selects RX2 yX2_setThereAtStart yX2_setThereAtStart, .initialized RX2, .code yX2_setThereAtStart cX2_setThereAtStart 3 none, .fieldLink RX2 18 "CodeMover$Sets" "lateIn" "[I", .fieldLink RX2 9 "CodeMover$Sets" "keptIn" "[I"] ++ wsX20 ++ wsX10)
def wsX2_findThere_r1 : List Cond := [Cond.fieldLink RX2 27 "CodeMover$Sets" "thereAtStart" "[I", Cond.fieldLink RX2 48 "CodeMover$Sets" "program" "LCodeMover$Program;", Cond.fieldLink RX2 58 "CodeMover$Program" "blocks" "I", Cond.methodLink RX2 115 yX2_fillWhereEdgesLead, Cond.instanceMethod yX2_fillWhereEdgesLead, Cond.selects RX2 yX2_fillWhereEdgesLead yX2_fillWhereEdgesLead, Cond.initialized RX2, Cond.code yX2_fillWhereEdgesLead cX2_fillWhereEdgesLead 3 none, Cond.fieldLink RX2 81 "CodeMover$Program" "edges" "I", Cond.fieldLink RX2 112 "CodeMover$Program" "to" "[I", Cond.methodLink RX2 94 yX1_allExpressions, Cond.instanceMethod yX1_allExpressions, Cond.selects RX1 yX1_allExpressions yX1_allExpressions, Cond.initialized RX1, Cond.code yX1_allExpressions cX1_allExpressions 1 (some .int), Cond.fieldLink RX1 9 "CodeMover$Program" "expressions" "I", Cond.methodLink RX2 119 yX2_setThereAtStart, Cond.instanceMethod yX2_setThereAtStart, Cond.selects RX2 yX2_setThereAtStart yX2_setThereAtStart, Cond.code yX2_setThereAtStart cX2_setThereAtStart 3 none, Cond.fieldLink RX2 30 "CodeMover$Sets" "thereAtEnd" "[I", Cond.fieldLink RX2 18 "CodeMover$Sets" "lateIn" "[I", Cond.fieldLink RX2 9 "CodeMover$Sets" "keptIn" "[I", Cond.methodLink RX2 122 yX2_shrinkThere]
def wsX2_findThere_r2 : List Cond := [Cond.instanceMethod yX2_shrinkThere, Cond.selects RX2 yX2_shrinkThere yX2_shrinkThere, Cond.code yX2_shrinkThere cX2_shrinkThere 5 (some .boolean), Cond.fieldLink RX2 109 "CodeMover$Program" "from" "[I"]
def wsX2_findThere : List Cond := .code yX2_findThere cX2_findThere 3 none :: ((wsX2_findThere_r1 ++ wsX2_findThere_r2) ++ wsX20 ++ wsX10)
def wsX2_findEarliest : List Cond := .code yX2_findEarliest cX2_findEarliest 4 none :: ([.fieldLink RX2 48 "CodeMover$Sets" "program" "LCodeMover$Program;", .fieldLink RX2 81 "CodeMover$Program" "edges" "I", .fieldLink RX2 109 "CodeMover$Program" "from" "[I", .fieldLink RX2 21 "CodeMover$Sets" "neededAtStart" "[I", .fieldLink RX2 112 "CodeMover$Program" "to" "[I", .fieldLink RX2 30 "CodeMover$Sets" "thereAtEnd" "[I", .fieldLink RX2 39 "CodeMover$Sets" "earliestOnEdge" "[I", .fieldLink RX2 9 "CodeMover$Sets" "keptIn" "[I", .fieldLink RX2 24 "CodeMover$Sets" "neededAtEnd" "[I"] ++ wsX20 ++ wsX10)
def wsX2_findDelayedOnEdge : List Cond := .code yX2_findDelayedOnEdge cX2_findDelayedOnEdge 3 (some .int) :: ([.fieldLink RX2 48 "CodeMover$Sets" "program" "LCodeMover$Program;", .fieldLink RX2 109 "CodeMover$Program" "from" "[I", .fieldLink RX2 39 "CodeMover$Sets" "earliestOnEdge" "[I", .fieldLink RX2 33 "CodeMover$Sets" "delayedAtStart" "[I", .fieldLink RX2 15 "CodeMover$Sets" "earlyIn" "[I"] ++ wsX20 ++ wsX10)
def wsX2_shrinkDelayed : List Cond := .code yX2_shrinkDelayed cX2_shrinkDelayed 5 (some .boolean) :: ([.fieldLink RX2 48 "CodeMover$Sets" "program" "LCodeMover$Program;", .fieldLink RX2 81 "CodeMover$Program" "edges" "I", .fieldLink RX2 112 "CodeMover$Program" "to" "[I", .fieldLink RX2 33 "CodeMover$Sets" "delayedAtStart" "[I", .methodLink RX2 128 yX2_findDelayedOnEdge, .instanceMethod yX2_findDelayedOnEdge, .selects RX2 yX2_findDelayedOnEdge yX2_findDelayedOnEdge, .initialized RX2, .code yX2_findDelayedOnEdge cX2_findDelayedOnEdge 3 (some .int), .fieldLink RX2 109 "CodeMover$Program" "from" "[I", .fieldLink RX2 39 "CodeMover$Sets" "earliestOnEdge" "[I", .fieldLink RX2 15 "CodeMover$Sets" "earlyIn" "[I"] ++ wsX20 ++ wsX10)
def wsX2_findDelayed_r1 : List Cond := [Cond.fieldLink RX2 33 "CodeMover$Sets" "delayedAtStart" "[I", Cond.fieldLink RX2 21 "CodeMover$Sets" "neededAtStart" "[I", Cond.fieldLink RX2 48 "CodeMover$Sets" "program" "LCodeMover$Program;", Cond.fieldLink RX2 81 "CodeMover$Program" "edges" "I", Cond.fieldLink RX2 42 "CodeMover$Sets" "delayedOnEdge" "[I", Cond.methodLink RX2 115 yX2_fillWhereEdgesLead, Cond.instanceMethod yX2_fillWhereEdgesLead, Cond.selects RX2 yX2_fillWhereEdgesLead yX2_fillWhereEdgesLead, Cond.initialized RX2, Cond.code yX2_fillWhereEdgesLead cX2_fillWhereEdgesLead 3 none, Cond.fieldLink RX2 58 "CodeMover$Program" "blocks" "I", Cond.fieldLink RX2 112 "CodeMover$Program" "to" "[I", Cond.methodLink RX2 94 yX1_allExpressions, Cond.instanceMethod yX1_allExpressions, Cond.selects RX1 yX1_allExpressions yX1_allExpressions, Cond.initialized RX1, Cond.code yX1_allExpressions cX1_allExpressions 1 (some .int), Cond.fieldLink RX1 9 "CodeMover$Program" "expressions" "I", Cond.methodLink RX2 125 yX2_shrinkDelayed, Cond.instanceMethod yX2_shrinkDelayed, Cond.selects RX2 yX2_shrinkDelayed yX2_shrinkDelayed, Cond.code yX2_shrinkDelayed cX2_shrinkDelayed 5 (some .boolean), Cond.methodLink RX2 128 yX2_findDelayedOnEdge, Cond.instanceMethod yX2_findDelayedOnEdge]
def wsX2_findDelayed_r2 : List Cond := [Cond.selects RX2 yX2_findDelayedOnEdge yX2_findDelayedOnEdge, Cond.code yX2_findDelayedOnEdge cX2_findDelayedOnEdge 3 (some .int), Cond.fieldLink RX2 109 "CodeMover$Program" "from" "[I", Cond.fieldLink RX2 39 "CodeMover$Sets" "earliestOnEdge" "[I", Cond.fieldLink RX2 15 "CodeMover$Sets" "earlyIn" "[I"]
def wsX2_findDelayed : List Cond := .code yX2_findDelayed cX2_findDelayed 3 none :: ((wsX2_findDelayed_r1 ++ wsX2_findDelayed_r2) ++ wsX20 ++ wsX10)
def wsX2_findInsertionsAndDeletions : List Cond := .code yX2_findInsertionsAndDeletions cX2_findInsertionsAndDeletions 2 none :: ([.fieldLink RX2 48 "CodeMover$Sets" "program" "LCodeMover$Program;", .fieldLink RX2 81 "CodeMover$Program" "edges" "I", .fieldLink RX2 45 "CodeMover$Sets" "insertedOnEdge" "[I", .fieldLink RX2 42 "CodeMover$Sets" "delayedOnEdge" "[I", .fieldLink RX2 33 "CodeMover$Sets" "delayedAtStart" "[I", .fieldLink RX2 112 "CodeMover$Program" "to" "[I", .fieldLink RX2 58 "CodeMover$Program" "blocks" "I", .fieldLink RX2 36 "CodeMover$Sets" "deletedInBlock" "[I", .fieldLink RX2 15 "CodeMover$Sets" "earlyIn" "[I"] ++ wsX20 ++ wsX10)
def wsX2_bringUpToDate_r1 : List Cond := [Cond.fieldLink RX2 48 "CodeMover$Sets" "program" "LCodeMover$Program;", Cond.fieldLink RX2 52 "CodeMover$Program" "changed" "Z", Cond.fieldLink RX2 58 "CodeMover$Program" "blocks" "I", Cond.methodLink RX2 62 yX2_findSetsOfBlock, Cond.instanceMethod yX2_findSetsOfBlock, Cond.selects RX2 yX2_findSetsOfBlock yX2_findSetsOfBlock, Cond.initialized RX2, Cond.code yX2_findSetsOfBlock cX2_findSetsOfBlock 9 none, Cond.fieldLink RX2 84 "CodeMover$Program" "sizes" "[I", Cond.fieldLink RX2 91 "CodeMover$Program" "dependents" "[I", Cond.fieldLink RX2 9 "CodeMover$Sets" "keptIn" "[I", Cond.fieldLink RX2 15 "CodeMover$Sets" "earlyIn" "[I", Cond.fieldLink RX2 18 "CodeMover$Sets" "lateIn" "[I", Cond.methodLink RX2 87 yX1_codeAt, Cond.instanceMethod yX1_codeAt, Cond.selects RX1 yX1_codeAt yX1_codeAt, Cond.initialized RX1, Cond.code yX1_codeAt cX1_codeAt 3 (some .int), Cond.fieldLink RX1 28 "CodeMover$Program" "codes" "[I", Cond.methodLink RX2 94 yX1_allExpressions, Cond.instanceMethod yX1_allExpressions, Cond.selects RX1 yX1_allExpressions yX1_allExpressions, Cond.code yX1_allExpressions cX1_allExpressions 1 (some .int), Cond.fieldLink RX1 9 "CodeMover$Program" "expressions" "I"]
def wsX2_bringUpToDate_r2 : List Cond := [Cond.methodLink RX2 66 yX2_findNeeded, Cond.instanceMethod yX2_findNeeded, Cond.selects RX2 yX2_findNeeded yX2_findNeeded, Cond.code yX2_findNeeded cX2_findNeeded 3 none, Cond.fieldLink RX2 98 "CodeMover$Program" "firstExit" "[I", Cond.methodLink RX2 101 yX2_setNeededAtEnd, Cond.instanceMethod yX2_setNeededAtEnd, Cond.selects RX2 yX2_setNeededAtEnd yX2_setNeededAtEnd, Cond.code yX2_setNeededAtEnd cX2_setNeededAtEnd 3 none, Cond.fieldLink RX2 24 "CodeMover$Sets" "neededAtEnd" "[I", Cond.fieldLink RX2 21 "CodeMover$Sets" "neededAtStart" "[I", Cond.methodLink RX2 105 yX2_shrinkNeeded, Cond.instanceMethod yX2_shrinkNeeded, Cond.selects RX2 yX2_shrinkNeeded yX2_shrinkNeeded, Cond.code yX2_shrinkNeeded cX2_shrinkNeeded 5 (some .boolean), Cond.fieldLink RX2 81 "CodeMover$Program" "edges" "I", Cond.fieldLink RX2 109 "CodeMover$Program" "from" "[I", Cond.fieldLink RX2 112 "CodeMover$Program" "to" "[I", Cond.methodLink RX2 69 yX2_findThere, Cond.instanceMethod yX2_findThere, Cond.selects RX2 yX2_findThere yX2_findThere, Cond.code yX2_findThere cX2_findThere 3 none, Cond.fieldLink RX2 27 "CodeMover$Sets" "thereAtStart" "[I", Cond.methodLink RX2 115 yX2_fillWhereEdgesLead]
def wsX2_bringUpToDate_r3 : List Cond := [Cond.instanceMethod yX2_fillWhereEdgesLead, Cond.selects RX2 yX2_fillWhereEdgesLead yX2_fillWhereEdgesLead, Cond.code yX2_fillWhereEdgesLead cX2_fillWhereEdgesLead 3 none, Cond.methodLink RX2 119 yX2_setThereAtStart, Cond.instanceMethod yX2_setThereAtStart, Cond.selects RX2 yX2_setThereAtStart yX2_setThereAtStart, Cond.code yX2_setThereAtStart cX2_setThereAtStart 3 none, Cond.fieldLink RX2 30 "CodeMover$Sets" "thereAtEnd" "[I", Cond.methodLink RX2 122 yX2_shrinkThere, Cond.instanceMethod yX2_shrinkThere, Cond.selects RX2 yX2_shrinkThere yX2_shrinkThere, Cond.code yX2_shrinkThere cX2_shrinkThere 5 (some .boolean), Cond.methodLink RX2 72 yX2_findEarliest, Cond.instanceMethod yX2_findEarliest, Cond.selects RX2 yX2_findEarliest yX2_findEarliest, Cond.code yX2_findEarliest cX2_findEarliest 4 none, Cond.fieldLink RX2 39 "CodeMover$Sets" "earliestOnEdge" "[I", Cond.methodLink RX2 75 yX2_findDelayed, Cond.instanceMethod yX2_findDelayed, Cond.selects RX2 yX2_findDelayed yX2_findDelayed, Cond.code yX2_findDelayed cX2_findDelayed 3 none, Cond.fieldLink RX2 33 "CodeMover$Sets" "delayedAtStart" "[I", Cond.fieldLink RX2 42 "CodeMover$Sets" "delayedOnEdge" "[I", Cond.methodLink RX2 125 yX2_shrinkDelayed]
def wsX2_bringUpToDate_r4 : List Cond := [Cond.instanceMethod yX2_shrinkDelayed, Cond.selects RX2 yX2_shrinkDelayed yX2_shrinkDelayed, Cond.code yX2_shrinkDelayed cX2_shrinkDelayed 5 (some .boolean), Cond.methodLink RX2 128 yX2_findDelayedOnEdge, Cond.instanceMethod yX2_findDelayedOnEdge, Cond.selects RX2 yX2_findDelayedOnEdge yX2_findDelayedOnEdge, Cond.code yX2_findDelayedOnEdge cX2_findDelayedOnEdge 3 (some .int), Cond.methodLink RX2 78 yX2_findInsertionsAndDeletions, Cond.instanceMethod yX2_findInsertionsAndDeletions, Cond.selects RX2 yX2_findInsertionsAndDeletions yX2_findInsertionsAndDeletions, Cond.code yX2_findInsertionsAndDeletions cX2_findInsertionsAndDeletions 2 none, Cond.fieldLink RX2 45 "CodeMover$Sets" "insertedOnEdge" "[I", Cond.fieldLink RX2 36 "CodeMover$Sets" "deletedInBlock" "[I"]
def wsX2_bringUpToDate : List Cond := .code yX2_bringUpToDate cX2_bringUpToDate 2 none :: ((wsX2_bringUpToDate_r1 ++ (wsX2_bringUpToDate_r2 ++ (wsX2_bringUpToDate_r3 ++ wsX2_bringUpToDate_r4))) ++ wsX20 ++ wsX10)
def wsX2_countEdgesWithInsertions : List Cond := .code yX2_countEdgesWithInsertions cX2_countEdgesWithInsertions 3 (some .int) :: ([.fieldLink RX2 48 "CodeMover$Sets" "program" "LCodeMover$Program;", .fieldLink RX2 81 "CodeMover$Program" "edges" "I", .fieldLink RX2 45 "CodeMover$Sets" "insertedOnEdge" "[I"] ++ wsX20 ++ wsX10)
def wsX3_init_r1 : List Cond := [Cond.methodLink RX3 1 objectInit, Cond.instanceMethod objectInit, Cond.code objectInit ⟨#[0xb1]⟩ 1 none, Cond.classLink RX3 7 RX1, Cond.instantiable RX1 12, Cond.initialized RX1, Cond.fieldLink RX3 10 "CodeMover" "program" "LCodeMover$Program;", Cond.classLink RX3 16 RX2, Cond.instantiable RX2 13, Cond.initialized RX2, Cond.fieldLink RX3 21 "CodeMover" "sets" "LCodeMover$Sets;", Cond.classLink RX3 25 RX0, Cond.instantiable RX0 9, Cond.initialized RX0, Cond.fieldLink RX3 28 "CodeMover" "latest" "LCodeMover$Journey;", Cond.methodLink RX3 9 yX1_init, Cond.instanceMethod yX1_init, Cond.code yX1_init cX1_init 2 none, Cond.methodLink RX1 3 objectInit, Cond.fieldLink RX1 9 "CodeMover$Program" "expressions" "I", Cond.arrayClass .int, Cond.fieldLink RX1 15 "CodeMover$Program" "variablesOf" "[I", Cond.fieldLink RX1 19 "CodeMover$Program" "dependents" "[I", Cond.fieldLink RX1 22 "CodeMover$Program" "blocks" "I"]
def wsX3_init_r2 : List Cond := [Cond.fieldLink RX1 25 "CodeMover$Program" "sizes" "[I", Cond.fieldLink RX1 28 "CodeMover$Program" "codes" "[I", Cond.fieldLink RX1 31 "CodeMover$Program" "edges" "I", Cond.fieldLink RX1 34 "CodeMover$Program" "from" "[I", Cond.fieldLink RX1 37 "CodeMover$Program" "to" "[I", Cond.fieldLink RX1 40 "CodeMover$Program" "firstExit" "[I", Cond.fieldLink RX1 43 "CodeMover$Program" "secondExit" "[I", Cond.fieldLink RX1 46 "CodeMover$Program" "changed" "Z", Cond.methodLink RX3 18 yX2_init, Cond.instanceMethod yX2_init, Cond.code yX2_init cX2_init 2 none, Cond.methodLink RX2 3 objectInit, Cond.fieldLink RX2 9 "CodeMover$Sets" "keptIn" "[I", Cond.fieldLink RX2 15 "CodeMover$Sets" "earlyIn" "[I", Cond.fieldLink RX2 18 "CodeMover$Sets" "lateIn" "[I", Cond.fieldLink RX2 21 "CodeMover$Sets" "neededAtStart" "[I", Cond.fieldLink RX2 24 "CodeMover$Sets" "neededAtEnd" "[I", Cond.fieldLink RX2 27 "CodeMover$Sets" "thereAtStart" "[I", Cond.fieldLink RX2 30 "CodeMover$Sets" "thereAtEnd" "[I", Cond.fieldLink RX2 33 "CodeMover$Sets" "delayedAtStart" "[I", Cond.fieldLink RX2 36 "CodeMover$Sets" "deletedInBlock" "[I", Cond.fieldLink RX2 39 "CodeMover$Sets" "earliestOnEdge" "[I", Cond.fieldLink RX2 42 "CodeMover$Sets" "delayedOnEdge" "[I", Cond.fieldLink RX2 45 "CodeMover$Sets" "insertedOnEdge" "[I"]
def wsX3_init_r3 : List Cond := [Cond.fieldLink RX2 48 "CodeMover$Sets" "program" "LCodeMover$Program;", Cond.methodLink RX3 27 yX0_init, Cond.instanceMethod yX0_init, Cond.code yX0_init cX0_init 2 none, Cond.methodLink RX0 3 objectInit, Cond.fieldLink RX0 9 "CodeMover$Journey" "timesComputed" "[I", Cond.fieldLink RX0 15 "CodeMover$Journey" "timesHeld" "[I", Cond.fieldLink RX0 18 "CodeMover$Journey" "missCount" "I", Cond.fieldLink RX0 22 "CodeMover$Journey" "endBlock" "I", Cond.fieldLink RX0 25 "CodeMover$Journey" "held" "I", Cond.fieldLink RX0 28 "CodeMover$Journey" "heldSince" "[I", Cond.fieldLink RX0 31 "CodeMover$Journey" "instructionsGone" "I", Cond.fieldLink RX0 34 "CodeMover$Journey" "choicesTaken" "I", Cond.fieldLink RX0 37 "CodeMover$Journey" "program" "LCodeMover$Program;"]
def wsX3_init : List Cond := .code yX3_init cX3_init 1 none :: ((wsX3_init_r1 ++ (wsX3_init_r2 ++ wsX3_init_r3)) ++ wsX10 ++ wsX30 ++ wsX20 ++ wsX00)
def wsX3_addExpression : List Cond := .code yX3_addExpression cX3_addExpression 2 (some .int) :: ([.classLink RX3 32 "java/lang/IllegalArgumentException", .initialized "java/lang/IllegalArgumentException", .classLink RX3 43 "java/lang/IllegalStateException", .initialized "java/lang/IllegalStateException", .fieldLink RX3 10 "CodeMover" "program" "LCodeMover$Program;", .fieldLink RX3 39 "CodeMover$Program" "expressions" "I", .methodLink RX3 48 yX1_newExpression, .instanceMethod yX1_newExpression, .selects RX1 yX1_newExpression yX1_newExpression, .initialized RX1, .code yX1_newExpression cX1_newExpression 4 (some .int), .fieldLink RX1 9 "CodeMover$Program" "expressions" "I", .fieldLink RX1 15 "CodeMover$Program" "variablesOf" "[I", .fieldLink RX1 19 "CodeMover$Program" "dependents" "[I", .fieldLink RX1 46 "CodeMover$Program" "changed" "Z"] ++ wsX30 ++ wsX10 ++ (vx_atS RX3 36 "java/lang/IllegalArgumentException" ["java/lang/RuntimeException", "java/lang/Exception"]).filter goodWord ++ (vx_atS RX3 47 "java/lang/IllegalStateException" ["java/lang/RuntimeException", "java/lang/Exception"]).filter goodWord)
def wsX3_addBlock : List Cond := .code yX3_addBlock cX3_addBlock 1 (some .int) :: ([.classLink RX3 43 "java/lang/IllegalStateException", .initialized "java/lang/IllegalStateException", .fieldLink RX3 10 "CodeMover" "program" "LCodeMover$Program;", .fieldLink RX3 52 "CodeMover$Program" "blocks" "I", .methodLink RX3 57 yX1_newBlock, .instanceMethod yX1_newBlock, .selects RX1 yX1_newBlock yX1_newBlock, .initialized RX1, .code yX1_newBlock cX1_newBlock 2 (some .int), .fieldLink RX1 22 "CodeMover$Program" "blocks" "I", .fieldLink RX1 46 "CodeMover$Program" "changed" "Z"] ++ wsX30 ++ wsX10 ++ (vx_atS RX3 47 "java/lang/IllegalStateException" ["java/lang/RuntimeException", "java/lang/Exception"]).filter goodWord)
def wsX3_requireBlock : List Cond := .code yX3_requireBlock cX3_requireBlock 2 none :: ([.classLink RX3 98 "java/lang/IndexOutOfBoundsException", .initialized "java/lang/IndexOutOfBoundsException", .fieldLink RX3 10 "CodeMover" "program" "LCodeMover$Program;", .fieldLink RX3 52 "CodeMover$Program" "blocks" "I"] ++ wsX30 ++ wsX10 ++ (vx_atS RX3 102 "java/lang/IndexOutOfBoundsException" ["java/lang/RuntimeException", "java/lang/Exception"]).filter goodWord)
def wsX3_addEdge_r1 : List Cond := [Cond.classLink RX3 32 "java/lang/IllegalArgumentException", Cond.initialized "java/lang/IllegalArgumentException", Cond.classLink RX3 43 "java/lang/IllegalStateException", Cond.initialized "java/lang/IllegalStateException", Cond.fieldLink RX3 10 "CodeMover" "program" "LCodeMover$Program;", Cond.fieldLink RX3 73 "CodeMover$Program" "secondExit" "[I", Cond.fieldLink RX3 79 "CodeMover$Program" "edges" "I", Cond.methodLink RX3 61 yX3_requireBlock, Cond.instanceMethod yX3_requireBlock, Cond.selects RX3 yX3_requireBlock yX3_requireBlock, Cond.initialized RX3, Cond.code yX3_requireBlock cX3_requireBlock 2 none, Cond.classLink RX3 98 "java/lang/IndexOutOfBoundsException", Cond.initialized "java/lang/IndexOutOfBoundsException", Cond.fieldLink RX3 52 "CodeMover$Program" "blocks" "I", Cond.methodLink RX3 67 yX1_hasEdge, Cond.instanceMethod yX1_hasEdge, Cond.selects RX1 yX1_hasEdge yX1_hasEdge, Cond.initialized RX1, Cond.code yX1_hasEdge cX1_hasEdge 5 (some .boolean), Cond.fieldLink RX1 40 "CodeMover$Program" "firstExit" "[I", Cond.fieldLink RX1 43 "CodeMover$Program" "secondExit" "[I", Cond.fieldLink RX1 37 "CodeMover$Program" "to" "[I", Cond.methodLink RX3 84 yX1_newEdge]
def wsX3_addEdge_r2 : List Cond := [Cond.instanceMethod yX1_newEdge, Cond.selects RX1 yX1_newEdge yX1_newEdge, Cond.code yX1_newEdge cX1_newEdge 4 (some .int), Cond.fieldLink RX1 31 "CodeMover$Program" "edges" "I", Cond.fieldLink RX1 34 "CodeMover$Program" "from" "[I", Cond.fieldLink RX1 46 "CodeMover$Program" "changed" "Z"]
def wsX3_addEdge : List Cond := .code yX3_addEdge cX3_addEdge 3 (some .int) :: ((wsX3_addEdge_r1 ++ wsX3_addEdge_r2) ++ wsX30 ++ wsX10 ++ (vx_atS RX3 36 "java/lang/IllegalArgumentException" ["java/lang/RuntimeException", "java/lang/Exception"]).filter goodWord ++ (vx_atS RX3 47 "java/lang/IllegalStateException" ["java/lang/RuntimeException", "java/lang/Exception"]).filter goodWord ++ (vx_atS RX3 102 "java/lang/IndexOutOfBoundsException" ["java/lang/RuntimeException", "java/lang/Exception"]).filter goodWord)
def wsX3_requireExpression : List Cond := .code yX3_requireExpression cX3_requireExpression 2 none :: ([.classLink RX3 98 "java/lang/IndexOutOfBoundsException", .initialized "java/lang/IndexOutOfBoundsException", .fieldLink RX3 10 "CodeMover" "program" "LCodeMover$Program;", .fieldLink RX3 39 "CodeMover$Program" "expressions" "I"] ++ wsX30 ++ wsX10 ++ (vx_atS RX3 102 "java/lang/IndexOutOfBoundsException" ["java/lang/RuntimeException", "java/lang/Exception"]).filter goodWord)
def wsX3_requireRoom : List Cond := .code yX3_requireRoom cX3_requireRoom 2 none :: ([.classLink RX3 43 "java/lang/IllegalStateException", .initialized "java/lang/IllegalStateException", .fieldLink RX3 10 "CodeMover" "program" "LCodeMover$Program;", .fieldLink RX3 103 "CodeMover$Program" "sizes" "[I"] ++ wsX30 ++ wsX10 ++ (vx_atS RX3 47 "java/lang/IllegalStateException" ["java/lang/RuntimeException", "java/lang/Exception"]).filter goodWord)
def wsX3_compute_r1 : List Cond := [Cond.fieldLink RX3 10 "CodeMover" "program" "LCodeMover$Program;", Cond.methodLink RX3 61 yX3_requireBlock, Cond.instanceMethod yX3_requireBlock, Cond.selects RX3 yX3_requireBlock yX3_requireBlock, Cond.initialized RX3, Cond.code yX3_requireBlock cX3_requireBlock 2 none, Cond.classLink RX3 98 "java/lang/IndexOutOfBoundsException", Cond.initialized "java/lang/IndexOutOfBoundsException", Cond.fieldLink RX3 52 "CodeMover$Program" "blocks" "I", Cond.methodLink RX3 88 yX3_requireExpression, Cond.instanceMethod yX3_requireExpression, Cond.selects RX3 yX3_requireExpression yX3_requireExpression, Cond.code yX3_requireExpression cX3_requireExpression 2 none, Cond.fieldLink RX3 39 "CodeMover$Program" "expressions" "I", Cond.methodLink RX3 91 yX3_requireRoom, Cond.instanceMethod yX3_requireRoom, Cond.selects RX3 yX3_requireRoom yX3_requireRoom, Cond.code yX3_requireRoom cX3_requireRoom 2 none, Cond.classLink RX3 43 "java/lang/IllegalStateException", Cond.initialized "java/lang/IllegalStateException", Cond.fieldLink RX3 103 "CodeMover$Program" "sizes" "[I", Cond.methodLink RX3 94 yX1_append, Cond.instanceMethod yX1_append, Cond.selects RX1 yX1_append yX1_append]
def wsX3_compute_r2 : List Cond := [Cond.initialized RX1, Cond.code yX1_append cX1_append 4 (some .int), Cond.fieldLink RX1 28 "CodeMover$Program" "codes" "[I", Cond.fieldLink RX1 25 "CodeMover$Program" "sizes" "[I", Cond.fieldLink RX1 46 "CodeMover$Program" "changed" "Z"]
def wsX3_compute : List Cond := .code yX3_compute cX3_compute 3 (some .int) :: ((wsX3_compute_r1 ++ wsX3_compute_r2) ++ wsX30 ++ wsX10 ++ (vx_atS RX3 102 "java/lang/IndexOutOfBoundsException" ["java/lang/RuntimeException", "java/lang/Exception"]).filter goodWord ++ (vx_atS RX3 47 "java/lang/IllegalStateException" ["java/lang/RuntimeException", "java/lang/Exception"]).filter goodWord)
def wsX3_use_r1 : List Cond := [Cond.fieldLink RX3 10 "CodeMover" "program" "LCodeMover$Program;", Cond.methodLink RX3 61 yX3_requireBlock, Cond.instanceMethod yX3_requireBlock, Cond.selects RX3 yX3_requireBlock yX3_requireBlock, Cond.initialized RX3, Cond.code yX3_requireBlock cX3_requireBlock 2 none, Cond.classLink RX3 98 "java/lang/IndexOutOfBoundsException", Cond.initialized "java/lang/IndexOutOfBoundsException", Cond.fieldLink RX3 52 "CodeMover$Program" "blocks" "I", Cond.methodLink RX3 88 yX3_requireExpression, Cond.instanceMethod yX3_requireExpression, Cond.selects RX3 yX3_requireExpression yX3_requireExpression, Cond.code yX3_requireExpression cX3_requireExpression 2 none, Cond.fieldLink RX3 39 "CodeMover$Program" "expressions" "I", Cond.methodLink RX3 91 yX3_requireRoom, Cond.instanceMethod yX3_requireRoom, Cond.selects RX3 yX3_requireRoom yX3_requireRoom, Cond.code yX3_requireRoom cX3_requireRoom 2 none, Cond.classLink RX3 43 "java/lang/IllegalStateException", Cond.initialized "java/lang/IllegalStateException", Cond.fieldLink RX3 103 "CodeMover$Program" "sizes" "[I", Cond.methodLink RX3 94 yX1_append, Cond.instanceMethod yX1_append, Cond.selects RX1 yX1_append yX1_append]
def wsX3_use_r2 : List Cond := [Cond.initialized RX1, Cond.code yX1_append cX1_append 4 (some .int), Cond.fieldLink RX1 28 "CodeMover$Program" "codes" "[I", Cond.fieldLink RX1 25 "CodeMover$Program" "sizes" "[I", Cond.fieldLink RX1 46 "CodeMover$Program" "changed" "Z"]
def wsX3_use : List Cond := .code yX3_use cX3_use 3 (some .int) :: ((wsX3_use_r1 ++ wsX3_use_r2) ++ wsX30 ++ wsX10 ++ (vx_atS RX3 102 "java/lang/IndexOutOfBoundsException" ["java/lang/RuntimeException", "java/lang/Exception"]).filter goodWord ++ (vx_atS RX3 47 "java/lang/IllegalStateException" ["java/lang/RuntimeException", "java/lang/Exception"]).filter goodWord)
def wsX3_assign : List Cond := .code yX3_assign cX3_assign 3 (some .int) :: ([.classLink RX3 98 "java/lang/IndexOutOfBoundsException", .initialized "java/lang/IndexOutOfBoundsException", .fieldLink RX3 10 "CodeMover" "program" "LCodeMover$Program;", .methodLink RX3 61 yX3_requireBlock, .instanceMethod yX3_requireBlock, .selects RX3 yX3_requireBlock yX3_requireBlock, .initialized RX3, .code yX3_requireBlock cX3_requireBlock 2 none, .fieldLink RX3 52 "CodeMover$Program" "blocks" "I", .methodLink RX3 91 yX3_requireRoom, .instanceMethod yX3_requireRoom, .selects RX3 yX3_requireRoom yX3_requireRoom, .code yX3_requireRoom cX3_requireRoom 2 none, .classLink RX3 43 "java/lang/IllegalStateException", .initialized "java/lang/IllegalStateException", .fieldLink RX3 103 "CodeMover$Program" "sizes" "[I", .methodLink RX3 94 yX1_append, .instanceMethod yX1_append, .selects RX1 yX1_append yX1_append, .initialized RX1, .code yX1_append cX1_append 4 (some .int), .fieldLink RX1 28 "CodeMover$Program" "codes" "[I", .fieldLink RX1 25 "CodeMover$Program" "sizes" "[I", .fieldLink RX1 46 "CodeMover$Program" "changed" "Z"] ++ wsX30 ++ wsX10 ++ (vx_atS RX3 102 "java/lang/IndexOutOfBoundsException" ["java/lang/RuntimeException", "java/lang/Exception"]).filter goodWord ++ (vx_atS RX3 47 "java/lang/IllegalStateException" ["java/lang/RuntimeException", "java/lang/Exception"]).filter goodWord)
def wsX3_drop : List Cond := .code yX3_drop cX3_drop 2 (some .int) :: ([.classLink RX3 43 "java/lang/IllegalStateException", .initialized "java/lang/IllegalStateException", .fieldLink RX3 10 "CodeMover" "program" "LCodeMover$Program;", .fieldLink RX3 103 "CodeMover$Program" "sizes" "[I", .methodLink RX3 61 yX3_requireBlock, .instanceMethod yX3_requireBlock, .selects RX3 yX3_requireBlock yX3_requireBlock, .initialized RX3, .code yX3_requireBlock cX3_requireBlock 2 none, .classLink RX3 98 "java/lang/IndexOutOfBoundsException", .initialized "java/lang/IndexOutOfBoundsException", .fieldLink RX3 52 "CodeMover$Program" "blocks" "I", .methodLink RX3 108 yX1_removeLast, .instanceMethod yX1_removeLast, .selects RX1 yX1_removeLast yX1_removeLast, .initialized RX1, .code yX1_removeLast cX1_removeLast 2 (some .int), .fieldLink RX1 25 "CodeMover$Program" "sizes" "[I", .fieldLink RX1 46 "CodeMover$Program" "changed" "Z"] ++ wsX30 ++ wsX10 ++ (vx_atS RX3 47 "java/lang/IllegalStateException" ["java/lang/RuntimeException", "java/lang/Exception"]).filter goodWord ++ (vx_atS RX3 102 "java/lang/IndexOutOfBoundsException" ["java/lang/RuntimeException", "java/lang/Exception"]).filter goodWord)
def wsX3_blockCount : List Cond := .code yX3_blockCount cX3_blockCount 1 (some .int) :: ([.fieldLink RX3 10 "CodeMover" "program" "LCodeMover$Program;", .fieldLink RX3 52 "CodeMover$Program" "blocks" "I"] ++ wsX30 ++ wsX10)
def wsX3_edgeCount : List Cond := .code yX3_edgeCount cX3_edgeCount 1 (some .int) :: ([.fieldLink RX3 10 "CodeMover" "program" "LCodeMover$Program;", .fieldLink RX3 79 "CodeMover$Program" "edges" "I"] ++ wsX30 ++ wsX10)
def wsX3_size : List Cond := .code yX3_size cX3_size 2 (some .int) :: ([.fieldLink RX3 10 "CodeMover" "program" "LCodeMover$Program;", .fieldLink RX3 103 "CodeMover$Program" "sizes" "[I", .methodLink RX3 61 yX3_requireBlock, .instanceMethod yX3_requireBlock, .selects RX3 yX3_requireBlock yX3_requireBlock, .initialized RX3, .code yX3_requireBlock cX3_requireBlock 2 none, .classLink RX3 98 "java/lang/IndexOutOfBoundsException", .initialized "java/lang/IndexOutOfBoundsException", .fieldLink RX3 52 "CodeMover$Program" "blocks" "I"] ++ wsX30 ++ wsX10 ++ (vx_atS RX3 102 "java/lang/IndexOutOfBoundsException" ["java/lang/RuntimeException", "java/lang/Exception"]).filter goodWord)
def wsX3_instruction : List Cond := .code yX3_instruction cX3_instruction 3 (some .int) :: ([.classLink RX3 98 "java/lang/IndexOutOfBoundsException", .initialized "java/lang/IndexOutOfBoundsException", .fieldLink RX3 10 "CodeMover" "program" "LCodeMover$Program;", .fieldLink RX3 103 "CodeMover$Program" "sizes" "[I", .methodLink RX3 61 yX3_requireBlock, .instanceMethod yX3_requireBlock, .selects RX3 yX3_requireBlock yX3_requireBlock, .initialized RX3, .code yX3_requireBlock cX3_requireBlock 2 none, .fieldLink RX3 52 "CodeMover$Program" "blocks" "I", .methodLink RX3 113 yX1_codeAt, .instanceMethod yX1_codeAt, .selects RX1 yX1_codeAt yX1_codeAt, .initialized RX1, .code yX1_codeAt cX1_codeAt 3 (some .int), .fieldLink RX1 28 "CodeMover$Program" "codes" "[I"] ++ wsX30 ++ wsX10 ++ (vx_atS RX3 102 "java/lang/IndexOutOfBoundsException" ["java/lang/RuntimeException", "java/lang/Exception"]).filter goodWord)
def wsX3_requireEdge : List Cond := .code yX3_requireEdge cX3_requireEdge 2 none :: ([.classLink RX3 98 "java/lang/IndexOutOfBoundsException", .initialized "java/lang/IndexOutOfBoundsException", .fieldLink RX3 10 "CodeMover" "program" "LCodeMover$Program;", .fieldLink RX3 79 "CodeMover$Program" "edges" "I"] ++ wsX30 ++ wsX10 ++ (vx_atS RX3 102 "java/lang/IndexOutOfBoundsException" ["java/lang/RuntimeException", "java/lang/Exception"]).filter goodWord)
def wsX3_ends : List Cond := .code yX3_ends cX3_ends 2 (some .int) :: ([.fieldLink RX3 10 "CodeMover" "program" "LCodeMover$Program;", .methodLink RX3 116 yX3_requireEdge, .instanceMethod yX3_requireEdge, .selects RX3 yX3_requireEdge yX3_requireEdge, .initialized RX3, .code yX3_requireEdge cX3_requireEdge 2 none, .classLink RX3 98 "java/lang/IndexOutOfBoundsException", .initialized "java/lang/IndexOutOfBoundsException", .fieldLink RX3 79 "CodeMover$Program" "edges" "I", .methodLink RX3 119 yX1_endsOf, .instanceMethod yX1_endsOf, .selects RX1 yX1_endsOf yX1_endsOf, .initialized RX1, .code yX1_endsOf cX1_endsOf 2 (some .int), .fieldLink RX1 34 "CodeMover$Program" "from" "[I", .fieldLink RX1 37 "CodeMover$Program" "to" "[I"] ++ wsX30 ++ wsX10 ++ (vx_atS RX3 102 "java/lang/IndexOutOfBoundsException" ["java/lang/RuntimeException", "java/lang/Exception"]).filter goodWord)
def wsX3_kept_r1 : List Cond := [Cond.fieldLink RX3 21 "CodeMover" "sets" "LCodeMover$Sets;", Cond.fieldLink RX3 125 "CodeMover$Sets" "keptIn" "[I", Cond.methodLink RX3 61 yX3_requireBlock, Cond.instanceMethod yX3_requireBlock, Cond.selects RX3 yX3_requireBlock yX3_requireBlock, Cond.initialized RX3, Cond.code yX3_requireBlock cX3_requireBlock 2 none, Cond.classLink RX3 98 "java/lang/IndexOutOfBoundsException", Cond.initialized "java/lang/IndexOutOfBoundsException", Cond.fieldLink RX3 10 "CodeMover" "program" "LCodeMover$Program;", Cond.fieldLink RX3 52 "CodeMover$Program" "blocks" "I", Cond.methodLink RX3 122 yX2_bringUpToDate, Cond.instanceMethod yX2_bringUpToDate, Cond.selects RX2 yX2_bringUpToDate yX2_bringUpToDate, Cond.initialized RX2, Cond.code yX2_bringUpToDate cX2_bringUpToDate 2 none, Cond.fieldLink RX2 48 "CodeMover$Sets" "program" "LCodeMover$Program;", Cond.fieldLink RX2 52 "CodeMover$Program" "changed" "Z", Cond.fieldLink RX2 58 "CodeMover$Program" "blocks" "I", Cond.methodLink RX2 62 yX2_findSetsOfBlock, Cond.instanceMethod yX2_findSetsOfBlock, Cond.selects RX2 yX2_findSetsOfBlock yX2_findSetsOfBlock, Cond.code yX2_findSetsOfBlock cX2_findSetsOfBlock 9 none, Cond.fieldLink RX2 84 "CodeMover$Program" "sizes" "[I"]
def wsX3_kept_r2 : List Cond := [Cond.fieldLink RX2 91 "CodeMover$Program" "dependents" "[I", Cond.fieldLink RX2 9 "CodeMover$Sets" "keptIn" "[I", Cond.fieldLink RX2 15 "CodeMover$Sets" "earlyIn" "[I", Cond.fieldLink RX2 18 "CodeMover$Sets" "lateIn" "[I", Cond.methodLink RX2 87 yX1_codeAt, Cond.instanceMethod yX1_codeAt, Cond.selects RX1 yX1_codeAt yX1_codeAt, Cond.initialized RX1, Cond.code yX1_codeAt cX1_codeAt 3 (some .int), Cond.fieldLink RX1 28 "CodeMover$Program" "codes" "[I", Cond.methodLink RX2 94 yX1_allExpressions, Cond.instanceMethod yX1_allExpressions, Cond.selects RX1 yX1_allExpressions yX1_allExpressions, Cond.code yX1_allExpressions cX1_allExpressions 1 (some .int), Cond.fieldLink RX1 9 "CodeMover$Program" "expressions" "I", Cond.methodLink RX2 66 yX2_findNeeded, Cond.instanceMethod yX2_findNeeded, Cond.selects RX2 yX2_findNeeded yX2_findNeeded, Cond.code yX2_findNeeded cX2_findNeeded 3 none, Cond.fieldLink RX2 98 "CodeMover$Program" "firstExit" "[I", Cond.methodLink RX2 101 yX2_setNeededAtEnd, Cond.instanceMethod yX2_setNeededAtEnd, Cond.selects RX2 yX2_setNeededAtEnd yX2_setNeededAtEnd, Cond.code yX2_setNeededAtEnd cX2_setNeededAtEnd 3 none]
def wsX3_kept_r3 : List Cond := [Cond.fieldLink RX2 24 "CodeMover$Sets" "neededAtEnd" "[I", Cond.fieldLink RX2 21 "CodeMover$Sets" "neededAtStart" "[I", Cond.methodLink RX2 105 yX2_shrinkNeeded, Cond.instanceMethod yX2_shrinkNeeded, Cond.selects RX2 yX2_shrinkNeeded yX2_shrinkNeeded, Cond.code yX2_shrinkNeeded cX2_shrinkNeeded 5 (some .boolean), Cond.fieldLink RX2 81 "CodeMover$Program" "edges" "I", Cond.fieldLink RX2 109 "CodeMover$Program" "from" "[I", Cond.fieldLink RX2 112 "CodeMover$Program" "to" "[I", Cond.methodLink RX2 69 yX2_findThere, Cond.instanceMethod yX2_findThere, Cond.selects RX2 yX2_findThere yX2_findThere, Cond.code yX2_findThere cX2_findThere 3 none, Cond.fieldLink RX2 27 "CodeMover$Sets" "thereAtStart" "[I", Cond.methodLink RX2 115 yX2_fillWhereEdgesLead, Cond.instanceMethod yX2_fillWhereEdgesLead, Cond.selects RX2 yX2_fillWhereEdgesLead yX2_fillWhereEdgesLead, Cond.code yX2_fillWhereEdgesLead cX2_fillWhereEdgesLead 3 none, Cond.methodLink RX2 119 yX2_setThereAtStart, Cond.instanceMethod yX2_setThereAtStart, Cond.selects RX2 yX2_setThereAtStart yX2_setThereAtStart, Cond.code yX2_setThereAtStart cX2_setThereAtStart 3 none, Cond.fieldLink RX2 30 "CodeMover$Sets" "thereAtEnd" "[I", Cond.methodLink RX2 122 yX2_shrinkThere]
def wsX3_kept_r4 : List Cond := [Cond.instanceMethod yX2_shrinkThere, Cond.selects RX2 yX2_shrinkThere yX2_shrinkThere, Cond.code yX2_shrinkThere cX2_shrinkThere 5 (some .boolean), Cond.methodLink RX2 72 yX2_findEarliest, Cond.instanceMethod yX2_findEarliest, Cond.selects RX2 yX2_findEarliest yX2_findEarliest, Cond.code yX2_findEarliest cX2_findEarliest 4 none, Cond.fieldLink RX2 39 "CodeMover$Sets" "earliestOnEdge" "[I", Cond.methodLink RX2 75 yX2_findDelayed, Cond.instanceMethod yX2_findDelayed, Cond.selects RX2 yX2_findDelayed yX2_findDelayed, Cond.code yX2_findDelayed cX2_findDelayed 3 none, Cond.fieldLink RX2 33 "CodeMover$Sets" "delayedAtStart" "[I", Cond.fieldLink RX2 42 "CodeMover$Sets" "delayedOnEdge" "[I", Cond.methodLink RX2 125 yX2_shrinkDelayed, Cond.instanceMethod yX2_shrinkDelayed, Cond.selects RX2 yX2_shrinkDelayed yX2_shrinkDelayed, Cond.code yX2_shrinkDelayed cX2_shrinkDelayed 5 (some .boolean), Cond.methodLink RX2 128 yX2_findDelayedOnEdge, Cond.instanceMethod yX2_findDelayedOnEdge, Cond.selects RX2 yX2_findDelayedOnEdge yX2_findDelayedOnEdge, Cond.code yX2_findDelayedOnEdge cX2_findDelayedOnEdge 3 (some .int), Cond.methodLink RX2 78 yX2_findInsertionsAndDeletions, Cond.instanceMethod yX2_findInsertionsAndDeletions]
def wsX3_kept_r5 : List Cond := [Cond.selects RX2 yX2_findInsertionsAndDeletions yX2_findInsertionsAndDeletions, Cond.code yX2_findInsertionsAndDeletions cX2_findInsertionsAndDeletions 2 none, Cond.fieldLink RX2 45 "CodeMover$Sets" "insertedOnEdge" "[I", Cond.fieldLink RX2 36 "CodeMover$Sets" "deletedInBlock" "[I"]
def wsX3_kept : List Cond := .code yX3_kept cX3_kept 2 (some .int) :: ((wsX3_kept_r1 ++ (wsX3_kept_r2 ++ (wsX3_kept_r3 ++ (wsX3_kept_r4 ++ wsX3_kept_r5)))) ++ wsX30 ++ wsX20 ++ wsX10 ++ (vx_atS RX3 102 "java/lang/IndexOutOfBoundsException" ["java/lang/RuntimeException", "java/lang/Exception"]).filter goodWord)
def wsX3_early_r1 : List Cond := [Cond.fieldLink RX3 21 "CodeMover" "sets" "LCodeMover$Sets;", Cond.fieldLink RX3 128 "CodeMover$Sets" "earlyIn" "[I", Cond.methodLink RX3 61 yX3_requireBlock, Cond.instanceMethod yX3_requireBlock, Cond.selects RX3 yX3_requireBlock yX3_requireBlock, Cond.initialized RX3, Cond.code yX3_requireBlock cX3_requireBlock 2 none, Cond.classLink RX3 98 "java/lang/IndexOutOfBoundsException", Cond.initialized "java/lang/IndexOutOfBoundsException", Cond.fieldLink RX3 10 "CodeMover" "program" "LCodeMover$Program;", Cond.fieldLink RX3 52 "CodeMover$Program" "blocks" "I", Cond.methodLink RX3 122 yX2_bringUpToDate, Cond.instanceMethod yX2_bringUpToDate, Cond.selects RX2 yX2_bringUpToDate yX2_bringUpToDate, Cond.initialized RX2, Cond.code yX2_bringUpToDate cX2_bringUpToDate 2 none, Cond.fieldLink RX2 48 "CodeMover$Sets" "program" "LCodeMover$Program;", Cond.fieldLink RX2 52 "CodeMover$Program" "changed" "Z", Cond.fieldLink RX2 58 "CodeMover$Program" "blocks" "I", Cond.methodLink RX2 62 yX2_findSetsOfBlock, Cond.instanceMethod yX2_findSetsOfBlock, Cond.selects RX2 yX2_findSetsOfBlock yX2_findSetsOfBlock, Cond.code yX2_findSetsOfBlock cX2_findSetsOfBlock 9 none, Cond.fieldLink RX2 84 "CodeMover$Program" "sizes" "[I"]
def wsX3_early_r2 : List Cond := [Cond.fieldLink RX2 91 "CodeMover$Program" "dependents" "[I", Cond.fieldLink RX2 9 "CodeMover$Sets" "keptIn" "[I", Cond.fieldLink RX2 15 "CodeMover$Sets" "earlyIn" "[I", Cond.fieldLink RX2 18 "CodeMover$Sets" "lateIn" "[I", Cond.methodLink RX2 87 yX1_codeAt, Cond.instanceMethod yX1_codeAt, Cond.selects RX1 yX1_codeAt yX1_codeAt, Cond.initialized RX1, Cond.code yX1_codeAt cX1_codeAt 3 (some .int), Cond.fieldLink RX1 28 "CodeMover$Program" "codes" "[I", Cond.methodLink RX2 94 yX1_allExpressions, Cond.instanceMethod yX1_allExpressions, Cond.selects RX1 yX1_allExpressions yX1_allExpressions, Cond.code yX1_allExpressions cX1_allExpressions 1 (some .int), Cond.fieldLink RX1 9 "CodeMover$Program" "expressions" "I", Cond.methodLink RX2 66 yX2_findNeeded, Cond.instanceMethod yX2_findNeeded, Cond.selects RX2 yX2_findNeeded yX2_findNeeded, Cond.code yX2_findNeeded cX2_findNeeded 3 none, Cond.fieldLink RX2 98 "CodeMover$Program" "firstExit" "[I", Cond.methodLink RX2 101 yX2_setNeededAtEnd, Cond.instanceMethod yX2_setNeededAtEnd, Cond.selects RX2 yX2_setNeededAtEnd yX2_setNeededAtEnd, Cond.code yX2_setNeededAtEnd cX2_setNeededAtEnd 3 none]
def wsX3_early_r3 : List Cond := [Cond.fieldLink RX2 24 "CodeMover$Sets" "neededAtEnd" "[I", Cond.fieldLink RX2 21 "CodeMover$Sets" "neededAtStart" "[I", Cond.methodLink RX2 105 yX2_shrinkNeeded, Cond.instanceMethod yX2_shrinkNeeded, Cond.selects RX2 yX2_shrinkNeeded yX2_shrinkNeeded, Cond.code yX2_shrinkNeeded cX2_shrinkNeeded 5 (some .boolean), Cond.fieldLink RX2 81 "CodeMover$Program" "edges" "I", Cond.fieldLink RX2 109 "CodeMover$Program" "from" "[I", Cond.fieldLink RX2 112 "CodeMover$Program" "to" "[I", Cond.methodLink RX2 69 yX2_findThere, Cond.instanceMethod yX2_findThere, Cond.selects RX2 yX2_findThere yX2_findThere, Cond.code yX2_findThere cX2_findThere 3 none, Cond.fieldLink RX2 27 "CodeMover$Sets" "thereAtStart" "[I", Cond.methodLink RX2 115 yX2_fillWhereEdgesLead, Cond.instanceMethod yX2_fillWhereEdgesLead, Cond.selects RX2 yX2_fillWhereEdgesLead yX2_fillWhereEdgesLead, Cond.code yX2_fillWhereEdgesLead cX2_fillWhereEdgesLead 3 none, Cond.methodLink RX2 119 yX2_setThereAtStart, Cond.instanceMethod yX2_setThereAtStart, Cond.selects RX2 yX2_setThereAtStart yX2_setThereAtStart, Cond.code yX2_setThereAtStart cX2_setThereAtStart 3 none, Cond.fieldLink RX2 30 "CodeMover$Sets" "thereAtEnd" "[I", Cond.methodLink RX2 122 yX2_shrinkThere]
def wsX3_early_r4 : List Cond := [Cond.instanceMethod yX2_shrinkThere, Cond.selects RX2 yX2_shrinkThere yX2_shrinkThere, Cond.code yX2_shrinkThere cX2_shrinkThere 5 (some .boolean), Cond.methodLink RX2 72 yX2_findEarliest, Cond.instanceMethod yX2_findEarliest, Cond.selects RX2 yX2_findEarliest yX2_findEarliest, Cond.code yX2_findEarliest cX2_findEarliest 4 none, Cond.fieldLink RX2 39 "CodeMover$Sets" "earliestOnEdge" "[I", Cond.methodLink RX2 75 yX2_findDelayed, Cond.instanceMethod yX2_findDelayed, Cond.selects RX2 yX2_findDelayed yX2_findDelayed, Cond.code yX2_findDelayed cX2_findDelayed 3 none, Cond.fieldLink RX2 33 "CodeMover$Sets" "delayedAtStart" "[I", Cond.fieldLink RX2 42 "CodeMover$Sets" "delayedOnEdge" "[I", Cond.methodLink RX2 125 yX2_shrinkDelayed, Cond.instanceMethod yX2_shrinkDelayed, Cond.selects RX2 yX2_shrinkDelayed yX2_shrinkDelayed, Cond.code yX2_shrinkDelayed cX2_shrinkDelayed 5 (some .boolean), Cond.methodLink RX2 128 yX2_findDelayedOnEdge, Cond.instanceMethod yX2_findDelayedOnEdge, Cond.selects RX2 yX2_findDelayedOnEdge yX2_findDelayedOnEdge, Cond.code yX2_findDelayedOnEdge cX2_findDelayedOnEdge 3 (some .int), Cond.methodLink RX2 78 yX2_findInsertionsAndDeletions, Cond.instanceMethod yX2_findInsertionsAndDeletions]
def wsX3_early_r5 : List Cond := [Cond.selects RX2 yX2_findInsertionsAndDeletions yX2_findInsertionsAndDeletions, Cond.code yX2_findInsertionsAndDeletions cX2_findInsertionsAndDeletions 2 none, Cond.fieldLink RX2 45 "CodeMover$Sets" "insertedOnEdge" "[I", Cond.fieldLink RX2 36 "CodeMover$Sets" "deletedInBlock" "[I"]
def wsX3_early : List Cond := .code yX3_early cX3_early 2 (some .int) :: ((wsX3_early_r1 ++ (wsX3_early_r2 ++ (wsX3_early_r3 ++ (wsX3_early_r4 ++ wsX3_early_r5)))) ++ wsX30 ++ wsX20 ++ wsX10 ++ (vx_atS RX3 102 "java/lang/IndexOutOfBoundsException" ["java/lang/RuntimeException", "java/lang/Exception"]).filter goodWord)
def wsX3_late_r1 : List Cond := [Cond.fieldLink RX3 21 "CodeMover" "sets" "LCodeMover$Sets;", Cond.fieldLink RX3 131 "CodeMover$Sets" "lateIn" "[I", Cond.methodLink RX3 61 yX3_requireBlock, Cond.instanceMethod yX3_requireBlock, Cond.selects RX3 yX3_requireBlock yX3_requireBlock, Cond.initialized RX3, Cond.code yX3_requireBlock cX3_requireBlock 2 none, Cond.classLink RX3 98 "java/lang/IndexOutOfBoundsException", Cond.initialized "java/lang/IndexOutOfBoundsException", Cond.fieldLink RX3 10 "CodeMover" "program" "LCodeMover$Program;", Cond.fieldLink RX3 52 "CodeMover$Program" "blocks" "I", Cond.methodLink RX3 122 yX2_bringUpToDate, Cond.instanceMethod yX2_bringUpToDate, Cond.selects RX2 yX2_bringUpToDate yX2_bringUpToDate, Cond.initialized RX2, Cond.code yX2_bringUpToDate cX2_bringUpToDate 2 none, Cond.fieldLink RX2 48 "CodeMover$Sets" "program" "LCodeMover$Program;", Cond.fieldLink RX2 52 "CodeMover$Program" "changed" "Z", Cond.fieldLink RX2 58 "CodeMover$Program" "blocks" "I", Cond.methodLink RX2 62 yX2_findSetsOfBlock, Cond.instanceMethod yX2_findSetsOfBlock, Cond.selects RX2 yX2_findSetsOfBlock yX2_findSetsOfBlock, Cond.code yX2_findSetsOfBlock cX2_findSetsOfBlock 9 none, Cond.fieldLink RX2 84 "CodeMover$Program" "sizes" "[I"]
def wsX3_late_r2 : List Cond := [Cond.fieldLink RX2 91 "CodeMover$Program" "dependents" "[I", Cond.fieldLink RX2 9 "CodeMover$Sets" "keptIn" "[I", Cond.fieldLink RX2 15 "CodeMover$Sets" "earlyIn" "[I", Cond.fieldLink RX2 18 "CodeMover$Sets" "lateIn" "[I", Cond.methodLink RX2 87 yX1_codeAt, Cond.instanceMethod yX1_codeAt, Cond.selects RX1 yX1_codeAt yX1_codeAt, Cond.initialized RX1, Cond.code yX1_codeAt cX1_codeAt 3 (some .int), Cond.fieldLink RX1 28 "CodeMover$Program" "codes" "[I", Cond.methodLink RX2 94 yX1_allExpressions, Cond.instanceMethod yX1_allExpressions, Cond.selects RX1 yX1_allExpressions yX1_allExpressions, Cond.code yX1_allExpressions cX1_allExpressions 1 (some .int), Cond.fieldLink RX1 9 "CodeMover$Program" "expressions" "I", Cond.methodLink RX2 66 yX2_findNeeded, Cond.instanceMethod yX2_findNeeded, Cond.selects RX2 yX2_findNeeded yX2_findNeeded, Cond.code yX2_findNeeded cX2_findNeeded 3 none, Cond.fieldLink RX2 98 "CodeMover$Program" "firstExit" "[I", Cond.methodLink RX2 101 yX2_setNeededAtEnd, Cond.instanceMethod yX2_setNeededAtEnd, Cond.selects RX2 yX2_setNeededAtEnd yX2_setNeededAtEnd, Cond.code yX2_setNeededAtEnd cX2_setNeededAtEnd 3 none]
def wsX3_late_r3 : List Cond := [Cond.fieldLink RX2 24 "CodeMover$Sets" "neededAtEnd" "[I", Cond.fieldLink RX2 21 "CodeMover$Sets" "neededAtStart" "[I", Cond.methodLink RX2 105 yX2_shrinkNeeded, Cond.instanceMethod yX2_shrinkNeeded, Cond.selects RX2 yX2_shrinkNeeded yX2_shrinkNeeded, Cond.code yX2_shrinkNeeded cX2_shrinkNeeded 5 (some .boolean), Cond.fieldLink RX2 81 "CodeMover$Program" "edges" "I", Cond.fieldLink RX2 109 "CodeMover$Program" "from" "[I", Cond.fieldLink RX2 112 "CodeMover$Program" "to" "[I", Cond.methodLink RX2 69 yX2_findThere, Cond.instanceMethod yX2_findThere, Cond.selects RX2 yX2_findThere yX2_findThere, Cond.code yX2_findThere cX2_findThere 3 none, Cond.fieldLink RX2 27 "CodeMover$Sets" "thereAtStart" "[I", Cond.methodLink RX2 115 yX2_fillWhereEdgesLead, Cond.instanceMethod yX2_fillWhereEdgesLead, Cond.selects RX2 yX2_fillWhereEdgesLead yX2_fillWhereEdgesLead, Cond.code yX2_fillWhereEdgesLead cX2_fillWhereEdgesLead 3 none, Cond.methodLink RX2 119 yX2_setThereAtStart, Cond.instanceMethod yX2_setThereAtStart, Cond.selects RX2 yX2_setThereAtStart yX2_setThereAtStart, Cond.code yX2_setThereAtStart cX2_setThereAtStart 3 none, Cond.fieldLink RX2 30 "CodeMover$Sets" "thereAtEnd" "[I", Cond.methodLink RX2 122 yX2_shrinkThere]
def wsX3_late_r4 : List Cond := [Cond.instanceMethod yX2_shrinkThere, Cond.selects RX2 yX2_shrinkThere yX2_shrinkThere, Cond.code yX2_shrinkThere cX2_shrinkThere 5 (some .boolean), Cond.methodLink RX2 72 yX2_findEarliest, Cond.instanceMethod yX2_findEarliest, Cond.selects RX2 yX2_findEarliest yX2_findEarliest, Cond.code yX2_findEarliest cX2_findEarliest 4 none, Cond.fieldLink RX2 39 "CodeMover$Sets" "earliestOnEdge" "[I", Cond.methodLink RX2 75 yX2_findDelayed, Cond.instanceMethod yX2_findDelayed, Cond.selects RX2 yX2_findDelayed yX2_findDelayed, Cond.code yX2_findDelayed cX2_findDelayed 3 none, Cond.fieldLink RX2 33 "CodeMover$Sets" "delayedAtStart" "[I", Cond.fieldLink RX2 42 "CodeMover$Sets" "delayedOnEdge" "[I", Cond.methodLink RX2 125 yX2_shrinkDelayed, Cond.instanceMethod yX2_shrinkDelayed, Cond.selects RX2 yX2_shrinkDelayed yX2_shrinkDelayed, Cond.code yX2_shrinkDelayed cX2_shrinkDelayed 5 (some .boolean), Cond.methodLink RX2 128 yX2_findDelayedOnEdge, Cond.instanceMethod yX2_findDelayedOnEdge, Cond.selects RX2 yX2_findDelayedOnEdge yX2_findDelayedOnEdge, Cond.code yX2_findDelayedOnEdge cX2_findDelayedOnEdge 3 (some .int), Cond.methodLink RX2 78 yX2_findInsertionsAndDeletions, Cond.instanceMethod yX2_findInsertionsAndDeletions]
def wsX3_late_r5 : List Cond := [Cond.selects RX2 yX2_findInsertionsAndDeletions yX2_findInsertionsAndDeletions, Cond.code yX2_findInsertionsAndDeletions cX2_findInsertionsAndDeletions 2 none, Cond.fieldLink RX2 45 "CodeMover$Sets" "insertedOnEdge" "[I", Cond.fieldLink RX2 36 "CodeMover$Sets" "deletedInBlock" "[I"]
def wsX3_late : List Cond := .code yX3_late cX3_late 2 (some .int) :: ((wsX3_late_r1 ++ (wsX3_late_r2 ++ (wsX3_late_r3 ++ (wsX3_late_r4 ++ wsX3_late_r5)))) ++ wsX30 ++ wsX20 ++ wsX10 ++ (vx_atS RX3 102 "java/lang/IndexOutOfBoundsException" ["java/lang/RuntimeException", "java/lang/Exception"]).filter goodWord)
def wsX3_needed_r1 : List Cond := [Cond.fieldLink RX3 21 "CodeMover" "sets" "LCodeMover$Sets;", Cond.fieldLink RX3 134 "CodeMover$Sets" "neededAtEnd" "[I", Cond.fieldLink RX3 137 "CodeMover$Sets" "neededAtStart" "[I", Cond.methodLink RX3 61 yX3_requireBlock, Cond.instanceMethod yX3_requireBlock, Cond.selects RX3 yX3_requireBlock yX3_requireBlock, Cond.initialized RX3, Cond.code yX3_requireBlock cX3_requireBlock 2 none, Cond.classLink RX3 98 "java/lang/IndexOutOfBoundsException", Cond.initialized "java/lang/IndexOutOfBoundsException", Cond.fieldLink RX3 10 "CodeMover" "program" "LCodeMover$Program;", Cond.fieldLink RX3 52 "CodeMover$Program" "blocks" "I", Cond.methodLink RX3 122 yX2_bringUpToDate, Cond.instanceMethod yX2_bringUpToDate, Cond.selects RX2 yX2_bringUpToDate yX2_bringUpToDate, Cond.initialized RX2, Cond.code yX2_bringUpToDate cX2_bringUpToDate 2 none, Cond.fieldLink RX2 48 "CodeMover$Sets" "program" "LCodeMover$Program;", Cond.fieldLink RX2 52 "CodeMover$Program" "changed" "Z", Cond.fieldLink RX2 58 "CodeMover$Program" "blocks" "I", Cond.methodLink RX2 62 yX2_findSetsOfBlock, Cond.instanceMethod yX2_findSetsOfBlock, Cond.selects RX2 yX2_findSetsOfBlock yX2_findSetsOfBlock, Cond.code yX2_findSetsOfBlock cX2_findSetsOfBlock 9 none]
def wsX3_needed_r2 : List Cond := [Cond.fieldLink RX2 84 "CodeMover$Program" "sizes" "[I", Cond.fieldLink RX2 91 "CodeMover$Program" "dependents" "[I", Cond.fieldLink RX2 9 "CodeMover$Sets" "keptIn" "[I", Cond.fieldLink RX2 15 "CodeMover$Sets" "earlyIn" "[I", Cond.fieldLink RX2 18 "CodeMover$Sets" "lateIn" "[I", Cond.methodLink RX2 87 yX1_codeAt, Cond.instanceMethod yX1_codeAt, Cond.selects RX1 yX1_codeAt yX1_codeAt, Cond.initialized RX1, Cond.code yX1_codeAt cX1_codeAt 3 (some .int), Cond.fieldLink RX1 28 "CodeMover$Program" "codes" "[I", Cond.methodLink RX2 94 yX1_allExpressions, Cond.instanceMethod yX1_allExpressions, Cond.selects RX1 yX1_allExpressions yX1_allExpressions, Cond.code yX1_allExpressions cX1_allExpressions 1 (some .int), Cond.fieldLink RX1 9 "CodeMover$Program" "expressions" "I", Cond.methodLink RX2 66 yX2_findNeeded, Cond.instanceMethod yX2_findNeeded, Cond.selects RX2 yX2_findNeeded yX2_findNeeded, Cond.code yX2_findNeeded cX2_findNeeded 3 none, Cond.fieldLink RX2 98 "CodeMover$Program" "firstExit" "[I", Cond.methodLink RX2 101 yX2_setNeededAtEnd, Cond.instanceMethod yX2_setNeededAtEnd, Cond.selects RX2 yX2_setNeededAtEnd yX2_setNeededAtEnd]
def wsX3_needed_r3 : List Cond := [Cond.code yX2_setNeededAtEnd cX2_setNeededAtEnd 3 none, Cond.fieldLink RX2 24 "CodeMover$Sets" "neededAtEnd" "[I", Cond.fieldLink RX2 21 "CodeMover$Sets" "neededAtStart" "[I", Cond.methodLink RX2 105 yX2_shrinkNeeded, Cond.instanceMethod yX2_shrinkNeeded, Cond.selects RX2 yX2_shrinkNeeded yX2_shrinkNeeded, Cond.code yX2_shrinkNeeded cX2_shrinkNeeded 5 (some .boolean), Cond.fieldLink RX2 81 "CodeMover$Program" "edges" "I", Cond.fieldLink RX2 109 "CodeMover$Program" "from" "[I", Cond.fieldLink RX2 112 "CodeMover$Program" "to" "[I", Cond.methodLink RX2 69 yX2_findThere, Cond.instanceMethod yX2_findThere, Cond.selects RX2 yX2_findThere yX2_findThere, Cond.code yX2_findThere cX2_findThere 3 none, Cond.fieldLink RX2 27 "CodeMover$Sets" "thereAtStart" "[I", Cond.methodLink RX2 115 yX2_fillWhereEdgesLead, Cond.instanceMethod yX2_fillWhereEdgesLead, Cond.selects RX2 yX2_fillWhereEdgesLead yX2_fillWhereEdgesLead, Cond.code yX2_fillWhereEdgesLead cX2_fillWhereEdgesLead 3 none, Cond.methodLink RX2 119 yX2_setThereAtStart, Cond.instanceMethod yX2_setThereAtStart, Cond.selects RX2 yX2_setThereAtStart yX2_setThereAtStart, Cond.code yX2_setThereAtStart cX2_setThereAtStart 3 none, Cond.fieldLink RX2 30 "CodeMover$Sets" "thereAtEnd" "[I"]
def wsX3_needed_r4 : List Cond := [Cond.methodLink RX2 122 yX2_shrinkThere, Cond.instanceMethod yX2_shrinkThere, Cond.selects RX2 yX2_shrinkThere yX2_shrinkThere, Cond.code yX2_shrinkThere cX2_shrinkThere 5 (some .boolean), Cond.methodLink RX2 72 yX2_findEarliest, Cond.instanceMethod yX2_findEarliest, Cond.selects RX2 yX2_findEarliest yX2_findEarliest, Cond.code yX2_findEarliest cX2_findEarliest 4 none, Cond.fieldLink RX2 39 "CodeMover$Sets" "earliestOnEdge" "[I", Cond.methodLink RX2 75 yX2_findDelayed, Cond.instanceMethod yX2_findDelayed, Cond.selects RX2 yX2_findDelayed yX2_findDelayed, Cond.code yX2_findDelayed cX2_findDelayed 3 none, Cond.fieldLink RX2 33 "CodeMover$Sets" "delayedAtStart" "[I", Cond.fieldLink RX2 42 "CodeMover$Sets" "delayedOnEdge" "[I", Cond.methodLink RX2 125 yX2_shrinkDelayed, Cond.instanceMethod yX2_shrinkDelayed, Cond.selects RX2 yX2_shrinkDelayed yX2_shrinkDelayed, Cond.code yX2_shrinkDelayed cX2_shrinkDelayed 5 (some .boolean), Cond.methodLink RX2 128 yX2_findDelayedOnEdge, Cond.instanceMethod yX2_findDelayedOnEdge, Cond.selects RX2 yX2_findDelayedOnEdge yX2_findDelayedOnEdge, Cond.code yX2_findDelayedOnEdge cX2_findDelayedOnEdge 3 (some .int), Cond.methodLink RX2 78 yX2_findInsertionsAndDeletions]
def wsX3_needed_r5 : List Cond := [Cond.instanceMethod yX2_findInsertionsAndDeletions, Cond.selects RX2 yX2_findInsertionsAndDeletions yX2_findInsertionsAndDeletions, Cond.code yX2_findInsertionsAndDeletions cX2_findInsertionsAndDeletions 2 none, Cond.fieldLink RX2 45 "CodeMover$Sets" "insertedOnEdge" "[I", Cond.fieldLink RX2 36 "CodeMover$Sets" "deletedInBlock" "[I"]
def wsX3_needed : List Cond := .code yX3_needed cX3_needed 3 (some .int) :: ((wsX3_needed_r1 ++ (wsX3_needed_r2 ++ (wsX3_needed_r3 ++ (wsX3_needed_r4 ++ wsX3_needed_r5)))) ++ wsX30 ++ wsX20 ++ wsX10 ++ (vx_atS RX3 102 "java/lang/IndexOutOfBoundsException" ["java/lang/RuntimeException", "java/lang/Exception"]).filter goodWord)
def wsX3_there_r1 : List Cond := [Cond.fieldLink RX3 21 "CodeMover" "sets" "LCodeMover$Sets;", Cond.fieldLink RX3 140 "CodeMover$Sets" "thereAtEnd" "[I", Cond.fieldLink RX3 143 "CodeMover$Sets" "thereAtStart" "[I", Cond.methodLink RX3 61 yX3_requireBlock, Cond.instanceMethod yX3_requireBlock, Cond.selects RX3 yX3_requireBlock yX3_requireBlock, Cond.initialized RX3, Cond.code yX3_requireBlock cX3_requireBlock 2 none, Cond.classLink RX3 98 "java/lang/IndexOutOfBoundsException", Cond.initialized "java/lang/IndexOutOfBoundsException", Cond.fieldLink RX3 10 "CodeMover" "program" "LCodeMover$Program;", Cond.fieldLink RX3 52 "CodeMover$Program" "blocks" "I", Cond.methodLink RX3 122 yX2_bringUpToDate, Cond.instanceMethod yX2_bringUpToDate, Cond.selects RX2 yX2_bringUpToDate yX2_bringUpToDate, Cond.initialized RX2, Cond.code yX2_bringUpToDate cX2_bringUpToDate 2 none, Cond.fieldLink RX2 48 "CodeMover$Sets" "program" "LCodeMover$Program;", Cond.fieldLink RX2 52 "CodeMover$Program" "changed" "Z", Cond.fieldLink RX2 58 "CodeMover$Program" "blocks" "I", Cond.methodLink RX2 62 yX2_findSetsOfBlock, Cond.instanceMethod yX2_findSetsOfBlock, Cond.selects RX2 yX2_findSetsOfBlock yX2_findSetsOfBlock, Cond.code yX2_findSetsOfBlock cX2_findSetsOfBlock 9 none]
def wsX3_there_r2 : List Cond := [Cond.fieldLink RX2 84 "CodeMover$Program" "sizes" "[I", Cond.fieldLink RX2 91 "CodeMover$Program" "dependents" "[I", Cond.fieldLink RX2 9 "CodeMover$Sets" "keptIn" "[I", Cond.fieldLink RX2 15 "CodeMover$Sets" "earlyIn" "[I", Cond.fieldLink RX2 18 "CodeMover$Sets" "lateIn" "[I", Cond.methodLink RX2 87 yX1_codeAt, Cond.instanceMethod yX1_codeAt, Cond.selects RX1 yX1_codeAt yX1_codeAt, Cond.initialized RX1, Cond.code yX1_codeAt cX1_codeAt 3 (some .int), Cond.fieldLink RX1 28 "CodeMover$Program" "codes" "[I", Cond.methodLink RX2 94 yX1_allExpressions, Cond.instanceMethod yX1_allExpressions, Cond.selects RX1 yX1_allExpressions yX1_allExpressions, Cond.code yX1_allExpressions cX1_allExpressions 1 (some .int), Cond.fieldLink RX1 9 "CodeMover$Program" "expressions" "I", Cond.methodLink RX2 66 yX2_findNeeded, Cond.instanceMethod yX2_findNeeded, Cond.selects RX2 yX2_findNeeded yX2_findNeeded, Cond.code yX2_findNeeded cX2_findNeeded 3 none, Cond.fieldLink RX2 98 "CodeMover$Program" "firstExit" "[I", Cond.methodLink RX2 101 yX2_setNeededAtEnd, Cond.instanceMethod yX2_setNeededAtEnd, Cond.selects RX2 yX2_setNeededAtEnd yX2_setNeededAtEnd]
def wsX3_there_r3 : List Cond := [Cond.code yX2_setNeededAtEnd cX2_setNeededAtEnd 3 none, Cond.fieldLink RX2 24 "CodeMover$Sets" "neededAtEnd" "[I", Cond.fieldLink RX2 21 "CodeMover$Sets" "neededAtStart" "[I", Cond.methodLink RX2 105 yX2_shrinkNeeded, Cond.instanceMethod yX2_shrinkNeeded, Cond.selects RX2 yX2_shrinkNeeded yX2_shrinkNeeded, Cond.code yX2_shrinkNeeded cX2_shrinkNeeded 5 (some .boolean), Cond.fieldLink RX2 81 "CodeMover$Program" "edges" "I", Cond.fieldLink RX2 109 "CodeMover$Program" "from" "[I", Cond.fieldLink RX2 112 "CodeMover$Program" "to" "[I", Cond.methodLink RX2 69 yX2_findThere, Cond.instanceMethod yX2_findThere, Cond.selects RX2 yX2_findThere yX2_findThere, Cond.code yX2_findThere cX2_findThere 3 none, Cond.fieldLink RX2 27 "CodeMover$Sets" "thereAtStart" "[I", Cond.methodLink RX2 115 yX2_fillWhereEdgesLead, Cond.instanceMethod yX2_fillWhereEdgesLead, Cond.selects RX2 yX2_fillWhereEdgesLead yX2_fillWhereEdgesLead, Cond.code yX2_fillWhereEdgesLead cX2_fillWhereEdgesLead 3 none, Cond.methodLink RX2 119 yX2_setThereAtStart, Cond.instanceMethod yX2_setThereAtStart, Cond.selects RX2 yX2_setThereAtStart yX2_setThereAtStart, Cond.code yX2_setThereAtStart cX2_setThereAtStart 3 none, Cond.fieldLink RX2 30 "CodeMover$Sets" "thereAtEnd" "[I"]
def wsX3_there_r4 : List Cond := [Cond.methodLink RX2 122 yX2_shrinkThere, Cond.instanceMethod yX2_shrinkThere, Cond.selects RX2 yX2_shrinkThere yX2_shrinkThere, Cond.code yX2_shrinkThere cX2_shrinkThere 5 (some .boolean), Cond.methodLink RX2 72 yX2_findEarliest, Cond.instanceMethod yX2_findEarliest, Cond.selects RX2 yX2_findEarliest yX2_findEarliest, Cond.code yX2_findEarliest cX2_findEarliest 4 none, Cond.fieldLink RX2 39 "CodeMover$Sets" "earliestOnEdge" "[I", Cond.methodLink RX2 75 yX2_findDelayed, Cond.instanceMethod yX2_findDelayed, Cond.selects RX2 yX2_findDelayed yX2_findDelayed, Cond.code yX2_findDelayed cX2_findDelayed 3 none, Cond.fieldLink RX2 33 "CodeMover$Sets" "delayedAtStart" "[I", Cond.fieldLink RX2 42 "CodeMover$Sets" "delayedOnEdge" "[I", Cond.methodLink RX2 125 yX2_shrinkDelayed, Cond.instanceMethod yX2_shrinkDelayed, Cond.selects RX2 yX2_shrinkDelayed yX2_shrinkDelayed, Cond.code yX2_shrinkDelayed cX2_shrinkDelayed 5 (some .boolean), Cond.methodLink RX2 128 yX2_findDelayedOnEdge, Cond.instanceMethod yX2_findDelayedOnEdge, Cond.selects RX2 yX2_findDelayedOnEdge yX2_findDelayedOnEdge, Cond.code yX2_findDelayedOnEdge cX2_findDelayedOnEdge 3 (some .int), Cond.methodLink RX2 78 yX2_findInsertionsAndDeletions]
def wsX3_there_r5 : List Cond := [Cond.instanceMethod yX2_findInsertionsAndDeletions, Cond.selects RX2 yX2_findInsertionsAndDeletions yX2_findInsertionsAndDeletions, Cond.code yX2_findInsertionsAndDeletions cX2_findInsertionsAndDeletions 2 none, Cond.fieldLink RX2 45 "CodeMover$Sets" "insertedOnEdge" "[I", Cond.fieldLink RX2 36 "CodeMover$Sets" "deletedInBlock" "[I"]
def wsX3_there : List Cond := .code yX3_there cX3_there 3 (some .int) :: ((wsX3_there_r1 ++ (wsX3_there_r2 ++ (wsX3_there_r3 ++ (wsX3_there_r4 ++ wsX3_there_r5)))) ++ wsX30 ++ wsX20 ++ wsX10 ++ (vx_atS RX3 102 "java/lang/IndexOutOfBoundsException" ["java/lang/RuntimeException", "java/lang/Exception"]).filter goodWord)
def wsX3_earliest_r1 : List Cond := [Cond.fieldLink RX3 21 "CodeMover" "sets" "LCodeMover$Sets;", Cond.fieldLink RX3 146 "CodeMover$Sets" "earliestOnEdge" "[I", Cond.methodLink RX3 116 yX3_requireEdge, Cond.instanceMethod yX3_requireEdge, Cond.selects RX3 yX3_requireEdge yX3_requireEdge, Cond.initialized RX3, Cond.code yX3_requireEdge cX3_requireEdge 2 none, Cond.classLink RX3 98 "java/lang/IndexOutOfBoundsException", Cond.initialized "java/lang/IndexOutOfBoundsException", Cond.fieldLink RX3 10 "CodeMover" "program" "LCodeMover$Program;", Cond.fieldLink RX3 79 "CodeMover$Program" "edges" "I", Cond.methodLink RX3 122 yX2_bringUpToDate, Cond.instanceMethod yX2_bringUpToDate, Cond.selects RX2 yX2_bringUpToDate yX2_bringUpToDate, Cond.initialized RX2, Cond.code yX2_bringUpToDate cX2_bringUpToDate 2 none, Cond.fieldLink RX2 48 "CodeMover$Sets" "program" "LCodeMover$Program;", Cond.fieldLink RX2 52 "CodeMover$Program" "changed" "Z", Cond.fieldLink RX2 58 "CodeMover$Program" "blocks" "I", Cond.methodLink RX2 62 yX2_findSetsOfBlock, Cond.instanceMethod yX2_findSetsOfBlock, Cond.selects RX2 yX2_findSetsOfBlock yX2_findSetsOfBlock, Cond.code yX2_findSetsOfBlock cX2_findSetsOfBlock 9 none, Cond.fieldLink RX2 84 "CodeMover$Program" "sizes" "[I"]
def wsX3_earliest_r2 : List Cond := [Cond.fieldLink RX2 91 "CodeMover$Program" "dependents" "[I", Cond.fieldLink RX2 9 "CodeMover$Sets" "keptIn" "[I", Cond.fieldLink RX2 15 "CodeMover$Sets" "earlyIn" "[I", Cond.fieldLink RX2 18 "CodeMover$Sets" "lateIn" "[I", Cond.methodLink RX2 87 yX1_codeAt, Cond.instanceMethod yX1_codeAt, Cond.selects RX1 yX1_codeAt yX1_codeAt, Cond.initialized RX1, Cond.code yX1_codeAt cX1_codeAt 3 (some .int), Cond.fieldLink RX1 28 "CodeMover$Program" "codes" "[I", Cond.methodLink RX2 94 yX1_allExpressions, Cond.instanceMethod yX1_allExpressions, Cond.selects RX1 yX1_allExpressions yX1_allExpressions, Cond.code yX1_allExpressions cX1_allExpressions 1 (some .int), Cond.fieldLink RX1 9 "CodeMover$Program" "expressions" "I", Cond.methodLink RX2 66 yX2_findNeeded, Cond.instanceMethod yX2_findNeeded, Cond.selects RX2 yX2_findNeeded yX2_findNeeded, Cond.code yX2_findNeeded cX2_findNeeded 3 none, Cond.fieldLink RX2 98 "CodeMover$Program" "firstExit" "[I", Cond.methodLink RX2 101 yX2_setNeededAtEnd, Cond.instanceMethod yX2_setNeededAtEnd, Cond.selects RX2 yX2_setNeededAtEnd yX2_setNeededAtEnd, Cond.code yX2_setNeededAtEnd cX2_setNeededAtEnd 3 none]
def wsX3_earliest_r3 : List Cond := [Cond.fieldLink RX2 24 "CodeMover$Sets" "neededAtEnd" "[I", Cond.fieldLink RX2 21 "CodeMover$Sets" "neededAtStart" "[I", Cond.methodLink RX2 105 yX2_shrinkNeeded, Cond.instanceMethod yX2_shrinkNeeded, Cond.selects RX2 yX2_shrinkNeeded yX2_shrinkNeeded, Cond.code yX2_shrinkNeeded cX2_shrinkNeeded 5 (some .boolean), Cond.fieldLink RX2 81 "CodeMover$Program" "edges" "I", Cond.fieldLink RX2 109 "CodeMover$Program" "from" "[I", Cond.fieldLink RX2 112 "CodeMover$Program" "to" "[I", Cond.methodLink RX2 69 yX2_findThere, Cond.instanceMethod yX2_findThere, Cond.selects RX2 yX2_findThere yX2_findThere, Cond.code yX2_findThere cX2_findThere 3 none, Cond.fieldLink RX2 27 "CodeMover$Sets" "thereAtStart" "[I", Cond.methodLink RX2 115 yX2_fillWhereEdgesLead, Cond.instanceMethod yX2_fillWhereEdgesLead, Cond.selects RX2 yX2_fillWhereEdgesLead yX2_fillWhereEdgesLead, Cond.code yX2_fillWhereEdgesLead cX2_fillWhereEdgesLead 3 none, Cond.methodLink RX2 119 yX2_setThereAtStart, Cond.instanceMethod yX2_setThereAtStart, Cond.selects RX2 yX2_setThereAtStart yX2_setThereAtStart, Cond.code yX2_setThereAtStart cX2_setThereAtStart 3 none, Cond.fieldLink RX2 30 "CodeMover$Sets" "thereAtEnd" "[I", Cond.methodLink RX2 122 yX2_shrinkThere]
def wsX3_earliest_r4 : List Cond := [Cond.instanceMethod yX2_shrinkThere, Cond.selects RX2 yX2_shrinkThere yX2_shrinkThere, Cond.code yX2_shrinkThere cX2_shrinkThere 5 (some .boolean), Cond.methodLink RX2 72 yX2_findEarliest, Cond.instanceMethod yX2_findEarliest, Cond.selects RX2 yX2_findEarliest yX2_findEarliest, Cond.code yX2_findEarliest cX2_findEarliest 4 none, Cond.fieldLink RX2 39 "CodeMover$Sets" "earliestOnEdge" "[I", Cond.methodLink RX2 75 yX2_findDelayed, Cond.instanceMethod yX2_findDelayed, Cond.selects RX2 yX2_findDelayed yX2_findDelayed, Cond.code yX2_findDelayed cX2_findDelayed 3 none, Cond.fieldLink RX2 33 "CodeMover$Sets" "delayedAtStart" "[I", Cond.fieldLink RX2 42 "CodeMover$Sets" "delayedOnEdge" "[I", Cond.methodLink RX2 125 yX2_shrinkDelayed, Cond.instanceMethod yX2_shrinkDelayed, Cond.selects RX2 yX2_shrinkDelayed yX2_shrinkDelayed, Cond.code yX2_shrinkDelayed cX2_shrinkDelayed 5 (some .boolean), Cond.methodLink RX2 128 yX2_findDelayedOnEdge, Cond.instanceMethod yX2_findDelayedOnEdge, Cond.selects RX2 yX2_findDelayedOnEdge yX2_findDelayedOnEdge, Cond.code yX2_findDelayedOnEdge cX2_findDelayedOnEdge 3 (some .int), Cond.methodLink RX2 78 yX2_findInsertionsAndDeletions, Cond.instanceMethod yX2_findInsertionsAndDeletions]
def wsX3_earliest_r5 : List Cond := [Cond.selects RX2 yX2_findInsertionsAndDeletions yX2_findInsertionsAndDeletions, Cond.code yX2_findInsertionsAndDeletions cX2_findInsertionsAndDeletions 2 none, Cond.fieldLink RX2 45 "CodeMover$Sets" "insertedOnEdge" "[I", Cond.fieldLink RX2 36 "CodeMover$Sets" "deletedInBlock" "[I"]
def wsX3_earliest : List Cond := .code yX3_earliest cX3_earliest 2 (some .int) :: ((wsX3_earliest_r1 ++ (wsX3_earliest_r2 ++ (wsX3_earliest_r3 ++ (wsX3_earliest_r4 ++ wsX3_earliest_r5)))) ++ wsX30 ++ wsX20 ++ wsX10 ++ (vx_atS RX3 102 "java/lang/IndexOutOfBoundsException" ["java/lang/RuntimeException", "java/lang/Exception"]).filter goodWord)
def wsX3_delayedOn_r1 : List Cond := [Cond.fieldLink RX3 21 "CodeMover" "sets" "LCodeMover$Sets;", Cond.fieldLink RX3 149 "CodeMover$Sets" "delayedOnEdge" "[I", Cond.methodLink RX3 116 yX3_requireEdge, Cond.instanceMethod yX3_requireEdge, Cond.selects RX3 yX3_requireEdge yX3_requireEdge, Cond.initialized RX3, Cond.code yX3_requireEdge cX3_requireEdge 2 none, Cond.classLink RX3 98 "java/lang/IndexOutOfBoundsException", Cond.initialized "java/lang/IndexOutOfBoundsException", Cond.fieldLink RX3 10 "CodeMover" "program" "LCodeMover$Program;", Cond.fieldLink RX3 79 "CodeMover$Program" "edges" "I", Cond.methodLink RX3 122 yX2_bringUpToDate, Cond.instanceMethod yX2_bringUpToDate, Cond.selects RX2 yX2_bringUpToDate yX2_bringUpToDate, Cond.initialized RX2, Cond.code yX2_bringUpToDate cX2_bringUpToDate 2 none, Cond.fieldLink RX2 48 "CodeMover$Sets" "program" "LCodeMover$Program;", Cond.fieldLink RX2 52 "CodeMover$Program" "changed" "Z", Cond.fieldLink RX2 58 "CodeMover$Program" "blocks" "I", Cond.methodLink RX2 62 yX2_findSetsOfBlock, Cond.instanceMethod yX2_findSetsOfBlock, Cond.selects RX2 yX2_findSetsOfBlock yX2_findSetsOfBlock, Cond.code yX2_findSetsOfBlock cX2_findSetsOfBlock 9 none, Cond.fieldLink RX2 84 "CodeMover$Program" "sizes" "[I"]
def wsX3_delayedOn_r2 : List Cond := [Cond.fieldLink RX2 91 "CodeMover$Program" "dependents" "[I", Cond.fieldLink RX2 9 "CodeMover$Sets" "keptIn" "[I", Cond.fieldLink RX2 15 "CodeMover$Sets" "earlyIn" "[I", Cond.fieldLink RX2 18 "CodeMover$Sets" "lateIn" "[I", Cond.methodLink RX2 87 yX1_codeAt, Cond.instanceMethod yX1_codeAt, Cond.selects RX1 yX1_codeAt yX1_codeAt, Cond.initialized RX1, Cond.code yX1_codeAt cX1_codeAt 3 (some .int), Cond.fieldLink RX1 28 "CodeMover$Program" "codes" "[I", Cond.methodLink RX2 94 yX1_allExpressions, Cond.instanceMethod yX1_allExpressions, Cond.selects RX1 yX1_allExpressions yX1_allExpressions, Cond.code yX1_allExpressions cX1_allExpressions 1 (some .int), Cond.fieldLink RX1 9 "CodeMover$Program" "expressions" "I", Cond.methodLink RX2 66 yX2_findNeeded, Cond.instanceMethod yX2_findNeeded, Cond.selects RX2 yX2_findNeeded yX2_findNeeded, Cond.code yX2_findNeeded cX2_findNeeded 3 none, Cond.fieldLink RX2 98 "CodeMover$Program" "firstExit" "[I", Cond.methodLink RX2 101 yX2_setNeededAtEnd, Cond.instanceMethod yX2_setNeededAtEnd, Cond.selects RX2 yX2_setNeededAtEnd yX2_setNeededAtEnd, Cond.code yX2_setNeededAtEnd cX2_setNeededAtEnd 3 none]
def wsX3_delayedOn_r3 : List Cond := [Cond.fieldLink RX2 24 "CodeMover$Sets" "neededAtEnd" "[I", Cond.fieldLink RX2 21 "CodeMover$Sets" "neededAtStart" "[I", Cond.methodLink RX2 105 yX2_shrinkNeeded, Cond.instanceMethod yX2_shrinkNeeded, Cond.selects RX2 yX2_shrinkNeeded yX2_shrinkNeeded, Cond.code yX2_shrinkNeeded cX2_shrinkNeeded 5 (some .boolean), Cond.fieldLink RX2 81 "CodeMover$Program" "edges" "I", Cond.fieldLink RX2 109 "CodeMover$Program" "from" "[I", Cond.fieldLink RX2 112 "CodeMover$Program" "to" "[I", Cond.methodLink RX2 69 yX2_findThere, Cond.instanceMethod yX2_findThere, Cond.selects RX2 yX2_findThere yX2_findThere, Cond.code yX2_findThere cX2_findThere 3 none, Cond.fieldLink RX2 27 "CodeMover$Sets" "thereAtStart" "[I", Cond.methodLink RX2 115 yX2_fillWhereEdgesLead, Cond.instanceMethod yX2_fillWhereEdgesLead, Cond.selects RX2 yX2_fillWhereEdgesLead yX2_fillWhereEdgesLead, Cond.code yX2_fillWhereEdgesLead cX2_fillWhereEdgesLead 3 none, Cond.methodLink RX2 119 yX2_setThereAtStart, Cond.instanceMethod yX2_setThereAtStart, Cond.selects RX2 yX2_setThereAtStart yX2_setThereAtStart, Cond.code yX2_setThereAtStart cX2_setThereAtStart 3 none, Cond.fieldLink RX2 30 "CodeMover$Sets" "thereAtEnd" "[I", Cond.methodLink RX2 122 yX2_shrinkThere]
def wsX3_delayedOn_r4 : List Cond := [Cond.instanceMethod yX2_shrinkThere, Cond.selects RX2 yX2_shrinkThere yX2_shrinkThere, Cond.code yX2_shrinkThere cX2_shrinkThere 5 (some .boolean), Cond.methodLink RX2 72 yX2_findEarliest, Cond.instanceMethod yX2_findEarliest, Cond.selects RX2 yX2_findEarliest yX2_findEarliest, Cond.code yX2_findEarliest cX2_findEarliest 4 none, Cond.fieldLink RX2 39 "CodeMover$Sets" "earliestOnEdge" "[I", Cond.methodLink RX2 75 yX2_findDelayed, Cond.instanceMethod yX2_findDelayed, Cond.selects RX2 yX2_findDelayed yX2_findDelayed, Cond.code yX2_findDelayed cX2_findDelayed 3 none, Cond.fieldLink RX2 33 "CodeMover$Sets" "delayedAtStart" "[I", Cond.fieldLink RX2 42 "CodeMover$Sets" "delayedOnEdge" "[I", Cond.methodLink RX2 125 yX2_shrinkDelayed, Cond.instanceMethod yX2_shrinkDelayed, Cond.selects RX2 yX2_shrinkDelayed yX2_shrinkDelayed, Cond.code yX2_shrinkDelayed cX2_shrinkDelayed 5 (some .boolean), Cond.methodLink RX2 128 yX2_findDelayedOnEdge, Cond.instanceMethod yX2_findDelayedOnEdge, Cond.selects RX2 yX2_findDelayedOnEdge yX2_findDelayedOnEdge, Cond.code yX2_findDelayedOnEdge cX2_findDelayedOnEdge 3 (some .int), Cond.methodLink RX2 78 yX2_findInsertionsAndDeletions, Cond.instanceMethod yX2_findInsertionsAndDeletions]
def wsX3_delayedOn_r5 : List Cond := [Cond.selects RX2 yX2_findInsertionsAndDeletions yX2_findInsertionsAndDeletions, Cond.code yX2_findInsertionsAndDeletions cX2_findInsertionsAndDeletions 2 none, Cond.fieldLink RX2 45 "CodeMover$Sets" "insertedOnEdge" "[I", Cond.fieldLink RX2 36 "CodeMover$Sets" "deletedInBlock" "[I"]
def wsX3_delayedOn : List Cond := .code yX3_delayedOn cX3_delayedOn 2 (some .int) :: ((wsX3_delayedOn_r1 ++ (wsX3_delayedOn_r2 ++ (wsX3_delayedOn_r3 ++ (wsX3_delayedOn_r4 ++ wsX3_delayedOn_r5)))) ++ wsX30 ++ wsX20 ++ wsX10 ++ (vx_atS RX3 102 "java/lang/IndexOutOfBoundsException" ["java/lang/RuntimeException", "java/lang/Exception"]).filter goodWord)
def wsX3_delayedAt_r1 : List Cond := [Cond.fieldLink RX3 21 "CodeMover" "sets" "LCodeMover$Sets;", Cond.fieldLink RX3 152 "CodeMover$Sets" "delayedAtStart" "[I", Cond.methodLink RX3 61 yX3_requireBlock, Cond.instanceMethod yX3_requireBlock, Cond.selects RX3 yX3_requireBlock yX3_requireBlock, Cond.initialized RX3, Cond.code yX3_requireBlock cX3_requireBlock 2 none, Cond.classLink RX3 98 "java/lang/IndexOutOfBoundsException", Cond.initialized "java/lang/IndexOutOfBoundsException", Cond.fieldLink RX3 10 "CodeMover" "program" "LCodeMover$Program;", Cond.fieldLink RX3 52 "CodeMover$Program" "blocks" "I", Cond.methodLink RX3 122 yX2_bringUpToDate, Cond.instanceMethod yX2_bringUpToDate, Cond.selects RX2 yX2_bringUpToDate yX2_bringUpToDate, Cond.initialized RX2, Cond.code yX2_bringUpToDate cX2_bringUpToDate 2 none, Cond.fieldLink RX2 48 "CodeMover$Sets" "program" "LCodeMover$Program;", Cond.fieldLink RX2 52 "CodeMover$Program" "changed" "Z", Cond.fieldLink RX2 58 "CodeMover$Program" "blocks" "I", Cond.methodLink RX2 62 yX2_findSetsOfBlock, Cond.instanceMethod yX2_findSetsOfBlock, Cond.selects RX2 yX2_findSetsOfBlock yX2_findSetsOfBlock, Cond.code yX2_findSetsOfBlock cX2_findSetsOfBlock 9 none, Cond.fieldLink RX2 84 "CodeMover$Program" "sizes" "[I"]
def wsX3_delayedAt_r2 : List Cond := [Cond.fieldLink RX2 91 "CodeMover$Program" "dependents" "[I", Cond.fieldLink RX2 9 "CodeMover$Sets" "keptIn" "[I", Cond.fieldLink RX2 15 "CodeMover$Sets" "earlyIn" "[I", Cond.fieldLink RX2 18 "CodeMover$Sets" "lateIn" "[I", Cond.methodLink RX2 87 yX1_codeAt, Cond.instanceMethod yX1_codeAt, Cond.selects RX1 yX1_codeAt yX1_codeAt, Cond.initialized RX1, Cond.code yX1_codeAt cX1_codeAt 3 (some .int), Cond.fieldLink RX1 28 "CodeMover$Program" "codes" "[I", Cond.methodLink RX2 94 yX1_allExpressions, Cond.instanceMethod yX1_allExpressions, Cond.selects RX1 yX1_allExpressions yX1_allExpressions, Cond.code yX1_allExpressions cX1_allExpressions 1 (some .int), Cond.fieldLink RX1 9 "CodeMover$Program" "expressions" "I", Cond.methodLink RX2 66 yX2_findNeeded, Cond.instanceMethod yX2_findNeeded, Cond.selects RX2 yX2_findNeeded yX2_findNeeded, Cond.code yX2_findNeeded cX2_findNeeded 3 none, Cond.fieldLink RX2 98 "CodeMover$Program" "firstExit" "[I", Cond.methodLink RX2 101 yX2_setNeededAtEnd, Cond.instanceMethod yX2_setNeededAtEnd, Cond.selects RX2 yX2_setNeededAtEnd yX2_setNeededAtEnd, Cond.code yX2_setNeededAtEnd cX2_setNeededAtEnd 3 none]
def wsX3_delayedAt_r3 : List Cond := [Cond.fieldLink RX2 24 "CodeMover$Sets" "neededAtEnd" "[I", Cond.fieldLink RX2 21 "CodeMover$Sets" "neededAtStart" "[I", Cond.methodLink RX2 105 yX2_shrinkNeeded, Cond.instanceMethod yX2_shrinkNeeded, Cond.selects RX2 yX2_shrinkNeeded yX2_shrinkNeeded, Cond.code yX2_shrinkNeeded cX2_shrinkNeeded 5 (some .boolean), Cond.fieldLink RX2 81 "CodeMover$Program" "edges" "I", Cond.fieldLink RX2 109 "CodeMover$Program" "from" "[I", Cond.fieldLink RX2 112 "CodeMover$Program" "to" "[I", Cond.methodLink RX2 69 yX2_findThere, Cond.instanceMethod yX2_findThere, Cond.selects RX2 yX2_findThere yX2_findThere, Cond.code yX2_findThere cX2_findThere 3 none, Cond.fieldLink RX2 27 "CodeMover$Sets" "thereAtStart" "[I", Cond.methodLink RX2 115 yX2_fillWhereEdgesLead, Cond.instanceMethod yX2_fillWhereEdgesLead, Cond.selects RX2 yX2_fillWhereEdgesLead yX2_fillWhereEdgesLead, Cond.code yX2_fillWhereEdgesLead cX2_fillWhereEdgesLead 3 none, Cond.methodLink RX2 119 yX2_setThereAtStart, Cond.instanceMethod yX2_setThereAtStart, Cond.selects RX2 yX2_setThereAtStart yX2_setThereAtStart, Cond.code yX2_setThereAtStart cX2_setThereAtStart 3 none, Cond.fieldLink RX2 30 "CodeMover$Sets" "thereAtEnd" "[I", Cond.methodLink RX2 122 yX2_shrinkThere]
def wsX3_delayedAt_r4 : List Cond := [Cond.instanceMethod yX2_shrinkThere, Cond.selects RX2 yX2_shrinkThere yX2_shrinkThere, Cond.code yX2_shrinkThere cX2_shrinkThere 5 (some .boolean), Cond.methodLink RX2 72 yX2_findEarliest, Cond.instanceMethod yX2_findEarliest, Cond.selects RX2 yX2_findEarliest yX2_findEarliest, Cond.code yX2_findEarliest cX2_findEarliest 4 none, Cond.fieldLink RX2 39 "CodeMover$Sets" "earliestOnEdge" "[I", Cond.methodLink RX2 75 yX2_findDelayed, Cond.instanceMethod yX2_findDelayed, Cond.selects RX2 yX2_findDelayed yX2_findDelayed, Cond.code yX2_findDelayed cX2_findDelayed 3 none, Cond.fieldLink RX2 33 "CodeMover$Sets" "delayedAtStart" "[I", Cond.fieldLink RX2 42 "CodeMover$Sets" "delayedOnEdge" "[I", Cond.methodLink RX2 125 yX2_shrinkDelayed, Cond.instanceMethod yX2_shrinkDelayed, Cond.selects RX2 yX2_shrinkDelayed yX2_shrinkDelayed, Cond.code yX2_shrinkDelayed cX2_shrinkDelayed 5 (some .boolean), Cond.methodLink RX2 128 yX2_findDelayedOnEdge, Cond.instanceMethod yX2_findDelayedOnEdge, Cond.selects RX2 yX2_findDelayedOnEdge yX2_findDelayedOnEdge, Cond.code yX2_findDelayedOnEdge cX2_findDelayedOnEdge 3 (some .int), Cond.methodLink RX2 78 yX2_findInsertionsAndDeletions, Cond.instanceMethod yX2_findInsertionsAndDeletions]
def wsX3_delayedAt_r5 : List Cond := [Cond.selects RX2 yX2_findInsertionsAndDeletions yX2_findInsertionsAndDeletions, Cond.code yX2_findInsertionsAndDeletions cX2_findInsertionsAndDeletions 2 none, Cond.fieldLink RX2 45 "CodeMover$Sets" "insertedOnEdge" "[I", Cond.fieldLink RX2 36 "CodeMover$Sets" "deletedInBlock" "[I"]
def wsX3_delayedAt : List Cond := .code yX3_delayedAt cX3_delayedAt 2 (some .int) :: ((wsX3_delayedAt_r1 ++ (wsX3_delayedAt_r2 ++ (wsX3_delayedAt_r3 ++ (wsX3_delayedAt_r4 ++ wsX3_delayedAt_r5)))) ++ wsX30 ++ wsX20 ++ wsX10 ++ (vx_atS RX3 102 "java/lang/IndexOutOfBoundsException" ["java/lang/RuntimeException", "java/lang/Exception"]).filter goodWord)
def wsX3_insertions_r1 : List Cond := [Cond.fieldLink RX3 21 "CodeMover" "sets" "LCodeMover$Sets;", Cond.fieldLink RX3 155 "CodeMover$Sets" "insertedOnEdge" "[I", Cond.methodLink RX3 116 yX3_requireEdge, Cond.instanceMethod yX3_requireEdge, Cond.selects RX3 yX3_requireEdge yX3_requireEdge, Cond.initialized RX3, Cond.code yX3_requireEdge cX3_requireEdge 2 none, Cond.classLink RX3 98 "java/lang/IndexOutOfBoundsException", Cond.initialized "java/lang/IndexOutOfBoundsException", Cond.fieldLink RX3 10 "CodeMover" "program" "LCodeMover$Program;", Cond.fieldLink RX3 79 "CodeMover$Program" "edges" "I", Cond.methodLink RX3 122 yX2_bringUpToDate, Cond.instanceMethod yX2_bringUpToDate, Cond.selects RX2 yX2_bringUpToDate yX2_bringUpToDate, Cond.initialized RX2, Cond.code yX2_bringUpToDate cX2_bringUpToDate 2 none, Cond.fieldLink RX2 48 "CodeMover$Sets" "program" "LCodeMover$Program;", Cond.fieldLink RX2 52 "CodeMover$Program" "changed" "Z", Cond.fieldLink RX2 58 "CodeMover$Program" "blocks" "I", Cond.methodLink RX2 62 yX2_findSetsOfBlock, Cond.instanceMethod yX2_findSetsOfBlock, Cond.selects RX2 yX2_findSetsOfBlock yX2_findSetsOfBlock, Cond.code yX2_findSetsOfBlock cX2_findSetsOfBlock 9 none, Cond.fieldLink RX2 84 "CodeMover$Program" "sizes" "[I"]
def wsX3_insertions_r2 : List Cond := [Cond.fieldLink RX2 91 "CodeMover$Program" "dependents" "[I", Cond.fieldLink RX2 9 "CodeMover$Sets" "keptIn" "[I", Cond.fieldLink RX2 15 "CodeMover$Sets" "earlyIn" "[I", Cond.fieldLink RX2 18 "CodeMover$Sets" "lateIn" "[I", Cond.methodLink RX2 87 yX1_codeAt, Cond.instanceMethod yX1_codeAt, Cond.selects RX1 yX1_codeAt yX1_codeAt, Cond.initialized RX1, Cond.code yX1_codeAt cX1_codeAt 3 (some .int), Cond.fieldLink RX1 28 "CodeMover$Program" "codes" "[I", Cond.methodLink RX2 94 yX1_allExpressions, Cond.instanceMethod yX1_allExpressions, Cond.selects RX1 yX1_allExpressions yX1_allExpressions, Cond.code yX1_allExpressions cX1_allExpressions 1 (some .int), Cond.fieldLink RX1 9 "CodeMover$Program" "expressions" "I", Cond.methodLink RX2 66 yX2_findNeeded, Cond.instanceMethod yX2_findNeeded, Cond.selects RX2 yX2_findNeeded yX2_findNeeded, Cond.code yX2_findNeeded cX2_findNeeded 3 none, Cond.fieldLink RX2 98 "CodeMover$Program" "firstExit" "[I", Cond.methodLink RX2 101 yX2_setNeededAtEnd, Cond.instanceMethod yX2_setNeededAtEnd, Cond.selects RX2 yX2_setNeededAtEnd yX2_setNeededAtEnd, Cond.code yX2_setNeededAtEnd cX2_setNeededAtEnd 3 none]
def wsX3_insertions_r3 : List Cond := [Cond.fieldLink RX2 24 "CodeMover$Sets" "neededAtEnd" "[I", Cond.fieldLink RX2 21 "CodeMover$Sets" "neededAtStart" "[I", Cond.methodLink RX2 105 yX2_shrinkNeeded, Cond.instanceMethod yX2_shrinkNeeded, Cond.selects RX2 yX2_shrinkNeeded yX2_shrinkNeeded, Cond.code yX2_shrinkNeeded cX2_shrinkNeeded 5 (some .boolean), Cond.fieldLink RX2 81 "CodeMover$Program" "edges" "I", Cond.fieldLink RX2 109 "CodeMover$Program" "from" "[I", Cond.fieldLink RX2 112 "CodeMover$Program" "to" "[I", Cond.methodLink RX2 69 yX2_findThere, Cond.instanceMethod yX2_findThere, Cond.selects RX2 yX2_findThere yX2_findThere, Cond.code yX2_findThere cX2_findThere 3 none, Cond.fieldLink RX2 27 "CodeMover$Sets" "thereAtStart" "[I", Cond.methodLink RX2 115 yX2_fillWhereEdgesLead, Cond.instanceMethod yX2_fillWhereEdgesLead, Cond.selects RX2 yX2_fillWhereEdgesLead yX2_fillWhereEdgesLead, Cond.code yX2_fillWhereEdgesLead cX2_fillWhereEdgesLead 3 none, Cond.methodLink RX2 119 yX2_setThereAtStart, Cond.instanceMethod yX2_setThereAtStart, Cond.selects RX2 yX2_setThereAtStart yX2_setThereAtStart, Cond.code yX2_setThereAtStart cX2_setThereAtStart 3 none, Cond.fieldLink RX2 30 "CodeMover$Sets" "thereAtEnd" "[I", Cond.methodLink RX2 122 yX2_shrinkThere]
def wsX3_insertions_r4 : List Cond := [Cond.instanceMethod yX2_shrinkThere, Cond.selects RX2 yX2_shrinkThere yX2_shrinkThere, Cond.code yX2_shrinkThere cX2_shrinkThere 5 (some .boolean), Cond.methodLink RX2 72 yX2_findEarliest, Cond.instanceMethod yX2_findEarliest, Cond.selects RX2 yX2_findEarliest yX2_findEarliest, Cond.code yX2_findEarliest cX2_findEarliest 4 none, Cond.fieldLink RX2 39 "CodeMover$Sets" "earliestOnEdge" "[I", Cond.methodLink RX2 75 yX2_findDelayed, Cond.instanceMethod yX2_findDelayed, Cond.selects RX2 yX2_findDelayed yX2_findDelayed, Cond.code yX2_findDelayed cX2_findDelayed 3 none, Cond.fieldLink RX2 33 "CodeMover$Sets" "delayedAtStart" "[I", Cond.fieldLink RX2 42 "CodeMover$Sets" "delayedOnEdge" "[I", Cond.methodLink RX2 125 yX2_shrinkDelayed, Cond.instanceMethod yX2_shrinkDelayed, Cond.selects RX2 yX2_shrinkDelayed yX2_shrinkDelayed, Cond.code yX2_shrinkDelayed cX2_shrinkDelayed 5 (some .boolean), Cond.methodLink RX2 128 yX2_findDelayedOnEdge, Cond.instanceMethod yX2_findDelayedOnEdge, Cond.selects RX2 yX2_findDelayedOnEdge yX2_findDelayedOnEdge, Cond.code yX2_findDelayedOnEdge cX2_findDelayedOnEdge 3 (some .int), Cond.methodLink RX2 78 yX2_findInsertionsAndDeletions, Cond.instanceMethod yX2_findInsertionsAndDeletions]
def wsX3_insertions_r5 : List Cond := [Cond.selects RX2 yX2_findInsertionsAndDeletions yX2_findInsertionsAndDeletions, Cond.code yX2_findInsertionsAndDeletions cX2_findInsertionsAndDeletions 2 none, Cond.fieldLink RX2 45 "CodeMover$Sets" "insertedOnEdge" "[I", Cond.fieldLink RX2 36 "CodeMover$Sets" "deletedInBlock" "[I"]
def wsX3_insertions : List Cond := .code yX3_insertions cX3_insertions 2 (some .int) :: ((wsX3_insertions_r1 ++ (wsX3_insertions_r2 ++ (wsX3_insertions_r3 ++ (wsX3_insertions_r4 ++ wsX3_insertions_r5)))) ++ wsX30 ++ wsX20 ++ wsX10 ++ (vx_atS RX3 102 "java/lang/IndexOutOfBoundsException" ["java/lang/RuntimeException", "java/lang/Exception"]).filter goodWord)
def wsX3_deletions_r1 : List Cond := [Cond.fieldLink RX3 21 "CodeMover" "sets" "LCodeMover$Sets;", Cond.fieldLink RX3 158 "CodeMover$Sets" "deletedInBlock" "[I", Cond.methodLink RX3 61 yX3_requireBlock, Cond.instanceMethod yX3_requireBlock, Cond.selects RX3 yX3_requireBlock yX3_requireBlock, Cond.initialized RX3, Cond.code yX3_requireBlock cX3_requireBlock 2 none, Cond.classLink RX3 98 "java/lang/IndexOutOfBoundsException", Cond.initialized "java/lang/IndexOutOfBoundsException", Cond.fieldLink RX3 10 "CodeMover" "program" "LCodeMover$Program;", Cond.fieldLink RX3 52 "CodeMover$Program" "blocks" "I", Cond.methodLink RX3 122 yX2_bringUpToDate, Cond.instanceMethod yX2_bringUpToDate, Cond.selects RX2 yX2_bringUpToDate yX2_bringUpToDate, Cond.initialized RX2, Cond.code yX2_bringUpToDate cX2_bringUpToDate 2 none, Cond.fieldLink RX2 48 "CodeMover$Sets" "program" "LCodeMover$Program;", Cond.fieldLink RX2 52 "CodeMover$Program" "changed" "Z", Cond.fieldLink RX2 58 "CodeMover$Program" "blocks" "I", Cond.methodLink RX2 62 yX2_findSetsOfBlock, Cond.instanceMethod yX2_findSetsOfBlock, Cond.selects RX2 yX2_findSetsOfBlock yX2_findSetsOfBlock, Cond.code yX2_findSetsOfBlock cX2_findSetsOfBlock 9 none, Cond.fieldLink RX2 84 "CodeMover$Program" "sizes" "[I"]
def wsX3_deletions_r2 : List Cond := [Cond.fieldLink RX2 91 "CodeMover$Program" "dependents" "[I", Cond.fieldLink RX2 9 "CodeMover$Sets" "keptIn" "[I", Cond.fieldLink RX2 15 "CodeMover$Sets" "earlyIn" "[I", Cond.fieldLink RX2 18 "CodeMover$Sets" "lateIn" "[I", Cond.methodLink RX2 87 yX1_codeAt, Cond.instanceMethod yX1_codeAt, Cond.selects RX1 yX1_codeAt yX1_codeAt, Cond.initialized RX1, Cond.code yX1_codeAt cX1_codeAt 3 (some .int), Cond.fieldLink RX1 28 "CodeMover$Program" "codes" "[I", Cond.methodLink RX2 94 yX1_allExpressions, Cond.instanceMethod yX1_allExpressions, Cond.selects RX1 yX1_allExpressions yX1_allExpressions, Cond.code yX1_allExpressions cX1_allExpressions 1 (some .int), Cond.fieldLink RX1 9 "CodeMover$Program" "expressions" "I", Cond.methodLink RX2 66 yX2_findNeeded, Cond.instanceMethod yX2_findNeeded, Cond.selects RX2 yX2_findNeeded yX2_findNeeded, Cond.code yX2_findNeeded cX2_findNeeded 3 none, Cond.fieldLink RX2 98 "CodeMover$Program" "firstExit" "[I", Cond.methodLink RX2 101 yX2_setNeededAtEnd, Cond.instanceMethod yX2_setNeededAtEnd, Cond.selects RX2 yX2_setNeededAtEnd yX2_setNeededAtEnd, Cond.code yX2_setNeededAtEnd cX2_setNeededAtEnd 3 none]
def wsX3_deletions_r3 : List Cond := [Cond.fieldLink RX2 24 "CodeMover$Sets" "neededAtEnd" "[I", Cond.fieldLink RX2 21 "CodeMover$Sets" "neededAtStart" "[I", Cond.methodLink RX2 105 yX2_shrinkNeeded, Cond.instanceMethod yX2_shrinkNeeded, Cond.selects RX2 yX2_shrinkNeeded yX2_shrinkNeeded, Cond.code yX2_shrinkNeeded cX2_shrinkNeeded 5 (some .boolean), Cond.fieldLink RX2 81 "CodeMover$Program" "edges" "I", Cond.fieldLink RX2 109 "CodeMover$Program" "from" "[I", Cond.fieldLink RX2 112 "CodeMover$Program" "to" "[I", Cond.methodLink RX2 69 yX2_findThere, Cond.instanceMethod yX2_findThere, Cond.selects RX2 yX2_findThere yX2_findThere, Cond.code yX2_findThere cX2_findThere 3 none, Cond.fieldLink RX2 27 "CodeMover$Sets" "thereAtStart" "[I", Cond.methodLink RX2 115 yX2_fillWhereEdgesLead, Cond.instanceMethod yX2_fillWhereEdgesLead, Cond.selects RX2 yX2_fillWhereEdgesLead yX2_fillWhereEdgesLead, Cond.code yX2_fillWhereEdgesLead cX2_fillWhereEdgesLead 3 none, Cond.methodLink RX2 119 yX2_setThereAtStart, Cond.instanceMethod yX2_setThereAtStart, Cond.selects RX2 yX2_setThereAtStart yX2_setThereAtStart, Cond.code yX2_setThereAtStart cX2_setThereAtStart 3 none, Cond.fieldLink RX2 30 "CodeMover$Sets" "thereAtEnd" "[I", Cond.methodLink RX2 122 yX2_shrinkThere]
def wsX3_deletions_r4 : List Cond := [Cond.instanceMethod yX2_shrinkThere, Cond.selects RX2 yX2_shrinkThere yX2_shrinkThere, Cond.code yX2_shrinkThere cX2_shrinkThere 5 (some .boolean), Cond.methodLink RX2 72 yX2_findEarliest, Cond.instanceMethod yX2_findEarliest, Cond.selects RX2 yX2_findEarliest yX2_findEarliest, Cond.code yX2_findEarliest cX2_findEarliest 4 none, Cond.fieldLink RX2 39 "CodeMover$Sets" "earliestOnEdge" "[I", Cond.methodLink RX2 75 yX2_findDelayed, Cond.instanceMethod yX2_findDelayed, Cond.selects RX2 yX2_findDelayed yX2_findDelayed, Cond.code yX2_findDelayed cX2_findDelayed 3 none, Cond.fieldLink RX2 33 "CodeMover$Sets" "delayedAtStart" "[I", Cond.fieldLink RX2 42 "CodeMover$Sets" "delayedOnEdge" "[I", Cond.methodLink RX2 125 yX2_shrinkDelayed, Cond.instanceMethod yX2_shrinkDelayed, Cond.selects RX2 yX2_shrinkDelayed yX2_shrinkDelayed, Cond.code yX2_shrinkDelayed cX2_shrinkDelayed 5 (some .boolean), Cond.methodLink RX2 128 yX2_findDelayedOnEdge, Cond.instanceMethod yX2_findDelayedOnEdge, Cond.selects RX2 yX2_findDelayedOnEdge yX2_findDelayedOnEdge, Cond.code yX2_findDelayedOnEdge cX2_findDelayedOnEdge 3 (some .int), Cond.methodLink RX2 78 yX2_findInsertionsAndDeletions, Cond.instanceMethod yX2_findInsertionsAndDeletions]
def wsX3_deletions_r5 : List Cond := [Cond.selects RX2 yX2_findInsertionsAndDeletions yX2_findInsertionsAndDeletions, Cond.code yX2_findInsertionsAndDeletions cX2_findInsertionsAndDeletions 2 none, Cond.fieldLink RX2 45 "CodeMover$Sets" "insertedOnEdge" "[I", Cond.fieldLink RX2 36 "CodeMover$Sets" "deletedInBlock" "[I"]
def wsX3_deletions : List Cond := .code yX3_deletions cX3_deletions 2 (some .int) :: ((wsX3_deletions_r1 ++ (wsX3_deletions_r2 ++ (wsX3_deletions_r3 ++ (wsX3_deletions_r4 ++ wsX3_deletions_r5)))) ++ wsX30 ++ wsX20 ++ wsX10 ++ (vx_atS RX3 102 "java/lang/IndexOutOfBoundsException" ["java/lang/RuntimeException", "java/lang/Exception"]).filter goodWord)
def wsX3_deleteComputations : List Cond := .code yX3_deleteComputations cX3_deleteComputations 2 none :: ([.fieldLink RX3 10 "CodeMover" "program" "LCodeMover$Program;", .fieldLink RX3 52 "CodeMover$Program" "blocks" "I", .fieldLink RX3 21 "CodeMover" "sets" "LCodeMover$Sets;", .fieldLink RX3 158 "CodeMover$Sets" "deletedInBlock" "[I", .methodLink RX3 206 yX1_turnFirstComputesToUses, .instanceMethod yX1_turnFirstComputesToUses, .selects RX1 yX1_turnFirstComputesToUses yX1_turnFirstComputesToUses, .initialized RX1, .code yX1_turnFirstComputesToUses cX1_turnFirstComputesToUses 7 none, .fieldLink RX1 25 "CodeMover$Program" "sizes" "[I", .fieldLink RX1 28 "CodeMover$Program" "codes" "[I", .fieldLink RX1 46 "CodeMover$Program" "changed" "Z", .methodLink RX1 50 yX1_codeAt, .instanceMethod yX1_codeAt, .selects RX1 yX1_codeAt yX1_codeAt, .code yX1_codeAt cX1_codeAt 3 (some .int)] ++ wsX30 ++ wsX10 ++ wsX20)
def wsX3_insertComputations_r1 : List Cond := [Cond.fieldLink RX3 10 "CodeMover" "program" "LCodeMover$Program;", Cond.fieldLink RX3 79 "CodeMover$Program" "edges" "I", Cond.fieldLink RX3 21 "CodeMover" "sets" "LCodeMover$Sets;", Cond.fieldLink RX3 155 "CodeMover$Sets" "insertedOnEdge" "[I", Cond.methodLink RX3 210 yX1_splitEdge, Cond.instanceMethod yX1_splitEdge, Cond.selects RX1 yX1_splitEdge yX1_splitEdge, Cond.initialized RX1, Cond.code yX1_splitEdge cX1_splitEdge 5 none, Cond.fieldLink RX1 9 "CodeMover$Program" "expressions" "I", Cond.fieldLink RX1 37 "CodeMover$Program" "to" "[I", Cond.methodLink RX1 54 yX1_newBlock, Cond.instanceMethod yX1_newBlock, Cond.selects RX1 yX1_newBlock yX1_newBlock, Cond.code yX1_newBlock cX1_newBlock 2 (some .int), Cond.fieldLink RX1 22 "CodeMover$Program" "blocks" "I", Cond.fieldLink RX1 46 "CodeMover$Program" "changed" "Z", Cond.methodLink RX1 58 yX1_append, Cond.instanceMethod yX1_append, Cond.selects RX1 yX1_append yX1_append, Cond.code yX1_append cX1_append 4 (some .int), Cond.fieldLink RX1 28 "CodeMover$Program" "codes" "[I", Cond.fieldLink RX1 25 "CodeMover$Program" "sizes" "[I", Cond.methodLink RX1 62 yX1_newEdge]
def wsX3_insertComputations_r2 : List Cond := [Cond.instanceMethod yX1_newEdge, Cond.selects RX1 yX1_newEdge yX1_newEdge, Cond.code yX1_newEdge cX1_newEdge 4 (some .int), Cond.fieldLink RX1 31 "CodeMover$Program" "edges" "I", Cond.fieldLink RX1 34 "CodeMover$Program" "from" "[I", Cond.fieldLink RX1 40 "CodeMover$Program" "firstExit" "[I", Cond.fieldLink RX1 43 "CodeMover$Program" "secondExit" "[I"]
def wsX3_insertComputations : List Cond := .code yX3_insertComputations cX3_insertComputations 3 none :: ((wsX3_insertComputations_r1 ++ wsX3_insertComputations_r2) ++ wsX30 ++ wsX10 ++ wsX20)
def wsX3_move_r1 : List Cond := [Cond.classLink RX3 43 "java/lang/IllegalStateException", Cond.initialized "java/lang/IllegalStateException", Cond.fieldLink RX3 21 "CodeMover" "sets" "LCodeMover$Sets;", Cond.fieldLink RX3 10 "CodeMover" "program" "LCodeMover$Program;", Cond.fieldLink RX3 52 "CodeMover$Program" "blocks" "I", Cond.fieldLink RX3 79 "CodeMover$Program" "edges" "I", Cond.methodLink RX3 122 yX2_bringUpToDate, Cond.instanceMethod yX2_bringUpToDate, Cond.selects RX2 yX2_bringUpToDate yX2_bringUpToDate, Cond.initialized RX2, Cond.code yX2_bringUpToDate cX2_bringUpToDate 2 none, Cond.fieldLink RX2 48 "CodeMover$Sets" "program" "LCodeMover$Program;", Cond.fieldLink RX2 52 "CodeMover$Program" "changed" "Z", Cond.fieldLink RX2 58 "CodeMover$Program" "blocks" "I", Cond.methodLink RX2 62 yX2_findSetsOfBlock, Cond.instanceMethod yX2_findSetsOfBlock, Cond.selects RX2 yX2_findSetsOfBlock yX2_findSetsOfBlock, Cond.code yX2_findSetsOfBlock cX2_findSetsOfBlock 9 none, Cond.fieldLink RX2 84 "CodeMover$Program" "sizes" "[I", Cond.fieldLink RX2 91 "CodeMover$Program" "dependents" "[I", Cond.fieldLink RX2 9 "CodeMover$Sets" "keptIn" "[I", Cond.fieldLink RX2 15 "CodeMover$Sets" "earlyIn" "[I", Cond.fieldLink RX2 18 "CodeMover$Sets" "lateIn" "[I", Cond.methodLink RX2 87 yX1_codeAt]
def wsX3_move_r2 : List Cond := [Cond.instanceMethod yX1_codeAt, Cond.selects RX1 yX1_codeAt yX1_codeAt, Cond.initialized RX1, Cond.code yX1_codeAt cX1_codeAt 3 (some .int), Cond.fieldLink RX1 28 "CodeMover$Program" "codes" "[I", Cond.methodLink RX2 94 yX1_allExpressions, Cond.instanceMethod yX1_allExpressions, Cond.selects RX1 yX1_allExpressions yX1_allExpressions, Cond.code yX1_allExpressions cX1_allExpressions 1 (some .int), Cond.fieldLink RX1 9 "CodeMover$Program" "expressions" "I", Cond.methodLink RX2 66 yX2_findNeeded, Cond.instanceMethod yX2_findNeeded, Cond.selects RX2 yX2_findNeeded yX2_findNeeded, Cond.code yX2_findNeeded cX2_findNeeded 3 none, Cond.fieldLink RX2 98 "CodeMover$Program" "firstExit" "[I", Cond.methodLink RX2 101 yX2_setNeededAtEnd, Cond.instanceMethod yX2_setNeededAtEnd, Cond.selects RX2 yX2_setNeededAtEnd yX2_setNeededAtEnd, Cond.code yX2_setNeededAtEnd cX2_setNeededAtEnd 3 none, Cond.fieldLink RX2 24 "CodeMover$Sets" "neededAtEnd" "[I", Cond.fieldLink RX2 21 "CodeMover$Sets" "neededAtStart" "[I", Cond.methodLink RX2 105 yX2_shrinkNeeded, Cond.instanceMethod yX2_shrinkNeeded, Cond.selects RX2 yX2_shrinkNeeded yX2_shrinkNeeded]
def wsX3_move_r3 : List Cond := [Cond.code yX2_shrinkNeeded cX2_shrinkNeeded 5 (some .boolean), Cond.fieldLink RX2 81 "CodeMover$Program" "edges" "I", Cond.fieldLink RX2 109 "CodeMover$Program" "from" "[I", Cond.fieldLink RX2 112 "CodeMover$Program" "to" "[I", Cond.methodLink RX2 69 yX2_findThere, Cond.instanceMethod yX2_findThere, Cond.selects RX2 yX2_findThere yX2_findThere, Cond.code yX2_findThere cX2_findThere 3 none, Cond.fieldLink RX2 27 "CodeMover$Sets" "thereAtStart" "[I", Cond.methodLink RX2 115 yX2_fillWhereEdgesLead, Cond.instanceMethod yX2_fillWhereEdgesLead, Cond.selects RX2 yX2_fillWhereEdgesLead yX2_fillWhereEdgesLead, Cond.code yX2_fillWhereEdgesLead cX2_fillWhereEdgesLead 3 none, Cond.methodLink RX2 119 yX2_setThereAtStart, Cond.instanceMethod yX2_setThereAtStart, Cond.selects RX2 yX2_setThereAtStart yX2_setThereAtStart, Cond.code yX2_setThereAtStart cX2_setThereAtStart 3 none, Cond.fieldLink RX2 30 "CodeMover$Sets" "thereAtEnd" "[I", Cond.methodLink RX2 122 yX2_shrinkThere, Cond.instanceMethod yX2_shrinkThere, Cond.selects RX2 yX2_shrinkThere yX2_shrinkThere, Cond.code yX2_shrinkThere cX2_shrinkThere 5 (some .boolean), Cond.methodLink RX2 72 yX2_findEarliest, Cond.instanceMethod yX2_findEarliest]
def wsX3_move_r4 : List Cond := [Cond.selects RX2 yX2_findEarliest yX2_findEarliest, Cond.code yX2_findEarliest cX2_findEarliest 4 none, Cond.fieldLink RX2 39 "CodeMover$Sets" "earliestOnEdge" "[I", Cond.methodLink RX2 75 yX2_findDelayed, Cond.instanceMethod yX2_findDelayed, Cond.selects RX2 yX2_findDelayed yX2_findDelayed, Cond.code yX2_findDelayed cX2_findDelayed 3 none, Cond.fieldLink RX2 33 "CodeMover$Sets" "delayedAtStart" "[I", Cond.fieldLink RX2 42 "CodeMover$Sets" "delayedOnEdge" "[I", Cond.methodLink RX2 125 yX2_shrinkDelayed, Cond.instanceMethod yX2_shrinkDelayed, Cond.selects RX2 yX2_shrinkDelayed yX2_shrinkDelayed, Cond.code yX2_shrinkDelayed cX2_shrinkDelayed 5 (some .boolean), Cond.methodLink RX2 128 yX2_findDelayedOnEdge, Cond.instanceMethod yX2_findDelayedOnEdge, Cond.selects RX2 yX2_findDelayedOnEdge yX2_findDelayedOnEdge, Cond.code yX2_findDelayedOnEdge cX2_findDelayedOnEdge 3 (some .int), Cond.methodLink RX2 78 yX2_findInsertionsAndDeletions, Cond.instanceMethod yX2_findInsertionsAndDeletions, Cond.selects RX2 yX2_findInsertionsAndDeletions yX2_findInsertionsAndDeletions, Cond.code yX2_findInsertionsAndDeletions cX2_findInsertionsAndDeletions 2 none, Cond.fieldLink RX2 45 "CodeMover$Sets" "insertedOnEdge" "[I", Cond.fieldLink RX2 36 "CodeMover$Sets" "deletedInBlock" "[I", Cond.methodLink RX3 161 yX2_countEdgesWithInsertions]
def wsX3_move_r5 : List Cond := [Cond.instanceMethod yX2_countEdgesWithInsertions, Cond.selects RX2 yX2_countEdgesWithInsertions yX2_countEdgesWithInsertions, Cond.code yX2_countEdgesWithInsertions cX2_countEdgesWithInsertions 3 (some .int), Cond.methodLink RX3 166 yX3_deleteComputations, Cond.instanceMethod yX3_deleteComputations, Cond.selects RX3 yX3_deleteComputations yX3_deleteComputations, Cond.initialized RX3, Cond.code yX3_deleteComputations cX3_deleteComputations 2 none, Cond.fieldLink RX3 158 "CodeMover$Sets" "deletedInBlock" "[I", Cond.methodLink RX3 206 yX1_turnFirstComputesToUses, Cond.instanceMethod yX1_turnFirstComputesToUses, Cond.selects RX1 yX1_turnFirstComputesToUses yX1_turnFirstComputesToUses, Cond.code yX1_turnFirstComputesToUses cX1_turnFirstComputesToUses 7 none, Cond.fieldLink RX1 25 "CodeMover$Program" "sizes" "[I", Cond.fieldLink RX1 46 "CodeMover$Program" "changed" "Z", Cond.methodLink RX1 50 yX1_codeAt, Cond.methodLink RX3 169 yX3_insertComputations, Cond.instanceMethod yX3_insertComputations, Cond.selects RX3 yX3_insertComputations yX3_insertComputations, Cond.code yX3_insertComputations cX3_insertComputations 3 none, Cond.fieldLink RX3 155 "CodeMover$Sets" "insertedOnEdge" "[I", Cond.methodLink RX3 210 yX1_splitEdge, Cond.instanceMethod yX1_splitEdge, Cond.selects RX1 yX1_splitEdge yX1_splitEdge]
def wsX3_move_r6 : List Cond := [Cond.code yX1_splitEdge cX1_splitEdge 5 none, Cond.fieldLink RX1 37 "CodeMover$Program" "to" "[I", Cond.methodLink RX1 54 yX1_newBlock, Cond.instanceMethod yX1_newBlock, Cond.selects RX1 yX1_newBlock yX1_newBlock, Cond.code yX1_newBlock cX1_newBlock 2 (some .int), Cond.fieldLink RX1 22 "CodeMover$Program" "blocks" "I", Cond.methodLink RX1 58 yX1_append, Cond.instanceMethod yX1_append, Cond.selects RX1 yX1_append yX1_append, Cond.code yX1_append cX1_append 4 (some .int), Cond.methodLink RX1 62 yX1_newEdge, Cond.instanceMethod yX1_newEdge, Cond.selects RX1 yX1_newEdge yX1_newEdge, Cond.code yX1_newEdge cX1_newEdge 4 (some .int), Cond.fieldLink RX1 31 "CodeMover$Program" "edges" "I", Cond.fieldLink RX1 34 "CodeMover$Program" "from" "[I", Cond.fieldLink RX1 40 "CodeMover$Program" "firstExit" "[I", Cond.fieldLink RX1 43 "CodeMover$Program" "secondExit" "[I"]
def wsX3_move : List Cond := .code yX3_move cX3_move 2 (some .int) :: ((wsX3_move_r1 ++ (wsX3_move_r2 ++ (wsX3_move_r3 ++ (wsX3_move_r4 ++ (wsX3_move_r5 ++ wsX3_move_r6))))) ++ wsX30 ++ wsX10 ++ wsX20 ++ (vx_atS RX3 47 "java/lang/IllegalStateException" ["java/lang/RuntimeException", "java/lang/Exception"]).filter goodWord)
def wsX3_walk_r1 : List Cond := [Cond.classLink RX3 32 "java/lang/IllegalArgumentException", Cond.initialized "java/lang/IllegalArgumentException", Cond.fieldLink RX3 28 "CodeMover" "latest" "LCodeMover$Journey;", Cond.methodLink RX3 174 yX0_goThrough, Cond.instanceMethod yX0_goThrough, Cond.selects RX0 yX0_goThrough yX0_goThrough, Cond.initialized RX0, Cond.code yX0_goThrough cX0_goThrough 6 (some .int), Cond.fieldLink RX0 22 "CodeMover$Journey" "endBlock" "I", Cond.fieldLink RX0 25 "CodeMover$Journey" "held" "I", Cond.methodLink RX0 41 yX0_begin, Cond.instanceMethod yX0_begin, Cond.selects RX0 yX0_begin yX0_begin, Cond.code yX0_begin cX0_begin 2 none, Cond.fieldLink RX0 9 "CodeMover$Journey" "timesComputed" "[I", Cond.fieldLink RX0 15 "CodeMover$Journey" "timesHeld" "[I", Cond.fieldLink RX0 18 "CodeMover$Journey" "missCount" "I", Cond.fieldLink RX0 31 "CodeMover$Journey" "instructionsGone" "I", Cond.fieldLink RX0 34 "CodeMover$Journey" "choicesTaken" "I", Cond.methodLink RX0 44 yX0_goThroughBlock, Cond.instanceMethod yX0_goThroughBlock, Cond.selects RX0 yX0_goThroughBlock yX0_goThroughBlock, Cond.code yX0_goThroughBlock cX0_goThroughBlock 6 none, Cond.fieldLink RX0 37 "CodeMover$Journey" "program" "LCodeMover$Program;"]
def wsX3_walk_r2 : List Cond := [Cond.fieldLink RX0 55 "CodeMover$Program" "sizes" "[I", Cond.fieldLink RX0 67 "CodeMover$Program" "dependents" "[I", Cond.methodLink RX0 60 yX1_codeAt, Cond.instanceMethod yX1_codeAt, Cond.selects RX1 yX1_codeAt yX1_codeAt, Cond.initialized RX1, Cond.code yX1_codeAt cX1_codeAt 3 (some .int), Cond.fieldLink RX1 28 "CodeMover$Program" "codes" "[I", Cond.methodLink RX0 64 yX0_hold, Cond.instanceMethod yX0_hold, Cond.selects RX0 yX0_hold yX0_hold, Cond.code yX0_hold cX0_hold 2 none, Cond.fieldLink RX0 28 "CodeMover$Journey" "heldSince" "[I", Cond.methodLink RX0 52 yX0_letGo, Cond.instanceMethod yX0_letGo, Cond.selects RX0 yX0_letGo yX0_letGo, Cond.code yX0_letGo cX0_letGo 3 none, Cond.fieldLink RX0 70 "CodeMover$Program" "expressions" "I", Cond.methodLink RX0 48 yX0_blockBehind, Cond.instanceMethod yX0_blockBehind, Cond.selects RX0 yX0_blockBehind yX0_blockBehind, Cond.code yX0_blockBehind cX0_blockBehind 5 (some .int), Cond.fieldLink RX0 73 "CodeMover$Program" "firstExit" "[I", Cond.fieldLink RX0 76 "CodeMover$Program" "secondExit" "[I"]
def wsX3_walk_r3 : List Cond := [Cond.fieldLink RX0 79 "CodeMover$Program" "to" "[I"]
def wsX3_walk : List Cond := .code yX3_walk cX3_walk 4 (some .int) :: ((wsX3_walk_r1 ++ (wsX3_walk_r2 ++ wsX3_walk_r3)) ++ wsX30 ++ wsX00 ++ wsX10 ++ (vx_atS RX3 36 "java/lang/IllegalArgumentException" ["java/lang/RuntimeException", "java/lang/Exception"]).filter goodWord)
def wsX3_computed : List Cond := .code yX3_computed cX3_computed 2 (some .int) :: ([.fieldLink RX3 28 "CodeMover" "latest" "LCodeMover$Journey;", .fieldLink RX3 178 "CodeMover$Journey" "timesComputed" "[I", .methodLink RX3 88 yX3_requireExpression, .instanceMethod yX3_requireExpression, .selects RX3 yX3_requireExpression yX3_requireExpression, .initialized RX3, .code yX3_requireExpression cX3_requireExpression 2 none, .classLink RX3 98 "java/lang/IndexOutOfBoundsException", .initialized "java/lang/IndexOutOfBoundsException", .fieldLink RX3 10 "CodeMover" "program" "LCodeMover$Program;", .fieldLink RX3 39 "CodeMover$Program" "expressions" "I"] ++ wsX30 ++ wsX00 ++ wsX10 ++ (vx_atS RX3 102 "java/lang/IndexOutOfBoundsException" ["java/lang/RuntimeException", "java/lang/Exception"]).filter goodWord)
def wsX3_misses : List Cond := .code yX3_misses cX3_misses 1 (some .int) :: ([.fieldLink RX3 28 "CodeMover" "latest" "LCodeMover$Journey;", .fieldLink RX3 181 "CodeMover$Journey" "missCount" "I"] ++ wsX30 ++ wsX00)
def wsX3_lastBlock : List Cond := .code yX3_lastBlock cX3_lastBlock 1 (some .int) :: ([.fieldLink RX3 28 "CodeMover" "latest" "LCodeMover$Journey;", .fieldLink RX3 184 "CodeMover$Journey" "endBlock" "I"] ++ wsX30 ++ wsX00)
def wsX3_heldFor : List Cond := .code yX3_heldFor cX3_heldFor 2 (some .int) :: ([.fieldLink RX3 28 "CodeMover" "latest" "LCodeMover$Journey;", .fieldLink RX3 187 "CodeMover$Journey" "timesHeld" "[I", .methodLink RX3 88 yX3_requireExpression, .instanceMethod yX3_requireExpression, .selects RX3 yX3_requireExpression yX3_requireExpression, .initialized RX3, .code yX3_requireExpression cX3_requireExpression 2 none, .classLink RX3 98 "java/lang/IndexOutOfBoundsException", .initialized "java/lang/IndexOutOfBoundsException", .fieldLink RX3 10 "CodeMover" "program" "LCodeMover$Program;", .fieldLink RX3 39 "CodeMover$Program" "expressions" "I"] ++ wsX30 ++ wsX00 ++ wsX10 ++ (vx_atS RX3 102 "java/lang/IndexOutOfBoundsException" ["java/lang/RuntimeException", "java/lang/Exception"]).filter goodWord)
def wsX3_digest_r1 : List Cond := [Cond.fieldLink RX3 10 "CodeMover" "program" "LCodeMover$Program;", Cond.constantLong RX3 190 (83), Cond.constantLong RX3 196 (31), Cond.fieldLink RX3 28 "CodeMover" "latest" "LCodeMover$Journey;", Cond.fieldLink RX3 181 "CodeMover$Journey" "missCount" "I", Cond.fieldLink RX3 184 "CodeMover$Journey" "endBlock" "I", Cond.methodLink RX3 192 yX1_addToChecksum, Cond.instanceMethod yX1_addToChecksum, Cond.selects RX1 yX1_addToChecksum yX1_addToChecksum, Cond.initialized RX1, Cond.code yX1_addToChecksum cX1_addToChecksum 7 (some .long), Cond.constantLong RX1 65 (31), Cond.fieldLink RX1 9 "CodeMover$Program" "expressions" "I", Cond.fieldLink RX1 15 "CodeMover$Program" "variablesOf" "[I", Cond.fieldLink RX1 22 "CodeMover$Program" "blocks" "I", Cond.fieldLink RX1 25 "CodeMover$Program" "sizes" "[I", Cond.fieldLink RX1 31 "CodeMover$Program" "edges" "I", Cond.methodLink RX1 50 yX1_codeAt, Cond.instanceMethod yX1_codeAt, Cond.selects RX1 yX1_codeAt yX1_codeAt, Cond.code yX1_codeAt cX1_codeAt 3 (some .int), Cond.fieldLink RX1 28 "CodeMover$Program" "codes" "[I", Cond.methodLink RX1 67 yX1_endsOf, Cond.instanceMethod yX1_endsOf]
def wsX3_digest_r2 : List Cond := [Cond.selects RX1 yX1_endsOf yX1_endsOf, Cond.code yX1_endsOf cX1_endsOf 2 (some .int), Cond.fieldLink RX1 34 "CodeMover$Program" "from" "[I", Cond.fieldLink RX1 37 "CodeMover$Program" "to" "[I"]
def wsX3_digest : List Cond := .code yX3_digest cX3_digest 3 (some .long) :: ((wsX3_digest_r1 ++ wsX3_digest_r2) ++ wsX30 ++ wsX00 ++ wsX10)
def wsX4_init : List Cond := .code yX4_init cX4_init 1 none :: ([.methodLink RX4 1 objectInit, .instanceMethod objectInit, .code objectInit ⟨#[0xb1]⟩ 1 none, .arrayClass .int, .fieldLink RX4 9 "CodeMoverModel" "variables" "[I", .fieldLink RX4 13 "CodeMoverModel" "blocks" "I", .fieldLink RX4 17 "CodeMoverModel" "sizes" "[I", .fieldLink RX4 20 "CodeMoverModel" "code" "[I", .fieldLink RX4 23 "CodeMoverModel" "froms" "[I", .fieldLink RX4 26 "CodeMoverModel" "tos" "[I", .fieldLink RX4 29 "CodeMoverModel" "neededAt" "[I", .fieldLink RX4 32 "CodeMoverModel" "neededBehind" "[I", .fieldLink RX4 35 "CodeMoverModel" "thereAt" "[I", .fieldLink RX4 38 "CodeMoverModel" "thereBehind" "[I", .fieldLink RX4 41 "CodeMoverModel" "delayed" "[I", .fieldLink RX4 44 "CodeMoverModel" "computed" "[I", .fieldLink RX4 47 "CodeMoverModel" "held" "[I", .fieldLink RX4 50 "CodeMoverModel" "last" "I"] ++ wsX40)
def wsX4_thrown : List Cond := .code yX4_thrown cX4_thrown 1 (some .int) :: ([.fieldLink RX4 53 "CodeMoverModel" "thrown" "I"] ++ wsX40)
def wsX4_no : List Cond := .code yX4_no cX4_no 2 (some .int) :: ([.fieldLink RX4 53 "CodeMoverModel" "thrown" "I"] ++ wsX40)
def wsX4_isBlock : List Cond := .code yX4_isBlock cX4_isBlock 2 (some .boolean) :: ([.fieldLink RX4 13 "CodeMoverModel" "blocks" "I"] ++ wsX40)
def wsX4_isEdge : List Cond := .code yX4_isEdge cX4_isEdge 2 (some .boolean) :: ([.fieldLink RX4 56 "CodeMoverModel" "edges" "I"] ++ wsX40)
def wsX4_isExpression : List Cond := .code yX4_isExpression cX4_isExpression 2 (some .boolean) :: ([.fieldLink RX4 59 "CodeMoverModel" "expressions" "I"] ++ wsX40)
def wsX4_addExpression : List Cond := .code yX4_addExpression cX4_addExpression 2 (some .int) :: ([.fieldLink RX4 53 "CodeMoverModel" "thrown" "I", .fieldLink RX4 59 "CodeMoverModel" "expressions" "I", .fieldLink RX4 9 "CodeMoverModel" "variables" "[I", .methodLink RX4 62 yX4_no, .instanceMethod yX4_no, .selects RX4 yX4_no yX4_no, .initialized RX4, .code yX4_no cX4_no 2 (some .int)] ++ wsX40)
def wsX4_addBlock : List Cond := .code yX4_addBlock cX4_addBlock 1 (some .int) :: ([.fieldLink RX4 53 "CodeMoverModel" "thrown" "I", .fieldLink RX4 13 "CodeMoverModel" "blocks" "I", .methodLink RX4 62 yX4_no, .instanceMethod yX4_no, .selects RX4 yX4_no yX4_no, .initialized RX4, .code yX4_no cX4_no 2 (some .int)] ++ wsX40)
def wsX4_exits : List Cond := .code yX4_exits cX4_exits 4 (some .int) :: ([.fieldLink RX4 56 "CodeMoverModel" "edges" "I", .fieldLink RX4 23 "CodeMoverModel" "froms" "[I"] ++ wsX40)
def wsX4_addEdge : List Cond := .code yX4_addEdge cX4_addEdge 5 (some .int) :: ([.fieldLink RX4 53 "CodeMoverModel" "thrown" "I", .fieldLink RX4 56 "CodeMoverModel" "edges" "I", .fieldLink RX4 23 "CodeMoverModel" "froms" "[I", .fieldLink RX4 26 "CodeMoverModel" "tos" "[I", .methodLink RX4 66 yX4_isBlock, .instanceMethod yX4_isBlock, .selects RX4 yX4_isBlock yX4_isBlock, .initialized RX4, .code yX4_isBlock cX4_isBlock 2 (some .boolean), .fieldLink RX4 13 "CodeMoverModel" "blocks" "I", .methodLink RX4 62 yX4_no, .instanceMethod yX4_no, .selects RX4 yX4_no yX4_no, .code yX4_no cX4_no 2 (some .int), .methodLink RX4 70 yX4_exits, .instanceMethod yX4_exits, .selects RX4 yX4_exits yX4_exits, .code yX4_exits cX4_exits 4 (some .int)] ++ wsX40)
def wsX4_append : List Cond := .code yX4_append cX4_append 3 (some .int) :: ([.fieldLink RX4 17 "CodeMoverModel" "sizes" "[I", .fieldLink RX4 20 "CodeMoverModel" "code" "[I", .methodLink RX4 62 yX4_no, .instanceMethod yX4_no, .selects RX4 yX4_no yX4_no, .initialized RX4, .code yX4_no cX4_no 2 (some .int), .fieldLink RX4 53 "CodeMoverModel" "thrown" "I"] ++ wsX40)
def wsX4_compute : List Cond := .code yX4_compute cX4_compute 3 (some .int) :: ([.fieldLink RX4 53 "CodeMoverModel" "thrown" "I", .methodLink RX4 66 yX4_isBlock, .instanceMethod yX4_isBlock, .selects RX4 yX4_isBlock yX4_isBlock, .initialized RX4, .code yX4_isBlock cX4_isBlock 2 (some .boolean), .fieldLink RX4 13 "CodeMoverModel" "blocks" "I", .methodLink RX4 73 yX4_isExpression, .instanceMethod yX4_isExpression, .selects RX4 yX4_isExpression yX4_isExpression, .code yX4_isExpression cX4_isExpression 2 (some .boolean), .fieldLink RX4 59 "CodeMoverModel" "expressions" "I", .methodLink RX4 76 yX4_append, .instanceMethod yX4_append, .selects RX4 yX4_append yX4_append, .code yX4_append cX4_append 3 (some .int), .fieldLink RX4 17 "CodeMoverModel" "sizes" "[I", .fieldLink RX4 20 "CodeMoverModel" "code" "[I", .methodLink RX4 62 yX4_no, .instanceMethod yX4_no, .selects RX4 yX4_no yX4_no, .code yX4_no cX4_no 2 (some .int)] ++ wsX40)
def wsX4_use : List Cond := .code yX4_use cX4_use 3 (some .int) :: ([.fieldLink RX4 53 "CodeMoverModel" "thrown" "I", .methodLink RX4 66 yX4_isBlock, .instanceMethod yX4_isBlock, .selects RX4 yX4_isBlock yX4_isBlock, .initialized RX4, .code yX4_isBlock cX4_isBlock 2 (some .boolean), .fieldLink RX4 13 "CodeMoverModel" "blocks" "I", .methodLink RX4 73 yX4_isExpression, .instanceMethod yX4_isExpression, .selects RX4 yX4_isExpression yX4_isExpression, .code yX4_isExpression cX4_isExpression 2 (some .boolean), .fieldLink RX4 59 "CodeMoverModel" "expressions" "I", .methodLink RX4 76 yX4_append, .instanceMethod yX4_append, .selects RX4 yX4_append yX4_append, .code yX4_append cX4_append 3 (some .int), .fieldLink RX4 17 "CodeMoverModel" "sizes" "[I", .fieldLink RX4 20 "CodeMoverModel" "code" "[I", .methodLink RX4 62 yX4_no, .instanceMethod yX4_no, .selects RX4 yX4_no yX4_no, .code yX4_no cX4_no 2 (some .int)] ++ wsX40)
def wsX4_assign : List Cond := .code yX4_assign cX4_assign 3 (some .int) :: ([.fieldLink RX4 53 "CodeMoverModel" "thrown" "I", .methodLink RX4 66 yX4_isBlock, .instanceMethod yX4_isBlock, .selects RX4 yX4_isBlock yX4_isBlock, .initialized RX4, .code yX4_isBlock cX4_isBlock 2 (some .boolean), .fieldLink RX4 13 "CodeMoverModel" "blocks" "I", .methodLink RX4 76 yX4_append, .instanceMethod yX4_append, .selects RX4 yX4_append yX4_append, .code yX4_append cX4_append 3 (some .int), .fieldLink RX4 17 "CodeMoverModel" "sizes" "[I", .fieldLink RX4 20 "CodeMoverModel" "code" "[I", .methodLink RX4 62 yX4_no, .instanceMethod yX4_no, .selects RX4 yX4_no yX4_no, .code yX4_no cX4_no 2 (some .int)] ++ wsX40)
def wsX4_drop : List Cond := .code yX4_drop cX4_drop 2 (some .int) :: ([.fieldLink RX4 53 "CodeMoverModel" "thrown" "I", .fieldLink RX4 17 "CodeMoverModel" "sizes" "[I", .methodLink RX4 66 yX4_isBlock, .instanceMethod yX4_isBlock, .selects RX4 yX4_isBlock yX4_isBlock, .initialized RX4, .code yX4_isBlock cX4_isBlock 2 (some .boolean), .fieldLink RX4 13 "CodeMoverModel" "blocks" "I", .methodLink RX4 62 yX4_no, .instanceMethod yX4_no, .selects RX4 yX4_no yX4_no, .code yX4_no cX4_no 2 (some .int)] ++ wsX40)
def wsX4_blockCount : List Cond := .code yX4_blockCount cX4_blockCount 1 (some .int) :: ([.fieldLink RX4 53 "CodeMoverModel" "thrown" "I", .fieldLink RX4 13 "CodeMoverModel" "blocks" "I"] ++ wsX40)
def wsX4_edgeCount : List Cond := .code yX4_edgeCount cX4_edgeCount 1 (some .int) :: ([.fieldLink RX4 53 "CodeMoverModel" "thrown" "I", .fieldLink RX4 56 "CodeMoverModel" "edges" "I"] ++ wsX40)
def wsX4_size : List Cond := .code yX4_size cX4_size 2 (some .int) :: ([.fieldLink RX4 53 "CodeMoverModel" "thrown" "I", .fieldLink RX4 17 "CodeMoverModel" "sizes" "[I", .methodLink RX4 66 yX4_isBlock, .instanceMethod yX4_isBlock, .selects RX4 yX4_isBlock yX4_isBlock, .initialized RX4, .code yX4_isBlock cX4_isBlock 2 (some .boolean), .fieldLink RX4 13 "CodeMoverModel" "blocks" "I", .methodLink RX4 62 yX4_no, .instanceMethod yX4_no, .selects RX4 yX4_no yX4_no, .code yX4_no cX4_no 2 (some .int)] ++ wsX40)
def wsX4_at : List Cond := .code yX4_at cX4_at 3 (some .int) :: ([.fieldLink RX4 20 "CodeMoverModel" "code" "[I"] ++ wsX40)
def wsX4_instruction : List Cond := .code yX4_instruction cX4_instruction 3 (some .int) :: ([.fieldLink RX4 53 "CodeMoverModel" "thrown" "I", .fieldLink RX4 17 "CodeMoverModel" "sizes" "[I", .methodLink RX4 66 yX4_isBlock, .instanceMethod yX4_isBlock, .selects RX4 yX4_isBlock yX4_isBlock, .initialized RX4, .code yX4_isBlock cX4_isBlock 2 (some .boolean), .fieldLink RX4 13 "CodeMoverModel" "blocks" "I", .methodLink RX4 80 yX4_at, .instanceMethod yX4_at, .selects RX4 yX4_at yX4_at, .code yX4_at cX4_at 3 (some .int), .fieldLink RX4 20 "CodeMoverModel" "code" "[I", .methodLink RX4 62 yX4_no, .instanceMethod yX4_no, .selects RX4 yX4_no yX4_no, .code yX4_no cX4_no 2 (some .int)] ++ wsX40)
def wsX4_ends : List Cond := .code yX4_ends cX4_ends 2 (some .int) :: ([.fieldLink RX4 53 "CodeMoverModel" "thrown" "I", .fieldLink RX4 23 "CodeMoverModel" "froms" "[I", .fieldLink RX4 26 "CodeMoverModel" "tos" "[I", .methodLink RX4 83 yX4_isEdge, .instanceMethod yX4_isEdge, .selects RX4 yX4_isEdge yX4_isEdge, .initialized RX4, .code yX4_isEdge cX4_isEdge 2 (some .boolean), .fieldLink RX4 56 "CodeMoverModel" "edges" "I", .methodLink RX4 62 yX4_no, .instanceMethod yX4_no, .selects RX4 yX4_no yX4_no, .code yX4_no cX4_no 2 (some .int)] ++ wsX40)
def wsX4_all : List Cond := .code yX4_all cX4_all 1 (some .int) :: ([.fieldLink RX4 59 "CodeMoverModel" "expressions" "I"] ++ wsX40)
def wsX4_dependent : List Cond := .code yX4_dependent cX4_dependent 4 (some .int) :: ([.fieldLink RX4 59 "CodeMoverModel" "expressions" "I", .fieldLink RX4 9 "CodeMoverModel" "variables" "[I"] ++ wsX40)
def wsX4_keptBy : List Cond := .code yX4_keptBy cX4_keptBy 4 (some .int) :: ([.fieldLink RX4 17 "CodeMoverModel" "sizes" "[I", .methodLink RX4 86 yX4_all, .instanceMethod yX4_all, .selects RX4 yX4_all yX4_all, .initialized RX4, .code yX4_all cX4_all 1 (some .int), .fieldLink RX4 59 "CodeMoverModel" "expressions" "I", .methodLink RX4 80 yX4_at, .instanceMethod yX4_at, .selects RX4 yX4_at yX4_at, .code yX4_at cX4_at 3 (some .int), .fieldLink RX4 20 "CodeMoverModel" "code" "[I", .methodLink RX4 90 yX4_dependent, .instanceMethod yX4_dependent, .selects RX4 yX4_dependent yX4_dependent, .code yX4_dependent cX4_dependent 4 (some .int), .fieldLink RX4 9 "CodeMoverModel" "variables" "[I"] ++ wsX40)
def wsX4_earlyIn : List Cond := .code yX4_earlyIn cX4_earlyIn 6 (some .int) :: ([.fieldLink RX4 17 "CodeMoverModel" "sizes" "[I", .methodLink RX4 80 yX4_at, .instanceMethod yX4_at, .selects RX4 yX4_at yX4_at, .initialized RX4, .code yX4_at cX4_at 3 (some .int), .fieldLink RX4 20 "CodeMoverModel" "code" "[I", .methodLink RX4 90 yX4_dependent, .instanceMethod yX4_dependent, .selects RX4 yX4_dependent yX4_dependent, .code yX4_dependent cX4_dependent 4 (some .int), .fieldLink RX4 59 "CodeMoverModel" "expressions" "I", .fieldLink RX4 9 "CodeMoverModel" "variables" "[I"] ++ wsX40)
def wsX4_lateIn : List Cond := .code yX4_lateIn cX4_lateIn 5 (some .int) :: ([.fieldLink RX4 17 "CodeMoverModel" "sizes" "[I", .methodLink RX4 80 yX4_at, .instanceMethod yX4_at, .selects RX4 yX4_at yX4_at, .initialized RX4, .code yX4_at cX4_at 3 (some .int), .fieldLink RX4 20 "CodeMoverModel" "code" "[I", .methodLink RX4 90 yX4_dependent, .instanceMethod yX4_dependent, .selects RX4 yX4_dependent yX4_dependent, .code yX4_dependent cX4_dependent 4 (some .int), .fieldLink RX4 59 "CodeMoverModel" "expressions" "I", .fieldLink RX4 9 "CodeMoverModel" "variables" "[I"] ++ wsX40)
def wsX4_findNeeded_r1 : List Cond := [Cond.fieldLink RX4 56 "CodeMoverModel" "edges" "I", Cond.fieldLink RX4 23 "CodeMoverModel" "froms" "[I", Cond.fieldLink RX4 29 "CodeMoverModel" "neededAt" "[I", Cond.fieldLink RX4 26 "CodeMoverModel" "tos" "[I", Cond.fieldLink RX4 32 "CodeMoverModel" "neededBehind" "[I", Cond.methodLink RX4 70 yX4_exits, Cond.instanceMethod yX4_exits, Cond.selects RX4 yX4_exits yX4_exits, Cond.initialized RX4, Cond.code yX4_exits cX4_exits 4 (some .int), Cond.methodLink RX4 86 yX4_all, Cond.instanceMethod yX4_all, Cond.selects RX4 yX4_all yX4_all, Cond.code yX4_all cX4_all 1 (some .int), Cond.fieldLink RX4 59 "CodeMoverModel" "expressions" "I", Cond.methodLink RX4 102 yX4_earlyIn, Cond.instanceMethod yX4_earlyIn, Cond.selects RX4 yX4_earlyIn yX4_earlyIn, Cond.code yX4_earlyIn cX4_earlyIn 6 (some .int), Cond.fieldLink RX4 17 "CodeMoverModel" "sizes" "[I", Cond.methodLink RX4 80 yX4_at, Cond.instanceMethod yX4_at, Cond.selects RX4 yX4_at yX4_at, Cond.code yX4_at cX4_at 3 (some .int)]
def wsX4_findNeeded_r2 : List Cond := [Cond.fieldLink RX4 20 "CodeMoverModel" "code" "[I", Cond.methodLink RX4 90 yX4_dependent, Cond.instanceMethod yX4_dependent, Cond.selects RX4 yX4_dependent yX4_dependent, Cond.code yX4_dependent cX4_dependent 4 (some .int), Cond.fieldLink RX4 9 "CodeMoverModel" "variables" "[I", Cond.methodLink RX4 105 yX4_keptBy, Cond.instanceMethod yX4_keptBy, Cond.selects RX4 yX4_keptBy yX4_keptBy, Cond.code yX4_keptBy cX4_keptBy 4 (some .int)]
def wsX4_findNeeded : List Cond := .code yX4_findNeeded cX4_findNeeded 4 (some .boolean) :: ((wsX4_findNeeded_r1 ++ wsX4_findNeeded_r2) ++ wsX40)
def wsX4_findThere_r1 : List Cond := [Cond.fieldLink RX4 56 "CodeMoverModel" "edges" "I", Cond.fieldLink RX4 26 "CodeMoverModel" "tos" "[I", Cond.fieldLink RX4 38 "CodeMoverModel" "thereBehind" "[I", Cond.fieldLink RX4 23 "CodeMoverModel" "froms" "[I", Cond.fieldLink RX4 35 "CodeMoverModel" "thereAt" "[I", Cond.methodLink RX4 86 yX4_all, Cond.instanceMethod yX4_all, Cond.selects RX4 yX4_all yX4_all, Cond.initialized RX4, Cond.code yX4_all cX4_all 1 (some .int), Cond.fieldLink RX4 59 "CodeMoverModel" "expressions" "I", Cond.methodLink RX4 108 yX4_lateIn, Cond.instanceMethod yX4_lateIn, Cond.selects RX4 yX4_lateIn yX4_lateIn, Cond.code yX4_lateIn cX4_lateIn 5 (some .int), Cond.fieldLink RX4 17 "CodeMoverModel" "sizes" "[I", Cond.methodLink RX4 80 yX4_at, Cond.instanceMethod yX4_at, Cond.selects RX4 yX4_at yX4_at, Cond.code yX4_at cX4_at 3 (some .int), Cond.fieldLink RX4 20 "CodeMoverModel" "code" "[I", Cond.methodLink RX4 90 yX4_dependent, Cond.instanceMethod yX4_dependent, Cond.selects RX4 yX4_dependent yX4_dependent]
def wsX4_findThere_r2 : List Cond := [Cond.code yX4_dependent cX4_dependent 4 (some .int), Cond.fieldLink RX4 9 "CodeMoverModel" "variables" "[I", Cond.methodLink RX4 105 yX4_keptBy, Cond.instanceMethod yX4_keptBy, Cond.selects RX4 yX4_keptBy yX4_keptBy, Cond.code yX4_keptBy cX4_keptBy 4 (some .int)]
def wsX4_findThere : List Cond := .code yX4_findThere cX4_findThere 5 (some .boolean) :: ((wsX4_findThere_r1 ++ wsX4_findThere_r2) ++ wsX40)
def wsX4_earliestFor_r1 : List Cond := [Cond.fieldLink RX4 29 "CodeMoverModel" "neededAt" "[I", Cond.fieldLink RX4 26 "CodeMoverModel" "tos" "[I", Cond.fieldLink RX4 38 "CodeMoverModel" "thereBehind" "[I", Cond.fieldLink RX4 23 "CodeMoverModel" "froms" "[I", Cond.fieldLink RX4 32 "CodeMoverModel" "neededBehind" "[I", Cond.methodLink RX4 105 yX4_keptBy, Cond.instanceMethod yX4_keptBy, Cond.selects RX4 yX4_keptBy yX4_keptBy, Cond.initialized RX4, Cond.code yX4_keptBy cX4_keptBy 4 (some .int), Cond.fieldLink RX4 17 "CodeMoverModel" "sizes" "[I", Cond.methodLink RX4 86 yX4_all, Cond.instanceMethod yX4_all, Cond.selects RX4 yX4_all yX4_all, Cond.code yX4_all cX4_all 1 (some .int), Cond.fieldLink RX4 59 "CodeMoverModel" "expressions" "I", Cond.methodLink RX4 80 yX4_at, Cond.instanceMethod yX4_at, Cond.selects RX4 yX4_at yX4_at, Cond.code yX4_at cX4_at 3 (some .int), Cond.fieldLink RX4 20 "CodeMoverModel" "code" "[I", Cond.methodLink RX4 90 yX4_dependent, Cond.instanceMethod yX4_dependent, Cond.selects RX4 yX4_dependent yX4_dependent]
def wsX4_earliestFor_r2 : List Cond := [Cond.code yX4_dependent cX4_dependent 4 (some .int), Cond.fieldLink RX4 9 "CodeMoverModel" "variables" "[I"]
def wsX4_earliestFor : List Cond := .code yX4_earliestFor cX4_earliestFor 2 (some .int) :: ((wsX4_earliestFor_r1 ++ wsX4_earliestFor_r2) ++ wsX40)
def wsX4_delayedAlong_r1 : List Cond := [Cond.fieldLink RX4 41 "CodeMoverModel" "delayed" "[I", Cond.fieldLink RX4 23 "CodeMoverModel" "froms" "[I", Cond.methodLink RX4 111 yX4_earliestFor, Cond.instanceMethod yX4_earliestFor, Cond.selects RX4 yX4_earliestFor yX4_earliestFor, Cond.initialized RX4, Cond.code yX4_earliestFor cX4_earliestFor 2 (some .int), Cond.fieldLink RX4 29 "CodeMoverModel" "neededAt" "[I", Cond.fieldLink RX4 26 "CodeMoverModel" "tos" "[I", Cond.fieldLink RX4 38 "CodeMoverModel" "thereBehind" "[I", Cond.fieldLink RX4 32 "CodeMoverModel" "neededBehind" "[I", Cond.methodLink RX4 105 yX4_keptBy, Cond.instanceMethod yX4_keptBy, Cond.selects RX4 yX4_keptBy yX4_keptBy, Cond.code yX4_keptBy cX4_keptBy 4 (some .int), Cond.fieldLink RX4 17 "CodeMoverModel" "sizes" "[I", Cond.methodLink RX4 86 yX4_all, Cond.instanceMethod yX4_all, Cond.selects RX4 yX4_all yX4_all, Cond.code yX4_all cX4_all 1 (some .int), Cond.fieldLink RX4 59 "CodeMoverModel" "expressions" "I", Cond.methodLink RX4 80 yX4_at, Cond.instanceMethod yX4_at, Cond.selects RX4 yX4_at yX4_at]
def wsX4_delayedAlong_r2 : List Cond := [Cond.code yX4_at cX4_at 3 (some .int), Cond.fieldLink RX4 20 "CodeMoverModel" "code" "[I", Cond.methodLink RX4 90 yX4_dependent, Cond.instanceMethod yX4_dependent, Cond.selects RX4 yX4_dependent yX4_dependent, Cond.code yX4_dependent cX4_dependent 4 (some .int), Cond.fieldLink RX4 9 "CodeMoverModel" "variables" "[I", Cond.methodLink RX4 102 yX4_earlyIn, Cond.instanceMethod yX4_earlyIn, Cond.selects RX4 yX4_earlyIn yX4_earlyIn, Cond.code yX4_earlyIn cX4_earlyIn 6 (some .int)]
def wsX4_delayedAlong : List Cond := .code yX4_delayedAlong cX4_delayedAlong 2 (some .int) :: ((wsX4_delayedAlong_r1 ++ wsX4_delayedAlong_r2) ++ wsX40)
def wsX4_find_r1 : List Cond := [Cond.fieldLink RX4 13 "CodeMoverModel" "blocks" "I", Cond.fieldLink RX4 29 "CodeMoverModel" "neededAt" "[I", Cond.fieldLink RX4 38 "CodeMoverModel" "thereBehind" "[I", Cond.fieldLink RX4 41 "CodeMoverModel" "delayed" "[I", Cond.fieldLink RX4 56 "CodeMoverModel" "edges" "I", Cond.fieldLink RX4 26 "CodeMoverModel" "tos" "[I", Cond.methodLink RX4 86 yX4_all, Cond.instanceMethod yX4_all, Cond.selects RX4 yX4_all yX4_all, Cond.initialized RX4, Cond.code yX4_all cX4_all 1 (some .int), Cond.fieldLink RX4 59 "CodeMoverModel" "expressions" "I", Cond.methodLink RX4 93 yX4_findNeeded, Cond.instanceMethod yX4_findNeeded, Cond.selects RX4 yX4_findNeeded yX4_findNeeded, Cond.code yX4_findNeeded cX4_findNeeded 4 (some .boolean), Cond.fieldLink RX4 23 "CodeMoverModel" "froms" "[I", Cond.fieldLink RX4 32 "CodeMoverModel" "neededBehind" "[I", Cond.methodLink RX4 70 yX4_exits, Cond.instanceMethod yX4_exits, Cond.selects RX4 yX4_exits yX4_exits, Cond.code yX4_exits cX4_exits 4 (some .int), Cond.methodLink RX4 102 yX4_earlyIn, Cond.instanceMethod yX4_earlyIn]
def wsX4_find_r2 : List Cond := [Cond.selects RX4 yX4_earlyIn yX4_earlyIn, Cond.code yX4_earlyIn cX4_earlyIn 6 (some .int), Cond.fieldLink RX4 17 "CodeMoverModel" "sizes" "[I", Cond.methodLink RX4 80 yX4_at, Cond.instanceMethod yX4_at, Cond.selects RX4 yX4_at yX4_at, Cond.code yX4_at cX4_at 3 (some .int), Cond.fieldLink RX4 20 "CodeMoverModel" "code" "[I", Cond.methodLink RX4 90 yX4_dependent, Cond.instanceMethod yX4_dependent, Cond.selects RX4 yX4_dependent yX4_dependent, Cond.code yX4_dependent cX4_dependent 4 (some .int), Cond.fieldLink RX4 9 "CodeMoverModel" "variables" "[I", Cond.methodLink RX4 105 yX4_keptBy, Cond.instanceMethod yX4_keptBy, Cond.selects RX4 yX4_keptBy yX4_keptBy, Cond.code yX4_keptBy cX4_keptBy 4 (some .int), Cond.methodLink RX4 96 yX4_findThere, Cond.instanceMethod yX4_findThere, Cond.selects RX4 yX4_findThere yX4_findThere, Cond.code yX4_findThere cX4_findThere 5 (some .boolean), Cond.fieldLink RX4 35 "CodeMoverModel" "thereAt" "[I", Cond.methodLink RX4 108 yX4_lateIn, Cond.instanceMethod yX4_lateIn]
def wsX4_find_r3 : List Cond := [Cond.selects RX4 yX4_lateIn yX4_lateIn, Cond.code yX4_lateIn cX4_lateIn 5 (some .int), Cond.methodLink RX4 99 yX4_delayedAlong, Cond.instanceMethod yX4_delayedAlong, Cond.selects RX4 yX4_delayedAlong yX4_delayedAlong, Cond.code yX4_delayedAlong cX4_delayedAlong 2 (some .int), Cond.methodLink RX4 111 yX4_earliestFor, Cond.instanceMethod yX4_earliestFor, Cond.selects RX4 yX4_earliestFor yX4_earliestFor, Cond.code yX4_earliestFor cX4_earliestFor 2 (some .int)]
def wsX4_find : List Cond := .code yX4_find cX4_find 6 none :: ((wsX4_find_r1 ++ (wsX4_find_r2 ++ wsX4_find_r3)) ++ wsX40)
def wsX4_insertedOn_r1 : List Cond := [Cond.fieldLink RX4 41 "CodeMoverModel" "delayed" "[I", Cond.fieldLink RX4 26 "CodeMoverModel" "tos" "[I", Cond.methodLink RX4 99 yX4_delayedAlong, Cond.instanceMethod yX4_delayedAlong, Cond.selects RX4 yX4_delayedAlong yX4_delayedAlong, Cond.initialized RX4, Cond.code yX4_delayedAlong cX4_delayedAlong 2 (some .int), Cond.fieldLink RX4 23 "CodeMoverModel" "froms" "[I", Cond.methodLink RX4 111 yX4_earliestFor, Cond.instanceMethod yX4_earliestFor, Cond.selects RX4 yX4_earliestFor yX4_earliestFor, Cond.code yX4_earliestFor cX4_earliestFor 2 (some .int), Cond.fieldLink RX4 29 "CodeMoverModel" "neededAt" "[I", Cond.fieldLink RX4 38 "CodeMoverModel" "thereBehind" "[I", Cond.fieldLink RX4 32 "CodeMoverModel" "neededBehind" "[I", Cond.methodLink RX4 105 yX4_keptBy, Cond.instanceMethod yX4_keptBy, Cond.selects RX4 yX4_keptBy yX4_keptBy, Cond.code yX4_keptBy cX4_keptBy 4 (some .int), Cond.fieldLink RX4 17 "CodeMoverModel" "sizes" "[I", Cond.methodLink RX4 86 yX4_all, Cond.instanceMethod yX4_all, Cond.selects RX4 yX4_all yX4_all, Cond.code yX4_all cX4_all 1 (some .int)]
def wsX4_insertedOn_r2 : List Cond := [Cond.fieldLink RX4 59 "CodeMoverModel" "expressions" "I", Cond.methodLink RX4 80 yX4_at, Cond.instanceMethod yX4_at, Cond.selects RX4 yX4_at yX4_at, Cond.code yX4_at cX4_at 3 (some .int), Cond.fieldLink RX4 20 "CodeMoverModel" "code" "[I", Cond.methodLink RX4 90 yX4_dependent, Cond.instanceMethod yX4_dependent, Cond.selects RX4 yX4_dependent yX4_dependent, Cond.code yX4_dependent cX4_dependent 4 (some .int), Cond.fieldLink RX4 9 "CodeMoverModel" "variables" "[I", Cond.methodLink RX4 102 yX4_earlyIn, Cond.instanceMethod yX4_earlyIn, Cond.selects RX4 yX4_earlyIn yX4_earlyIn, Cond.code yX4_earlyIn cX4_earlyIn 6 (some .int)]
def wsX4_insertedOn : List Cond := .code yX4_insertedOn cX4_insertedOn 2 (some .int) :: ((wsX4_insertedOn_r1 ++ wsX4_insertedOn_r2) ++ wsX40)
def wsX4_deletedIn : List Cond := .code yX4_deletedIn cX4_deletedIn 2 (some .int) :: ([.fieldLink RX4 41 "CodeMoverModel" "delayed" "[I", .methodLink RX4 102 yX4_earlyIn, .instanceMethod yX4_earlyIn, .selects RX4 yX4_earlyIn yX4_earlyIn, .initialized RX4, .code yX4_earlyIn cX4_earlyIn 6 (some .int), .fieldLink RX4 17 "CodeMoverModel" "sizes" "[I", .methodLink RX4 80 yX4_at, .instanceMethod yX4_at, .selects RX4 yX4_at yX4_at, .code yX4_at cX4_at 3 (some .int), .fieldLink RX4 20 "CodeMoverModel" "code" "[I", .methodLink RX4 90 yX4_dependent, .instanceMethod yX4_dependent, .selects RX4 yX4_dependent yX4_dependent, .code yX4_dependent cX4_dependent 4 (some .int), .fieldLink RX4 59 "CodeMoverModel" "expressions" "I", .fieldLink RX4 9 "CodeMoverModel" "variables" "[I"] ++ wsX40)
def wsX4_asks_r1 : List Cond := [Cond.fieldLink RX4 53 "CodeMoverModel" "thrown" "I", Cond.methodLink RX4 114 yX4_find, Cond.instanceMethod yX4_find, Cond.selects RX4 yX4_find yX4_find, Cond.initialized RX4, Cond.code yX4_find cX4_find 6 none, Cond.fieldLink RX4 13 "CodeMoverModel" "blocks" "I", Cond.fieldLink RX4 29 "CodeMoverModel" "neededAt" "[I", Cond.fieldLink RX4 38 "CodeMoverModel" "thereBehind" "[I", Cond.fieldLink RX4 41 "CodeMoverModel" "delayed" "[I", Cond.fieldLink RX4 56 "CodeMoverModel" "edges" "I", Cond.fieldLink RX4 26 "CodeMoverModel" "tos" "[I", Cond.methodLink RX4 86 yX4_all, Cond.instanceMethod yX4_all, Cond.selects RX4 yX4_all yX4_all, Cond.code yX4_all cX4_all 1 (some .int), Cond.fieldLink RX4 59 "CodeMoverModel" "expressions" "I", Cond.methodLink RX4 93 yX4_findNeeded, Cond.instanceMethod yX4_findNeeded, Cond.selects RX4 yX4_findNeeded yX4_findNeeded, Cond.code yX4_findNeeded cX4_findNeeded 4 (some .boolean), Cond.fieldLink RX4 23 "CodeMoverModel" "froms" "[I", Cond.fieldLink RX4 32 "CodeMoverModel" "neededBehind" "[I", Cond.methodLink RX4 70 yX4_exits]
def wsX4_asks_r2 : List Cond := [Cond.instanceMethod yX4_exits, Cond.selects RX4 yX4_exits yX4_exits, Cond.code yX4_exits cX4_exits 4 (some .int), Cond.methodLink RX4 102 yX4_earlyIn, Cond.instanceMethod yX4_earlyIn, Cond.selects RX4 yX4_earlyIn yX4_earlyIn, Cond.code yX4_earlyIn cX4_earlyIn 6 (some .int), Cond.fieldLink RX4 17 "CodeMoverModel" "sizes" "[I", Cond.methodLink RX4 80 yX4_at, Cond.instanceMethod yX4_at, Cond.selects RX4 yX4_at yX4_at, Cond.code yX4_at cX4_at 3 (some .int), Cond.fieldLink RX4 20 "CodeMoverModel" "code" "[I", Cond.methodLink RX4 90 yX4_dependent, Cond.instanceMethod yX4_dependent, Cond.selects RX4 yX4_dependent yX4_dependent, Cond.code yX4_dependent cX4_dependent 4 (some .int), Cond.fieldLink RX4 9 "CodeMoverModel" "variables" "[I", Cond.methodLink RX4 105 yX4_keptBy, Cond.instanceMethod yX4_keptBy, Cond.selects RX4 yX4_keptBy yX4_keptBy, Cond.code yX4_keptBy cX4_keptBy 4 (some .int), Cond.methodLink RX4 96 yX4_findThere, Cond.instanceMethod yX4_findThere]
def wsX4_asks_r3 : List Cond := [Cond.selects RX4 yX4_findThere yX4_findThere, Cond.code yX4_findThere cX4_findThere 5 (some .boolean), Cond.fieldLink RX4 35 "CodeMoverModel" "thereAt" "[I", Cond.methodLink RX4 108 yX4_lateIn, Cond.instanceMethod yX4_lateIn, Cond.selects RX4 yX4_lateIn yX4_lateIn, Cond.code yX4_lateIn cX4_lateIn 5 (some .int), Cond.methodLink RX4 99 yX4_delayedAlong, Cond.instanceMethod yX4_delayedAlong, Cond.selects RX4 yX4_delayedAlong yX4_delayedAlong, Cond.code yX4_delayedAlong cX4_delayedAlong 2 (some .int), Cond.methodLink RX4 111 yX4_earliestFor, Cond.instanceMethod yX4_earliestFor, Cond.selects RX4 yX4_earliestFor yX4_earliestFor, Cond.code yX4_earliestFor cX4_earliestFor 2 (some .int)]
def wsX4_asks : List Cond := .code yX4_asks cX4_asks 2 (some .boolean) :: ((wsX4_asks_r1 ++ (wsX4_asks_r2 ++ wsX4_asks_r3)) ++ wsX40)
def wsX4_kept_r1 : List Cond := [Cond.methodLink RX4 66 yX4_isBlock, Cond.instanceMethod yX4_isBlock, Cond.selects RX4 yX4_isBlock yX4_isBlock, Cond.initialized RX4, Cond.code yX4_isBlock cX4_isBlock 2 (some .boolean), Cond.fieldLink RX4 13 "CodeMoverModel" "blocks" "I", Cond.methodLink RX4 117 yX4_asks, Cond.instanceMethod yX4_asks, Cond.selects RX4 yX4_asks yX4_asks, Cond.code yX4_asks cX4_asks 2 (some .boolean), Cond.fieldLink RX4 53 "CodeMoverModel" "thrown" "I", Cond.methodLink RX4 114 yX4_find, Cond.instanceMethod yX4_find, Cond.selects RX4 yX4_find yX4_find, Cond.code yX4_find cX4_find 6 none, Cond.fieldLink RX4 29 "CodeMoverModel" "neededAt" "[I", Cond.fieldLink RX4 38 "CodeMoverModel" "thereBehind" "[I", Cond.fieldLink RX4 41 "CodeMoverModel" "delayed" "[I", Cond.fieldLink RX4 56 "CodeMoverModel" "edges" "I", Cond.fieldLink RX4 26 "CodeMoverModel" "tos" "[I", Cond.methodLink RX4 86 yX4_all, Cond.instanceMethod yX4_all, Cond.selects RX4 yX4_all yX4_all, Cond.code yX4_all cX4_all 1 (some .int)]
def wsX4_kept_r2 : List Cond := [Cond.fieldLink RX4 59 "CodeMoverModel" "expressions" "I", Cond.methodLink RX4 93 yX4_findNeeded, Cond.instanceMethod yX4_findNeeded, Cond.selects RX4 yX4_findNeeded yX4_findNeeded, Cond.code yX4_findNeeded cX4_findNeeded 4 (some .boolean), Cond.fieldLink RX4 23 "CodeMoverModel" "froms" "[I", Cond.fieldLink RX4 32 "CodeMoverModel" "neededBehind" "[I", Cond.methodLink RX4 70 yX4_exits, Cond.instanceMethod yX4_exits, Cond.selects RX4 yX4_exits yX4_exits, Cond.code yX4_exits cX4_exits 4 (some .int), Cond.methodLink RX4 102 yX4_earlyIn, Cond.instanceMethod yX4_earlyIn, Cond.selects RX4 yX4_earlyIn yX4_earlyIn, Cond.code yX4_earlyIn cX4_earlyIn 6 (some .int), Cond.fieldLink RX4 17 "CodeMoverModel" "sizes" "[I", Cond.methodLink RX4 80 yX4_at, Cond.instanceMethod yX4_at, Cond.selects RX4 yX4_at yX4_at, Cond.code yX4_at cX4_at 3 (some .int), Cond.fieldLink RX4 20 "CodeMoverModel" "code" "[I", Cond.methodLink RX4 90 yX4_dependent, Cond.instanceMethod yX4_dependent, Cond.selects RX4 yX4_dependent yX4_dependent]
def wsX4_kept_r3 : List Cond := [Cond.code yX4_dependent cX4_dependent 4 (some .int), Cond.fieldLink RX4 9 "CodeMoverModel" "variables" "[I", Cond.methodLink RX4 105 yX4_keptBy, Cond.instanceMethod yX4_keptBy, Cond.selects RX4 yX4_keptBy yX4_keptBy, Cond.code yX4_keptBy cX4_keptBy 4 (some .int), Cond.methodLink RX4 96 yX4_findThere, Cond.instanceMethod yX4_findThere, Cond.selects RX4 yX4_findThere yX4_findThere, Cond.code yX4_findThere cX4_findThere 5 (some .boolean), Cond.fieldLink RX4 35 "CodeMoverModel" "thereAt" "[I", Cond.methodLink RX4 108 yX4_lateIn, Cond.instanceMethod yX4_lateIn, Cond.selects RX4 yX4_lateIn yX4_lateIn, Cond.code yX4_lateIn cX4_lateIn 5 (some .int), Cond.methodLink RX4 99 yX4_delayedAlong, Cond.instanceMethod yX4_delayedAlong, Cond.selects RX4 yX4_delayedAlong yX4_delayedAlong, Cond.code yX4_delayedAlong cX4_delayedAlong 2 (some .int), Cond.methodLink RX4 111 yX4_earliestFor, Cond.instanceMethod yX4_earliestFor, Cond.selects RX4 yX4_earliestFor yX4_earliestFor, Cond.code yX4_earliestFor cX4_earliestFor 2 (some .int)]
def wsX4_kept : List Cond := .code yX4_kept cX4_kept 2 (some .int) :: ((wsX4_kept_r1 ++ (wsX4_kept_r2 ++ wsX4_kept_r3)) ++ wsX40)
def wsX4_early_r1 : List Cond := [Cond.methodLink RX4 66 yX4_isBlock, Cond.instanceMethod yX4_isBlock, Cond.selects RX4 yX4_isBlock yX4_isBlock, Cond.initialized RX4, Cond.code yX4_isBlock cX4_isBlock 2 (some .boolean), Cond.fieldLink RX4 13 "CodeMoverModel" "blocks" "I", Cond.methodLink RX4 117 yX4_asks, Cond.instanceMethod yX4_asks, Cond.selects RX4 yX4_asks yX4_asks, Cond.code yX4_asks cX4_asks 2 (some .boolean), Cond.fieldLink RX4 53 "CodeMoverModel" "thrown" "I", Cond.methodLink RX4 114 yX4_find, Cond.instanceMethod yX4_find, Cond.selects RX4 yX4_find yX4_find, Cond.code yX4_find cX4_find 6 none, Cond.fieldLink RX4 29 "CodeMoverModel" "neededAt" "[I", Cond.fieldLink RX4 38 "CodeMoverModel" "thereBehind" "[I", Cond.fieldLink RX4 41 "CodeMoverModel" "delayed" "[I", Cond.fieldLink RX4 56 "CodeMoverModel" "edges" "I", Cond.fieldLink RX4 26 "CodeMoverModel" "tos" "[I", Cond.methodLink RX4 86 yX4_all, Cond.instanceMethod yX4_all, Cond.selects RX4 yX4_all yX4_all, Cond.code yX4_all cX4_all 1 (some .int)]
def wsX4_early_r2 : List Cond := [Cond.fieldLink RX4 59 "CodeMoverModel" "expressions" "I", Cond.methodLink RX4 93 yX4_findNeeded, Cond.instanceMethod yX4_findNeeded, Cond.selects RX4 yX4_findNeeded yX4_findNeeded, Cond.code yX4_findNeeded cX4_findNeeded 4 (some .boolean), Cond.fieldLink RX4 23 "CodeMoverModel" "froms" "[I", Cond.fieldLink RX4 32 "CodeMoverModel" "neededBehind" "[I", Cond.methodLink RX4 70 yX4_exits, Cond.instanceMethod yX4_exits, Cond.selects RX4 yX4_exits yX4_exits, Cond.code yX4_exits cX4_exits 4 (some .int), Cond.methodLink RX4 102 yX4_earlyIn, Cond.instanceMethod yX4_earlyIn, Cond.selects RX4 yX4_earlyIn yX4_earlyIn, Cond.code yX4_earlyIn cX4_earlyIn 6 (some .int), Cond.fieldLink RX4 17 "CodeMoverModel" "sizes" "[I", Cond.methodLink RX4 80 yX4_at, Cond.instanceMethod yX4_at, Cond.selects RX4 yX4_at yX4_at, Cond.code yX4_at cX4_at 3 (some .int), Cond.fieldLink RX4 20 "CodeMoverModel" "code" "[I", Cond.methodLink RX4 90 yX4_dependent, Cond.instanceMethod yX4_dependent, Cond.selects RX4 yX4_dependent yX4_dependent]
def wsX4_early_r3 : List Cond := [Cond.code yX4_dependent cX4_dependent 4 (some .int), Cond.fieldLink RX4 9 "CodeMoverModel" "variables" "[I", Cond.methodLink RX4 105 yX4_keptBy, Cond.instanceMethod yX4_keptBy, Cond.selects RX4 yX4_keptBy yX4_keptBy, Cond.code yX4_keptBy cX4_keptBy 4 (some .int), Cond.methodLink RX4 96 yX4_findThere, Cond.instanceMethod yX4_findThere, Cond.selects RX4 yX4_findThere yX4_findThere, Cond.code yX4_findThere cX4_findThere 5 (some .boolean), Cond.fieldLink RX4 35 "CodeMoverModel" "thereAt" "[I", Cond.methodLink RX4 108 yX4_lateIn, Cond.instanceMethod yX4_lateIn, Cond.selects RX4 yX4_lateIn yX4_lateIn, Cond.code yX4_lateIn cX4_lateIn 5 (some .int), Cond.methodLink RX4 99 yX4_delayedAlong, Cond.instanceMethod yX4_delayedAlong, Cond.selects RX4 yX4_delayedAlong yX4_delayedAlong, Cond.code yX4_delayedAlong cX4_delayedAlong 2 (some .int), Cond.methodLink RX4 111 yX4_earliestFor, Cond.instanceMethod yX4_earliestFor, Cond.selects RX4 yX4_earliestFor yX4_earliestFor, Cond.code yX4_earliestFor cX4_earliestFor 2 (some .int)]
def wsX4_early : List Cond := .code yX4_early cX4_early 2 (some .int) :: ((wsX4_early_r1 ++ (wsX4_early_r2 ++ wsX4_early_r3)) ++ wsX40)
def wsX4_late_r1 : List Cond := [Cond.methodLink RX4 66 yX4_isBlock, Cond.instanceMethod yX4_isBlock, Cond.selects RX4 yX4_isBlock yX4_isBlock, Cond.initialized RX4, Cond.code yX4_isBlock cX4_isBlock 2 (some .boolean), Cond.fieldLink RX4 13 "CodeMoverModel" "blocks" "I", Cond.methodLink RX4 117 yX4_asks, Cond.instanceMethod yX4_asks, Cond.selects RX4 yX4_asks yX4_asks, Cond.code yX4_asks cX4_asks 2 (some .boolean), Cond.fieldLink RX4 53 "CodeMoverModel" "thrown" "I", Cond.methodLink RX4 114 yX4_find, Cond.instanceMethod yX4_find, Cond.selects RX4 yX4_find yX4_find, Cond.code yX4_find cX4_find 6 none, Cond.fieldLink RX4 29 "CodeMoverModel" "neededAt" "[I", Cond.fieldLink RX4 38 "CodeMoverModel" "thereBehind" "[I", Cond.fieldLink RX4 41 "CodeMoverModel" "delayed" "[I", Cond.fieldLink RX4 56 "CodeMoverModel" "edges" "I", Cond.fieldLink RX4 26 "CodeMoverModel" "tos" "[I", Cond.methodLink RX4 86 yX4_all, Cond.instanceMethod yX4_all, Cond.selects RX4 yX4_all yX4_all, Cond.code yX4_all cX4_all 1 (some .int)]
def wsX4_late_r2 : List Cond := [Cond.fieldLink RX4 59 "CodeMoverModel" "expressions" "I", Cond.methodLink RX4 93 yX4_findNeeded, Cond.instanceMethod yX4_findNeeded, Cond.selects RX4 yX4_findNeeded yX4_findNeeded, Cond.code yX4_findNeeded cX4_findNeeded 4 (some .boolean), Cond.fieldLink RX4 23 "CodeMoverModel" "froms" "[I", Cond.fieldLink RX4 32 "CodeMoverModel" "neededBehind" "[I", Cond.methodLink RX4 70 yX4_exits, Cond.instanceMethod yX4_exits, Cond.selects RX4 yX4_exits yX4_exits, Cond.code yX4_exits cX4_exits 4 (some .int), Cond.methodLink RX4 102 yX4_earlyIn, Cond.instanceMethod yX4_earlyIn, Cond.selects RX4 yX4_earlyIn yX4_earlyIn, Cond.code yX4_earlyIn cX4_earlyIn 6 (some .int), Cond.fieldLink RX4 17 "CodeMoverModel" "sizes" "[I", Cond.methodLink RX4 80 yX4_at, Cond.instanceMethod yX4_at, Cond.selects RX4 yX4_at yX4_at, Cond.code yX4_at cX4_at 3 (some .int), Cond.fieldLink RX4 20 "CodeMoverModel" "code" "[I", Cond.methodLink RX4 90 yX4_dependent, Cond.instanceMethod yX4_dependent, Cond.selects RX4 yX4_dependent yX4_dependent]
def wsX4_late_r3 : List Cond := [Cond.code yX4_dependent cX4_dependent 4 (some .int), Cond.fieldLink RX4 9 "CodeMoverModel" "variables" "[I", Cond.methodLink RX4 105 yX4_keptBy, Cond.instanceMethod yX4_keptBy, Cond.selects RX4 yX4_keptBy yX4_keptBy, Cond.code yX4_keptBy cX4_keptBy 4 (some .int), Cond.methodLink RX4 96 yX4_findThere, Cond.instanceMethod yX4_findThere, Cond.selects RX4 yX4_findThere yX4_findThere, Cond.code yX4_findThere cX4_findThere 5 (some .boolean), Cond.fieldLink RX4 35 "CodeMoverModel" "thereAt" "[I", Cond.methodLink RX4 108 yX4_lateIn, Cond.instanceMethod yX4_lateIn, Cond.selects RX4 yX4_lateIn yX4_lateIn, Cond.code yX4_lateIn cX4_lateIn 5 (some .int), Cond.methodLink RX4 99 yX4_delayedAlong, Cond.instanceMethod yX4_delayedAlong, Cond.selects RX4 yX4_delayedAlong yX4_delayedAlong, Cond.code yX4_delayedAlong cX4_delayedAlong 2 (some .int), Cond.methodLink RX4 111 yX4_earliestFor, Cond.instanceMethod yX4_earliestFor, Cond.selects RX4 yX4_earliestFor yX4_earliestFor, Cond.code yX4_earliestFor cX4_earliestFor 2 (some .int)]
def wsX4_late : List Cond := .code yX4_late cX4_late 2 (some .int) :: ((wsX4_late_r1 ++ (wsX4_late_r2 ++ wsX4_late_r3)) ++ wsX40)
def wsX4_needed_r1 : List Cond := [Cond.fieldLink RX4 32 "CodeMoverModel" "neededBehind" "[I", Cond.fieldLink RX4 29 "CodeMoverModel" "neededAt" "[I", Cond.methodLink RX4 66 yX4_isBlock, Cond.instanceMethod yX4_isBlock, Cond.selects RX4 yX4_isBlock yX4_isBlock, Cond.initialized RX4, Cond.code yX4_isBlock cX4_isBlock 2 (some .boolean), Cond.fieldLink RX4 13 "CodeMoverModel" "blocks" "I", Cond.methodLink RX4 117 yX4_asks, Cond.instanceMethod yX4_asks, Cond.selects RX4 yX4_asks yX4_asks, Cond.code yX4_asks cX4_asks 2 (some .boolean), Cond.fieldLink RX4 53 "CodeMoverModel" "thrown" "I", Cond.methodLink RX4 114 yX4_find, Cond.instanceMethod yX4_find, Cond.selects RX4 yX4_find yX4_find, Cond.code yX4_find cX4_find 6 none, Cond.fieldLink RX4 38 "CodeMoverModel" "thereBehind" "[I", Cond.fieldLink RX4 41 "CodeMoverModel" "delayed" "[I", Cond.fieldLink RX4 56 "CodeMoverModel" "edges" "I", Cond.fieldLink RX4 26 "CodeMoverModel" "tos" "[I", Cond.methodLink RX4 86 yX4_all, Cond.instanceMethod yX4_all, Cond.selects RX4 yX4_all yX4_all]
def wsX4_needed_r2 : List Cond := [Cond.code yX4_all cX4_all 1 (some .int), Cond.fieldLink RX4 59 "CodeMoverModel" "expressions" "I", Cond.methodLink RX4 93 yX4_findNeeded, Cond.instanceMethod yX4_findNeeded, Cond.selects RX4 yX4_findNeeded yX4_findNeeded, Cond.code yX4_findNeeded cX4_findNeeded 4 (some .boolean), Cond.fieldLink RX4 23 "CodeMoverModel" "froms" "[I", Cond.methodLink RX4 70 yX4_exits, Cond.instanceMethod yX4_exits, Cond.selects RX4 yX4_exits yX4_exits, Cond.code yX4_exits cX4_exits 4 (some .int), Cond.methodLink RX4 102 yX4_earlyIn, Cond.instanceMethod yX4_earlyIn, Cond.selects RX4 yX4_earlyIn yX4_earlyIn, Cond.code yX4_earlyIn cX4_earlyIn 6 (some .int), Cond.fieldLink RX4 17 "CodeMoverModel" "sizes" "[I", Cond.methodLink RX4 80 yX4_at, Cond.instanceMethod yX4_at, Cond.selects RX4 yX4_at yX4_at, Cond.code yX4_at cX4_at 3 (some .int), Cond.fieldLink RX4 20 "CodeMoverModel" "code" "[I", Cond.methodLink RX4 90 yX4_dependent, Cond.instanceMethod yX4_dependent, Cond.selects RX4 yX4_dependent yX4_dependent]
def wsX4_needed_r3 : List Cond := [Cond.code yX4_dependent cX4_dependent 4 (some .int), Cond.fieldLink RX4 9 "CodeMoverModel" "variables" "[I", Cond.methodLink RX4 105 yX4_keptBy, Cond.instanceMethod yX4_keptBy, Cond.selects RX4 yX4_keptBy yX4_keptBy, Cond.code yX4_keptBy cX4_keptBy 4 (some .int), Cond.methodLink RX4 96 yX4_findThere, Cond.instanceMethod yX4_findThere, Cond.selects RX4 yX4_findThere yX4_findThere, Cond.code yX4_findThere cX4_findThere 5 (some .boolean), Cond.fieldLink RX4 35 "CodeMoverModel" "thereAt" "[I", Cond.methodLink RX4 108 yX4_lateIn, Cond.instanceMethod yX4_lateIn, Cond.selects RX4 yX4_lateIn yX4_lateIn, Cond.code yX4_lateIn cX4_lateIn 5 (some .int), Cond.methodLink RX4 99 yX4_delayedAlong, Cond.instanceMethod yX4_delayedAlong, Cond.selects RX4 yX4_delayedAlong yX4_delayedAlong, Cond.code yX4_delayedAlong cX4_delayedAlong 2 (some .int), Cond.methodLink RX4 111 yX4_earliestFor, Cond.instanceMethod yX4_earliestFor, Cond.selects RX4 yX4_earliestFor yX4_earliestFor, Cond.code yX4_earliestFor cX4_earliestFor 2 (some .int)]
def wsX4_needed : List Cond := .code yX4_needed cX4_needed 3 (some .int) :: ((wsX4_needed_r1 ++ (wsX4_needed_r2 ++ wsX4_needed_r3)) ++ wsX40)
def wsX4_there_r1 : List Cond := [Cond.fieldLink RX4 38 "CodeMoverModel" "thereBehind" "[I", Cond.fieldLink RX4 35 "CodeMoverModel" "thereAt" "[I", Cond.methodLink RX4 66 yX4_isBlock, Cond.instanceMethod yX4_isBlock, Cond.selects RX4 yX4_isBlock yX4_isBlock, Cond.initialized RX4, Cond.code yX4_isBlock cX4_isBlock 2 (some .boolean), Cond.fieldLink RX4 13 "CodeMoverModel" "blocks" "I", Cond.methodLink RX4 117 yX4_asks, Cond.instanceMethod yX4_asks, Cond.selects RX4 yX4_asks yX4_asks, Cond.code yX4_asks cX4_asks 2 (some .boolean), Cond.fieldLink RX4 53 "CodeMoverModel" "thrown" "I", Cond.methodLink RX4 114 yX4_find, Cond.instanceMethod yX4_find, Cond.selects RX4 yX4_find yX4_find, Cond.code yX4_find cX4_find 6 none, Cond.fieldLink RX4 29 "CodeMoverModel" "neededAt" "[I", Cond.fieldLink RX4 41 "CodeMoverModel" "delayed" "[I", Cond.fieldLink RX4 56 "CodeMoverModel" "edges" "I", Cond.fieldLink RX4 26 "CodeMoverModel" "tos" "[I", Cond.methodLink RX4 86 yX4_all, Cond.instanceMethod yX4_all, Cond.selects RX4 yX4_all yX4_all]
def wsX4_there_r2 : List Cond := [Cond.code yX4_all cX4_all 1 (some .int), Cond.fieldLink RX4 59 "CodeMoverModel" "expressions" "I", Cond.methodLink RX4 93 yX4_findNeeded, Cond.instanceMethod yX4_findNeeded, Cond.selects RX4 yX4_findNeeded yX4_findNeeded, Cond.code yX4_findNeeded cX4_findNeeded 4 (some .boolean), Cond.fieldLink RX4 23 "CodeMoverModel" "froms" "[I", Cond.fieldLink RX4 32 "CodeMoverModel" "neededBehind" "[I", Cond.methodLink RX4 70 yX4_exits, Cond.instanceMethod yX4_exits, Cond.selects RX4 yX4_exits yX4_exits, Cond.code yX4_exits cX4_exits 4 (some .int), Cond.methodLink RX4 102 yX4_earlyIn, Cond.instanceMethod yX4_earlyIn, Cond.selects RX4 yX4_earlyIn yX4_earlyIn, Cond.code yX4_earlyIn cX4_earlyIn 6 (some .int), Cond.fieldLink RX4 17 "CodeMoverModel" "sizes" "[I", Cond.methodLink RX4 80 yX4_at, Cond.instanceMethod yX4_at, Cond.selects RX4 yX4_at yX4_at, Cond.code yX4_at cX4_at 3 (some .int), Cond.fieldLink RX4 20 "CodeMoverModel" "code" "[I", Cond.methodLink RX4 90 yX4_dependent, Cond.instanceMethod yX4_dependent]
def wsX4_there_r3 : List Cond := [Cond.selects RX4 yX4_dependent yX4_dependent, Cond.code yX4_dependent cX4_dependent 4 (some .int), Cond.fieldLink RX4 9 "CodeMoverModel" "variables" "[I", Cond.methodLink RX4 105 yX4_keptBy, Cond.instanceMethod yX4_keptBy, Cond.selects RX4 yX4_keptBy yX4_keptBy, Cond.code yX4_keptBy cX4_keptBy 4 (some .int), Cond.methodLink RX4 96 yX4_findThere, Cond.instanceMethod yX4_findThere, Cond.selects RX4 yX4_findThere yX4_findThere, Cond.code yX4_findThere cX4_findThere 5 (some .boolean), Cond.methodLink RX4 108 yX4_lateIn, Cond.instanceMethod yX4_lateIn, Cond.selects RX4 yX4_lateIn yX4_lateIn, Cond.code yX4_lateIn cX4_lateIn 5 (some .int), Cond.methodLink RX4 99 yX4_delayedAlong, Cond.instanceMethod yX4_delayedAlong, Cond.selects RX4 yX4_delayedAlong yX4_delayedAlong, Cond.code yX4_delayedAlong cX4_delayedAlong 2 (some .int), Cond.methodLink RX4 111 yX4_earliestFor, Cond.instanceMethod yX4_earliestFor, Cond.selects RX4 yX4_earliestFor yX4_earliestFor, Cond.code yX4_earliestFor cX4_earliestFor 2 (some .int)]
def wsX4_there : List Cond := .code yX4_there cX4_there 3 (some .int) :: ((wsX4_there_r1 ++ (wsX4_there_r2 ++ wsX4_there_r3)) ++ wsX40)
def wsX4_earliest_r1 : List Cond := [Cond.methodLink RX4 83 yX4_isEdge, Cond.instanceMethod yX4_isEdge, Cond.selects RX4 yX4_isEdge yX4_isEdge, Cond.initialized RX4, Cond.code yX4_isEdge cX4_isEdge 2 (some .boolean), Cond.fieldLink RX4 56 "CodeMoverModel" "edges" "I", Cond.methodLink RX4 117 yX4_asks, Cond.instanceMethod yX4_asks, Cond.selects RX4 yX4_asks yX4_asks, Cond.code yX4_asks cX4_asks 2 (some .boolean), Cond.fieldLink RX4 53 "CodeMoverModel" "thrown" "I", Cond.methodLink RX4 114 yX4_find, Cond.instanceMethod yX4_find, Cond.selects RX4 yX4_find yX4_find, Cond.code yX4_find cX4_find 6 none, Cond.fieldLink RX4 13 "CodeMoverModel" "blocks" "I", Cond.fieldLink RX4 29 "CodeMoverModel" "neededAt" "[I", Cond.fieldLink RX4 38 "CodeMoverModel" "thereBehind" "[I", Cond.fieldLink RX4 41 "CodeMoverModel" "delayed" "[I", Cond.fieldLink RX4 26 "CodeMoverModel" "tos" "[I", Cond.methodLink RX4 86 yX4_all, Cond.instanceMethod yX4_all, Cond.selects RX4 yX4_all yX4_all, Cond.code yX4_all cX4_all 1 (some .int)]
def wsX4_earliest_r2 : List Cond := [Cond.fieldLink RX4 59 "CodeMoverModel" "expressions" "I", Cond.methodLink RX4 93 yX4_findNeeded, Cond.instanceMethod yX4_findNeeded, Cond.selects RX4 yX4_findNeeded yX4_findNeeded, Cond.code yX4_findNeeded cX4_findNeeded 4 (some .boolean), Cond.fieldLink RX4 23 "CodeMoverModel" "froms" "[I", Cond.fieldLink RX4 32 "CodeMoverModel" "neededBehind" "[I", Cond.methodLink RX4 70 yX4_exits, Cond.instanceMethod yX4_exits, Cond.selects RX4 yX4_exits yX4_exits, Cond.code yX4_exits cX4_exits 4 (some .int), Cond.methodLink RX4 102 yX4_earlyIn, Cond.instanceMethod yX4_earlyIn, Cond.selects RX4 yX4_earlyIn yX4_earlyIn, Cond.code yX4_earlyIn cX4_earlyIn 6 (some .int), Cond.fieldLink RX4 17 "CodeMoverModel" "sizes" "[I", Cond.methodLink RX4 80 yX4_at, Cond.instanceMethod yX4_at, Cond.selects RX4 yX4_at yX4_at, Cond.code yX4_at cX4_at 3 (some .int), Cond.fieldLink RX4 20 "CodeMoverModel" "code" "[I", Cond.methodLink RX4 90 yX4_dependent, Cond.instanceMethod yX4_dependent, Cond.selects RX4 yX4_dependent yX4_dependent]
def wsX4_earliest_r3 : List Cond := [Cond.code yX4_dependent cX4_dependent 4 (some .int), Cond.fieldLink RX4 9 "CodeMoverModel" "variables" "[I", Cond.methodLink RX4 105 yX4_keptBy, Cond.instanceMethod yX4_keptBy, Cond.selects RX4 yX4_keptBy yX4_keptBy, Cond.code yX4_keptBy cX4_keptBy 4 (some .int), Cond.methodLink RX4 96 yX4_findThere, Cond.instanceMethod yX4_findThere, Cond.selects RX4 yX4_findThere yX4_findThere, Cond.code yX4_findThere cX4_findThere 5 (some .boolean), Cond.fieldLink RX4 35 "CodeMoverModel" "thereAt" "[I", Cond.methodLink RX4 108 yX4_lateIn, Cond.instanceMethod yX4_lateIn, Cond.selects RX4 yX4_lateIn yX4_lateIn, Cond.code yX4_lateIn cX4_lateIn 5 (some .int), Cond.methodLink RX4 99 yX4_delayedAlong, Cond.instanceMethod yX4_delayedAlong, Cond.selects RX4 yX4_delayedAlong yX4_delayedAlong, Cond.code yX4_delayedAlong cX4_delayedAlong 2 (some .int), Cond.methodLink RX4 111 yX4_earliestFor, Cond.instanceMethod yX4_earliestFor, Cond.selects RX4 yX4_earliestFor yX4_earliestFor, Cond.code yX4_earliestFor cX4_earliestFor 2 (some .int)]
def wsX4_earliest : List Cond := .code yX4_earliest cX4_earliest 2 (some .int) :: ((wsX4_earliest_r1 ++ (wsX4_earliest_r2 ++ wsX4_earliest_r3)) ++ wsX40)
def wsX4_delayedOn_r1 : List Cond := [Cond.methodLink RX4 83 yX4_isEdge, Cond.instanceMethod yX4_isEdge, Cond.selects RX4 yX4_isEdge yX4_isEdge, Cond.initialized RX4, Cond.code yX4_isEdge cX4_isEdge 2 (some .boolean), Cond.fieldLink RX4 56 "CodeMoverModel" "edges" "I", Cond.methodLink RX4 117 yX4_asks, Cond.instanceMethod yX4_asks, Cond.selects RX4 yX4_asks yX4_asks, Cond.code yX4_asks cX4_asks 2 (some .boolean), Cond.fieldLink RX4 53 "CodeMoverModel" "thrown" "I", Cond.methodLink RX4 114 yX4_find, Cond.instanceMethod yX4_find, Cond.selects RX4 yX4_find yX4_find, Cond.code yX4_find cX4_find 6 none, Cond.fieldLink RX4 13 "CodeMoverModel" "blocks" "I", Cond.fieldLink RX4 29 "CodeMoverModel" "neededAt" "[I", Cond.fieldLink RX4 38 "CodeMoverModel" "thereBehind" "[I", Cond.fieldLink RX4 41 "CodeMoverModel" "delayed" "[I", Cond.fieldLink RX4 26 "CodeMoverModel" "tos" "[I", Cond.methodLink RX4 86 yX4_all, Cond.instanceMethod yX4_all, Cond.selects RX4 yX4_all yX4_all, Cond.code yX4_all cX4_all 1 (some .int)]
def wsX4_delayedOn_r2 : List Cond := [Cond.fieldLink RX4 59 "CodeMoverModel" "expressions" "I", Cond.methodLink RX4 93 yX4_findNeeded, Cond.instanceMethod yX4_findNeeded, Cond.selects RX4 yX4_findNeeded yX4_findNeeded, Cond.code yX4_findNeeded cX4_findNeeded 4 (some .boolean), Cond.fieldLink RX4 23 "CodeMoverModel" "froms" "[I", Cond.fieldLink RX4 32 "CodeMoverModel" "neededBehind" "[I", Cond.methodLink RX4 70 yX4_exits, Cond.instanceMethod yX4_exits, Cond.selects RX4 yX4_exits yX4_exits, Cond.code yX4_exits cX4_exits 4 (some .int), Cond.methodLink RX4 102 yX4_earlyIn, Cond.instanceMethod yX4_earlyIn, Cond.selects RX4 yX4_earlyIn yX4_earlyIn, Cond.code yX4_earlyIn cX4_earlyIn 6 (some .int), Cond.fieldLink RX4 17 "CodeMoverModel" "sizes" "[I", Cond.methodLink RX4 80 yX4_at, Cond.instanceMethod yX4_at, Cond.selects RX4 yX4_at yX4_at, Cond.code yX4_at cX4_at 3 (some .int), Cond.fieldLink RX4 20 "CodeMoverModel" "code" "[I", Cond.methodLink RX4 90 yX4_dependent, Cond.instanceMethod yX4_dependent, Cond.selects RX4 yX4_dependent yX4_dependent]
def wsX4_delayedOn_r3 : List Cond := [Cond.code yX4_dependent cX4_dependent 4 (some .int), Cond.fieldLink RX4 9 "CodeMoverModel" "variables" "[I", Cond.methodLink RX4 105 yX4_keptBy, Cond.instanceMethod yX4_keptBy, Cond.selects RX4 yX4_keptBy yX4_keptBy, Cond.code yX4_keptBy cX4_keptBy 4 (some .int), Cond.methodLink RX4 96 yX4_findThere, Cond.instanceMethod yX4_findThere, Cond.selects RX4 yX4_findThere yX4_findThere, Cond.code yX4_findThere cX4_findThere 5 (some .boolean), Cond.fieldLink RX4 35 "CodeMoverModel" "thereAt" "[I", Cond.methodLink RX4 108 yX4_lateIn, Cond.instanceMethod yX4_lateIn, Cond.selects RX4 yX4_lateIn yX4_lateIn, Cond.code yX4_lateIn cX4_lateIn 5 (some .int), Cond.methodLink RX4 99 yX4_delayedAlong, Cond.instanceMethod yX4_delayedAlong, Cond.selects RX4 yX4_delayedAlong yX4_delayedAlong, Cond.code yX4_delayedAlong cX4_delayedAlong 2 (some .int), Cond.methodLink RX4 111 yX4_earliestFor, Cond.instanceMethod yX4_earliestFor, Cond.selects RX4 yX4_earliestFor yX4_earliestFor, Cond.code yX4_earliestFor cX4_earliestFor 2 (some .int)]
def wsX4_delayedOn : List Cond := .code yX4_delayedOn cX4_delayedOn 2 (some .int) :: ((wsX4_delayedOn_r1 ++ (wsX4_delayedOn_r2 ++ wsX4_delayedOn_r3)) ++ wsX40)
def wsX4_delayedAt_r1 : List Cond := [Cond.fieldLink RX4 41 "CodeMoverModel" "delayed" "[I", Cond.methodLink RX4 66 yX4_isBlock, Cond.instanceMethod yX4_isBlock, Cond.selects RX4 yX4_isBlock yX4_isBlock, Cond.initialized RX4, Cond.code yX4_isBlock cX4_isBlock 2 (some .boolean), Cond.fieldLink RX4 13 "CodeMoverModel" "blocks" "I", Cond.methodLink RX4 117 yX4_asks, Cond.instanceMethod yX4_asks, Cond.selects RX4 yX4_asks yX4_asks, Cond.code yX4_asks cX4_asks 2 (some .boolean), Cond.fieldLink RX4 53 "CodeMoverModel" "thrown" "I", Cond.methodLink RX4 114 yX4_find, Cond.instanceMethod yX4_find, Cond.selects RX4 yX4_find yX4_find, Cond.code yX4_find cX4_find 6 none, Cond.fieldLink RX4 29 "CodeMoverModel" "neededAt" "[I", Cond.fieldLink RX4 38 "CodeMoverModel" "thereBehind" "[I", Cond.fieldLink RX4 56 "CodeMoverModel" "edges" "I", Cond.fieldLink RX4 26 "CodeMoverModel" "tos" "[I", Cond.methodLink RX4 86 yX4_all, Cond.instanceMethod yX4_all, Cond.selects RX4 yX4_all yX4_all, Cond.code yX4_all cX4_all 1 (some .int)]
def wsX4_delayedAt_r2 : List Cond := [Cond.fieldLink RX4 59 "CodeMoverModel" "expressions" "I", Cond.methodLink RX4 93 yX4_findNeeded, Cond.instanceMethod yX4_findNeeded, Cond.selects RX4 yX4_findNeeded yX4_findNeeded, Cond.code yX4_findNeeded cX4_findNeeded 4 (some .boolean), Cond.fieldLink RX4 23 "CodeMoverModel" "froms" "[I", Cond.fieldLink RX4 32 "CodeMoverModel" "neededBehind" "[I", Cond.methodLink RX4 70 yX4_exits, Cond.instanceMethod yX4_exits, Cond.selects RX4 yX4_exits yX4_exits, Cond.code yX4_exits cX4_exits 4 (some .int), Cond.methodLink RX4 102 yX4_earlyIn, Cond.instanceMethod yX4_earlyIn, Cond.selects RX4 yX4_earlyIn yX4_earlyIn, Cond.code yX4_earlyIn cX4_earlyIn 6 (some .int), Cond.fieldLink RX4 17 "CodeMoverModel" "sizes" "[I", Cond.methodLink RX4 80 yX4_at, Cond.instanceMethod yX4_at, Cond.selects RX4 yX4_at yX4_at, Cond.code yX4_at cX4_at 3 (some .int), Cond.fieldLink RX4 20 "CodeMoverModel" "code" "[I", Cond.methodLink RX4 90 yX4_dependent, Cond.instanceMethod yX4_dependent, Cond.selects RX4 yX4_dependent yX4_dependent]
def wsX4_delayedAt_r3 : List Cond := [Cond.code yX4_dependent cX4_dependent 4 (some .int), Cond.fieldLink RX4 9 "CodeMoverModel" "variables" "[I", Cond.methodLink RX4 105 yX4_keptBy, Cond.instanceMethod yX4_keptBy, Cond.selects RX4 yX4_keptBy yX4_keptBy, Cond.code yX4_keptBy cX4_keptBy 4 (some .int), Cond.methodLink RX4 96 yX4_findThere, Cond.instanceMethod yX4_findThere, Cond.selects RX4 yX4_findThere yX4_findThere, Cond.code yX4_findThere cX4_findThere 5 (some .boolean), Cond.fieldLink RX4 35 "CodeMoverModel" "thereAt" "[I", Cond.methodLink RX4 108 yX4_lateIn, Cond.instanceMethod yX4_lateIn, Cond.selects RX4 yX4_lateIn yX4_lateIn, Cond.code yX4_lateIn cX4_lateIn 5 (some .int), Cond.methodLink RX4 99 yX4_delayedAlong, Cond.instanceMethod yX4_delayedAlong, Cond.selects RX4 yX4_delayedAlong yX4_delayedAlong, Cond.code yX4_delayedAlong cX4_delayedAlong 2 (some .int), Cond.methodLink RX4 111 yX4_earliestFor, Cond.instanceMethod yX4_earliestFor, Cond.selects RX4 yX4_earliestFor yX4_earliestFor, Cond.code yX4_earliestFor cX4_earliestFor 2 (some .int)]
def wsX4_delayedAt : List Cond := .code yX4_delayedAt cX4_delayedAt 2 (some .int) :: ((wsX4_delayedAt_r1 ++ (wsX4_delayedAt_r2 ++ wsX4_delayedAt_r3)) ++ wsX40)
def wsX4_insertions_r1 : List Cond := [Cond.methodLink RX4 83 yX4_isEdge, Cond.instanceMethod yX4_isEdge, Cond.selects RX4 yX4_isEdge yX4_isEdge, Cond.initialized RX4, Cond.code yX4_isEdge cX4_isEdge 2 (some .boolean), Cond.fieldLink RX4 56 "CodeMoverModel" "edges" "I", Cond.methodLink RX4 117 yX4_asks, Cond.instanceMethod yX4_asks, Cond.selects RX4 yX4_asks yX4_asks, Cond.code yX4_asks cX4_asks 2 (some .boolean), Cond.fieldLink RX4 53 "CodeMoverModel" "thrown" "I", Cond.methodLink RX4 114 yX4_find, Cond.instanceMethod yX4_find, Cond.selects RX4 yX4_find yX4_find, Cond.code yX4_find cX4_find 6 none, Cond.fieldLink RX4 13 "CodeMoverModel" "blocks" "I", Cond.fieldLink RX4 29 "CodeMoverModel" "neededAt" "[I", Cond.fieldLink RX4 38 "CodeMoverModel" "thereBehind" "[I", Cond.fieldLink RX4 41 "CodeMoverModel" "delayed" "[I", Cond.fieldLink RX4 26 "CodeMoverModel" "tos" "[I", Cond.methodLink RX4 86 yX4_all, Cond.instanceMethod yX4_all, Cond.selects RX4 yX4_all yX4_all, Cond.code yX4_all cX4_all 1 (some .int)]
def wsX4_insertions_r2 : List Cond := [Cond.fieldLink RX4 59 "CodeMoverModel" "expressions" "I", Cond.methodLink RX4 93 yX4_findNeeded, Cond.instanceMethod yX4_findNeeded, Cond.selects RX4 yX4_findNeeded yX4_findNeeded, Cond.code yX4_findNeeded cX4_findNeeded 4 (some .boolean), Cond.fieldLink RX4 23 "CodeMoverModel" "froms" "[I", Cond.fieldLink RX4 32 "CodeMoverModel" "neededBehind" "[I", Cond.methodLink RX4 70 yX4_exits, Cond.instanceMethod yX4_exits, Cond.selects RX4 yX4_exits yX4_exits, Cond.code yX4_exits cX4_exits 4 (some .int), Cond.methodLink RX4 102 yX4_earlyIn, Cond.instanceMethod yX4_earlyIn, Cond.selects RX4 yX4_earlyIn yX4_earlyIn, Cond.code yX4_earlyIn cX4_earlyIn 6 (some .int), Cond.fieldLink RX4 17 "CodeMoverModel" "sizes" "[I", Cond.methodLink RX4 80 yX4_at, Cond.instanceMethod yX4_at, Cond.selects RX4 yX4_at yX4_at, Cond.code yX4_at cX4_at 3 (some .int), Cond.fieldLink RX4 20 "CodeMoverModel" "code" "[I", Cond.methodLink RX4 90 yX4_dependent, Cond.instanceMethod yX4_dependent, Cond.selects RX4 yX4_dependent yX4_dependent]
def wsX4_insertions_r3 : List Cond := [Cond.code yX4_dependent cX4_dependent 4 (some .int), Cond.fieldLink RX4 9 "CodeMoverModel" "variables" "[I", Cond.methodLink RX4 105 yX4_keptBy, Cond.instanceMethod yX4_keptBy, Cond.selects RX4 yX4_keptBy yX4_keptBy, Cond.code yX4_keptBy cX4_keptBy 4 (some .int), Cond.methodLink RX4 96 yX4_findThere, Cond.instanceMethod yX4_findThere, Cond.selects RX4 yX4_findThere yX4_findThere, Cond.code yX4_findThere cX4_findThere 5 (some .boolean), Cond.fieldLink RX4 35 "CodeMoverModel" "thereAt" "[I", Cond.methodLink RX4 108 yX4_lateIn, Cond.instanceMethod yX4_lateIn, Cond.selects RX4 yX4_lateIn yX4_lateIn, Cond.code yX4_lateIn cX4_lateIn 5 (some .int), Cond.methodLink RX4 99 yX4_delayedAlong, Cond.instanceMethod yX4_delayedAlong, Cond.selects RX4 yX4_delayedAlong yX4_delayedAlong, Cond.code yX4_delayedAlong cX4_delayedAlong 2 (some .int), Cond.methodLink RX4 111 yX4_earliestFor, Cond.instanceMethod yX4_earliestFor, Cond.selects RX4 yX4_earliestFor yX4_earliestFor, Cond.code yX4_earliestFor cX4_earliestFor 2 (some .int), Cond.methodLink RX4 121 yX4_insertedOn]
def wsX4_insertions_r4 : List Cond := [Cond.instanceMethod yX4_insertedOn, Cond.selects RX4 yX4_insertedOn yX4_insertedOn, Cond.code yX4_insertedOn cX4_insertedOn 2 (some .int)]
def wsX4_insertions : List Cond := .code yX4_insertions cX4_insertions 2 (some .int) :: ((wsX4_insertions_r1 ++ (wsX4_insertions_r2 ++ (wsX4_insertions_r3 ++ wsX4_insertions_r4))) ++ wsX40)
def wsX4_deletions_r1 : List Cond := [Cond.methodLink RX4 66 yX4_isBlock, Cond.instanceMethod yX4_isBlock, Cond.selects RX4 yX4_isBlock yX4_isBlock, Cond.initialized RX4, Cond.code yX4_isBlock cX4_isBlock 2 (some .boolean), Cond.fieldLink RX4 13 "CodeMoverModel" "blocks" "I", Cond.methodLink RX4 117 yX4_asks, Cond.instanceMethod yX4_asks, Cond.selects RX4 yX4_asks yX4_asks, Cond.code yX4_asks cX4_asks 2 (some .boolean), Cond.fieldLink RX4 53 "CodeMoverModel" "thrown" "I", Cond.methodLink RX4 114 yX4_find, Cond.instanceMethod yX4_find, Cond.selects RX4 yX4_find yX4_find, Cond.code yX4_find cX4_find 6 none, Cond.fieldLink RX4 29 "CodeMoverModel" "neededAt" "[I", Cond.fieldLink RX4 38 "CodeMoverModel" "thereBehind" "[I", Cond.fieldLink RX4 41 "CodeMoverModel" "delayed" "[I", Cond.fieldLink RX4 56 "CodeMoverModel" "edges" "I", Cond.fieldLink RX4 26 "CodeMoverModel" "tos" "[I", Cond.methodLink RX4 86 yX4_all, Cond.instanceMethod yX4_all, Cond.selects RX4 yX4_all yX4_all, Cond.code yX4_all cX4_all 1 (some .int)]
def wsX4_deletions_r2 : List Cond := [Cond.fieldLink RX4 59 "CodeMoverModel" "expressions" "I", Cond.methodLink RX4 93 yX4_findNeeded, Cond.instanceMethod yX4_findNeeded, Cond.selects RX4 yX4_findNeeded yX4_findNeeded, Cond.code yX4_findNeeded cX4_findNeeded 4 (some .boolean), Cond.fieldLink RX4 23 "CodeMoverModel" "froms" "[I", Cond.fieldLink RX4 32 "CodeMoverModel" "neededBehind" "[I", Cond.methodLink RX4 70 yX4_exits, Cond.instanceMethod yX4_exits, Cond.selects RX4 yX4_exits yX4_exits, Cond.code yX4_exits cX4_exits 4 (some .int), Cond.methodLink RX4 102 yX4_earlyIn, Cond.instanceMethod yX4_earlyIn, Cond.selects RX4 yX4_earlyIn yX4_earlyIn, Cond.code yX4_earlyIn cX4_earlyIn 6 (some .int), Cond.fieldLink RX4 17 "CodeMoverModel" "sizes" "[I", Cond.methodLink RX4 80 yX4_at, Cond.instanceMethod yX4_at, Cond.selects RX4 yX4_at yX4_at, Cond.code yX4_at cX4_at 3 (some .int), Cond.fieldLink RX4 20 "CodeMoverModel" "code" "[I", Cond.methodLink RX4 90 yX4_dependent, Cond.instanceMethod yX4_dependent, Cond.selects RX4 yX4_dependent yX4_dependent]
def wsX4_deletions_r3 : List Cond := [Cond.code yX4_dependent cX4_dependent 4 (some .int), Cond.fieldLink RX4 9 "CodeMoverModel" "variables" "[I", Cond.methodLink RX4 105 yX4_keptBy, Cond.instanceMethod yX4_keptBy, Cond.selects RX4 yX4_keptBy yX4_keptBy, Cond.code yX4_keptBy cX4_keptBy 4 (some .int), Cond.methodLink RX4 96 yX4_findThere, Cond.instanceMethod yX4_findThere, Cond.selects RX4 yX4_findThere yX4_findThere, Cond.code yX4_findThere cX4_findThere 5 (some .boolean), Cond.fieldLink RX4 35 "CodeMoverModel" "thereAt" "[I", Cond.methodLink RX4 108 yX4_lateIn, Cond.instanceMethod yX4_lateIn, Cond.selects RX4 yX4_lateIn yX4_lateIn, Cond.code yX4_lateIn cX4_lateIn 5 (some .int), Cond.methodLink RX4 99 yX4_delayedAlong, Cond.instanceMethod yX4_delayedAlong, Cond.selects RX4 yX4_delayedAlong yX4_delayedAlong, Cond.code yX4_delayedAlong cX4_delayedAlong 2 (some .int), Cond.methodLink RX4 111 yX4_earliestFor, Cond.instanceMethod yX4_earliestFor, Cond.selects RX4 yX4_earliestFor yX4_earliestFor, Cond.code yX4_earliestFor cX4_earliestFor 2 (some .int), Cond.methodLink RX4 124 yX4_deletedIn]
def wsX4_deletions_r4 : List Cond := [Cond.instanceMethod yX4_deletedIn, Cond.selects RX4 yX4_deletedIn yX4_deletedIn, Cond.code yX4_deletedIn cX4_deletedIn 2 (some .int)]
def wsX4_deletions : List Cond := .code yX4_deletions cX4_deletions 2 (some .int) :: ((wsX4_deletions_r1 ++ (wsX4_deletions_r2 ++ (wsX4_deletions_r3 ++ wsX4_deletions_r4))) ++ wsX40)
def wsX4_delete : List Cond := .code yX4_delete cX4_delete 6 none :: ([.fieldLink RX4 17 "CodeMoverModel" "sizes" "[I", .fieldLink RX4 20 "CodeMoverModel" "code" "[I", .methodLink RX4 80 yX4_at, .instanceMethod yX4_at, .selects RX4 yX4_at yX4_at, .initialized RX4, .code yX4_at cX4_at 3 (some .int)] ++ wsX40)
def wsX4_insert : List Cond := .code yX4_insert cX4_insert 5 none :: ([.fieldLink RX4 13 "CodeMoverModel" "blocks" "I", .fieldLink RX4 17 "CodeMoverModel" "sizes" "[I", .fieldLink RX4 59 "CodeMoverModel" "expressions" "I", .fieldLink RX4 23 "CodeMoverModel" "froms" "[I", .fieldLink RX4 56 "CodeMoverModel" "edges" "I", .fieldLink RX4 26 "CodeMoverModel" "tos" "[I", .methodLink RX4 76 yX4_append, .instanceMethod yX4_append, .selects RX4 yX4_append yX4_append, .initialized RX4, .code yX4_append cX4_append 3 (some .int), .fieldLink RX4 20 "CodeMoverModel" "code" "[I", .methodLink RX4 62 yX4_no, .instanceMethod yX4_no, .selects RX4 yX4_no yX4_no, .code yX4_no cX4_no 2 (some .int), .fieldLink RX4 53 "CodeMoverModel" "thrown" "I"] ++ wsX40)
def wsX4_move_r1 : List Cond := [Cond.fieldLink RX4 53 "CodeMoverModel" "thrown" "I", Cond.arrayClass .int, Cond.fieldLink RX4 56 "CodeMoverModel" "edges" "I", Cond.fieldLink RX4 13 "CodeMoverModel" "blocks" "I", Cond.methodLink RX4 114 yX4_find, Cond.instanceMethod yX4_find, Cond.selects RX4 yX4_find yX4_find, Cond.initialized RX4, Cond.code yX4_find cX4_find 6 none, Cond.fieldLink RX4 29 "CodeMoverModel" "neededAt" "[I", Cond.fieldLink RX4 38 "CodeMoverModel" "thereBehind" "[I", Cond.fieldLink RX4 41 "CodeMoverModel" "delayed" "[I", Cond.fieldLink RX4 26 "CodeMoverModel" "tos" "[I", Cond.methodLink RX4 86 yX4_all, Cond.instanceMethod yX4_all, Cond.selects RX4 yX4_all yX4_all, Cond.code yX4_all cX4_all 1 (some .int), Cond.fieldLink RX4 59 "CodeMoverModel" "expressions" "I", Cond.methodLink RX4 93 yX4_findNeeded, Cond.instanceMethod yX4_findNeeded, Cond.selects RX4 yX4_findNeeded yX4_findNeeded, Cond.code yX4_findNeeded cX4_findNeeded 4 (some .boolean), Cond.fieldLink RX4 23 "CodeMoverModel" "froms" "[I", Cond.fieldLink RX4 32 "CodeMoverModel" "neededBehind" "[I"]
def wsX4_move_r2 : List Cond := [Cond.methodLink RX4 70 yX4_exits, Cond.instanceMethod yX4_exits, Cond.selects RX4 yX4_exits yX4_exits, Cond.code yX4_exits cX4_exits 4 (some .int), Cond.methodLink RX4 102 yX4_earlyIn, Cond.instanceMethod yX4_earlyIn, Cond.selects RX4 yX4_earlyIn yX4_earlyIn, Cond.code yX4_earlyIn cX4_earlyIn 6 (some .int), Cond.fieldLink RX4 17 "CodeMoverModel" "sizes" "[I", Cond.methodLink RX4 80 yX4_at, Cond.instanceMethod yX4_at, Cond.selects RX4 yX4_at yX4_at, Cond.code yX4_at cX4_at 3 (some .int), Cond.fieldLink RX4 20 "CodeMoverModel" "code" "[I", Cond.methodLink RX4 90 yX4_dependent, Cond.instanceMethod yX4_dependent, Cond.selects RX4 yX4_dependent yX4_dependent, Cond.code yX4_dependent cX4_dependent 4 (some .int), Cond.fieldLink RX4 9 "CodeMoverModel" "variables" "[I", Cond.methodLink RX4 105 yX4_keptBy, Cond.instanceMethod yX4_keptBy, Cond.selects RX4 yX4_keptBy yX4_keptBy, Cond.code yX4_keptBy cX4_keptBy 4 (some .int), Cond.methodLink RX4 96 yX4_findThere]
def wsX4_move_r3 : List Cond := [Cond.instanceMethod yX4_findThere, Cond.selects RX4 yX4_findThere yX4_findThere, Cond.code yX4_findThere cX4_findThere 5 (some .boolean), Cond.fieldLink RX4 35 "CodeMoverModel" "thereAt" "[I", Cond.methodLink RX4 108 yX4_lateIn, Cond.instanceMethod yX4_lateIn, Cond.selects RX4 yX4_lateIn yX4_lateIn, Cond.code yX4_lateIn cX4_lateIn 5 (some .int), Cond.methodLink RX4 99 yX4_delayedAlong, Cond.instanceMethod yX4_delayedAlong, Cond.selects RX4 yX4_delayedAlong yX4_delayedAlong, Cond.code yX4_delayedAlong cX4_delayedAlong 2 (some .int), Cond.methodLink RX4 111 yX4_earliestFor, Cond.instanceMethod yX4_earliestFor, Cond.selects RX4 yX4_earliestFor yX4_earliestFor, Cond.code yX4_earliestFor cX4_earliestFor 2 (some .int), Cond.methodLink RX4 121 yX4_insertedOn, Cond.instanceMethod yX4_insertedOn, Cond.selects RX4 yX4_insertedOn yX4_insertedOn, Cond.code yX4_insertedOn cX4_insertedOn 2 (some .int), Cond.methodLink RX4 62 yX4_no, Cond.instanceMethod yX4_no, Cond.selects RX4 yX4_no yX4_no, Cond.code yX4_no cX4_no 2 (some .int)]
def wsX4_move_r4 : List Cond := [Cond.methodLink RX4 124 yX4_deletedIn, Cond.instanceMethod yX4_deletedIn, Cond.selects RX4 yX4_deletedIn yX4_deletedIn, Cond.code yX4_deletedIn cX4_deletedIn 2 (some .int), Cond.methodLink RX4 127 yX4_delete, Cond.instanceMethod yX4_delete, Cond.selects RX4 yX4_delete yX4_delete, Cond.code yX4_delete cX4_delete 6 none, Cond.methodLink RX4 131 yX4_insert, Cond.instanceMethod yX4_insert, Cond.selects RX4 yX4_insert yX4_insert, Cond.code yX4_insert cX4_insert 5 none, Cond.methodLink RX4 76 yX4_append, Cond.instanceMethod yX4_append, Cond.selects RX4 yX4_append yX4_append, Cond.code yX4_append cX4_append 3 (some .int)]
def wsX4_move : List Cond := .code yX4_move cX4_move 6 (some .int) :: ((wsX4_move_r1 ++ (wsX4_move_r2 ++ (wsX4_move_r3 ++ wsX4_move_r4))) ++ wsX40)
def wsX4_go : List Cond := .code yX4_go cX4_go 4 (some .int) :: ([.fieldLink RX4 59 "CodeMoverModel" "expressions" "I", .fieldLink RX4 47 "CodeMoverModel" "held" "[I", .fieldLink RX4 134 "CodeMoverModel" "misses" "I", .fieldLink RX4 44 "CodeMoverModel" "computed" "[I", .methodLink RX4 90 yX4_dependent, .instanceMethod yX4_dependent, .selects RX4 yX4_dependent yX4_dependent, .initialized RX4, .code yX4_dependent cX4_dependent 4 (some .int), .fieldLink RX4 9 "CodeMoverModel" "variables" "[I"] ++ wsX40)
def wsX4_exit : List Cond := .code yX4_exit cX4_exit 5 (some .int) :: ([.fieldLink RX4 56 "CodeMoverModel" "edges" "I", .fieldLink RX4 23 "CodeMoverModel" "froms" "[I", .fieldLink RX4 26 "CodeMoverModel" "tos" "[I"] ++ wsX40)
def wsX4_walk_r1 : List Cond := [Cond.fieldLink RX4 53 "CodeMoverModel" "thrown" "I", Cond.fieldLink RX4 44 "CodeMoverModel" "computed" "[I", Cond.fieldLink RX4 47 "CodeMoverModel" "held" "[I", Cond.fieldLink RX4 134 "CodeMoverModel" "misses" "I", Cond.fieldLink RX4 50 "CodeMoverModel" "last" "I", Cond.fieldLink RX4 17 "CodeMoverModel" "sizes" "[I", Cond.methodLink RX4 62 yX4_no, Cond.instanceMethod yX4_no, Cond.selects RX4 yX4_no yX4_no, Cond.initialized RX4, Cond.code yX4_no cX4_no 2 (some .int), Cond.methodLink RX4 80 yX4_at, Cond.instanceMethod yX4_at, Cond.selects RX4 yX4_at yX4_at, Cond.code yX4_at cX4_at 3 (some .int), Cond.fieldLink RX4 20 "CodeMoverModel" "code" "[I", Cond.methodLink RX4 137 yX4_go, Cond.instanceMethod yX4_go, Cond.selects RX4 yX4_go yX4_go, Cond.code yX4_go cX4_go 4 (some .int), Cond.fieldLink RX4 59 "CodeMoverModel" "expressions" "I", Cond.methodLink RX4 90 yX4_dependent, Cond.instanceMethod yX4_dependent, Cond.selects RX4 yX4_dependent yX4_dependent]
def wsX4_walk_r2 : List Cond := [Cond.code yX4_dependent cX4_dependent 4 (some .int), Cond.fieldLink RX4 9 "CodeMoverModel" "variables" "[I", Cond.methodLink RX4 140 yX4_exit, Cond.instanceMethod yX4_exit, Cond.selects RX4 yX4_exit yX4_exit, Cond.code yX4_exit cX4_exit 5 (some .int), Cond.fieldLink RX4 56 "CodeMoverModel" "edges" "I", Cond.fieldLink RX4 23 "CodeMoverModel" "froms" "[I", Cond.fieldLink RX4 26 "CodeMoverModel" "tos" "[I"]
def wsX4_walk : List Cond := .code yX4_walk cX4_walk 10 (some .int) :: ((wsX4_walk_r1 ++ wsX4_walk_r2) ++ wsX40)
def wsX4_computed : List Cond := .code yX4_computed cX4_computed 2 (some .int) :: ([.fieldLink RX4 53 "CodeMoverModel" "thrown" "I", .fieldLink RX4 44 "CodeMoverModel" "computed" "[I", .methodLink RX4 73 yX4_isExpression, .instanceMethod yX4_isExpression, .selects RX4 yX4_isExpression yX4_isExpression, .initialized RX4, .code yX4_isExpression cX4_isExpression 2 (some .boolean), .fieldLink RX4 59 "CodeMoverModel" "expressions" "I", .methodLink RX4 62 yX4_no, .instanceMethod yX4_no, .selects RX4 yX4_no yX4_no, .code yX4_no cX4_no 2 (some .int)] ++ wsX40)
def wsX4_misses : List Cond := .code yX4_misses cX4_misses 1 (some .int) :: ([.fieldLink RX4 53 "CodeMoverModel" "thrown" "I", .fieldLink RX4 134 "CodeMoverModel" "misses" "I"] ++ wsX40)
def wsX4_lastBlock : List Cond := .code yX4_lastBlock cX4_lastBlock 1 (some .int) :: ([.fieldLink RX4 53 "CodeMoverModel" "thrown" "I", .fieldLink RX4 50 "CodeMoverModel" "last" "I"] ++ wsX40)
def wsX4_heldFor : List Cond := .code yX4_heldFor cX4_heldFor 2 (some .int) :: ([.fieldLink RX4 53 "CodeMoverModel" "thrown" "I", .fieldLink RX4 47 "CodeMoverModel" "held" "[I", .methodLink RX4 73 yX4_isExpression, .instanceMethod yX4_isExpression, .selects RX4 yX4_isExpression yX4_isExpression, .initialized RX4, .code yX4_isExpression cX4_isExpression 2 (some .boolean), .fieldLink RX4 59 "CodeMoverModel" "expressions" "I", .methodLink RX4 62 yX4_no, .instanceMethod yX4_no, .selects RX4 yX4_no yX4_no, .code yX4_no cX4_no 2 (some .int)] ++ wsX40)
def wsX4_digest : List Cond := .code yX4_digest cX4_digest 5 (some .long) :: ([.fieldLink RX4 53 "CodeMoverModel" "thrown" "I", .constantLong RX4 143 (2573), .fieldLink RX4 59 "CodeMoverModel" "expressions" "I", .constantLong RX4 145 (31), .fieldLink RX4 9 "CodeMoverModel" "variables" "[I", .fieldLink RX4 13 "CodeMoverModel" "blocks" "I", .fieldLink RX4 17 "CodeMoverModel" "sizes" "[I", .fieldLink RX4 56 "CodeMoverModel" "edges" "I", .fieldLink RX4 23 "CodeMoverModel" "froms" "[I", .fieldLink RX4 26 "CodeMoverModel" "tos" "[I", .fieldLink RX4 134 "CodeMoverModel" "misses" "I", .fieldLink RX4 50 "CodeMoverModel" "last" "I", .methodLink RX4 80 yX4_at, .instanceMethod yX4_at, .selects RX4 yX4_at yX4_at, .initialized RX4, .code yX4_at cX4_at 3 (some .int), .fieldLink RX4 20 "CodeMoverModel" "code" "[I"] ++ wsX40)
def wsL_addExpression : List Cond := .codeWith yL_addExpression cL_addExpression 4 (some .int) [(0, 9, 12, 13), (0, 9, 15, 15)] :: ([.classLink RL 13 "java/lang/IllegalArgumentException", .classLink RL 15 "java/lang/IllegalStateException", .methodLink RL 7 yX3_addExpression, .instanceMethod yX3_addExpression, .selects RX3 yX3_addExpression yX3_addExpression, .initialized RX3, .code yX3_addExpression cX3_addExpression 2 (some .int), .classLink RX3 32 "java/lang/IllegalArgumentException", .initialized "java/lang/IllegalArgumentException", .classLink RX3 43 "java/lang/IllegalStateException", .initialized "java/lang/IllegalStateException", .fieldLink RX3 10 "CodeMover" "program" "LCodeMover$Program;", .fieldLink RX3 39 "CodeMover$Program" "expressions" "I", .methodLink RX3 48 yX1_newExpression, .instanceMethod yX1_newExpression, .selects RX1 yX1_newExpression yX1_newExpression, .initialized RX1, .code yX1_newExpression cX1_newExpression 4 (some .int), .fieldLink RX1 9 "CodeMover$Program" "expressions" "I", .fieldLink RX1 15 "CodeMover$Program" "variablesOf" "[I", .fieldLink RX1 19 "CodeMover$Program" "dependents" "[I", .fieldLink RX1 46 "CodeMover$Program" "changed" "Z"] ++ wsX30 ++ wsX10 ++ (vx_atS RX3 36 "java/lang/IllegalArgumentException" ["java/lang/RuntimeException", "java/lang/Exception"]).filter goodWord ++ (vx_atS RX3 47 "java/lang/IllegalStateException" ["java/lang/RuntimeException", "java/lang/Exception"]).filter goodWord)
def wsL_addBlock : List Cond := .codeWith yL_addBlock cL_addBlock 3 (some .int) [(0, 8, 11, 15)] :: ([.classLink RL 15 "java/lang/IllegalStateException", .methodLink RL 17 yX3_addBlock, .instanceMethod yX3_addBlock, .selects RX3 yX3_addBlock yX3_addBlock, .initialized RX3, .code yX3_addBlock cX3_addBlock 1 (some .int), .classLink RX3 43 "java/lang/IllegalStateException", .initialized "java/lang/IllegalStateException", .fieldLink RX3 10 "CodeMover" "program" "LCodeMover$Program;", .fieldLink RX3 52 "CodeMover$Program" "blocks" "I", .methodLink RX3 57 yX1_newBlock, .instanceMethod yX1_newBlock, .selects RX1 yX1_newBlock yX1_newBlock, .initialized RX1, .code yX1_newBlock cX1_newBlock 2 (some .int), .fieldLink RX1 22 "CodeMover$Program" "blocks" "I", .fieldLink RX1 46 "CodeMover$Program" "changed" "Z"] ++ wsX30 ++ wsX10 ++ (vx_atS RX3 47 "java/lang/IllegalStateException" ["java/lang/RuntimeException", "java/lang/Exception"]).filter goodWord)
def wsL_addEdge_r1 : List Cond := [Cond.classLink RL 25 "java/lang/IndexOutOfBoundsException", Cond.classLink RL 13 "java/lang/IllegalArgumentException", Cond.classLink RL 15 "java/lang/IllegalStateException", Cond.methodLink RL 21 yX3_addEdge, Cond.instanceMethod yX3_addEdge, Cond.selects RX3 yX3_addEdge yX3_addEdge, Cond.initialized RX3, Cond.code yX3_addEdge cX3_addEdge 3 (some .int), Cond.classLink RX3 32 "java/lang/IllegalArgumentException", Cond.initialized "java/lang/IllegalArgumentException", Cond.classLink RX3 43 "java/lang/IllegalStateException", Cond.initialized "java/lang/IllegalStateException", Cond.fieldLink RX3 10 "CodeMover" "program" "LCodeMover$Program;", Cond.fieldLink RX3 73 "CodeMover$Program" "secondExit" "[I", Cond.fieldLink RX3 79 "CodeMover$Program" "edges" "I", Cond.methodLink RX3 61 yX3_requireBlock, Cond.instanceMethod yX3_requireBlock, Cond.selects RX3 yX3_requireBlock yX3_requireBlock, Cond.code yX3_requireBlock cX3_requireBlock 2 none, Cond.classLink RX3 98 "java/lang/IndexOutOfBoundsException", Cond.initialized "java/lang/IndexOutOfBoundsException", Cond.fieldLink RX3 52 "CodeMover$Program" "blocks" "I", Cond.methodLink RX3 67 yX1_hasEdge, Cond.instanceMethod yX1_hasEdge]
def wsL_addEdge_r2 : List Cond := [Cond.selects RX1 yX1_hasEdge yX1_hasEdge, Cond.initialized RX1, Cond.code yX1_hasEdge cX1_hasEdge 5 (some .boolean), Cond.fieldLink RX1 40 "CodeMover$Program" "firstExit" "[I", Cond.fieldLink RX1 43 "CodeMover$Program" "secondExit" "[I", Cond.fieldLink RX1 37 "CodeMover$Program" "to" "[I", Cond.methodLink RX3 84 yX1_newEdge, Cond.instanceMethod yX1_newEdge, Cond.selects RX1 yX1_newEdge yX1_newEdge, Cond.code yX1_newEdge cX1_newEdge 4 (some .int), Cond.fieldLink RX1 31 "CodeMover$Program" "edges" "I", Cond.fieldLink RX1 34 "CodeMover$Program" "from" "[I", Cond.fieldLink RX1 46 "CodeMover$Program" "changed" "Z"]
def wsL_addEdge : List Cond := .codeWith yL_addEdge cL_addEdge 5 (some .int) [(0, 10, 13, 25), (0, 10, 17, 13), (0, 10, 21, 15)] :: ((wsL_addEdge_r1 ++ wsL_addEdge_r2) ++ wsX30 ++ wsX10 ++ (vx_atS RX3 36 "java/lang/IllegalArgumentException" ["java/lang/RuntimeException", "java/lang/Exception"]).filter goodWord ++ (vx_atS RX3 47 "java/lang/IllegalStateException" ["java/lang/RuntimeException", "java/lang/Exception"]).filter goodWord ++ (vx_atS RX3 102 "java/lang/IndexOutOfBoundsException" ["java/lang/RuntimeException", "java/lang/Exception"]).filter goodWord)
def wsL_compute_r1 : List Cond := [Cond.classLink RL 25 "java/lang/IndexOutOfBoundsException", Cond.classLink RL 15 "java/lang/IllegalStateException", Cond.methodLink RL 27 yX3_compute, Cond.instanceMethod yX3_compute, Cond.selects RX3 yX3_compute yX3_compute, Cond.initialized RX3, Cond.code yX3_compute cX3_compute 3 (some .int), Cond.fieldLink RX3 10 "CodeMover" "program" "LCodeMover$Program;", Cond.methodLink RX3 61 yX3_requireBlock, Cond.instanceMethod yX3_requireBlock, Cond.selects RX3 yX3_requireBlock yX3_requireBlock, Cond.code yX3_requireBlock cX3_requireBlock 2 none, Cond.classLink RX3 98 "java/lang/IndexOutOfBoundsException", Cond.initialized "java/lang/IndexOutOfBoundsException", Cond.fieldLink RX3 52 "CodeMover$Program" "blocks" "I", Cond.methodLink RX3 88 yX3_requireExpression, Cond.instanceMethod yX3_requireExpression, Cond.selects RX3 yX3_requireExpression yX3_requireExpression, Cond.code yX3_requireExpression cX3_requireExpression 2 none, Cond.fieldLink RX3 39 "CodeMover$Program" "expressions" "I", Cond.methodLink RX3 91 yX3_requireRoom, Cond.instanceMethod yX3_requireRoom, Cond.selects RX3 yX3_requireRoom yX3_requireRoom, Cond.code yX3_requireRoom cX3_requireRoom 2 none]
def wsL_compute_r2 : List Cond := [Cond.classLink RX3 43 "java/lang/IllegalStateException", Cond.initialized "java/lang/IllegalStateException", Cond.fieldLink RX3 103 "CodeMover$Program" "sizes" "[I", Cond.methodLink RX3 94 yX1_append, Cond.instanceMethod yX1_append, Cond.selects RX1 yX1_append yX1_append, Cond.initialized RX1, Cond.code yX1_append cX1_append 4 (some .int), Cond.fieldLink RX1 28 "CodeMover$Program" "codes" "[I", Cond.fieldLink RX1 25 "CodeMover$Program" "sizes" "[I", Cond.fieldLink RX1 46 "CodeMover$Program" "changed" "Z"]
def wsL_compute : List Cond := .codeWith yL_compute cL_compute 5 (some .int) [(0, 10, 13, 25), (0, 10, 17, 15)] :: ((wsL_compute_r1 ++ wsL_compute_r2) ++ wsX30 ++ wsX10 ++ (vx_atS RX3 102 "java/lang/IndexOutOfBoundsException" ["java/lang/RuntimeException", "java/lang/Exception"]).filter goodWord ++ (vx_atS RX3 47 "java/lang/IllegalStateException" ["java/lang/RuntimeException", "java/lang/Exception"]).filter goodWord)
def wsL_use_r1 : List Cond := [Cond.classLink RL 25 "java/lang/IndexOutOfBoundsException", Cond.classLink RL 15 "java/lang/IllegalStateException", Cond.methodLink RL 30 yX3_use, Cond.instanceMethod yX3_use, Cond.selects RX3 yX3_use yX3_use, Cond.initialized RX3, Cond.code yX3_use cX3_use 3 (some .int), Cond.fieldLink RX3 10 "CodeMover" "program" "LCodeMover$Program;", Cond.methodLink RX3 61 yX3_requireBlock, Cond.instanceMethod yX3_requireBlock, Cond.selects RX3 yX3_requireBlock yX3_requireBlock, Cond.code yX3_requireBlock cX3_requireBlock 2 none, Cond.classLink RX3 98 "java/lang/IndexOutOfBoundsException", Cond.initialized "java/lang/IndexOutOfBoundsException", Cond.fieldLink RX3 52 "CodeMover$Program" "blocks" "I", Cond.methodLink RX3 88 yX3_requireExpression, Cond.instanceMethod yX3_requireExpression, Cond.selects RX3 yX3_requireExpression yX3_requireExpression, Cond.code yX3_requireExpression cX3_requireExpression 2 none, Cond.fieldLink RX3 39 "CodeMover$Program" "expressions" "I", Cond.methodLink RX3 91 yX3_requireRoom, Cond.instanceMethod yX3_requireRoom, Cond.selects RX3 yX3_requireRoom yX3_requireRoom, Cond.code yX3_requireRoom cX3_requireRoom 2 none]
def wsL_use_r2 : List Cond := [Cond.classLink RX3 43 "java/lang/IllegalStateException", Cond.initialized "java/lang/IllegalStateException", Cond.fieldLink RX3 103 "CodeMover$Program" "sizes" "[I", Cond.methodLink RX3 94 yX1_append, Cond.instanceMethod yX1_append, Cond.selects RX1 yX1_append yX1_append, Cond.initialized RX1, Cond.code yX1_append cX1_append 4 (some .int), Cond.fieldLink RX1 28 "CodeMover$Program" "codes" "[I", Cond.fieldLink RX1 25 "CodeMover$Program" "sizes" "[I", Cond.fieldLink RX1 46 "CodeMover$Program" "changed" "Z"]
def wsL_use : List Cond := .codeWith yL_use cL_use 5 (some .int) [(0, 10, 13, 25), (0, 10, 17, 15)] :: ((wsL_use_r1 ++ wsL_use_r2) ++ wsX30 ++ wsX10 ++ (vx_atS RX3 102 "java/lang/IndexOutOfBoundsException" ["java/lang/RuntimeException", "java/lang/Exception"]).filter goodWord ++ (vx_atS RX3 47 "java/lang/IllegalStateException" ["java/lang/RuntimeException", "java/lang/Exception"]).filter goodWord)
def wsL_assign_r1 : List Cond := [Cond.classLink RL 25 "java/lang/IndexOutOfBoundsException", Cond.classLink RL 15 "java/lang/IllegalStateException", Cond.methodLink RL 33 yX3_assign, Cond.instanceMethod yX3_assign, Cond.selects RX3 yX3_assign yX3_assign, Cond.initialized RX3, Cond.code yX3_assign cX3_assign 3 (some .int), Cond.classLink RX3 98 "java/lang/IndexOutOfBoundsException", Cond.initialized "java/lang/IndexOutOfBoundsException", Cond.fieldLink RX3 10 "CodeMover" "program" "LCodeMover$Program;", Cond.methodLink RX3 61 yX3_requireBlock, Cond.instanceMethod yX3_requireBlock, Cond.selects RX3 yX3_requireBlock yX3_requireBlock, Cond.code yX3_requireBlock cX3_requireBlock 2 none, Cond.fieldLink RX3 52 "CodeMover$Program" "blocks" "I", Cond.methodLink RX3 91 yX3_requireRoom, Cond.instanceMethod yX3_requireRoom, Cond.selects RX3 yX3_requireRoom yX3_requireRoom, Cond.code yX3_requireRoom cX3_requireRoom 2 none, Cond.classLink RX3 43 "java/lang/IllegalStateException", Cond.initialized "java/lang/IllegalStateException", Cond.fieldLink RX3 103 "CodeMover$Program" "sizes" "[I", Cond.methodLink RX3 94 yX1_append, Cond.instanceMethod yX1_append]
def wsL_assign_r2 : List Cond := [Cond.selects RX1 yX1_append yX1_append, Cond.initialized RX1, Cond.code yX1_append cX1_append 4 (some .int), Cond.fieldLink RX1 28 "CodeMover$Program" "codes" "[I", Cond.fieldLink RX1 25 "CodeMover$Program" "sizes" "[I", Cond.fieldLink RX1 46 "CodeMover$Program" "changed" "Z"]
def wsL_assign : List Cond := .codeWith yL_assign cL_assign 5 (some .int) [(0, 10, 13, 25), (0, 10, 17, 15)] :: ((wsL_assign_r1 ++ wsL_assign_r2) ++ wsX30 ++ wsX10 ++ (vx_atS RX3 102 "java/lang/IndexOutOfBoundsException" ["java/lang/RuntimeException", "java/lang/Exception"]).filter goodWord ++ (vx_atS RX3 47 "java/lang/IllegalStateException" ["java/lang/RuntimeException", "java/lang/Exception"]).filter goodWord)
def wsL_drop_r1 : List Cond := [Cond.classLink RL 25 "java/lang/IndexOutOfBoundsException", Cond.classLink RL 15 "java/lang/IllegalStateException", Cond.methodLink RL 36 yX3_drop, Cond.instanceMethod yX3_drop, Cond.selects RX3 yX3_drop yX3_drop, Cond.initialized RX3, Cond.code yX3_drop cX3_drop 2 (some .int), Cond.classLink RX3 43 "java/lang/IllegalStateException", Cond.initialized "java/lang/IllegalStateException", Cond.fieldLink RX3 10 "CodeMover" "program" "LCodeMover$Program;", Cond.fieldLink RX3 103 "CodeMover$Program" "sizes" "[I", Cond.methodLink RX3 61 yX3_requireBlock, Cond.instanceMethod yX3_requireBlock, Cond.selects RX3 yX3_requireBlock yX3_requireBlock, Cond.code yX3_requireBlock cX3_requireBlock 2 none, Cond.classLink RX3 98 "java/lang/IndexOutOfBoundsException", Cond.initialized "java/lang/IndexOutOfBoundsException", Cond.fieldLink RX3 52 "CodeMover$Program" "blocks" "I", Cond.methodLink RX3 108 yX1_removeLast, Cond.instanceMethod yX1_removeLast, Cond.selects RX1 yX1_removeLast yX1_removeLast, Cond.initialized RX1, Cond.code yX1_removeLast cX1_removeLast 2 (some .int), Cond.fieldLink RX1 25 "CodeMover$Program" "sizes" "[I"]
def wsL_drop_r2 : List Cond := [Cond.fieldLink RX1 46 "CodeMover$Program" "changed" "Z"]
def wsL_drop : List Cond := .codeWith yL_drop cL_drop 4 (some .int) [(0, 9, 12, 25), (0, 9, 15, 15)] :: ((wsL_drop_r1 ++ wsL_drop_r2) ++ wsX30 ++ wsX10 ++ (vx_atS RX3 47 "java/lang/IllegalStateException" ["java/lang/RuntimeException", "java/lang/Exception"]).filter goodWord ++ (vx_atS RX3 102 "java/lang/IndexOutOfBoundsException" ["java/lang/RuntimeException", "java/lang/Exception"]).filter goodWord)
def wsL_size : List Cond := .codeWith yL_size cL_size 4 (some .int) [(0, 9, 12, 25)] :: ([.classLink RL 25 "java/lang/IndexOutOfBoundsException", .methodLink RL 39 yX3_size, .instanceMethod yX3_size, .selects RX3 yX3_size yX3_size, .initialized RX3, .code yX3_size cX3_size 2 (some .int), .fieldLink RX3 10 "CodeMover" "program" "LCodeMover$Program;", .fieldLink RX3 103 "CodeMover$Program" "sizes" "[I", .methodLink RX3 61 yX3_requireBlock, .instanceMethod yX3_requireBlock, .selects RX3 yX3_requireBlock yX3_requireBlock, .code yX3_requireBlock cX3_requireBlock 2 none, .classLink RX3 98 "java/lang/IndexOutOfBoundsException", .initialized "java/lang/IndexOutOfBoundsException", .fieldLink RX3 52 "CodeMover$Program" "blocks" "I"] ++ wsX30 ++ wsX10 ++ (vx_atS RX3 102 "java/lang/IndexOutOfBoundsException" ["java/lang/RuntimeException", "java/lang/Exception"]).filter goodWord)
def wsL_instruction : List Cond := .codeWith yL_instruction cL_instruction 5 (some .int) [(0, 10, 13, 25)] :: ([.classLink RL 25 "java/lang/IndexOutOfBoundsException", .methodLink RL 42 yX3_instruction, .instanceMethod yX3_instruction, .selects RX3 yX3_instruction yX3_instruction, .initialized RX3, .code yX3_instruction cX3_instruction 3 (some .int), .classLink RX3 98 "java/lang/IndexOutOfBoundsException", .initialized "java/lang/IndexOutOfBoundsException", .fieldLink RX3 10 "CodeMover" "program" "LCodeMover$Program;", .fieldLink RX3 103 "CodeMover$Program" "sizes" "[I", .methodLink RX3 61 yX3_requireBlock, .instanceMethod yX3_requireBlock, .selects RX3 yX3_requireBlock yX3_requireBlock, .code yX3_requireBlock cX3_requireBlock 2 none, .fieldLink RX3 52 "CodeMover$Program" "blocks" "I", .methodLink RX3 113 yX1_codeAt, .instanceMethod yX1_codeAt, .selects RX1 yX1_codeAt yX1_codeAt, .initialized RX1, .code yX1_codeAt cX1_codeAt 3 (some .int), .fieldLink RX1 28 "CodeMover$Program" "codes" "[I"] ++ wsX30 ++ wsX10 ++ (vx_atS RX3 102 "java/lang/IndexOutOfBoundsException" ["java/lang/RuntimeException", "java/lang/Exception"]).filter goodWord)
def wsL_ends : List Cond := .codeWith yL_ends cL_ends 4 (some .int) [(0, 9, 12, 25)] :: ([.classLink RL 25 "java/lang/IndexOutOfBoundsException", .methodLink RL 45 yX3_ends, .instanceMethod yX3_ends, .selects RX3 yX3_ends yX3_ends, .initialized RX3, .code yX3_ends cX3_ends 2 (some .int), .fieldLink RX3 10 "CodeMover" "program" "LCodeMover$Program;", .methodLink RX3 116 yX3_requireEdge, .instanceMethod yX3_requireEdge, .selects RX3 yX3_requireEdge yX3_requireEdge, .code yX3_requireEdge cX3_requireEdge 2 none, .classLink RX3 98 "java/lang/IndexOutOfBoundsException", .initialized "java/lang/IndexOutOfBoundsException", .fieldLink RX3 79 "CodeMover$Program" "edges" "I", .methodLink RX3 119 yX1_endsOf, .instanceMethod yX1_endsOf, .selects RX1 yX1_endsOf yX1_endsOf, .initialized RX1, .code yX1_endsOf cX1_endsOf 2 (some .int), .fieldLink RX1 34 "CodeMover$Program" "from" "[I", .fieldLink RX1 37 "CodeMover$Program" "to" "[I"] ++ wsX30 ++ wsX10 ++ (vx_atS RX3 102 "java/lang/IndexOutOfBoundsException" ["java/lang/RuntimeException", "java/lang/Exception"]).filter goodWord)
def wsL_kept_r1 : List Cond := [Cond.classLink RL 25 "java/lang/IndexOutOfBoundsException", Cond.methodLink RL 48 yX3_kept, Cond.instanceMethod yX3_kept, Cond.selects RX3 yX3_kept yX3_kept, Cond.initialized RX3, Cond.code yX3_kept cX3_kept 2 (some .int), Cond.fieldLink RX3 21 "CodeMover" "sets" "LCodeMover$Sets;", Cond.fieldLink RX3 125 "CodeMover$Sets" "keptIn" "[I", Cond.methodLink RX3 61 yX3_requireBlock, Cond.instanceMethod yX3_requireBlock, Cond.selects RX3 yX3_requireBlock yX3_requireBlock, Cond.code yX3_requireBlock cX3_requireBlock 2 none, Cond.classLink RX3 98 "java/lang/IndexOutOfBoundsException", Cond.initialized "java/lang/IndexOutOfBoundsException", Cond.fieldLink RX3 10 "CodeMover" "program" "LCodeMover$Program;", Cond.fieldLink RX3 52 "CodeMover$Program" "blocks" "I", Cond.methodLink RX3 122 yX2_bringUpToDate, Cond.instanceMethod yX2_bringUpToDate, Cond.selects RX2 yX2_bringUpToDate yX2_bringUpToDate, Cond.initialized RX2, Cond.code yX2_bringUpToDate cX2_bringUpToDate 2 none, Cond.fieldLink RX2 48 "CodeMover$Sets" "program" "LCodeMover$Program;", Cond.fieldLink RX2 52 "CodeMover$Program" "changed" "Z", Cond.fieldLink RX2 58 "CodeMover$Program" "blocks" "I"]
def wsL_kept_r2 : List Cond := [Cond.methodLink RX2 62 yX2_findSetsOfBlock, Cond.instanceMethod yX2_findSetsOfBlock, Cond.selects RX2 yX2_findSetsOfBlock yX2_findSetsOfBlock, Cond.code yX2_findSetsOfBlock cX2_findSetsOfBlock 9 none, Cond.fieldLink RX2 84 "CodeMover$Program" "sizes" "[I", Cond.fieldLink RX2 91 "CodeMover$Program" "dependents" "[I", Cond.fieldLink RX2 9 "CodeMover$Sets" "keptIn" "[I", Cond.fieldLink RX2 15 "CodeMover$Sets" "earlyIn" "[I", Cond.fieldLink RX2 18 "CodeMover$Sets" "lateIn" "[I", Cond.methodLink RX2 87 yX1_codeAt, Cond.instanceMethod yX1_codeAt, Cond.selects RX1 yX1_codeAt yX1_codeAt, Cond.initialized RX1, Cond.code yX1_codeAt cX1_codeAt 3 (some .int), Cond.fieldLink RX1 28 "CodeMover$Program" "codes" "[I", Cond.methodLink RX2 94 yX1_allExpressions, Cond.instanceMethod yX1_allExpressions, Cond.selects RX1 yX1_allExpressions yX1_allExpressions, Cond.code yX1_allExpressions cX1_allExpressions 1 (some .int), Cond.fieldLink RX1 9 "CodeMover$Program" "expressions" "I", Cond.methodLink RX2 66 yX2_findNeeded, Cond.instanceMethod yX2_findNeeded, Cond.selects RX2 yX2_findNeeded yX2_findNeeded, Cond.code yX2_findNeeded cX2_findNeeded 3 none]
def wsL_kept_r3 : List Cond := [Cond.fieldLink RX2 98 "CodeMover$Program" "firstExit" "[I", Cond.methodLink RX2 101 yX2_setNeededAtEnd, Cond.instanceMethod yX2_setNeededAtEnd, Cond.selects RX2 yX2_setNeededAtEnd yX2_setNeededAtEnd, Cond.code yX2_setNeededAtEnd cX2_setNeededAtEnd 3 none, Cond.fieldLink RX2 24 "CodeMover$Sets" "neededAtEnd" "[I", Cond.fieldLink RX2 21 "CodeMover$Sets" "neededAtStart" "[I", Cond.methodLink RX2 105 yX2_shrinkNeeded, Cond.instanceMethod yX2_shrinkNeeded, Cond.selects RX2 yX2_shrinkNeeded yX2_shrinkNeeded, Cond.code yX2_shrinkNeeded cX2_shrinkNeeded 5 (some .boolean), Cond.fieldLink RX2 81 "CodeMover$Program" "edges" "I", Cond.fieldLink RX2 109 "CodeMover$Program" "from" "[I", Cond.fieldLink RX2 112 "CodeMover$Program" "to" "[I", Cond.methodLink RX2 69 yX2_findThere, Cond.instanceMethod yX2_findThere, Cond.selects RX2 yX2_findThere yX2_findThere, Cond.code yX2_findThere cX2_findThere 3 none, Cond.fieldLink RX2 27 "CodeMover$Sets" "thereAtStart" "[I", Cond.methodLink RX2 115 yX2_fillWhereEdgesLead, Cond.instanceMethod yX2_fillWhereEdgesLead, Cond.selects RX2 yX2_fillWhereEdgesLead yX2_fillWhereEdgesLead, Cond.code yX2_fillWhereEdgesLead cX2_fillWhereEdgesLead 3 none, Cond.methodLink RX2 119 yX2_setThereAtStart]
def wsL_kept_r4 : List Cond := [Cond.instanceMethod yX2_setThereAtStart, Cond.selects RX2 yX2_setThereAtStart yX2_setThereAtStart, Cond.code yX2_setThereAtStart cX2_setThereAtStart 3 none, Cond.fieldLink RX2 30 "CodeMover$Sets" "thereAtEnd" "[I", Cond.methodLink RX2 122 yX2_shrinkThere, Cond.instanceMethod yX2_shrinkThere, Cond.selects RX2 yX2_shrinkThere yX2_shrinkThere, Cond.code yX2_shrinkThere cX2_shrinkThere 5 (some .boolean), Cond.methodLink RX2 72 yX2_findEarliest, Cond.instanceMethod yX2_findEarliest, Cond.selects RX2 yX2_findEarliest yX2_findEarliest, Cond.code yX2_findEarliest cX2_findEarliest 4 none, Cond.fieldLink RX2 39 "CodeMover$Sets" "earliestOnEdge" "[I", Cond.methodLink RX2 75 yX2_findDelayed, Cond.instanceMethod yX2_findDelayed, Cond.selects RX2 yX2_findDelayed yX2_findDelayed, Cond.code yX2_findDelayed cX2_findDelayed 3 none, Cond.fieldLink RX2 33 "CodeMover$Sets" "delayedAtStart" "[I", Cond.fieldLink RX2 42 "CodeMover$Sets" "delayedOnEdge" "[I", Cond.methodLink RX2 125 yX2_shrinkDelayed, Cond.instanceMethod yX2_shrinkDelayed, Cond.selects RX2 yX2_shrinkDelayed yX2_shrinkDelayed, Cond.code yX2_shrinkDelayed cX2_shrinkDelayed 5 (some .boolean), Cond.methodLink RX2 128 yX2_findDelayedOnEdge]
def wsL_kept_r5 : List Cond := [Cond.instanceMethod yX2_findDelayedOnEdge, Cond.selects RX2 yX2_findDelayedOnEdge yX2_findDelayedOnEdge, Cond.code yX2_findDelayedOnEdge cX2_findDelayedOnEdge 3 (some .int), Cond.methodLink RX2 78 yX2_findInsertionsAndDeletions, Cond.instanceMethod yX2_findInsertionsAndDeletions, Cond.selects RX2 yX2_findInsertionsAndDeletions yX2_findInsertionsAndDeletions, Cond.code yX2_findInsertionsAndDeletions cX2_findInsertionsAndDeletions 2 none, Cond.fieldLink RX2 45 "CodeMover$Sets" "insertedOnEdge" "[I", Cond.fieldLink RX2 36 "CodeMover$Sets" "deletedInBlock" "[I"]
def wsL_kept : List Cond := .codeWith yL_kept cL_kept 4 (some .int) [(0, 9, 12, 25)] :: ((wsL_kept_r1 ++ (wsL_kept_r2 ++ (wsL_kept_r3 ++ (wsL_kept_r4 ++ wsL_kept_r5)))) ++ wsX30 ++ wsX20 ++ wsX10 ++ (vx_atS RX3 102 "java/lang/IndexOutOfBoundsException" ["java/lang/RuntimeException", "java/lang/Exception"]).filter goodWord)
def wsL_early_r1 : List Cond := [Cond.classLink RL 25 "java/lang/IndexOutOfBoundsException", Cond.methodLink RL 51 yX3_early, Cond.instanceMethod yX3_early, Cond.selects RX3 yX3_early yX3_early, Cond.initialized RX3, Cond.code yX3_early cX3_early 2 (some .int), Cond.fieldLink RX3 21 "CodeMover" "sets" "LCodeMover$Sets;", Cond.fieldLink RX3 128 "CodeMover$Sets" "earlyIn" "[I", Cond.methodLink RX3 61 yX3_requireBlock, Cond.instanceMethod yX3_requireBlock, Cond.selects RX3 yX3_requireBlock yX3_requireBlock, Cond.code yX3_requireBlock cX3_requireBlock 2 none, Cond.classLink RX3 98 "java/lang/IndexOutOfBoundsException", Cond.initialized "java/lang/IndexOutOfBoundsException", Cond.fieldLink RX3 10 "CodeMover" "program" "LCodeMover$Program;", Cond.fieldLink RX3 52 "CodeMover$Program" "blocks" "I", Cond.methodLink RX3 122 yX2_bringUpToDate, Cond.instanceMethod yX2_bringUpToDate, Cond.selects RX2 yX2_bringUpToDate yX2_bringUpToDate, Cond.initialized RX2, Cond.code yX2_bringUpToDate cX2_bringUpToDate 2 none, Cond.fieldLink RX2 48 "CodeMover$Sets" "program" "LCodeMover$Program;", Cond.fieldLink RX2 52 "CodeMover$Program" "changed" "Z", Cond.fieldLink RX2 58 "CodeMover$Program" "blocks" "I"]
def wsL_early_r2 : List Cond := [Cond.methodLink RX2 62 yX2_findSetsOfBlock, Cond.instanceMethod yX2_findSetsOfBlock, Cond.selects RX2 yX2_findSetsOfBlock yX2_findSetsOfBlock, Cond.code yX2_findSetsOfBlock cX2_findSetsOfBlock 9 none, Cond.fieldLink RX2 84 "CodeMover$Program" "sizes" "[I", Cond.fieldLink RX2 91 "CodeMover$Program" "dependents" "[I", Cond.fieldLink RX2 9 "CodeMover$Sets" "keptIn" "[I", Cond.fieldLink RX2 15 "CodeMover$Sets" "earlyIn" "[I", Cond.fieldLink RX2 18 "CodeMover$Sets" "lateIn" "[I", Cond.methodLink RX2 87 yX1_codeAt, Cond.instanceMethod yX1_codeAt, Cond.selects RX1 yX1_codeAt yX1_codeAt, Cond.initialized RX1, Cond.code yX1_codeAt cX1_codeAt 3 (some .int), Cond.fieldLink RX1 28 "CodeMover$Program" "codes" "[I", Cond.methodLink RX2 94 yX1_allExpressions, Cond.instanceMethod yX1_allExpressions, Cond.selects RX1 yX1_allExpressions yX1_allExpressions, Cond.code yX1_allExpressions cX1_allExpressions 1 (some .int), Cond.fieldLink RX1 9 "CodeMover$Program" "expressions" "I", Cond.methodLink RX2 66 yX2_findNeeded, Cond.instanceMethod yX2_findNeeded, Cond.selects RX2 yX2_findNeeded yX2_findNeeded, Cond.code yX2_findNeeded cX2_findNeeded 3 none]
def wsL_early_r3 : List Cond := [Cond.fieldLink RX2 98 "CodeMover$Program" "firstExit" "[I", Cond.methodLink RX2 101 yX2_setNeededAtEnd, Cond.instanceMethod yX2_setNeededAtEnd, Cond.selects RX2 yX2_setNeededAtEnd yX2_setNeededAtEnd, Cond.code yX2_setNeededAtEnd cX2_setNeededAtEnd 3 none, Cond.fieldLink RX2 24 "CodeMover$Sets" "neededAtEnd" "[I", Cond.fieldLink RX2 21 "CodeMover$Sets" "neededAtStart" "[I", Cond.methodLink RX2 105 yX2_shrinkNeeded, Cond.instanceMethod yX2_shrinkNeeded, Cond.selects RX2 yX2_shrinkNeeded yX2_shrinkNeeded, Cond.code yX2_shrinkNeeded cX2_shrinkNeeded 5 (some .boolean), Cond.fieldLink RX2 81 "CodeMover$Program" "edges" "I", Cond.fieldLink RX2 109 "CodeMover$Program" "from" "[I", Cond.fieldLink RX2 112 "CodeMover$Program" "to" "[I", Cond.methodLink RX2 69 yX2_findThere, Cond.instanceMethod yX2_findThere, Cond.selects RX2 yX2_findThere yX2_findThere, Cond.code yX2_findThere cX2_findThere 3 none, Cond.fieldLink RX2 27 "CodeMover$Sets" "thereAtStart" "[I", Cond.methodLink RX2 115 yX2_fillWhereEdgesLead, Cond.instanceMethod yX2_fillWhereEdgesLead, Cond.selects RX2 yX2_fillWhereEdgesLead yX2_fillWhereEdgesLead, Cond.code yX2_fillWhereEdgesLead cX2_fillWhereEdgesLead 3 none, Cond.methodLink RX2 119 yX2_setThereAtStart]
def wsL_early_r4 : List Cond := [Cond.instanceMethod yX2_setThereAtStart, Cond.selects RX2 yX2_setThereAtStart yX2_setThereAtStart, Cond.code yX2_setThereAtStart cX2_setThereAtStart 3 none, Cond.fieldLink RX2 30 "CodeMover$Sets" "thereAtEnd" "[I", Cond.methodLink RX2 122 yX2_shrinkThere, Cond.instanceMethod yX2_shrinkThere, Cond.selects RX2 yX2_shrinkThere yX2_shrinkThere, Cond.code yX2_shrinkThere cX2_shrinkThere 5 (some .boolean), Cond.methodLink RX2 72 yX2_findEarliest, Cond.instanceMethod yX2_findEarliest, Cond.selects RX2 yX2_findEarliest yX2_findEarliest, Cond.code yX2_findEarliest cX2_findEarliest 4 none, Cond.fieldLink RX2 39 "CodeMover$Sets" "earliestOnEdge" "[I", Cond.methodLink RX2 75 yX2_findDelayed, Cond.instanceMethod yX2_findDelayed, Cond.selects RX2 yX2_findDelayed yX2_findDelayed, Cond.code yX2_findDelayed cX2_findDelayed 3 none, Cond.fieldLink RX2 33 "CodeMover$Sets" "delayedAtStart" "[I", Cond.fieldLink RX2 42 "CodeMover$Sets" "delayedOnEdge" "[I", Cond.methodLink RX2 125 yX2_shrinkDelayed, Cond.instanceMethod yX2_shrinkDelayed, Cond.selects RX2 yX2_shrinkDelayed yX2_shrinkDelayed, Cond.code yX2_shrinkDelayed cX2_shrinkDelayed 5 (some .boolean), Cond.methodLink RX2 128 yX2_findDelayedOnEdge]
def wsL_early_r5 : List Cond := [Cond.instanceMethod yX2_findDelayedOnEdge, Cond.selects RX2 yX2_findDelayedOnEdge yX2_findDelayedOnEdge, Cond.code yX2_findDelayedOnEdge cX2_findDelayedOnEdge 3 (some .int), Cond.methodLink RX2 78 yX2_findInsertionsAndDeletions, Cond.instanceMethod yX2_findInsertionsAndDeletions, Cond.selects RX2 yX2_findInsertionsAndDeletions yX2_findInsertionsAndDeletions, Cond.code yX2_findInsertionsAndDeletions cX2_findInsertionsAndDeletions 2 none, Cond.fieldLink RX2 45 "CodeMover$Sets" "insertedOnEdge" "[I", Cond.fieldLink RX2 36 "CodeMover$Sets" "deletedInBlock" "[I"]
def wsL_early : List Cond := .codeWith yL_early cL_early 4 (some .int) [(0, 9, 12, 25)] :: ((wsL_early_r1 ++ (wsL_early_r2 ++ (wsL_early_r3 ++ (wsL_early_r4 ++ wsL_early_r5)))) ++ wsX30 ++ wsX20 ++ wsX10 ++ (vx_atS RX3 102 "java/lang/IndexOutOfBoundsException" ["java/lang/RuntimeException", "java/lang/Exception"]).filter goodWord)
def wsL_late_r1 : List Cond := [Cond.classLink RL 25 "java/lang/IndexOutOfBoundsException", Cond.methodLink RL 54 yX3_late, Cond.instanceMethod yX3_late, Cond.selects RX3 yX3_late yX3_late, Cond.initialized RX3, Cond.code yX3_late cX3_late 2 (some .int), Cond.fieldLink RX3 21 "CodeMover" "sets" "LCodeMover$Sets;", Cond.fieldLink RX3 131 "CodeMover$Sets" "lateIn" "[I", Cond.methodLink RX3 61 yX3_requireBlock, Cond.instanceMethod yX3_requireBlock, Cond.selects RX3 yX3_requireBlock yX3_requireBlock, Cond.code yX3_requireBlock cX3_requireBlock 2 none, Cond.classLink RX3 98 "java/lang/IndexOutOfBoundsException", Cond.initialized "java/lang/IndexOutOfBoundsException", Cond.fieldLink RX3 10 "CodeMover" "program" "LCodeMover$Program;", Cond.fieldLink RX3 52 "CodeMover$Program" "blocks" "I", Cond.methodLink RX3 122 yX2_bringUpToDate, Cond.instanceMethod yX2_bringUpToDate, Cond.selects RX2 yX2_bringUpToDate yX2_bringUpToDate, Cond.initialized RX2, Cond.code yX2_bringUpToDate cX2_bringUpToDate 2 none, Cond.fieldLink RX2 48 "CodeMover$Sets" "program" "LCodeMover$Program;", Cond.fieldLink RX2 52 "CodeMover$Program" "changed" "Z", Cond.fieldLink RX2 58 "CodeMover$Program" "blocks" "I"]
def wsL_late_r2 : List Cond := [Cond.methodLink RX2 62 yX2_findSetsOfBlock, Cond.instanceMethod yX2_findSetsOfBlock, Cond.selects RX2 yX2_findSetsOfBlock yX2_findSetsOfBlock, Cond.code yX2_findSetsOfBlock cX2_findSetsOfBlock 9 none, Cond.fieldLink RX2 84 "CodeMover$Program" "sizes" "[I", Cond.fieldLink RX2 91 "CodeMover$Program" "dependents" "[I", Cond.fieldLink RX2 9 "CodeMover$Sets" "keptIn" "[I", Cond.fieldLink RX2 15 "CodeMover$Sets" "earlyIn" "[I", Cond.fieldLink RX2 18 "CodeMover$Sets" "lateIn" "[I", Cond.methodLink RX2 87 yX1_codeAt, Cond.instanceMethod yX1_codeAt, Cond.selects RX1 yX1_codeAt yX1_codeAt, Cond.initialized RX1, Cond.code yX1_codeAt cX1_codeAt 3 (some .int), Cond.fieldLink RX1 28 "CodeMover$Program" "codes" "[I", Cond.methodLink RX2 94 yX1_allExpressions, Cond.instanceMethod yX1_allExpressions, Cond.selects RX1 yX1_allExpressions yX1_allExpressions, Cond.code yX1_allExpressions cX1_allExpressions 1 (some .int), Cond.fieldLink RX1 9 "CodeMover$Program" "expressions" "I", Cond.methodLink RX2 66 yX2_findNeeded, Cond.instanceMethod yX2_findNeeded, Cond.selects RX2 yX2_findNeeded yX2_findNeeded, Cond.code yX2_findNeeded cX2_findNeeded 3 none]
def wsL_late_r3 : List Cond := [Cond.fieldLink RX2 98 "CodeMover$Program" "firstExit" "[I", Cond.methodLink RX2 101 yX2_setNeededAtEnd, Cond.instanceMethod yX2_setNeededAtEnd, Cond.selects RX2 yX2_setNeededAtEnd yX2_setNeededAtEnd, Cond.code yX2_setNeededAtEnd cX2_setNeededAtEnd 3 none, Cond.fieldLink RX2 24 "CodeMover$Sets" "neededAtEnd" "[I", Cond.fieldLink RX2 21 "CodeMover$Sets" "neededAtStart" "[I", Cond.methodLink RX2 105 yX2_shrinkNeeded, Cond.instanceMethod yX2_shrinkNeeded, Cond.selects RX2 yX2_shrinkNeeded yX2_shrinkNeeded, Cond.code yX2_shrinkNeeded cX2_shrinkNeeded 5 (some .boolean), Cond.fieldLink RX2 81 "CodeMover$Program" "edges" "I", Cond.fieldLink RX2 109 "CodeMover$Program" "from" "[I", Cond.fieldLink RX2 112 "CodeMover$Program" "to" "[I", Cond.methodLink RX2 69 yX2_findThere, Cond.instanceMethod yX2_findThere, Cond.selects RX2 yX2_findThere yX2_findThere, Cond.code yX2_findThere cX2_findThere 3 none, Cond.fieldLink RX2 27 "CodeMover$Sets" "thereAtStart" "[I", Cond.methodLink RX2 115 yX2_fillWhereEdgesLead, Cond.instanceMethod yX2_fillWhereEdgesLead, Cond.selects RX2 yX2_fillWhereEdgesLead yX2_fillWhereEdgesLead, Cond.code yX2_fillWhereEdgesLead cX2_fillWhereEdgesLead 3 none, Cond.methodLink RX2 119 yX2_setThereAtStart]
def wsL_late_r4 : List Cond := [Cond.instanceMethod yX2_setThereAtStart, Cond.selects RX2 yX2_setThereAtStart yX2_setThereAtStart, Cond.code yX2_setThereAtStart cX2_setThereAtStart 3 none, Cond.fieldLink RX2 30 "CodeMover$Sets" "thereAtEnd" "[I", Cond.methodLink RX2 122 yX2_shrinkThere, Cond.instanceMethod yX2_shrinkThere, Cond.selects RX2 yX2_shrinkThere yX2_shrinkThere, Cond.code yX2_shrinkThere cX2_shrinkThere 5 (some .boolean), Cond.methodLink RX2 72 yX2_findEarliest, Cond.instanceMethod yX2_findEarliest, Cond.selects RX2 yX2_findEarliest yX2_findEarliest, Cond.code yX2_findEarliest cX2_findEarliest 4 none, Cond.fieldLink RX2 39 "CodeMover$Sets" "earliestOnEdge" "[I", Cond.methodLink RX2 75 yX2_findDelayed, Cond.instanceMethod yX2_findDelayed, Cond.selects RX2 yX2_findDelayed yX2_findDelayed, Cond.code yX2_findDelayed cX2_findDelayed 3 none, Cond.fieldLink RX2 33 "CodeMover$Sets" "delayedAtStart" "[I", Cond.fieldLink RX2 42 "CodeMover$Sets" "delayedOnEdge" "[I", Cond.methodLink RX2 125 yX2_shrinkDelayed, Cond.instanceMethod yX2_shrinkDelayed, Cond.selects RX2 yX2_shrinkDelayed yX2_shrinkDelayed, Cond.code yX2_shrinkDelayed cX2_shrinkDelayed 5 (some .boolean), Cond.methodLink RX2 128 yX2_findDelayedOnEdge]
def wsL_late_r5 : List Cond := [Cond.instanceMethod yX2_findDelayedOnEdge, Cond.selects RX2 yX2_findDelayedOnEdge yX2_findDelayedOnEdge, Cond.code yX2_findDelayedOnEdge cX2_findDelayedOnEdge 3 (some .int), Cond.methodLink RX2 78 yX2_findInsertionsAndDeletions, Cond.instanceMethod yX2_findInsertionsAndDeletions, Cond.selects RX2 yX2_findInsertionsAndDeletions yX2_findInsertionsAndDeletions, Cond.code yX2_findInsertionsAndDeletions cX2_findInsertionsAndDeletions 2 none, Cond.fieldLink RX2 45 "CodeMover$Sets" "insertedOnEdge" "[I", Cond.fieldLink RX2 36 "CodeMover$Sets" "deletedInBlock" "[I"]
def wsL_late : List Cond := .codeWith yL_late cL_late 4 (some .int) [(0, 9, 12, 25)] :: ((wsL_late_r1 ++ (wsL_late_r2 ++ (wsL_late_r3 ++ (wsL_late_r4 ++ wsL_late_r5)))) ++ wsX30 ++ wsX20 ++ wsX10 ++ (vx_atS RX3 102 "java/lang/IndexOutOfBoundsException" ["java/lang/RuntimeException", "java/lang/Exception"]).filter goodWord)
def wsL_needed_r1 : List Cond := [Cond.classLink RL 25 "java/lang/IndexOutOfBoundsException", Cond.methodLink RL 57 yX3_needed, Cond.instanceMethod yX3_needed, Cond.selects RX3 yX3_needed yX3_needed, Cond.initialized RX3, Cond.code yX3_needed cX3_needed 3 (some .int), Cond.fieldLink RX3 21 "CodeMover" "sets" "LCodeMover$Sets;", Cond.fieldLink RX3 134 "CodeMover$Sets" "neededAtEnd" "[I", Cond.fieldLink RX3 137 "CodeMover$Sets" "neededAtStart" "[I", Cond.methodLink RX3 61 yX3_requireBlock, Cond.instanceMethod yX3_requireBlock, Cond.selects RX3 yX3_requireBlock yX3_requireBlock, Cond.code yX3_requireBlock cX3_requireBlock 2 none, Cond.classLink RX3 98 "java/lang/IndexOutOfBoundsException", Cond.initialized "java/lang/IndexOutOfBoundsException", Cond.fieldLink RX3 10 "CodeMover" "program" "LCodeMover$Program;", Cond.fieldLink RX3 52 "CodeMover$Program" "blocks" "I", Cond.methodLink RX3 122 yX2_bringUpToDate, Cond.instanceMethod yX2_bringUpToDate, Cond.selects RX2 yX2_bringUpToDate yX2_bringUpToDate, Cond.initialized RX2, Cond.code yX2_bringUpToDate cX2_bringUpToDate 2 none, Cond.fieldLink RX2 48 "CodeMover$Sets" "program" "LCodeMover$Program;", Cond.fieldLink RX2 52 "CodeMover$Program" "changed" "Z"]
def wsL_needed_r2 : List Cond := [Cond.fieldLink RX2 58 "CodeMover$Program" "blocks" "I", Cond.methodLink RX2 62 yX2_findSetsOfBlock, Cond.instanceMethod yX2_findSetsOfBlock, Cond.selects RX2 yX2_findSetsOfBlock yX2_findSetsOfBlock, Cond.code yX2_findSetsOfBlock cX2_findSetsOfBlock 9 none, Cond.fieldLink RX2 84 "CodeMover$Program" "sizes" "[I", Cond.fieldLink RX2 91 "CodeMover$Program" "dependents" "[I", Cond.fieldLink RX2 9 "CodeMover$Sets" "keptIn" "[I", Cond.fieldLink RX2 15 "CodeMover$Sets" "earlyIn" "[I", Cond.fieldLink RX2 18 "CodeMover$Sets" "lateIn" "[I", Cond.methodLink RX2 87 yX1_codeAt, Cond.instanceMethod yX1_codeAt, Cond.selects RX1 yX1_codeAt yX1_codeAt, Cond.initialized RX1, Cond.code yX1_codeAt cX1_codeAt 3 (some .int), Cond.fieldLink RX1 28 "CodeMover$Program" "codes" "[I", Cond.methodLink RX2 94 yX1_allExpressions, Cond.instanceMethod yX1_allExpressions, Cond.selects RX1 yX1_allExpressions yX1_allExpressions, Cond.code yX1_allExpressions cX1_allExpressions 1 (some .int), Cond.fieldLink RX1 9 "CodeMover$Program" "expressions" "I", Cond.methodLink RX2 66 yX2_findNeeded, Cond.instanceMethod yX2_findNeeded, Cond.selects RX2 yX2_findNeeded yX2_findNeeded]
def wsL_needed_r3 : List Cond := [Cond.code yX2_findNeeded cX2_findNeeded 3 none, Cond.fieldLink RX2 98 "CodeMover$Program" "firstExit" "[I", Cond.methodLink RX2 101 yX2_setNeededAtEnd, Cond.instanceMethod yX2_setNeededAtEnd, Cond.selects RX2 yX2_setNeededAtEnd yX2_setNeededAtEnd, Cond.code yX2_setNeededAtEnd cX2_setNeededAtEnd 3 none, Cond.fieldLink RX2 24 "CodeMover$Sets" "neededAtEnd" "[I", Cond.fieldLink RX2 21 "CodeMover$Sets" "neededAtStart" "[I", Cond.methodLink RX2 105 yX2_shrinkNeeded, Cond.instanceMethod yX2_shrinkNeeded, Cond.selects RX2 yX2_shrinkNeeded yX2_shrinkNeeded, Cond.code yX2_shrinkNeeded cX2_shrinkNeeded 5 (some .boolean), Cond.fieldLink RX2 81 "CodeMover$Program" "edges" "I", Cond.fieldLink RX2 109 "CodeMover$Program" "from" "[I", Cond.fieldLink RX2 112 "CodeMover$Program" "to" "[I", Cond.methodLink RX2 69 yX2_findThere, Cond.instanceMethod yX2_findThere, Cond.selects RX2 yX2_findThere yX2_findThere, Cond.code yX2_findThere cX2_findThere 3 none, Cond.fieldLink RX2 27 "CodeMover$Sets" "thereAtStart" "[I", Cond.methodLink RX2 115 yX2_fillWhereEdgesLead, Cond.instanceMethod yX2_fillWhereEdgesLead, Cond.selects RX2 yX2_fillWhereEdgesLead yX2_fillWhereEdgesLead, Cond.code yX2_fillWhereEdgesLead cX2_fillWhereEdgesLead 3 none]
def wsL_needed_r4 : List Cond := [Cond.methodLink RX2 119 yX2_setThereAtStart, Cond.instanceMethod yX2_setThereAtStart, Cond.selects RX2 yX2_setThereAtStart yX2_setThereAtStart, Cond.code yX2_setThereAtStart cX2_setThereAtStart 3 none, Cond.fieldLink RX2 30 "CodeMover$Sets" "thereAtEnd" "[I", Cond.methodLink RX2 122 yX2_shrinkThere, Cond.instanceMethod yX2_shrinkThere, Cond.selects RX2 yX2_shrinkThere yX2_shrinkThere, Cond.code yX2_shrinkThere cX2_shrinkThere 5 (some .boolean), Cond.methodLink RX2 72 yX2_findEarliest, Cond.instanceMethod yX2_findEarliest, Cond.selects RX2 yX2_findEarliest yX2_findEarliest, Cond.code yX2_findEarliest cX2_findEarliest 4 none, Cond.fieldLink RX2 39 "CodeMover$Sets" "earliestOnEdge" "[I", Cond.methodLink RX2 75 yX2_findDelayed, Cond.instanceMethod yX2_findDelayed, Cond.selects RX2 yX2_findDelayed yX2_findDelayed, Cond.code yX2_findDelayed cX2_findDelayed 3 none, Cond.fieldLink RX2 33 "CodeMover$Sets" "delayedAtStart" "[I", Cond.fieldLink RX2 42 "CodeMover$Sets" "delayedOnEdge" "[I", Cond.methodLink RX2 125 yX2_shrinkDelayed, Cond.instanceMethod yX2_shrinkDelayed, Cond.selects RX2 yX2_shrinkDelayed yX2_shrinkDelayed, Cond.code yX2_shrinkDelayed cX2_shrinkDelayed 5 (some .boolean)]
def wsL_needed_r5 : List Cond := [Cond.methodLink RX2 128 yX2_findDelayedOnEdge, Cond.instanceMethod yX2_findDelayedOnEdge, Cond.selects RX2 yX2_findDelayedOnEdge yX2_findDelayedOnEdge, Cond.code yX2_findDelayedOnEdge cX2_findDelayedOnEdge 3 (some .int), Cond.methodLink RX2 78 yX2_findInsertionsAndDeletions, Cond.instanceMethod yX2_findInsertionsAndDeletions, Cond.selects RX2 yX2_findInsertionsAndDeletions yX2_findInsertionsAndDeletions, Cond.code yX2_findInsertionsAndDeletions cX2_findInsertionsAndDeletions 2 none, Cond.fieldLink RX2 45 "CodeMover$Sets" "insertedOnEdge" "[I", Cond.fieldLink RX2 36 "CodeMover$Sets" "deletedInBlock" "[I"]
def wsL_needed : List Cond := .codeWith yL_needed cL_needed 5 (some .int) [(0, 10, 13, 25)] :: ((wsL_needed_r1 ++ (wsL_needed_r2 ++ (wsL_needed_r3 ++ (wsL_needed_r4 ++ wsL_needed_r5)))) ++ wsX30 ++ wsX20 ++ wsX10 ++ (vx_atS RX3 102 "java/lang/IndexOutOfBoundsException" ["java/lang/RuntimeException", "java/lang/Exception"]).filter goodWord)
def wsL_there_r1 : List Cond := [Cond.classLink RL 25 "java/lang/IndexOutOfBoundsException", Cond.methodLink RL 61 yX3_there, Cond.instanceMethod yX3_there, Cond.selects RX3 yX3_there yX3_there, Cond.initialized RX3, Cond.code yX3_there cX3_there 3 (some .int), Cond.fieldLink RX3 21 "CodeMover" "sets" "LCodeMover$Sets;", Cond.fieldLink RX3 140 "CodeMover$Sets" "thereAtEnd" "[I", Cond.fieldLink RX3 143 "CodeMover$Sets" "thereAtStart" "[I", Cond.methodLink RX3 61 yX3_requireBlock, Cond.instanceMethod yX3_requireBlock, Cond.selects RX3 yX3_requireBlock yX3_requireBlock, Cond.code yX3_requireBlock cX3_requireBlock 2 none, Cond.classLink RX3 98 "java/lang/IndexOutOfBoundsException", Cond.initialized "java/lang/IndexOutOfBoundsException", Cond.fieldLink RX3 10 "CodeMover" "program" "LCodeMover$Program;", Cond.fieldLink RX3 52 "CodeMover$Program" "blocks" "I", Cond.methodLink RX3 122 yX2_bringUpToDate, Cond.instanceMethod yX2_bringUpToDate, Cond.selects RX2 yX2_bringUpToDate yX2_bringUpToDate, Cond.initialized RX2, Cond.code yX2_bringUpToDate cX2_bringUpToDate 2 none, Cond.fieldLink RX2 48 "CodeMover$Sets" "program" "LCodeMover$Program;", Cond.fieldLink RX2 52 "CodeMover$Program" "changed" "Z"]
def wsL_there_r2 : List Cond := [Cond.fieldLink RX2 58 "CodeMover$Program" "blocks" "I", Cond.methodLink RX2 62 yX2_findSetsOfBlock, Cond.instanceMethod yX2_findSetsOfBlock, Cond.selects RX2 yX2_findSetsOfBlock yX2_findSetsOfBlock, Cond.code yX2_findSetsOfBlock cX2_findSetsOfBlock 9 none, Cond.fieldLink RX2 84 "CodeMover$Program" "sizes" "[I", Cond.fieldLink RX2 91 "CodeMover$Program" "dependents" "[I", Cond.fieldLink RX2 9 "CodeMover$Sets" "keptIn" "[I", Cond.fieldLink RX2 15 "CodeMover$Sets" "earlyIn" "[I", Cond.fieldLink RX2 18 "CodeMover$Sets" "lateIn" "[I", Cond.methodLink RX2 87 yX1_codeAt, Cond.instanceMethod yX1_codeAt, Cond.selects RX1 yX1_codeAt yX1_codeAt, Cond.initialized RX1, Cond.code yX1_codeAt cX1_codeAt 3 (some .int), Cond.fieldLink RX1 28 "CodeMover$Program" "codes" "[I", Cond.methodLink RX2 94 yX1_allExpressions, Cond.instanceMethod yX1_allExpressions, Cond.selects RX1 yX1_allExpressions yX1_allExpressions, Cond.code yX1_allExpressions cX1_allExpressions 1 (some .int), Cond.fieldLink RX1 9 "CodeMover$Program" "expressions" "I", Cond.methodLink RX2 66 yX2_findNeeded, Cond.instanceMethod yX2_findNeeded, Cond.selects RX2 yX2_findNeeded yX2_findNeeded]
def wsL_there_r3 : List Cond := [Cond.code yX2_findNeeded cX2_findNeeded 3 none, Cond.fieldLink RX2 98 "CodeMover$Program" "firstExit" "[I", Cond.methodLink RX2 101 yX2_setNeededAtEnd, Cond.instanceMethod yX2_setNeededAtEnd, Cond.selects RX2 yX2_setNeededAtEnd yX2_setNeededAtEnd, Cond.code yX2_setNeededAtEnd cX2_setNeededAtEnd 3 none, Cond.fieldLink RX2 24 "CodeMover$Sets" "neededAtEnd" "[I", Cond.fieldLink RX2 21 "CodeMover$Sets" "neededAtStart" "[I", Cond.methodLink RX2 105 yX2_shrinkNeeded, Cond.instanceMethod yX2_shrinkNeeded, Cond.selects RX2 yX2_shrinkNeeded yX2_shrinkNeeded, Cond.code yX2_shrinkNeeded cX2_shrinkNeeded 5 (some .boolean), Cond.fieldLink RX2 81 "CodeMover$Program" "edges" "I", Cond.fieldLink RX2 109 "CodeMover$Program" "from" "[I", Cond.fieldLink RX2 112 "CodeMover$Program" "to" "[I", Cond.methodLink RX2 69 yX2_findThere, Cond.instanceMethod yX2_findThere, Cond.selects RX2 yX2_findThere yX2_findThere, Cond.code yX2_findThere cX2_findThere 3 none, Cond.fieldLink RX2 27 "CodeMover$Sets" "thereAtStart" "[I", Cond.methodLink RX2 115 yX2_fillWhereEdgesLead, Cond.instanceMethod yX2_fillWhereEdgesLead, Cond.selects RX2 yX2_fillWhereEdgesLead yX2_fillWhereEdgesLead, Cond.code yX2_fillWhereEdgesLead cX2_fillWhereEdgesLead 3 none]
def wsL_there_r4 : List Cond := [Cond.methodLink RX2 119 yX2_setThereAtStart, Cond.instanceMethod yX2_setThereAtStart, Cond.selects RX2 yX2_setThereAtStart yX2_setThereAtStart, Cond.code yX2_setThereAtStart cX2_setThereAtStart 3 none, Cond.fieldLink RX2 30 "CodeMover$Sets" "thereAtEnd" "[I", Cond.methodLink RX2 122 yX2_shrinkThere, Cond.instanceMethod yX2_shrinkThere, Cond.selects RX2 yX2_shrinkThere yX2_shrinkThere, Cond.code yX2_shrinkThere cX2_shrinkThere 5 (some .boolean), Cond.methodLink RX2 72 yX2_findEarliest, Cond.instanceMethod yX2_findEarliest, Cond.selects RX2 yX2_findEarliest yX2_findEarliest, Cond.code yX2_findEarliest cX2_findEarliest 4 none, Cond.fieldLink RX2 39 "CodeMover$Sets" "earliestOnEdge" "[I", Cond.methodLink RX2 75 yX2_findDelayed, Cond.instanceMethod yX2_findDelayed, Cond.selects RX2 yX2_findDelayed yX2_findDelayed, Cond.code yX2_findDelayed cX2_findDelayed 3 none, Cond.fieldLink RX2 33 "CodeMover$Sets" "delayedAtStart" "[I", Cond.fieldLink RX2 42 "CodeMover$Sets" "delayedOnEdge" "[I", Cond.methodLink RX2 125 yX2_shrinkDelayed, Cond.instanceMethod yX2_shrinkDelayed, Cond.selects RX2 yX2_shrinkDelayed yX2_shrinkDelayed, Cond.code yX2_shrinkDelayed cX2_shrinkDelayed 5 (some .boolean)]
def wsL_there_r5 : List Cond := [Cond.methodLink RX2 128 yX2_findDelayedOnEdge, Cond.instanceMethod yX2_findDelayedOnEdge, Cond.selects RX2 yX2_findDelayedOnEdge yX2_findDelayedOnEdge, Cond.code yX2_findDelayedOnEdge cX2_findDelayedOnEdge 3 (some .int), Cond.methodLink RX2 78 yX2_findInsertionsAndDeletions, Cond.instanceMethod yX2_findInsertionsAndDeletions, Cond.selects RX2 yX2_findInsertionsAndDeletions yX2_findInsertionsAndDeletions, Cond.code yX2_findInsertionsAndDeletions cX2_findInsertionsAndDeletions 2 none, Cond.fieldLink RX2 45 "CodeMover$Sets" "insertedOnEdge" "[I", Cond.fieldLink RX2 36 "CodeMover$Sets" "deletedInBlock" "[I"]
def wsL_there : List Cond := .codeWith yL_there cL_there 5 (some .int) [(0, 10, 13, 25)] :: ((wsL_there_r1 ++ (wsL_there_r2 ++ (wsL_there_r3 ++ (wsL_there_r4 ++ wsL_there_r5)))) ++ wsX30 ++ wsX20 ++ wsX10 ++ (vx_atS RX3 102 "java/lang/IndexOutOfBoundsException" ["java/lang/RuntimeException", "java/lang/Exception"]).filter goodWord)
def wsL_earliest_r1 : List Cond := [Cond.classLink RL 25 "java/lang/IndexOutOfBoundsException", Cond.methodLink RL 64 yX3_earliest, Cond.instanceMethod yX3_earliest, Cond.selects RX3 yX3_earliest yX3_earliest, Cond.initialized RX3, Cond.code yX3_earliest cX3_earliest 2 (some .int), Cond.fieldLink RX3 21 "CodeMover" "sets" "LCodeMover$Sets;", Cond.fieldLink RX3 146 "CodeMover$Sets" "earliestOnEdge" "[I", Cond.methodLink RX3 116 yX3_requireEdge, Cond.instanceMethod yX3_requireEdge, Cond.selects RX3 yX3_requireEdge yX3_requireEdge, Cond.code yX3_requireEdge cX3_requireEdge 2 none, Cond.classLink RX3 98 "java/lang/IndexOutOfBoundsException", Cond.initialized "java/lang/IndexOutOfBoundsException", Cond.fieldLink RX3 10 "CodeMover" "program" "LCodeMover$Program;", Cond.fieldLink RX3 79 "CodeMover$Program" "edges" "I", Cond.methodLink RX3 122 yX2_bringUpToDate, Cond.instanceMethod yX2_bringUpToDate, Cond.selects RX2 yX2_bringUpToDate yX2_bringUpToDate, Cond.initialized RX2, Cond.code yX2_bringUpToDate cX2_bringUpToDate 2 none, Cond.fieldLink RX2 48 "CodeMover$Sets" "program" "LCodeMover$Program;", Cond.fieldLink RX2 52 "CodeMover$Program" "changed" "Z", Cond.fieldLink RX2 58 "CodeMover$Program" "blocks" "I"]
def wsL_earliest_r2 : List Cond := [Cond.methodLink RX2 62 yX2_findSetsOfBlock, Cond.instanceMethod yX2_findSetsOfBlock, Cond.selects RX2 yX2_findSetsOfBlock yX2_findSetsOfBlock, Cond.code yX2_findSetsOfBlock cX2_findSetsOfBlock 9 none, Cond.fieldLink RX2 84 "CodeMover$Program" "sizes" "[I", Cond.fieldLink RX2 91 "CodeMover$Program" "dependents" "[I", Cond.fieldLink RX2 9 "CodeMover$Sets" "keptIn" "[I", Cond.fieldLink RX2 15 "CodeMover$Sets" "earlyIn" "[I", Cond.fieldLink RX2 18 "CodeMover$Sets" "lateIn" "[I", Cond.methodLink RX2 87 yX1_codeAt, Cond.instanceMethod yX1_codeAt, Cond.selects RX1 yX1_codeAt yX1_codeAt, Cond.initialized RX1, Cond.code yX1_codeAt cX1_codeAt 3 (some .int), Cond.fieldLink RX1 28 "CodeMover$Program" "codes" "[I", Cond.methodLink RX2 94 yX1_allExpressions, Cond.instanceMethod yX1_allExpressions, Cond.selects RX1 yX1_allExpressions yX1_allExpressions, Cond.code yX1_allExpressions cX1_allExpressions 1 (some .int), Cond.fieldLink RX1 9 "CodeMover$Program" "expressions" "I", Cond.methodLink RX2 66 yX2_findNeeded, Cond.instanceMethod yX2_findNeeded, Cond.selects RX2 yX2_findNeeded yX2_findNeeded, Cond.code yX2_findNeeded cX2_findNeeded 3 none]
def wsL_earliest_r3 : List Cond := [Cond.fieldLink RX2 98 "CodeMover$Program" "firstExit" "[I", Cond.methodLink RX2 101 yX2_setNeededAtEnd, Cond.instanceMethod yX2_setNeededAtEnd, Cond.selects RX2 yX2_setNeededAtEnd yX2_setNeededAtEnd, Cond.code yX2_setNeededAtEnd cX2_setNeededAtEnd 3 none, Cond.fieldLink RX2 24 "CodeMover$Sets" "neededAtEnd" "[I", Cond.fieldLink RX2 21 "CodeMover$Sets" "neededAtStart" "[I", Cond.methodLink RX2 105 yX2_shrinkNeeded, Cond.instanceMethod yX2_shrinkNeeded, Cond.selects RX2 yX2_shrinkNeeded yX2_shrinkNeeded, Cond.code yX2_shrinkNeeded cX2_shrinkNeeded 5 (some .boolean), Cond.fieldLink RX2 81 "CodeMover$Program" "edges" "I", Cond.fieldLink RX2 109 "CodeMover$Program" "from" "[I", Cond.fieldLink RX2 112 "CodeMover$Program" "to" "[I", Cond.methodLink RX2 69 yX2_findThere, Cond.instanceMethod yX2_findThere, Cond.selects RX2 yX2_findThere yX2_findThere, Cond.code yX2_findThere cX2_findThere 3 none, Cond.fieldLink RX2 27 "CodeMover$Sets" "thereAtStart" "[I", Cond.methodLink RX2 115 yX2_fillWhereEdgesLead, Cond.instanceMethod yX2_fillWhereEdgesLead, Cond.selects RX2 yX2_fillWhereEdgesLead yX2_fillWhereEdgesLead, Cond.code yX2_fillWhereEdgesLead cX2_fillWhereEdgesLead 3 none, Cond.methodLink RX2 119 yX2_setThereAtStart]
def wsL_earliest_r4 : List Cond := [Cond.instanceMethod yX2_setThereAtStart, Cond.selects RX2 yX2_setThereAtStart yX2_setThereAtStart, Cond.code yX2_setThereAtStart cX2_setThereAtStart 3 none, Cond.fieldLink RX2 30 "CodeMover$Sets" "thereAtEnd" "[I", Cond.methodLink RX2 122 yX2_shrinkThere, Cond.instanceMethod yX2_shrinkThere, Cond.selects RX2 yX2_shrinkThere yX2_shrinkThere, Cond.code yX2_shrinkThere cX2_shrinkThere 5 (some .boolean), Cond.methodLink RX2 72 yX2_findEarliest, Cond.instanceMethod yX2_findEarliest, Cond.selects RX2 yX2_findEarliest yX2_findEarliest, Cond.code yX2_findEarliest cX2_findEarliest 4 none, Cond.fieldLink RX2 39 "CodeMover$Sets" "earliestOnEdge" "[I", Cond.methodLink RX2 75 yX2_findDelayed, Cond.instanceMethod yX2_findDelayed, Cond.selects RX2 yX2_findDelayed yX2_findDelayed, Cond.code yX2_findDelayed cX2_findDelayed 3 none, Cond.fieldLink RX2 33 "CodeMover$Sets" "delayedAtStart" "[I", Cond.fieldLink RX2 42 "CodeMover$Sets" "delayedOnEdge" "[I", Cond.methodLink RX2 125 yX2_shrinkDelayed, Cond.instanceMethod yX2_shrinkDelayed, Cond.selects RX2 yX2_shrinkDelayed yX2_shrinkDelayed, Cond.code yX2_shrinkDelayed cX2_shrinkDelayed 5 (some .boolean), Cond.methodLink RX2 128 yX2_findDelayedOnEdge]
def wsL_earliest_r5 : List Cond := [Cond.instanceMethod yX2_findDelayedOnEdge, Cond.selects RX2 yX2_findDelayedOnEdge yX2_findDelayedOnEdge, Cond.code yX2_findDelayedOnEdge cX2_findDelayedOnEdge 3 (some .int), Cond.methodLink RX2 78 yX2_findInsertionsAndDeletions, Cond.instanceMethod yX2_findInsertionsAndDeletions, Cond.selects RX2 yX2_findInsertionsAndDeletions yX2_findInsertionsAndDeletions, Cond.code yX2_findInsertionsAndDeletions cX2_findInsertionsAndDeletions 2 none, Cond.fieldLink RX2 45 "CodeMover$Sets" "insertedOnEdge" "[I", Cond.fieldLink RX2 36 "CodeMover$Sets" "deletedInBlock" "[I"]
def wsL_earliest : List Cond := .codeWith yL_earliest cL_earliest 4 (some .int) [(0, 9, 12, 25)] :: ((wsL_earliest_r1 ++ (wsL_earliest_r2 ++ (wsL_earliest_r3 ++ (wsL_earliest_r4 ++ wsL_earliest_r5)))) ++ wsX30 ++ wsX20 ++ wsX10 ++ (vx_atS RX3 102 "java/lang/IndexOutOfBoundsException" ["java/lang/RuntimeException", "java/lang/Exception"]).filter goodWord)
def wsL_delayedOn_r1 : List Cond := [Cond.classLink RL 25 "java/lang/IndexOutOfBoundsException", Cond.methodLink RL 67 yX3_delayedOn, Cond.instanceMethod yX3_delayedOn, Cond.selects RX3 yX3_delayedOn yX3_delayedOn, Cond.initialized RX3, Cond.code yX3_delayedOn cX3_delayedOn 2 (some .int), Cond.fieldLink RX3 21 "CodeMover" "sets" "LCodeMover$Sets;", Cond.fieldLink RX3 149 "CodeMover$Sets" "delayedOnEdge" "[I", Cond.methodLink RX3 116 yX3_requireEdge, Cond.instanceMethod yX3_requireEdge, Cond.selects RX3 yX3_requireEdge yX3_requireEdge, Cond.code yX3_requireEdge cX3_requireEdge 2 none, Cond.classLink RX3 98 "java/lang/IndexOutOfBoundsException", Cond.initialized "java/lang/IndexOutOfBoundsException", Cond.fieldLink RX3 10 "CodeMover" "program" "LCodeMover$Program;", Cond.fieldLink RX3 79 "CodeMover$Program" "edges" "I", Cond.methodLink RX3 122 yX2_bringUpToDate, Cond.instanceMethod yX2_bringUpToDate, Cond.selects RX2 yX2_bringUpToDate yX2_bringUpToDate, Cond.initialized RX2, Cond.code yX2_bringUpToDate cX2_bringUpToDate 2 none, Cond.fieldLink RX2 48 "CodeMover$Sets" "program" "LCodeMover$Program;", Cond.fieldLink RX2 52 "CodeMover$Program" "changed" "Z", Cond.fieldLink RX2 58 "CodeMover$Program" "blocks" "I"]
def wsL_delayedOn_r2 : List Cond := [Cond.methodLink RX2 62 yX2_findSetsOfBlock, Cond.instanceMethod yX2_findSetsOfBlock, Cond.selects RX2 yX2_findSetsOfBlock yX2_findSetsOfBlock, Cond.code yX2_findSetsOfBlock cX2_findSetsOfBlock 9 none, Cond.fieldLink RX2 84 "CodeMover$Program" "sizes" "[I", Cond.fieldLink RX2 91 "CodeMover$Program" "dependents" "[I", Cond.fieldLink RX2 9 "CodeMover$Sets" "keptIn" "[I", Cond.fieldLink RX2 15 "CodeMover$Sets" "earlyIn" "[I", Cond.fieldLink RX2 18 "CodeMover$Sets" "lateIn" "[I", Cond.methodLink RX2 87 yX1_codeAt, Cond.instanceMethod yX1_codeAt, Cond.selects RX1 yX1_codeAt yX1_codeAt, Cond.initialized RX1, Cond.code yX1_codeAt cX1_codeAt 3 (some .int), Cond.fieldLink RX1 28 "CodeMover$Program" "codes" "[I", Cond.methodLink RX2 94 yX1_allExpressions, Cond.instanceMethod yX1_allExpressions, Cond.selects RX1 yX1_allExpressions yX1_allExpressions, Cond.code yX1_allExpressions cX1_allExpressions 1 (some .int), Cond.fieldLink RX1 9 "CodeMover$Program" "expressions" "I", Cond.methodLink RX2 66 yX2_findNeeded, Cond.instanceMethod yX2_findNeeded, Cond.selects RX2 yX2_findNeeded yX2_findNeeded, Cond.code yX2_findNeeded cX2_findNeeded 3 none]
def wsL_delayedOn_r3 : List Cond := [Cond.fieldLink RX2 98 "CodeMover$Program" "firstExit" "[I", Cond.methodLink RX2 101 yX2_setNeededAtEnd, Cond.instanceMethod yX2_setNeededAtEnd, Cond.selects RX2 yX2_setNeededAtEnd yX2_setNeededAtEnd, Cond.code yX2_setNeededAtEnd cX2_setNeededAtEnd 3 none, Cond.fieldLink RX2 24 "CodeMover$Sets" "neededAtEnd" "[I", Cond.fieldLink RX2 21 "CodeMover$Sets" "neededAtStart" "[I", Cond.methodLink RX2 105 yX2_shrinkNeeded, Cond.instanceMethod yX2_shrinkNeeded, Cond.selects RX2 yX2_shrinkNeeded yX2_shrinkNeeded, Cond.code yX2_shrinkNeeded cX2_shrinkNeeded 5 (some .boolean), Cond.fieldLink RX2 81 "CodeMover$Program" "edges" "I", Cond.fieldLink RX2 109 "CodeMover$Program" "from" "[I", Cond.fieldLink RX2 112 "CodeMover$Program" "to" "[I", Cond.methodLink RX2 69 yX2_findThere, Cond.instanceMethod yX2_findThere, Cond.selects RX2 yX2_findThere yX2_findThere, Cond.code yX2_findThere cX2_findThere 3 none, Cond.fieldLink RX2 27 "CodeMover$Sets" "thereAtStart" "[I", Cond.methodLink RX2 115 yX2_fillWhereEdgesLead, Cond.instanceMethod yX2_fillWhereEdgesLead, Cond.selects RX2 yX2_fillWhereEdgesLead yX2_fillWhereEdgesLead, Cond.code yX2_fillWhereEdgesLead cX2_fillWhereEdgesLead 3 none, Cond.methodLink RX2 119 yX2_setThereAtStart]
def wsL_delayedOn_r4 : List Cond := [Cond.instanceMethod yX2_setThereAtStart, Cond.selects RX2 yX2_setThereAtStart yX2_setThereAtStart, Cond.code yX2_setThereAtStart cX2_setThereAtStart 3 none, Cond.fieldLink RX2 30 "CodeMover$Sets" "thereAtEnd" "[I", Cond.methodLink RX2 122 yX2_shrinkThere, Cond.instanceMethod yX2_shrinkThere, Cond.selects RX2 yX2_shrinkThere yX2_shrinkThere, Cond.code yX2_shrinkThere cX2_shrinkThere 5 (some .boolean), Cond.methodLink RX2 72 yX2_findEarliest, Cond.instanceMethod yX2_findEarliest, Cond.selects RX2 yX2_findEarliest yX2_findEarliest, Cond.code yX2_findEarliest cX2_findEarliest 4 none, Cond.fieldLink RX2 39 "CodeMover$Sets" "earliestOnEdge" "[I", Cond.methodLink RX2 75 yX2_findDelayed, Cond.instanceMethod yX2_findDelayed, Cond.selects RX2 yX2_findDelayed yX2_findDelayed, Cond.code yX2_findDelayed cX2_findDelayed 3 none, Cond.fieldLink RX2 33 "CodeMover$Sets" "delayedAtStart" "[I", Cond.fieldLink RX2 42 "CodeMover$Sets" "delayedOnEdge" "[I", Cond.methodLink RX2 125 yX2_shrinkDelayed, Cond.instanceMethod yX2_shrinkDelayed, Cond.selects RX2 yX2_shrinkDelayed yX2_shrinkDelayed, Cond.code yX2_shrinkDelayed cX2_shrinkDelayed 5 (some .boolean), Cond.methodLink RX2 128 yX2_findDelayedOnEdge]
def wsL_delayedOn_r5 : List Cond := [Cond.instanceMethod yX2_findDelayedOnEdge, Cond.selects RX2 yX2_findDelayedOnEdge yX2_findDelayedOnEdge, Cond.code yX2_findDelayedOnEdge cX2_findDelayedOnEdge 3 (some .int), Cond.methodLink RX2 78 yX2_findInsertionsAndDeletions, Cond.instanceMethod yX2_findInsertionsAndDeletions, Cond.selects RX2 yX2_findInsertionsAndDeletions yX2_findInsertionsAndDeletions, Cond.code yX2_findInsertionsAndDeletions cX2_findInsertionsAndDeletions 2 none, Cond.fieldLink RX2 45 "CodeMover$Sets" "insertedOnEdge" "[I", Cond.fieldLink RX2 36 "CodeMover$Sets" "deletedInBlock" "[I"]
def wsL_delayedOn : List Cond := .codeWith yL_delayedOn cL_delayedOn 4 (some .int) [(0, 9, 12, 25)] :: ((wsL_delayedOn_r1 ++ (wsL_delayedOn_r2 ++ (wsL_delayedOn_r3 ++ (wsL_delayedOn_r4 ++ wsL_delayedOn_r5)))) ++ wsX30 ++ wsX20 ++ wsX10 ++ (vx_atS RX3 102 "java/lang/IndexOutOfBoundsException" ["java/lang/RuntimeException", "java/lang/Exception"]).filter goodWord)
def wsL_delayedAt_r1 : List Cond := [Cond.classLink RL 25 "java/lang/IndexOutOfBoundsException", Cond.methodLink RL 70 yX3_delayedAt, Cond.instanceMethod yX3_delayedAt, Cond.selects RX3 yX3_delayedAt yX3_delayedAt, Cond.initialized RX3, Cond.code yX3_delayedAt cX3_delayedAt 2 (some .int), Cond.fieldLink RX3 21 "CodeMover" "sets" "LCodeMover$Sets;", Cond.fieldLink RX3 152 "CodeMover$Sets" "delayedAtStart" "[I", Cond.methodLink RX3 61 yX3_requireBlock, Cond.instanceMethod yX3_requireBlock, Cond.selects RX3 yX3_requireBlock yX3_requireBlock, Cond.code yX3_requireBlock cX3_requireBlock 2 none, Cond.classLink RX3 98 "java/lang/IndexOutOfBoundsException", Cond.initialized "java/lang/IndexOutOfBoundsException", Cond.fieldLink RX3 10 "CodeMover" "program" "LCodeMover$Program;", Cond.fieldLink RX3 52 "CodeMover$Program" "blocks" "I", Cond.methodLink RX3 122 yX2_bringUpToDate, Cond.instanceMethod yX2_bringUpToDate, Cond.selects RX2 yX2_bringUpToDate yX2_bringUpToDate, Cond.initialized RX2, Cond.code yX2_bringUpToDate cX2_bringUpToDate 2 none, Cond.fieldLink RX2 48 "CodeMover$Sets" "program" "LCodeMover$Program;", Cond.fieldLink RX2 52 "CodeMover$Program" "changed" "Z", Cond.fieldLink RX2 58 "CodeMover$Program" "blocks" "I"]
def wsL_delayedAt_r2 : List Cond := [Cond.methodLink RX2 62 yX2_findSetsOfBlock, Cond.instanceMethod yX2_findSetsOfBlock, Cond.selects RX2 yX2_findSetsOfBlock yX2_findSetsOfBlock, Cond.code yX2_findSetsOfBlock cX2_findSetsOfBlock 9 none, Cond.fieldLink RX2 84 "CodeMover$Program" "sizes" "[I", Cond.fieldLink RX2 91 "CodeMover$Program" "dependents" "[I", Cond.fieldLink RX2 9 "CodeMover$Sets" "keptIn" "[I", Cond.fieldLink RX2 15 "CodeMover$Sets" "earlyIn" "[I", Cond.fieldLink RX2 18 "CodeMover$Sets" "lateIn" "[I", Cond.methodLink RX2 87 yX1_codeAt, Cond.instanceMethod yX1_codeAt, Cond.selects RX1 yX1_codeAt yX1_codeAt, Cond.initialized RX1, Cond.code yX1_codeAt cX1_codeAt 3 (some .int), Cond.fieldLink RX1 28 "CodeMover$Program" "codes" "[I", Cond.methodLink RX2 94 yX1_allExpressions, Cond.instanceMethod yX1_allExpressions, Cond.selects RX1 yX1_allExpressions yX1_allExpressions, Cond.code yX1_allExpressions cX1_allExpressions 1 (some .int), Cond.fieldLink RX1 9 "CodeMover$Program" "expressions" "I", Cond.methodLink RX2 66 yX2_findNeeded, Cond.instanceMethod yX2_findNeeded, Cond.selects RX2 yX2_findNeeded yX2_findNeeded, Cond.code yX2_findNeeded cX2_findNeeded 3 none]
def wsL_delayedAt_r3 : List Cond := [Cond.fieldLink RX2 98 "CodeMover$Program" "firstExit" "[I", Cond.methodLink RX2 101 yX2_setNeededAtEnd, Cond.instanceMethod yX2_setNeededAtEnd, Cond.selects RX2 yX2_setNeededAtEnd yX2_setNeededAtEnd, Cond.code yX2_setNeededAtEnd cX2_setNeededAtEnd 3 none, Cond.fieldLink RX2 24 "CodeMover$Sets" "neededAtEnd" "[I", Cond.fieldLink RX2 21 "CodeMover$Sets" "neededAtStart" "[I", Cond.methodLink RX2 105 yX2_shrinkNeeded, Cond.instanceMethod yX2_shrinkNeeded, Cond.selects RX2 yX2_shrinkNeeded yX2_shrinkNeeded, Cond.code yX2_shrinkNeeded cX2_shrinkNeeded 5 (some .boolean), Cond.fieldLink RX2 81 "CodeMover$Program" "edges" "I", Cond.fieldLink RX2 109 "CodeMover$Program" "from" "[I", Cond.fieldLink RX2 112 "CodeMover$Program" "to" "[I", Cond.methodLink RX2 69 yX2_findThere, Cond.instanceMethod yX2_findThere, Cond.selects RX2 yX2_findThere yX2_findThere, Cond.code yX2_findThere cX2_findThere 3 none, Cond.fieldLink RX2 27 "CodeMover$Sets" "thereAtStart" "[I", Cond.methodLink RX2 115 yX2_fillWhereEdgesLead, Cond.instanceMethod yX2_fillWhereEdgesLead, Cond.selects RX2 yX2_fillWhereEdgesLead yX2_fillWhereEdgesLead, Cond.code yX2_fillWhereEdgesLead cX2_fillWhereEdgesLead 3 none, Cond.methodLink RX2 119 yX2_setThereAtStart]
def wsL_delayedAt_r4 : List Cond := [Cond.instanceMethod yX2_setThereAtStart, Cond.selects RX2 yX2_setThereAtStart yX2_setThereAtStart, Cond.code yX2_setThereAtStart cX2_setThereAtStart 3 none, Cond.fieldLink RX2 30 "CodeMover$Sets" "thereAtEnd" "[I", Cond.methodLink RX2 122 yX2_shrinkThere, Cond.instanceMethod yX2_shrinkThere, Cond.selects RX2 yX2_shrinkThere yX2_shrinkThere, Cond.code yX2_shrinkThere cX2_shrinkThere 5 (some .boolean), Cond.methodLink RX2 72 yX2_findEarliest, Cond.instanceMethod yX2_findEarliest, Cond.selects RX2 yX2_findEarliest yX2_findEarliest, Cond.code yX2_findEarliest cX2_findEarliest 4 none, Cond.fieldLink RX2 39 "CodeMover$Sets" "earliestOnEdge" "[I", Cond.methodLink RX2 75 yX2_findDelayed, Cond.instanceMethod yX2_findDelayed, Cond.selects RX2 yX2_findDelayed yX2_findDelayed, Cond.code yX2_findDelayed cX2_findDelayed 3 none, Cond.fieldLink RX2 33 "CodeMover$Sets" "delayedAtStart" "[I", Cond.fieldLink RX2 42 "CodeMover$Sets" "delayedOnEdge" "[I", Cond.methodLink RX2 125 yX2_shrinkDelayed, Cond.instanceMethod yX2_shrinkDelayed, Cond.selects RX2 yX2_shrinkDelayed yX2_shrinkDelayed, Cond.code yX2_shrinkDelayed cX2_shrinkDelayed 5 (some .boolean), Cond.methodLink RX2 128 yX2_findDelayedOnEdge]
def wsL_delayedAt_r5 : List Cond := [Cond.instanceMethod yX2_findDelayedOnEdge, Cond.selects RX2 yX2_findDelayedOnEdge yX2_findDelayedOnEdge, Cond.code yX2_findDelayedOnEdge cX2_findDelayedOnEdge 3 (some .int), Cond.methodLink RX2 78 yX2_findInsertionsAndDeletions, Cond.instanceMethod yX2_findInsertionsAndDeletions, Cond.selects RX2 yX2_findInsertionsAndDeletions yX2_findInsertionsAndDeletions, Cond.code yX2_findInsertionsAndDeletions cX2_findInsertionsAndDeletions 2 none, Cond.fieldLink RX2 45 "CodeMover$Sets" "insertedOnEdge" "[I", Cond.fieldLink RX2 36 "CodeMover$Sets" "deletedInBlock" "[I"]
def wsL_delayedAt : List Cond := .codeWith yL_delayedAt cL_delayedAt 4 (some .int) [(0, 9, 12, 25)] :: ((wsL_delayedAt_r1 ++ (wsL_delayedAt_r2 ++ (wsL_delayedAt_r3 ++ (wsL_delayedAt_r4 ++ wsL_delayedAt_r5)))) ++ wsX30 ++ wsX20 ++ wsX10 ++ (vx_atS RX3 102 "java/lang/IndexOutOfBoundsException" ["java/lang/RuntimeException", "java/lang/Exception"]).filter goodWord)
def wsL_insertions_r1 : List Cond := [Cond.classLink RL 25 "java/lang/IndexOutOfBoundsException", Cond.methodLink RL 73 yX3_insertions, Cond.instanceMethod yX3_insertions, Cond.selects RX3 yX3_insertions yX3_insertions, Cond.initialized RX3, Cond.code yX3_insertions cX3_insertions 2 (some .int), Cond.fieldLink RX3 21 "CodeMover" "sets" "LCodeMover$Sets;", Cond.fieldLink RX3 155 "CodeMover$Sets" "insertedOnEdge" "[I", Cond.methodLink RX3 116 yX3_requireEdge, Cond.instanceMethod yX3_requireEdge, Cond.selects RX3 yX3_requireEdge yX3_requireEdge, Cond.code yX3_requireEdge cX3_requireEdge 2 none, Cond.classLink RX3 98 "java/lang/IndexOutOfBoundsException", Cond.initialized "java/lang/IndexOutOfBoundsException", Cond.fieldLink RX3 10 "CodeMover" "program" "LCodeMover$Program;", Cond.fieldLink RX3 79 "CodeMover$Program" "edges" "I", Cond.methodLink RX3 122 yX2_bringUpToDate, Cond.instanceMethod yX2_bringUpToDate, Cond.selects RX2 yX2_bringUpToDate yX2_bringUpToDate, Cond.initialized RX2, Cond.code yX2_bringUpToDate cX2_bringUpToDate 2 none, Cond.fieldLink RX2 48 "CodeMover$Sets" "program" "LCodeMover$Program;", Cond.fieldLink RX2 52 "CodeMover$Program" "changed" "Z", Cond.fieldLink RX2 58 "CodeMover$Program" "blocks" "I"]
def wsL_insertions_r2 : List Cond := [Cond.methodLink RX2 62 yX2_findSetsOfBlock, Cond.instanceMethod yX2_findSetsOfBlock, Cond.selects RX2 yX2_findSetsOfBlock yX2_findSetsOfBlock, Cond.code yX2_findSetsOfBlock cX2_findSetsOfBlock 9 none, Cond.fieldLink RX2 84 "CodeMover$Program" "sizes" "[I", Cond.fieldLink RX2 91 "CodeMover$Program" "dependents" "[I", Cond.fieldLink RX2 9 "CodeMover$Sets" "keptIn" "[I", Cond.fieldLink RX2 15 "CodeMover$Sets" "earlyIn" "[I", Cond.fieldLink RX2 18 "CodeMover$Sets" "lateIn" "[I", Cond.methodLink RX2 87 yX1_codeAt, Cond.instanceMethod yX1_codeAt, Cond.selects RX1 yX1_codeAt yX1_codeAt, Cond.initialized RX1, Cond.code yX1_codeAt cX1_codeAt 3 (some .int), Cond.fieldLink RX1 28 "CodeMover$Program" "codes" "[I", Cond.methodLink RX2 94 yX1_allExpressions, Cond.instanceMethod yX1_allExpressions, Cond.selects RX1 yX1_allExpressions yX1_allExpressions, Cond.code yX1_allExpressions cX1_allExpressions 1 (some .int), Cond.fieldLink RX1 9 "CodeMover$Program" "expressions" "I", Cond.methodLink RX2 66 yX2_findNeeded, Cond.instanceMethod yX2_findNeeded, Cond.selects RX2 yX2_findNeeded yX2_findNeeded, Cond.code yX2_findNeeded cX2_findNeeded 3 none]
def wsL_insertions_r3 : List Cond := [Cond.fieldLink RX2 98 "CodeMover$Program" "firstExit" "[I", Cond.methodLink RX2 101 yX2_setNeededAtEnd, Cond.instanceMethod yX2_setNeededAtEnd, Cond.selects RX2 yX2_setNeededAtEnd yX2_setNeededAtEnd, Cond.code yX2_setNeededAtEnd cX2_setNeededAtEnd 3 none, Cond.fieldLink RX2 24 "CodeMover$Sets" "neededAtEnd" "[I", Cond.fieldLink RX2 21 "CodeMover$Sets" "neededAtStart" "[I", Cond.methodLink RX2 105 yX2_shrinkNeeded, Cond.instanceMethod yX2_shrinkNeeded, Cond.selects RX2 yX2_shrinkNeeded yX2_shrinkNeeded, Cond.code yX2_shrinkNeeded cX2_shrinkNeeded 5 (some .boolean), Cond.fieldLink RX2 81 "CodeMover$Program" "edges" "I", Cond.fieldLink RX2 109 "CodeMover$Program" "from" "[I", Cond.fieldLink RX2 112 "CodeMover$Program" "to" "[I", Cond.methodLink RX2 69 yX2_findThere, Cond.instanceMethod yX2_findThere, Cond.selects RX2 yX2_findThere yX2_findThere, Cond.code yX2_findThere cX2_findThere 3 none, Cond.fieldLink RX2 27 "CodeMover$Sets" "thereAtStart" "[I", Cond.methodLink RX2 115 yX2_fillWhereEdgesLead, Cond.instanceMethod yX2_fillWhereEdgesLead, Cond.selects RX2 yX2_fillWhereEdgesLead yX2_fillWhereEdgesLead, Cond.code yX2_fillWhereEdgesLead cX2_fillWhereEdgesLead 3 none, Cond.methodLink RX2 119 yX2_setThereAtStart]
def wsL_insertions_r4 : List Cond := [Cond.instanceMethod yX2_setThereAtStart, Cond.selects RX2 yX2_setThereAtStart yX2_setThereAtStart, Cond.code yX2_setThereAtStart cX2_setThereAtStart 3 none, Cond.fieldLink RX2 30 "CodeMover$Sets" "thereAtEnd" "[I", Cond.methodLink RX2 122 yX2_shrinkThere, Cond.instanceMethod yX2_shrinkThere, Cond.selects RX2 yX2_shrinkThere yX2_shrinkThere, Cond.code yX2_shrinkThere cX2_shrinkThere 5 (some .boolean), Cond.methodLink RX2 72 yX2_findEarliest, Cond.instanceMethod yX2_findEarliest, Cond.selects RX2 yX2_findEarliest yX2_findEarliest, Cond.code yX2_findEarliest cX2_findEarliest 4 none, Cond.fieldLink RX2 39 "CodeMover$Sets" "earliestOnEdge" "[I", Cond.methodLink RX2 75 yX2_findDelayed, Cond.instanceMethod yX2_findDelayed, Cond.selects RX2 yX2_findDelayed yX2_findDelayed, Cond.code yX2_findDelayed cX2_findDelayed 3 none, Cond.fieldLink RX2 33 "CodeMover$Sets" "delayedAtStart" "[I", Cond.fieldLink RX2 42 "CodeMover$Sets" "delayedOnEdge" "[I", Cond.methodLink RX2 125 yX2_shrinkDelayed, Cond.instanceMethod yX2_shrinkDelayed, Cond.selects RX2 yX2_shrinkDelayed yX2_shrinkDelayed, Cond.code yX2_shrinkDelayed cX2_shrinkDelayed 5 (some .boolean), Cond.methodLink RX2 128 yX2_findDelayedOnEdge]
def wsL_insertions_r5 : List Cond := [Cond.instanceMethod yX2_findDelayedOnEdge, Cond.selects RX2 yX2_findDelayedOnEdge yX2_findDelayedOnEdge, Cond.code yX2_findDelayedOnEdge cX2_findDelayedOnEdge 3 (some .int), Cond.methodLink RX2 78 yX2_findInsertionsAndDeletions, Cond.instanceMethod yX2_findInsertionsAndDeletions, Cond.selects RX2 yX2_findInsertionsAndDeletions yX2_findInsertionsAndDeletions, Cond.code yX2_findInsertionsAndDeletions cX2_findInsertionsAndDeletions 2 none, Cond.fieldLink RX2 45 "CodeMover$Sets" "insertedOnEdge" "[I", Cond.fieldLink RX2 36 "CodeMover$Sets" "deletedInBlock" "[I"]
def wsL_insertions : List Cond := .codeWith yL_insertions cL_insertions 4 (some .int) [(0, 9, 12, 25)] :: ((wsL_insertions_r1 ++ (wsL_insertions_r2 ++ (wsL_insertions_r3 ++ (wsL_insertions_r4 ++ wsL_insertions_r5)))) ++ wsX30 ++ wsX20 ++ wsX10 ++ (vx_atS RX3 102 "java/lang/IndexOutOfBoundsException" ["java/lang/RuntimeException", "java/lang/Exception"]).filter goodWord)
def wsL_deletions_r1 : List Cond := [Cond.classLink RL 25 "java/lang/IndexOutOfBoundsException", Cond.methodLink RL 76 yX3_deletions, Cond.instanceMethod yX3_deletions, Cond.selects RX3 yX3_deletions yX3_deletions, Cond.initialized RX3, Cond.code yX3_deletions cX3_deletions 2 (some .int), Cond.fieldLink RX3 21 "CodeMover" "sets" "LCodeMover$Sets;", Cond.fieldLink RX3 158 "CodeMover$Sets" "deletedInBlock" "[I", Cond.methodLink RX3 61 yX3_requireBlock, Cond.instanceMethod yX3_requireBlock, Cond.selects RX3 yX3_requireBlock yX3_requireBlock, Cond.code yX3_requireBlock cX3_requireBlock 2 none, Cond.classLink RX3 98 "java/lang/IndexOutOfBoundsException", Cond.initialized "java/lang/IndexOutOfBoundsException", Cond.fieldLink RX3 10 "CodeMover" "program" "LCodeMover$Program;", Cond.fieldLink RX3 52 "CodeMover$Program" "blocks" "I", Cond.methodLink RX3 122 yX2_bringUpToDate, Cond.instanceMethod yX2_bringUpToDate, Cond.selects RX2 yX2_bringUpToDate yX2_bringUpToDate, Cond.initialized RX2, Cond.code yX2_bringUpToDate cX2_bringUpToDate 2 none, Cond.fieldLink RX2 48 "CodeMover$Sets" "program" "LCodeMover$Program;", Cond.fieldLink RX2 52 "CodeMover$Program" "changed" "Z", Cond.fieldLink RX2 58 "CodeMover$Program" "blocks" "I"]
def wsL_deletions_r2 : List Cond := [Cond.methodLink RX2 62 yX2_findSetsOfBlock, Cond.instanceMethod yX2_findSetsOfBlock, Cond.selects RX2 yX2_findSetsOfBlock yX2_findSetsOfBlock, Cond.code yX2_findSetsOfBlock cX2_findSetsOfBlock 9 none, Cond.fieldLink RX2 84 "CodeMover$Program" "sizes" "[I", Cond.fieldLink RX2 91 "CodeMover$Program" "dependents" "[I", Cond.fieldLink RX2 9 "CodeMover$Sets" "keptIn" "[I", Cond.fieldLink RX2 15 "CodeMover$Sets" "earlyIn" "[I", Cond.fieldLink RX2 18 "CodeMover$Sets" "lateIn" "[I", Cond.methodLink RX2 87 yX1_codeAt, Cond.instanceMethod yX1_codeAt, Cond.selects RX1 yX1_codeAt yX1_codeAt, Cond.initialized RX1, Cond.code yX1_codeAt cX1_codeAt 3 (some .int), Cond.fieldLink RX1 28 "CodeMover$Program" "codes" "[I", Cond.methodLink RX2 94 yX1_allExpressions, Cond.instanceMethod yX1_allExpressions, Cond.selects RX1 yX1_allExpressions yX1_allExpressions, Cond.code yX1_allExpressions cX1_allExpressions 1 (some .int), Cond.fieldLink RX1 9 "CodeMover$Program" "expressions" "I", Cond.methodLink RX2 66 yX2_findNeeded, Cond.instanceMethod yX2_findNeeded, Cond.selects RX2 yX2_findNeeded yX2_findNeeded, Cond.code yX2_findNeeded cX2_findNeeded 3 none]
def wsL_deletions_r3 : List Cond := [Cond.fieldLink RX2 98 "CodeMover$Program" "firstExit" "[I", Cond.methodLink RX2 101 yX2_setNeededAtEnd, Cond.instanceMethod yX2_setNeededAtEnd, Cond.selects RX2 yX2_setNeededAtEnd yX2_setNeededAtEnd, Cond.code yX2_setNeededAtEnd cX2_setNeededAtEnd 3 none, Cond.fieldLink RX2 24 "CodeMover$Sets" "neededAtEnd" "[I", Cond.fieldLink RX2 21 "CodeMover$Sets" "neededAtStart" "[I", Cond.methodLink RX2 105 yX2_shrinkNeeded, Cond.instanceMethod yX2_shrinkNeeded, Cond.selects RX2 yX2_shrinkNeeded yX2_shrinkNeeded, Cond.code yX2_shrinkNeeded cX2_shrinkNeeded 5 (some .boolean), Cond.fieldLink RX2 81 "CodeMover$Program" "edges" "I", Cond.fieldLink RX2 109 "CodeMover$Program" "from" "[I", Cond.fieldLink RX2 112 "CodeMover$Program" "to" "[I", Cond.methodLink RX2 69 yX2_findThere, Cond.instanceMethod yX2_findThere, Cond.selects RX2 yX2_findThere yX2_findThere, Cond.code yX2_findThere cX2_findThere 3 none, Cond.fieldLink RX2 27 "CodeMover$Sets" "thereAtStart" "[I", Cond.methodLink RX2 115 yX2_fillWhereEdgesLead, Cond.instanceMethod yX2_fillWhereEdgesLead, Cond.selects RX2 yX2_fillWhereEdgesLead yX2_fillWhereEdgesLead, Cond.code yX2_fillWhereEdgesLead cX2_fillWhereEdgesLead 3 none, Cond.methodLink RX2 119 yX2_setThereAtStart]
def wsL_deletions_r4 : List Cond := [Cond.instanceMethod yX2_setThereAtStart, Cond.selects RX2 yX2_setThereAtStart yX2_setThereAtStart, Cond.code yX2_setThereAtStart cX2_setThereAtStart 3 none, Cond.fieldLink RX2 30 "CodeMover$Sets" "thereAtEnd" "[I", Cond.methodLink RX2 122 yX2_shrinkThere, Cond.instanceMethod yX2_shrinkThere, Cond.selects RX2 yX2_shrinkThere yX2_shrinkThere, Cond.code yX2_shrinkThere cX2_shrinkThere 5 (some .boolean), Cond.methodLink RX2 72 yX2_findEarliest, Cond.instanceMethod yX2_findEarliest, Cond.selects RX2 yX2_findEarliest yX2_findEarliest, Cond.code yX2_findEarliest cX2_findEarliest 4 none, Cond.fieldLink RX2 39 "CodeMover$Sets" "earliestOnEdge" "[I", Cond.methodLink RX2 75 yX2_findDelayed, Cond.instanceMethod yX2_findDelayed, Cond.selects RX2 yX2_findDelayed yX2_findDelayed, Cond.code yX2_findDelayed cX2_findDelayed 3 none, Cond.fieldLink RX2 33 "CodeMover$Sets" "delayedAtStart" "[I", Cond.fieldLink RX2 42 "CodeMover$Sets" "delayedOnEdge" "[I", Cond.methodLink RX2 125 yX2_shrinkDelayed, Cond.instanceMethod yX2_shrinkDelayed, Cond.selects RX2 yX2_shrinkDelayed yX2_shrinkDelayed, Cond.code yX2_shrinkDelayed cX2_shrinkDelayed 5 (some .boolean), Cond.methodLink RX2 128 yX2_findDelayedOnEdge]
def wsL_deletions_r5 : List Cond := [Cond.instanceMethod yX2_findDelayedOnEdge, Cond.selects RX2 yX2_findDelayedOnEdge yX2_findDelayedOnEdge, Cond.code yX2_findDelayedOnEdge cX2_findDelayedOnEdge 3 (some .int), Cond.methodLink RX2 78 yX2_findInsertionsAndDeletions, Cond.instanceMethod yX2_findInsertionsAndDeletions, Cond.selects RX2 yX2_findInsertionsAndDeletions yX2_findInsertionsAndDeletions, Cond.code yX2_findInsertionsAndDeletions cX2_findInsertionsAndDeletions 2 none, Cond.fieldLink RX2 45 "CodeMover$Sets" "insertedOnEdge" "[I", Cond.fieldLink RX2 36 "CodeMover$Sets" "deletedInBlock" "[I"]
def wsL_deletions : List Cond := .codeWith yL_deletions cL_deletions 4 (some .int) [(0, 9, 12, 25)] :: ((wsL_deletions_r1 ++ (wsL_deletions_r2 ++ (wsL_deletions_r3 ++ (wsL_deletions_r4 ++ wsL_deletions_r5)))) ++ wsX30 ++ wsX20 ++ wsX10 ++ (vx_atS RX3 102 "java/lang/IndexOutOfBoundsException" ["java/lang/RuntimeException", "java/lang/Exception"]).filter goodWord)
def wsL_move_r1 : List Cond := [Cond.classLink RL 15 "java/lang/IllegalStateException", Cond.methodLink RL 79 yX3_move, Cond.instanceMethod yX3_move, Cond.selects RX3 yX3_move yX3_move, Cond.initialized RX3, Cond.code yX3_move cX3_move 2 (some .int), Cond.classLink RX3 43 "java/lang/IllegalStateException", Cond.initialized "java/lang/IllegalStateException", Cond.fieldLink RX3 21 "CodeMover" "sets" "LCodeMover$Sets;", Cond.fieldLink RX3 10 "CodeMover" "program" "LCodeMover$Program;", Cond.fieldLink RX3 52 "CodeMover$Program" "blocks" "I", Cond.fieldLink RX3 79 "CodeMover$Program" "edges" "I", Cond.methodLink RX3 122 yX2_bringUpToDate, Cond.instanceMethod yX2_bringUpToDate, Cond.selects RX2 yX2_bringUpToDate yX2_bringUpToDate, Cond.initialized RX2, Cond.code yX2_bringUpToDate cX2_bringUpToDate 2 none, Cond.fieldLink RX2 48 "CodeMover$Sets" "program" "LCodeMover$Program;", Cond.fieldLink RX2 52 "CodeMover$Program" "changed" "Z", Cond.fieldLink RX2 58 "CodeMover$Program" "blocks" "I", Cond.methodLink RX2 62 yX2_findSetsOfBlock, Cond.instanceMethod yX2_findSetsOfBlock, Cond.selects RX2 yX2_findSetsOfBlock yX2_findSetsOfBlock, Cond.code yX2_findSetsOfBlock cX2_findSetsOfBlock 9 none]
def wsL_move_r2 : List Cond := [Cond.fieldLink RX2 84 "CodeMover$Program" "sizes" "[I", Cond.fieldLink RX2 91 "CodeMover$Program" "dependents" "[I", Cond.fieldLink RX2 9 "CodeMover$Sets" "keptIn" "[I", Cond.fieldLink RX2 15 "CodeMover$Sets" "earlyIn" "[I", Cond.fieldLink RX2 18 "CodeMover$Sets" "lateIn" "[I", Cond.methodLink RX2 87 yX1_codeAt, Cond.instanceMethod yX1_codeAt, Cond.selects RX1 yX1_codeAt yX1_codeAt, Cond.initialized RX1, Cond.code yX1_codeAt cX1_codeAt 3 (some .int), Cond.fieldLink RX1 28 "CodeMover$Program" "codes" "[I", Cond.methodLink RX2 94 yX1_allExpressions, Cond.instanceMethod yX1_allExpressions, Cond.selects RX1 yX1_allExpressions yX1_allExpressions, Cond.code yX1_allExpressions cX1_allExpressions 1 (some .int), Cond.fieldLink RX1 9 "CodeMover$Program" "expressions" "I", Cond.methodLink RX2 66 yX2_findNeeded, Cond.instanceMethod yX2_findNeeded, Cond.selects RX2 yX2_findNeeded yX2_findNeeded, Cond.code yX2_findNeeded cX2_findNeeded 3 none, Cond.fieldLink RX2 98 "CodeMover$Program" "firstExit" "[I", Cond.methodLink RX2 101 yX2_setNeededAtEnd, Cond.instanceMethod yX2_setNeededAtEnd, Cond.selects RX2 yX2_setNeededAtEnd yX2_setNeededAtEnd]
def wsL_move_r3 : List Cond := [Cond.code yX2_setNeededAtEnd cX2_setNeededAtEnd 3 none, Cond.fieldLink RX2 24 "CodeMover$Sets" "neededAtEnd" "[I", Cond.fieldLink RX2 21 "CodeMover$Sets" "neededAtStart" "[I", Cond.methodLink RX2 105 yX2_shrinkNeeded, Cond.instanceMethod yX2_shrinkNeeded, Cond.selects RX2 yX2_shrinkNeeded yX2_shrinkNeeded, Cond.code yX2_shrinkNeeded cX2_shrinkNeeded 5 (some .boolean), Cond.fieldLink RX2 81 "CodeMover$Program" "edges" "I", Cond.fieldLink RX2 109 "CodeMover$Program" "from" "[I", Cond.fieldLink RX2 112 "CodeMover$Program" "to" "[I", Cond.methodLink RX2 69 yX2_findThere, Cond.instanceMethod yX2_findThere, Cond.selects RX2 yX2_findThere yX2_findThere, Cond.code yX2_findThere cX2_findThere 3 none, Cond.fieldLink RX2 27 "CodeMover$Sets" "thereAtStart" "[I", Cond.methodLink RX2 115 yX2_fillWhereEdgesLead, Cond.instanceMethod yX2_fillWhereEdgesLead, Cond.selects RX2 yX2_fillWhereEdgesLead yX2_fillWhereEdgesLead, Cond.code yX2_fillWhereEdgesLead cX2_fillWhereEdgesLead 3 none, Cond.methodLink RX2 119 yX2_setThereAtStart, Cond.instanceMethod yX2_setThereAtStart, Cond.selects RX2 yX2_setThereAtStart yX2_setThereAtStart, Cond.code yX2_setThereAtStart cX2_setThereAtStart 3 none, Cond.fieldLink RX2 30 "CodeMover$Sets" "thereAtEnd" "[I"]
def wsL_move_r4 : List Cond := [Cond.methodLink RX2 122 yX2_shrinkThere, Cond.instanceMethod yX2_shrinkThere, Cond.selects RX2 yX2_shrinkThere yX2_shrinkThere, Cond.code yX2_shrinkThere cX2_shrinkThere 5 (some .boolean), Cond.methodLink RX2 72 yX2_findEarliest, Cond.instanceMethod yX2_findEarliest, Cond.selects RX2 yX2_findEarliest yX2_findEarliest, Cond.code yX2_findEarliest cX2_findEarliest 4 none, Cond.fieldLink RX2 39 "CodeMover$Sets" "earliestOnEdge" "[I", Cond.methodLink RX2 75 yX2_findDelayed, Cond.instanceMethod yX2_findDelayed, Cond.selects RX2 yX2_findDelayed yX2_findDelayed, Cond.code yX2_findDelayed cX2_findDelayed 3 none, Cond.fieldLink RX2 33 "CodeMover$Sets" "delayedAtStart" "[I", Cond.fieldLink RX2 42 "CodeMover$Sets" "delayedOnEdge" "[I", Cond.methodLink RX2 125 yX2_shrinkDelayed, Cond.instanceMethod yX2_shrinkDelayed, Cond.selects RX2 yX2_shrinkDelayed yX2_shrinkDelayed, Cond.code yX2_shrinkDelayed cX2_shrinkDelayed 5 (some .boolean), Cond.methodLink RX2 128 yX2_findDelayedOnEdge, Cond.instanceMethod yX2_findDelayedOnEdge, Cond.selects RX2 yX2_findDelayedOnEdge yX2_findDelayedOnEdge, Cond.code yX2_findDelayedOnEdge cX2_findDelayedOnEdge 3 (some .int), Cond.methodLink RX2 78 yX2_findInsertionsAndDeletions]
def wsL_move_r5 : List Cond := [Cond.instanceMethod yX2_findInsertionsAndDeletions, Cond.selects RX2 yX2_findInsertionsAndDeletions yX2_findInsertionsAndDeletions, Cond.code yX2_findInsertionsAndDeletions cX2_findInsertionsAndDeletions 2 none, Cond.fieldLink RX2 45 "CodeMover$Sets" "insertedOnEdge" "[I", Cond.fieldLink RX2 36 "CodeMover$Sets" "deletedInBlock" "[I", Cond.methodLink RX3 161 yX2_countEdgesWithInsertions, Cond.instanceMethod yX2_countEdgesWithInsertions, Cond.selects RX2 yX2_countEdgesWithInsertions yX2_countEdgesWithInsertions, Cond.code yX2_countEdgesWithInsertions cX2_countEdgesWithInsertions 3 (some .int), Cond.methodLink RX3 166 yX3_deleteComputations, Cond.instanceMethod yX3_deleteComputations, Cond.selects RX3 yX3_deleteComputations yX3_deleteComputations, Cond.code yX3_deleteComputations cX3_deleteComputations 2 none, Cond.fieldLink RX3 158 "CodeMover$Sets" "deletedInBlock" "[I", Cond.methodLink RX3 206 yX1_turnFirstComputesToUses, Cond.instanceMethod yX1_turnFirstComputesToUses, Cond.selects RX1 yX1_turnFirstComputesToUses yX1_turnFirstComputesToUses, Cond.code yX1_turnFirstComputesToUses cX1_turnFirstComputesToUses 7 none, Cond.fieldLink RX1 25 "CodeMover$Program" "sizes" "[I", Cond.fieldLink RX1 46 "CodeMover$Program" "changed" "Z", Cond.methodLink RX1 50 yX1_codeAt, Cond.methodLink RX3 169 yX3_insertComputations, Cond.instanceMethod yX3_insertComputations, Cond.selects RX3 yX3_insertComputations yX3_insertComputations]
def wsL_move_r6 : List Cond := [Cond.code yX3_insertComputations cX3_insertComputations 3 none, Cond.fieldLink RX3 155 "CodeMover$Sets" "insertedOnEdge" "[I", Cond.methodLink RX3 210 yX1_splitEdge, Cond.instanceMethod yX1_splitEdge, Cond.selects RX1 yX1_splitEdge yX1_splitEdge, Cond.code yX1_splitEdge cX1_splitEdge 5 none, Cond.fieldLink RX1 37 "CodeMover$Program" "to" "[I", Cond.methodLink RX1 54 yX1_newBlock, Cond.instanceMethod yX1_newBlock, Cond.selects RX1 yX1_newBlock yX1_newBlock, Cond.code yX1_newBlock cX1_newBlock 2 (some .int), Cond.fieldLink RX1 22 "CodeMover$Program" "blocks" "I", Cond.methodLink RX1 58 yX1_append, Cond.instanceMethod yX1_append, Cond.selects RX1 yX1_append yX1_append, Cond.code yX1_append cX1_append 4 (some .int), Cond.methodLink RX1 62 yX1_newEdge, Cond.instanceMethod yX1_newEdge, Cond.selects RX1 yX1_newEdge yX1_newEdge, Cond.code yX1_newEdge cX1_newEdge 4 (some .int), Cond.fieldLink RX1 31 "CodeMover$Program" "edges" "I", Cond.fieldLink RX1 34 "CodeMover$Program" "from" "[I", Cond.fieldLink RX1 40 "CodeMover$Program" "firstExit" "[I", Cond.fieldLink RX1 43 "CodeMover$Program" "secondExit" "[I"]
def wsL_move : List Cond := .codeWith yL_move cL_move 3 (some .int) [(0, 8, 11, 15)] :: ((wsL_move_r1 ++ (wsL_move_r2 ++ (wsL_move_r3 ++ (wsL_move_r4 ++ (wsL_move_r5 ++ wsL_move_r6))))) ++ wsX30 ++ wsX10 ++ wsX20 ++ (vx_atS RX3 47 "java/lang/IllegalStateException" ["java/lang/RuntimeException", "java/lang/Exception"]).filter goodWord)
def wsL_walk_r1 : List Cond := [Cond.classLink RL 13 "java/lang/IllegalArgumentException", Cond.methodLink RL 82 yX3_walk, Cond.instanceMethod yX3_walk, Cond.selects RX3 yX3_walk yX3_walk, Cond.initialized RX3, Cond.code yX3_walk cX3_walk 4 (some .int), Cond.classLink RX3 32 "java/lang/IllegalArgumentException", Cond.initialized "java/lang/IllegalArgumentException", Cond.fieldLink RX3 28 "CodeMover" "latest" "LCodeMover$Journey;", Cond.methodLink RX3 174 yX0_goThrough, Cond.instanceMethod yX0_goThrough, Cond.selects RX0 yX0_goThrough yX0_goThrough, Cond.initialized RX0, Cond.code yX0_goThrough cX0_goThrough 6 (some .int), Cond.fieldLink RX0 22 "CodeMover$Journey" "endBlock" "I", Cond.fieldLink RX0 25 "CodeMover$Journey" "held" "I", Cond.methodLink RX0 41 yX0_begin, Cond.instanceMethod yX0_begin, Cond.selects RX0 yX0_begin yX0_begin, Cond.code yX0_begin cX0_begin 2 none, Cond.fieldLink RX0 9 "CodeMover$Journey" "timesComputed" "[I", Cond.fieldLink RX0 15 "CodeMover$Journey" "timesHeld" "[I", Cond.fieldLink RX0 18 "CodeMover$Journey" "missCount" "I", Cond.fieldLink RX0 31 "CodeMover$Journey" "instructionsGone" "I"]
def wsL_walk_r2 : List Cond := [Cond.fieldLink RX0 34 "CodeMover$Journey" "choicesTaken" "I", Cond.methodLink RX0 44 yX0_goThroughBlock, Cond.instanceMethod yX0_goThroughBlock, Cond.selects RX0 yX0_goThroughBlock yX0_goThroughBlock, Cond.code yX0_goThroughBlock cX0_goThroughBlock 6 none, Cond.fieldLink RX0 37 "CodeMover$Journey" "program" "LCodeMover$Program;", Cond.fieldLink RX0 55 "CodeMover$Program" "sizes" "[I", Cond.fieldLink RX0 67 "CodeMover$Program" "dependents" "[I", Cond.methodLink RX0 60 yX1_codeAt, Cond.instanceMethod yX1_codeAt, Cond.selects RX1 yX1_codeAt yX1_codeAt, Cond.initialized RX1, Cond.code yX1_codeAt cX1_codeAt 3 (some .int), Cond.fieldLink RX1 28 "CodeMover$Program" "codes" "[I", Cond.methodLink RX0 64 yX0_hold, Cond.instanceMethod yX0_hold, Cond.selects RX0 yX0_hold yX0_hold, Cond.code yX0_hold cX0_hold 2 none, Cond.fieldLink RX0 28 "CodeMover$Journey" "heldSince" "[I", Cond.methodLink RX0 52 yX0_letGo, Cond.instanceMethod yX0_letGo, Cond.selects RX0 yX0_letGo yX0_letGo, Cond.code yX0_letGo cX0_letGo 3 none, Cond.fieldLink RX0 70 "CodeMover$Program" "expressions" "I"]
def wsL_walk_r3 : List Cond := [Cond.methodLink RX0 48 yX0_blockBehind, Cond.instanceMethod yX0_blockBehind, Cond.selects RX0 yX0_blockBehind yX0_blockBehind, Cond.code yX0_blockBehind cX0_blockBehind 5 (some .int), Cond.fieldLink RX0 73 "CodeMover$Program" "firstExit" "[I", Cond.fieldLink RX0 76 "CodeMover$Program" "secondExit" "[I", Cond.fieldLink RX0 79 "CodeMover$Program" "to" "[I"]
def wsL_walk : List Cond := .codeWith yL_walk cL_walk 6 (some .int) [(0, 11, 14, 13)] :: ((wsL_walk_r1 ++ (wsL_walk_r2 ++ wsL_walk_r3)) ++ wsX30 ++ wsX00 ++ wsX10 ++ (vx_atS RX3 36 "java/lang/IllegalArgumentException" ["java/lang/RuntimeException", "java/lang/Exception"]).filter goodWord)
def wsL_computed : List Cond := .codeWith yL_computed cL_computed 4 (some .int) [(0, 9, 12, 25)] :: ([.classLink RL 25 "java/lang/IndexOutOfBoundsException", .methodLink RL 86 yX3_computed, .instanceMethod yX3_computed, .selects RX3 yX3_computed yX3_computed, .initialized RX3, .code yX3_computed cX3_computed 2 (some .int), .fieldLink RX3 28 "CodeMover" "latest" "LCodeMover$Journey;", .fieldLink RX3 178 "CodeMover$Journey" "timesComputed" "[I", .methodLink RX3 88 yX3_requireExpression, .instanceMethod yX3_requireExpression, .selects RX3 yX3_requireExpression yX3_requireExpression, .code yX3_requireExpression cX3_requireExpression 2 none, .classLink RX3 98 "java/lang/IndexOutOfBoundsException", .initialized "java/lang/IndexOutOfBoundsException", .fieldLink RX3 10 "CodeMover" "program" "LCodeMover$Program;", .fieldLink RX3 39 "CodeMover$Program" "expressions" "I"] ++ wsX30 ++ wsX00 ++ wsX10 ++ (vx_atS RX3 102 "java/lang/IndexOutOfBoundsException" ["java/lang/RuntimeException", "java/lang/Exception"]).filter goodWord)
def wsL_heldFor : List Cond := .codeWith yL_heldFor cL_heldFor 4 (some .int) [(0, 9, 12, 25)] :: ([.classLink RL 25 "java/lang/IndexOutOfBoundsException", .methodLink RL 89 yX3_heldFor, .instanceMethod yX3_heldFor, .selects RX3 yX3_heldFor yX3_heldFor, .initialized RX3, .code yX3_heldFor cX3_heldFor 2 (some .int), .fieldLink RX3 28 "CodeMover" "latest" "LCodeMover$Journey;", .fieldLink RX3 187 "CodeMover$Journey" "timesHeld" "[I", .methodLink RX3 88 yX3_requireExpression, .instanceMethod yX3_requireExpression, .selects RX3 yX3_requireExpression yX3_requireExpression, .code yX3_requireExpression cX3_requireExpression 2 none, .classLink RX3 98 "java/lang/IndexOutOfBoundsException", .initialized "java/lang/IndexOutOfBoundsException", .fieldLink RX3 10 "CodeMover" "program" "LCodeMover$Program;", .fieldLink RX3 39 "CodeMover$Program" "expressions" "I"] ++ wsX30 ++ wsX00 ++ wsX10 ++ (vx_atS RX3 102 "java/lang/IndexOutOfBoundsException" ["java/lang/RuntimeException", "java/lang/Exception"]).filter goodWord)
def wsL_law0_r1 : List Cond := [Cond.classLink RL 8 RX3, Cond.instantiable RX3 3, Cond.initialized RX3, Cond.classLink RL 93 RX4, Cond.instantiable RX4 18, Cond.initialized RX4, Cond.arrayClass .long, Cond.constantLong RL 176 (4294967295), Cond.methodLink RL 92 yX3_init, Cond.instanceMethod yX3_init, Cond.code yX3_init cX3_init 1 none, Cond.methodLink RX3 1 objectInit, Cond.instanceMethod objectInit, Cond.code objectInit ⟨#[0xb1]⟩ 1 none, Cond.classLink RX3 7 RX1, Cond.instantiable RX1 12, Cond.initialized RX1, Cond.fieldLink RX3 10 "CodeMover" "program" "LCodeMover$Program;", Cond.classLink RX3 16 RX2, Cond.instantiable RX2 13, Cond.initialized RX2, Cond.fieldLink RX3 21 "CodeMover" "sets" "LCodeMover$Sets;", Cond.classLink RX3 25 RX0, Cond.instantiable RX0 9]
def wsL_law0_r2 : List Cond := [Cond.initialized RX0, Cond.fieldLink RX3 28 "CodeMover" "latest" "LCodeMover$Journey;", Cond.methodLink RX3 9 yX1_init, Cond.instanceMethod yX1_init, Cond.code yX1_init cX1_init 2 none, Cond.methodLink RX1 3 objectInit, Cond.fieldLink RX1 9 "CodeMover$Program" "expressions" "I", Cond.arrayClass .int, Cond.fieldLink RX1 15 "CodeMover$Program" "variablesOf" "[I", Cond.fieldLink RX1 19 "CodeMover$Program" "dependents" "[I", Cond.fieldLink RX1 22 "CodeMover$Program" "blocks" "I", Cond.fieldLink RX1 25 "CodeMover$Program" "sizes" "[I", Cond.fieldLink RX1 28 "CodeMover$Program" "codes" "[I", Cond.fieldLink RX1 31 "CodeMover$Program" "edges" "I", Cond.fieldLink RX1 34 "CodeMover$Program" "from" "[I", Cond.fieldLink RX1 37 "CodeMover$Program" "to" "[I", Cond.fieldLink RX1 40 "CodeMover$Program" "firstExit" "[I", Cond.fieldLink RX1 43 "CodeMover$Program" "secondExit" "[I", Cond.fieldLink RX1 46 "CodeMover$Program" "changed" "Z", Cond.methodLink RX3 18 yX2_init, Cond.instanceMethod yX2_init, Cond.code yX2_init cX2_init 2 none, Cond.methodLink RX2 3 objectInit, Cond.fieldLink RX2 9 "CodeMover$Sets" "keptIn" "[I"]
def wsL_law0_r3 : List Cond := [Cond.fieldLink RX2 15 "CodeMover$Sets" "earlyIn" "[I", Cond.fieldLink RX2 18 "CodeMover$Sets" "lateIn" "[I", Cond.fieldLink RX2 21 "CodeMover$Sets" "neededAtStart" "[I", Cond.fieldLink RX2 24 "CodeMover$Sets" "neededAtEnd" "[I", Cond.fieldLink RX2 27 "CodeMover$Sets" "thereAtStart" "[I", Cond.fieldLink RX2 30 "CodeMover$Sets" "thereAtEnd" "[I", Cond.fieldLink RX2 33 "CodeMover$Sets" "delayedAtStart" "[I", Cond.fieldLink RX2 36 "CodeMover$Sets" "deletedInBlock" "[I", Cond.fieldLink RX2 39 "CodeMover$Sets" "earliestOnEdge" "[I", Cond.fieldLink RX2 42 "CodeMover$Sets" "delayedOnEdge" "[I", Cond.fieldLink RX2 45 "CodeMover$Sets" "insertedOnEdge" "[I", Cond.fieldLink RX2 48 "CodeMover$Sets" "program" "LCodeMover$Program;", Cond.methodLink RX3 27 yX0_init, Cond.instanceMethod yX0_init, Cond.code yX0_init cX0_init 2 none, Cond.methodLink RX0 3 objectInit, Cond.fieldLink RX0 9 "CodeMover$Journey" "timesComputed" "[I", Cond.fieldLink RX0 15 "CodeMover$Journey" "timesHeld" "[I", Cond.fieldLink RX0 18 "CodeMover$Journey" "missCount" "I", Cond.fieldLink RX0 22 "CodeMover$Journey" "endBlock" "I", Cond.fieldLink RX0 25 "CodeMover$Journey" "held" "I", Cond.fieldLink RX0 28 "CodeMover$Journey" "heldSince" "[I", Cond.fieldLink RX0 31 "CodeMover$Journey" "instructionsGone" "I", Cond.fieldLink RX0 34 "CodeMover$Journey" "choicesTaken" "I"]
def wsL_law0_r4 : List Cond := [Cond.fieldLink RX0 37 "CodeMover$Journey" "program" "LCodeMover$Program;", Cond.methodLink RL 95 yX4_init, Cond.instanceMethod yX4_init, Cond.code yX4_init cX4_init 1 none, Cond.methodLink RX4 1 objectInit, Cond.fieldLink RX4 9 "CodeMoverModel" "variables" "[I", Cond.fieldLink RX4 13 "CodeMoverModel" "blocks" "I", Cond.fieldLink RX4 17 "CodeMoverModel" "sizes" "[I", Cond.fieldLink RX4 20 "CodeMoverModel" "code" "[I", Cond.fieldLink RX4 23 "CodeMoverModel" "froms" "[I", Cond.fieldLink RX4 26 "CodeMoverModel" "tos" "[I", Cond.fieldLink RX4 29 "CodeMoverModel" "neededAt" "[I", Cond.fieldLink RX4 32 "CodeMoverModel" "neededBehind" "[I", Cond.fieldLink RX4 35 "CodeMoverModel" "thereAt" "[I", Cond.fieldLink RX4 38 "CodeMoverModel" "thereBehind" "[I", Cond.fieldLink RX4 41 "CodeMoverModel" "delayed" "[I", Cond.fieldLink RX4 44 "CodeMoverModel" "computed" "[I", Cond.fieldLink RX4 47 "CodeMoverModel" "held" "[I", Cond.fieldLink RX4 50 "CodeMoverModel" "last" "I", Cond.methodLink RL 96 yL_addExpression, Cond.static yL_addExpression, Cond.initialized RL, Cond.codeWith yL_addExpression cL_addExpression 4 (some .int) [(0, 9, 12, 13), (0, 9, 15, 15)], Cond.classLink RL 13 "java/lang/IllegalArgumentException"]
def wsL_law0_r5 : List Cond := [Cond.classLink RL 15 "java/lang/IllegalStateException", Cond.methodLink RL 7 yX3_addExpression, Cond.instanceMethod yX3_addExpression, Cond.selects RX3 yX3_addExpression yX3_addExpression, Cond.code yX3_addExpression cX3_addExpression 2 (some .int), Cond.classLink RX3 32 "java/lang/IllegalArgumentException", Cond.initialized "java/lang/IllegalArgumentException", Cond.classLink RX3 43 "java/lang/IllegalStateException", Cond.initialized "java/lang/IllegalStateException", Cond.fieldLink RX3 39 "CodeMover$Program" "expressions" "I", Cond.methodLink RX3 48 yX1_newExpression, Cond.instanceMethod yX1_newExpression, Cond.selects RX1 yX1_newExpression yX1_newExpression, Cond.code yX1_newExpression cX1_newExpression 4 (some .int), Cond.methodLink RL 101 yX4_addExpression, Cond.instanceMethod yX4_addExpression, Cond.selects RX4 yX4_addExpression yX4_addExpression, Cond.code yX4_addExpression cX4_addExpression 2 (some .int), Cond.fieldLink RX4 53 "CodeMoverModel" "thrown" "I", Cond.fieldLink RX4 59 "CodeMoverModel" "expressions" "I", Cond.methodLink RX4 62 yX4_no, Cond.instanceMethod yX4_no, Cond.selects RX4 yX4_no yX4_no, Cond.code yX4_no cX4_no 2 (some .int)]
def wsL_law0_r6 : List Cond := [Cond.methodLink RL 102 yX4_thrown, Cond.instanceMethod yX4_thrown, Cond.selects RX4 yX4_thrown yX4_thrown, Cond.code yX4_thrown cX4_thrown 1 (some .int), Cond.methodLink RL 105 yL_addBlock, Cond.static yL_addBlock, Cond.codeWith yL_addBlock cL_addBlock 3 (some .int) [(0, 8, 11, 15)], Cond.methodLink RL 17 yX3_addBlock, Cond.instanceMethod yX3_addBlock, Cond.selects RX3 yX3_addBlock yX3_addBlock, Cond.code yX3_addBlock cX3_addBlock 1 (some .int), Cond.fieldLink RX3 52 "CodeMover$Program" "blocks" "I", Cond.methodLink RX3 57 yX1_newBlock, Cond.instanceMethod yX1_newBlock, Cond.selects RX1 yX1_newBlock yX1_newBlock, Cond.code yX1_newBlock cX1_newBlock 2 (some .int), Cond.methodLink RL 108 yX4_addBlock, Cond.instanceMethod yX4_addBlock, Cond.selects RX4 yX4_addBlock yX4_addBlock, Cond.code yX4_addBlock cX4_addBlock 1 (some .int), Cond.methodLink RL 109 yL_addEdge, Cond.static yL_addEdge, Cond.codeWith yL_addEdge cL_addEdge 5 (some .int) [(0, 10, 13, 25), (0, 10, 17, 13), (0, 10, 21, 15)], Cond.classLink RL 25 "java/lang/IndexOutOfBoundsException"]
def wsL_law0_r7 : List Cond := [Cond.methodLink RL 21 yX3_addEdge, Cond.instanceMethod yX3_addEdge, Cond.selects RX3 yX3_addEdge yX3_addEdge, Cond.code yX3_addEdge cX3_addEdge 3 (some .int), Cond.fieldLink RX3 73 "CodeMover$Program" "secondExit" "[I", Cond.fieldLink RX3 79 "CodeMover$Program" "edges" "I", Cond.methodLink RX3 61 yX3_requireBlock, Cond.instanceMethod yX3_requireBlock, Cond.selects RX3 yX3_requireBlock yX3_requireBlock, Cond.code yX3_requireBlock cX3_requireBlock 2 none, Cond.classLink RX3 98 "java/lang/IndexOutOfBoundsException", Cond.initialized "java/lang/IndexOutOfBoundsException", Cond.methodLink RX3 67 yX1_hasEdge, Cond.instanceMethod yX1_hasEdge, Cond.selects RX1 yX1_hasEdge yX1_hasEdge, Cond.code yX1_hasEdge cX1_hasEdge 5 (some .boolean), Cond.methodLink RX3 84 yX1_newEdge, Cond.instanceMethod yX1_newEdge, Cond.selects RX1 yX1_newEdge yX1_newEdge, Cond.code yX1_newEdge cX1_newEdge 4 (some .int), Cond.methodLink RL 112 yX4_addEdge, Cond.instanceMethod yX4_addEdge, Cond.selects RX4 yX4_addEdge yX4_addEdge, Cond.code yX4_addEdge cX4_addEdge 5 (some .int)]
def wsL_law0_r8 : List Cond := [Cond.fieldLink RX4 56 "CodeMoverModel" "edges" "I", Cond.methodLink RX4 66 yX4_isBlock, Cond.instanceMethod yX4_isBlock, Cond.selects RX4 yX4_isBlock yX4_isBlock, Cond.code yX4_isBlock cX4_isBlock 2 (some .boolean), Cond.methodLink RX4 70 yX4_exits, Cond.instanceMethod yX4_exits, Cond.selects RX4 yX4_exits yX4_exits, Cond.code yX4_exits cX4_exits 4 (some .int), Cond.methodLink RL 113 yL_compute, Cond.static yL_compute, Cond.codeWith yL_compute cL_compute 5 (some .int) [(0, 10, 13, 25), (0, 10, 17, 15)], Cond.methodLink RL 27 yX3_compute, Cond.instanceMethod yX3_compute, Cond.selects RX3 yX3_compute yX3_compute, Cond.code yX3_compute cX3_compute 3 (some .int), Cond.methodLink RX3 88 yX3_requireExpression, Cond.instanceMethod yX3_requireExpression, Cond.selects RX3 yX3_requireExpression yX3_requireExpression, Cond.code yX3_requireExpression cX3_requireExpression 2 none, Cond.methodLink RX3 91 yX3_requireRoom, Cond.instanceMethod yX3_requireRoom, Cond.selects RX3 yX3_requireRoom yX3_requireRoom, Cond.code yX3_requireRoom cX3_requireRoom 2 none]
def wsL_law0_r9 : List Cond := [Cond.fieldLink RX3 103 "CodeMover$Program" "sizes" "[I", Cond.methodLink RX3 94 yX1_append, Cond.instanceMethod yX1_append, Cond.selects RX1 yX1_append yX1_append, Cond.code yX1_append cX1_append 4 (some .int), Cond.methodLink RL 115 yX4_compute, Cond.instanceMethod yX4_compute, Cond.selects RX4 yX4_compute yX4_compute, Cond.code yX4_compute cX4_compute 3 (some .int), Cond.methodLink RX4 73 yX4_isExpression, Cond.instanceMethod yX4_isExpression, Cond.selects RX4 yX4_isExpression yX4_isExpression, Cond.code yX4_isExpression cX4_isExpression 2 (some .boolean), Cond.methodLink RX4 76 yX4_append, Cond.instanceMethod yX4_append, Cond.selects RX4 yX4_append yX4_append, Cond.code yX4_append cX4_append 3 (some .int), Cond.methodLink RL 116 yL_use, Cond.static yL_use, Cond.codeWith yL_use cL_use 5 (some .int) [(0, 10, 13, 25), (0, 10, 17, 15)], Cond.methodLink RL 30 yX3_use, Cond.instanceMethod yX3_use, Cond.selects RX3 yX3_use yX3_use, Cond.code yX3_use cX3_use 3 (some .int)]
def wsL_law0_r10 : List Cond := [Cond.methodLink RL 118 yX4_use, Cond.instanceMethod yX4_use, Cond.selects RX4 yX4_use yX4_use, Cond.code yX4_use cX4_use 3 (some .int), Cond.methodLink RL 119 yL_assign, Cond.static yL_assign, Cond.codeWith yL_assign cL_assign 5 (some .int) [(0, 10, 13, 25), (0, 10, 17, 15)], Cond.methodLink RL 33 yX3_assign, Cond.instanceMethod yX3_assign, Cond.selects RX3 yX3_assign yX3_assign, Cond.code yX3_assign cX3_assign 3 (some .int), Cond.methodLink RL 121 yX4_assign, Cond.instanceMethod yX4_assign, Cond.selects RX4 yX4_assign yX4_assign, Cond.code yX4_assign cX4_assign 3 (some .int), Cond.methodLink RL 122 yL_drop, Cond.static yL_drop, Cond.codeWith yL_drop cL_drop 4 (some .int) [(0, 9, 12, 25), (0, 9, 15, 15)], Cond.methodLink RL 36 yX3_drop, Cond.instanceMethod yX3_drop, Cond.selects RX3 yX3_drop yX3_drop, Cond.code yX3_drop cX3_drop 2 (some .int), Cond.methodLink RX3 108 yX1_removeLast, Cond.instanceMethod yX1_removeLast]
def wsL_law0_r11 : List Cond := [Cond.selects RX1 yX1_removeLast yX1_removeLast, Cond.code yX1_removeLast cX1_removeLast 2 (some .int), Cond.methodLink RL 124 yX4_drop, Cond.instanceMethod yX4_drop, Cond.selects RX4 yX4_drop yX4_drop, Cond.code yX4_drop cX4_drop 2 (some .int), Cond.methodLink RL 125 yX3_blockCount, Cond.instanceMethod yX3_blockCount, Cond.selects RX3 yX3_blockCount yX3_blockCount, Cond.code yX3_blockCount cX3_blockCount 1 (some .int), Cond.methodLink RL 128 yX4_blockCount, Cond.instanceMethod yX4_blockCount, Cond.selects RX4 yX4_blockCount yX4_blockCount, Cond.code yX4_blockCount cX4_blockCount 1 (some .int), Cond.methodLink RL 129 yX3_edgeCount, Cond.instanceMethod yX3_edgeCount, Cond.selects RX3 yX3_edgeCount yX3_edgeCount, Cond.code yX3_edgeCount cX3_edgeCount 1 (some .int), Cond.methodLink RL 132 yX4_edgeCount, Cond.instanceMethod yX4_edgeCount, Cond.selects RX4 yX4_edgeCount yX4_edgeCount, Cond.code yX4_edgeCount cX4_edgeCount 1 (some .int), Cond.methodLink RL 133 yL_size, Cond.static yL_size]
def wsL_law0_r12 : List Cond := [Cond.codeWith yL_size cL_size 4 (some .int) [(0, 9, 12, 25)], Cond.methodLink RL 39 yX3_size, Cond.instanceMethod yX3_size, Cond.selects RX3 yX3_size yX3_size, Cond.code yX3_size cX3_size 2 (some .int), Cond.methodLink RL 135 yX4_size, Cond.instanceMethod yX4_size, Cond.selects RX4 yX4_size yX4_size, Cond.code yX4_size cX4_size 2 (some .int), Cond.methodLink RL 136 yL_instruction, Cond.static yL_instruction, Cond.codeWith yL_instruction cL_instruction 5 (some .int) [(0, 10, 13, 25)], Cond.methodLink RL 42 yX3_instruction, Cond.instanceMethod yX3_instruction, Cond.selects RX3 yX3_instruction yX3_instruction, Cond.code yX3_instruction cX3_instruction 3 (some .int), Cond.methodLink RX3 113 yX1_codeAt, Cond.instanceMethod yX1_codeAt, Cond.selects RX1 yX1_codeAt yX1_codeAt, Cond.code yX1_codeAt cX1_codeAt 3 (some .int), Cond.methodLink RL 138 yX4_instruction, Cond.instanceMethod yX4_instruction, Cond.selects RX4 yX4_instruction yX4_instruction, Cond.code yX4_instruction cX4_instruction 3 (some .int)]
def wsL_law0_r13 : List Cond := [Cond.methodLink RX4 80 yX4_at, Cond.instanceMethod yX4_at, Cond.selects RX4 yX4_at yX4_at, Cond.code yX4_at cX4_at 3 (some .int), Cond.methodLink RL 139 yL_ends, Cond.static yL_ends, Cond.codeWith yL_ends cL_ends 4 (some .int) [(0, 9, 12, 25)], Cond.methodLink RL 45 yX3_ends, Cond.instanceMethod yX3_ends, Cond.selects RX3 yX3_ends yX3_ends, Cond.code yX3_ends cX3_ends 2 (some .int), Cond.methodLink RX3 116 yX3_requireEdge, Cond.instanceMethod yX3_requireEdge, Cond.selects RX3 yX3_requireEdge yX3_requireEdge, Cond.code yX3_requireEdge cX3_requireEdge 2 none, Cond.methodLink RX3 119 yX1_endsOf, Cond.instanceMethod yX1_endsOf, Cond.selects RX1 yX1_endsOf yX1_endsOf, Cond.code yX1_endsOf cX1_endsOf 2 (some .int), Cond.methodLink RL 141 yX4_ends, Cond.instanceMethod yX4_ends, Cond.selects RX4 yX4_ends yX4_ends, Cond.code yX4_ends cX4_ends 2 (some .int), Cond.methodLink RX4 83 yX4_isEdge]
def wsL_law0_r14 : List Cond := [Cond.instanceMethod yX4_isEdge, Cond.selects RX4 yX4_isEdge yX4_isEdge, Cond.code yX4_isEdge cX4_isEdge 2 (some .boolean), Cond.methodLink RL 142 yL_kept, Cond.static yL_kept, Cond.codeWith yL_kept cL_kept 4 (some .int) [(0, 9, 12, 25)], Cond.methodLink RL 48 yX3_kept, Cond.instanceMethod yX3_kept, Cond.selects RX3 yX3_kept yX3_kept, Cond.code yX3_kept cX3_kept 2 (some .int), Cond.fieldLink RX3 125 "CodeMover$Sets" "keptIn" "[I", Cond.methodLink RX3 122 yX2_bringUpToDate, Cond.instanceMethod yX2_bringUpToDate, Cond.selects RX2 yX2_bringUpToDate yX2_bringUpToDate, Cond.code yX2_bringUpToDate cX2_bringUpToDate 2 none, Cond.fieldLink RX2 52 "CodeMover$Program" "changed" "Z", Cond.fieldLink RX2 58 "CodeMover$Program" "blocks" "I", Cond.methodLink RX2 62 yX2_findSetsOfBlock, Cond.instanceMethod yX2_findSetsOfBlock, Cond.selects RX2 yX2_findSetsOfBlock yX2_findSetsOfBlock, Cond.code yX2_findSetsOfBlock cX2_findSetsOfBlock 9 none, Cond.fieldLink RX2 84 "CodeMover$Program" "sizes" "[I", Cond.fieldLink RX2 91 "CodeMover$Program" "dependents" "[I", Cond.methodLink RX2 87 yX1_codeAt]
def wsL_law0_r15 : List Cond := [Cond.methodLink RX2 94 yX1_allExpressions, Cond.instanceMethod yX1_allExpressions, Cond.selects RX1 yX1_allExpressions yX1_allExpressions, Cond.code yX1_allExpressions cX1_allExpressions 1 (some .int), Cond.methodLink RX2 66 yX2_findNeeded, Cond.instanceMethod yX2_findNeeded, Cond.selects RX2 yX2_findNeeded yX2_findNeeded, Cond.code yX2_findNeeded cX2_findNeeded 3 none, Cond.fieldLink RX2 98 "CodeMover$Program" "firstExit" "[I", Cond.methodLink RX2 101 yX2_setNeededAtEnd, Cond.instanceMethod yX2_setNeededAtEnd, Cond.selects RX2 yX2_setNeededAtEnd yX2_setNeededAtEnd, Cond.code yX2_setNeededAtEnd cX2_setNeededAtEnd 3 none, Cond.methodLink RX2 105 yX2_shrinkNeeded, Cond.instanceMethod yX2_shrinkNeeded, Cond.selects RX2 yX2_shrinkNeeded yX2_shrinkNeeded, Cond.code yX2_shrinkNeeded cX2_shrinkNeeded 5 (some .boolean), Cond.fieldLink RX2 81 "CodeMover$Program" "edges" "I", Cond.fieldLink RX2 109 "CodeMover$Program" "from" "[I", Cond.fieldLink RX2 112 "CodeMover$Program" "to" "[I", Cond.methodLink RX2 69 yX2_findThere, Cond.instanceMethod yX2_findThere, Cond.selects RX2 yX2_findThere yX2_findThere, Cond.code yX2_findThere cX2_findThere 3 none]
def wsL_law0_r16 : List Cond := [Cond.methodLink RX2 115 yX2_fillWhereEdgesLead, Cond.instanceMethod yX2_fillWhereEdgesLead, Cond.selects RX2 yX2_fillWhereEdgesLead yX2_fillWhereEdgesLead, Cond.code yX2_fillWhereEdgesLead cX2_fillWhereEdgesLead 3 none, Cond.methodLink RX2 119 yX2_setThereAtStart, Cond.instanceMethod yX2_setThereAtStart, Cond.selects RX2 yX2_setThereAtStart yX2_setThereAtStart, Cond.code yX2_setThereAtStart cX2_setThereAtStart 3 none, Cond.methodLink RX2 122 yX2_shrinkThere, Cond.instanceMethod yX2_shrinkThere, Cond.selects RX2 yX2_shrinkThere yX2_shrinkThere, Cond.code yX2_shrinkThere cX2_shrinkThere 5 (some .boolean), Cond.methodLink RX2 72 yX2_findEarliest, Cond.instanceMethod yX2_findEarliest, Cond.selects RX2 yX2_findEarliest yX2_findEarliest, Cond.code yX2_findEarliest cX2_findEarliest 4 none, Cond.methodLink RX2 75 yX2_findDelayed, Cond.instanceMethod yX2_findDelayed, Cond.selects RX2 yX2_findDelayed yX2_findDelayed, Cond.code yX2_findDelayed cX2_findDelayed 3 none, Cond.methodLink RX2 125 yX2_shrinkDelayed, Cond.instanceMethod yX2_shrinkDelayed, Cond.selects RX2 yX2_shrinkDelayed yX2_shrinkDelayed, Cond.code yX2_shrinkDelayed cX2_shrinkDelayed 5 (some .boolean)]
def wsL_law0_r17 : List Cond := [Cond.methodLink RX2 128 yX2_findDelayedOnEdge, Cond.instanceMethod yX2_findDelayedOnEdge, Cond.selects RX2 yX2_findDelayedOnEdge yX2_findDelayedOnEdge, Cond.code yX2_findDelayedOnEdge cX2_findDelayedOnEdge 3 (some .int), Cond.methodLink RX2 78 yX2_findInsertionsAndDeletions, Cond.instanceMethod yX2_findInsertionsAndDeletions, Cond.selects RX2 yX2_findInsertionsAndDeletions yX2_findInsertionsAndDeletions, Cond.code yX2_findInsertionsAndDeletions cX2_findInsertionsAndDeletions 2 none, Cond.methodLink RL 144 yX4_kept, Cond.instanceMethod yX4_kept, Cond.selects RX4 yX4_kept yX4_kept, Cond.code yX4_kept cX4_kept 2 (some .int), Cond.methodLink RX4 117 yX4_asks, Cond.instanceMethod yX4_asks, Cond.selects RX4 yX4_asks yX4_asks, Cond.code yX4_asks cX4_asks 2 (some .boolean), Cond.methodLink RX4 114 yX4_find, Cond.instanceMethod yX4_find, Cond.selects RX4 yX4_find yX4_find, Cond.code yX4_find cX4_find 6 none, Cond.methodLink RX4 86 yX4_all, Cond.instanceMethod yX4_all, Cond.selects RX4 yX4_all yX4_all, Cond.code yX4_all cX4_all 1 (some .int)]
def wsL_law0_r18 : List Cond := [Cond.methodLink RX4 93 yX4_findNeeded, Cond.instanceMethod yX4_findNeeded, Cond.selects RX4 yX4_findNeeded yX4_findNeeded, Cond.code yX4_findNeeded cX4_findNeeded 4 (some .boolean), Cond.methodLink RX4 102 yX4_earlyIn, Cond.instanceMethod yX4_earlyIn, Cond.selects RX4 yX4_earlyIn yX4_earlyIn, Cond.code yX4_earlyIn cX4_earlyIn 6 (some .int), Cond.methodLink RX4 90 yX4_dependent, Cond.instanceMethod yX4_dependent, Cond.selects RX4 yX4_dependent yX4_dependent, Cond.code yX4_dependent cX4_dependent 4 (some .int), Cond.methodLink RX4 105 yX4_keptBy, Cond.instanceMethod yX4_keptBy, Cond.selects RX4 yX4_keptBy yX4_keptBy, Cond.code yX4_keptBy cX4_keptBy 4 (some .int), Cond.methodLink RX4 96 yX4_findThere, Cond.instanceMethod yX4_findThere, Cond.selects RX4 yX4_findThere yX4_findThere, Cond.code yX4_findThere cX4_findThere 5 (some .boolean), Cond.methodLink RX4 108 yX4_lateIn, Cond.instanceMethod yX4_lateIn, Cond.selects RX4 yX4_lateIn yX4_lateIn, Cond.code yX4_lateIn cX4_lateIn 5 (some .int)]
def wsL_law0_r19 : List Cond := [Cond.methodLink RX4 99 yX4_delayedAlong, Cond.instanceMethod yX4_delayedAlong, Cond.selects RX4 yX4_delayedAlong yX4_delayedAlong, Cond.code yX4_delayedAlong cX4_delayedAlong 2 (some .int), Cond.methodLink RX4 111 yX4_earliestFor, Cond.instanceMethod yX4_earliestFor, Cond.selects RX4 yX4_earliestFor yX4_earliestFor, Cond.code yX4_earliestFor cX4_earliestFor 2 (some .int), Cond.methodLink RL 145 yL_early, Cond.static yL_early, Cond.codeWith yL_early cL_early 4 (some .int) [(0, 9, 12, 25)], Cond.methodLink RL 51 yX3_early, Cond.instanceMethod yX3_early, Cond.selects RX3 yX3_early yX3_early, Cond.code yX3_early cX3_early 2 (some .int), Cond.fieldLink RX3 128 "CodeMover$Sets" "earlyIn" "[I", Cond.methodLink RL 147 yX4_early, Cond.instanceMethod yX4_early, Cond.selects RX4 yX4_early yX4_early, Cond.code yX4_early cX4_early 2 (some .int), Cond.methodLink RL 148 yL_late, Cond.static yL_late, Cond.codeWith yL_late cL_late 4 (some .int) [(0, 9, 12, 25)], Cond.methodLink RL 54 yX3_late]
def wsL_law0_r20 : List Cond := [Cond.instanceMethod yX3_late, Cond.selects RX3 yX3_late yX3_late, Cond.code yX3_late cX3_late 2 (some .int), Cond.fieldLink RX3 131 "CodeMover$Sets" "lateIn" "[I", Cond.methodLink RL 150 yX4_late, Cond.instanceMethod yX4_late, Cond.selects RX4 yX4_late yX4_late, Cond.code yX4_late cX4_late 2 (some .int), Cond.methodLink RL 151 yL_needed, Cond.static yL_needed, Cond.codeWith yL_needed cL_needed 5 (some .int) [(0, 10, 13, 25)], Cond.methodLink RL 57 yX3_needed, Cond.instanceMethod yX3_needed, Cond.selects RX3 yX3_needed yX3_needed, Cond.code yX3_needed cX3_needed 3 (some .int), Cond.fieldLink RX3 134 "CodeMover$Sets" "neededAtEnd" "[I", Cond.fieldLink RX3 137 "CodeMover$Sets" "neededAtStart" "[I", Cond.methodLink RL 154 yX4_needed, Cond.instanceMethod yX4_needed, Cond.selects RX4 yX4_needed yX4_needed, Cond.code yX4_needed cX4_needed 3 (some .int), Cond.methodLink RL 155 yL_there, Cond.static yL_there, Cond.codeWith yL_there cL_there 5 (some .int) [(0, 10, 13, 25)]]
def wsL_law0_r21 : List Cond := [Cond.methodLink RL 61 yX3_there, Cond.instanceMethod yX3_there, Cond.selects RX3 yX3_there yX3_there, Cond.code yX3_there cX3_there 3 (some .int), Cond.fieldLink RX3 140 "CodeMover$Sets" "thereAtEnd" "[I", Cond.fieldLink RX3 143 "CodeMover$Sets" "thereAtStart" "[I", Cond.methodLink RL 157 yX4_there, Cond.instanceMethod yX4_there, Cond.selects RX4 yX4_there yX4_there, Cond.code yX4_there cX4_there 3 (some .int), Cond.methodLink RL 158 yL_earliest, Cond.static yL_earliest, Cond.codeWith yL_earliest cL_earliest 4 (some .int) [(0, 9, 12, 25)], Cond.methodLink RL 64 yX3_earliest, Cond.instanceMethod yX3_earliest, Cond.selects RX3 yX3_earliest yX3_earliest, Cond.code yX3_earliest cX3_earliest 2 (some .int), Cond.fieldLink RX3 146 "CodeMover$Sets" "earliestOnEdge" "[I", Cond.methodLink RL 160 yX4_earliest, Cond.instanceMethod yX4_earliest, Cond.selects RX4 yX4_earliest yX4_earliest, Cond.code yX4_earliest cX4_earliest 2 (some .int), Cond.methodLink RL 161 yL_delayedOn, Cond.static yL_delayedOn]
def wsL_law0_r22 : List Cond := [Cond.codeWith yL_delayedOn cL_delayedOn 4 (some .int) [(0, 9, 12, 25)], Cond.methodLink RL 67 yX3_delayedOn, Cond.instanceMethod yX3_delayedOn, Cond.selects RX3 yX3_delayedOn yX3_delayedOn, Cond.code yX3_delayedOn cX3_delayedOn 2 (some .int), Cond.fieldLink RX3 149 "CodeMover$Sets" "delayedOnEdge" "[I", Cond.methodLink RL 163 yX4_delayedOn, Cond.instanceMethod yX4_delayedOn, Cond.selects RX4 yX4_delayedOn yX4_delayedOn, Cond.code yX4_delayedOn cX4_delayedOn 2 (some .int), Cond.methodLink RL 164 yL_delayedAt, Cond.static yL_delayedAt, Cond.codeWith yL_delayedAt cL_delayedAt 4 (some .int) [(0, 9, 12, 25)], Cond.methodLink RL 70 yX3_delayedAt, Cond.instanceMethod yX3_delayedAt, Cond.selects RX3 yX3_delayedAt yX3_delayedAt, Cond.code yX3_delayedAt cX3_delayedAt 2 (some .int), Cond.fieldLink RX3 152 "CodeMover$Sets" "delayedAtStart" "[I", Cond.methodLink RL 166 yX4_delayedAt, Cond.instanceMethod yX4_delayedAt, Cond.selects RX4 yX4_delayedAt yX4_delayedAt, Cond.code yX4_delayedAt cX4_delayedAt 2 (some .int), Cond.methodLink RL 167 yL_insertions, Cond.static yL_insertions]
def wsL_law0_r23 : List Cond := [Cond.codeWith yL_insertions cL_insertions 4 (some .int) [(0, 9, 12, 25)], Cond.methodLink RL 73 yX3_insertions, Cond.instanceMethod yX3_insertions, Cond.selects RX3 yX3_insertions yX3_insertions, Cond.code yX3_insertions cX3_insertions 2 (some .int), Cond.fieldLink RX3 155 "CodeMover$Sets" "insertedOnEdge" "[I", Cond.methodLink RL 169 yX4_insertions, Cond.instanceMethod yX4_insertions, Cond.selects RX4 yX4_insertions yX4_insertions, Cond.code yX4_insertions cX4_insertions 2 (some .int), Cond.methodLink RX4 121 yX4_insertedOn, Cond.instanceMethod yX4_insertedOn, Cond.selects RX4 yX4_insertedOn yX4_insertedOn, Cond.code yX4_insertedOn cX4_insertedOn 2 (some .int), Cond.methodLink RL 170 yL_deletions, Cond.static yL_deletions, Cond.codeWith yL_deletions cL_deletions 4 (some .int) [(0, 9, 12, 25)], Cond.methodLink RL 76 yX3_deletions, Cond.instanceMethod yX3_deletions, Cond.selects RX3 yX3_deletions yX3_deletions, Cond.code yX3_deletions cX3_deletions 2 (some .int), Cond.fieldLink RX3 158 "CodeMover$Sets" "deletedInBlock" "[I", Cond.methodLink RL 172 yX4_deletions, Cond.instanceMethod yX4_deletions]
def wsL_law0_r24 : List Cond := [Cond.selects RX4 yX4_deletions yX4_deletions, Cond.code yX4_deletions cX4_deletions 2 (some .int), Cond.methodLink RX4 124 yX4_deletedIn, Cond.instanceMethod yX4_deletedIn, Cond.selects RX4 yX4_deletedIn yX4_deletedIn, Cond.code yX4_deletedIn cX4_deletedIn 2 (some .int), Cond.methodLink RL 173 yL_move, Cond.static yL_move, Cond.codeWith yL_move cL_move 3 (some .int) [(0, 8, 11, 15)], Cond.methodLink RL 79 yX3_move, Cond.instanceMethod yX3_move, Cond.selects RX3 yX3_move yX3_move, Cond.code yX3_move cX3_move 2 (some .int), Cond.methodLink RX3 161 yX2_countEdgesWithInsertions, Cond.instanceMethod yX2_countEdgesWithInsertions, Cond.selects RX2 yX2_countEdgesWithInsertions yX2_countEdgesWithInsertions, Cond.code yX2_countEdgesWithInsertions cX2_countEdgesWithInsertions 3 (some .int), Cond.methodLink RX3 166 yX3_deleteComputations, Cond.instanceMethod yX3_deleteComputations, Cond.selects RX3 yX3_deleteComputations yX3_deleteComputations, Cond.code yX3_deleteComputations cX3_deleteComputations 2 none, Cond.methodLink RX3 206 yX1_turnFirstComputesToUses, Cond.instanceMethod yX1_turnFirstComputesToUses, Cond.selects RX1 yX1_turnFirstComputesToUses yX1_turnFirstComputesToUses]
def wsL_law0_r25 : List Cond := [Cond.code yX1_turnFirstComputesToUses cX1_turnFirstComputesToUses 7 none, Cond.methodLink RX1 50 yX1_codeAt, Cond.methodLink RX3 169 yX3_insertComputations, Cond.instanceMethod yX3_insertComputations, Cond.selects RX3 yX3_insertComputations yX3_insertComputations, Cond.code yX3_insertComputations cX3_insertComputations 3 none, Cond.methodLink RX3 210 yX1_splitEdge, Cond.instanceMethod yX1_splitEdge, Cond.selects RX1 yX1_splitEdge yX1_splitEdge, Cond.code yX1_splitEdge cX1_splitEdge 5 none, Cond.methodLink RX1 54 yX1_newBlock, Cond.methodLink RX1 58 yX1_append, Cond.methodLink RX1 62 yX1_newEdge, Cond.methodLink RL 175 yX4_move, Cond.instanceMethod yX4_move, Cond.selects RX4 yX4_move yX4_move, Cond.code yX4_move cX4_move 6 (some .int), Cond.methodLink RX4 127 yX4_delete, Cond.instanceMethod yX4_delete, Cond.selects RX4 yX4_delete yX4_delete, Cond.code yX4_delete cX4_delete 6 none, Cond.methodLink RX4 131 yX4_insert, Cond.instanceMethod yX4_insert, Cond.selects RX4 yX4_insert yX4_insert]
def wsL_law0_r26 : List Cond := [Cond.code yX4_insert cX4_insert 5 none, Cond.methodLink RL 178 yL_walk, Cond.static yL_walk, Cond.codeWith yL_walk cL_walk 6 (some .int) [(0, 11, 14, 13)], Cond.methodLink RL 82 yX3_walk, Cond.instanceMethod yX3_walk, Cond.selects RX3 yX3_walk yX3_walk, Cond.code yX3_walk cX3_walk 4 (some .int), Cond.methodLink RX3 174 yX0_goThrough, Cond.instanceMethod yX0_goThrough, Cond.selects RX0 yX0_goThrough yX0_goThrough, Cond.code yX0_goThrough cX0_goThrough 6 (some .int), Cond.methodLink RX0 41 yX0_begin, Cond.instanceMethod yX0_begin, Cond.selects RX0 yX0_begin yX0_begin, Cond.code yX0_begin cX0_begin 2 none, Cond.methodLink RX0 44 yX0_goThroughBlock, Cond.instanceMethod yX0_goThroughBlock, Cond.selects RX0 yX0_goThroughBlock yX0_goThroughBlock, Cond.code yX0_goThroughBlock cX0_goThroughBlock 6 none, Cond.fieldLink RX0 55 "CodeMover$Program" "sizes" "[I", Cond.fieldLink RX0 67 "CodeMover$Program" "dependents" "[I", Cond.methodLink RX0 60 yX1_codeAt, Cond.methodLink RX0 64 yX0_hold]
def wsL_law0_r27 : List Cond := [Cond.instanceMethod yX0_hold, Cond.selects RX0 yX0_hold yX0_hold, Cond.code yX0_hold cX0_hold 2 none, Cond.methodLink RX0 52 yX0_letGo, Cond.instanceMethod yX0_letGo, Cond.selects RX0 yX0_letGo yX0_letGo, Cond.code yX0_letGo cX0_letGo 3 none, Cond.fieldLink RX0 70 "CodeMover$Program" "expressions" "I", Cond.methodLink RX0 48 yX0_blockBehind, Cond.instanceMethod yX0_blockBehind, Cond.selects RX0 yX0_blockBehind yX0_blockBehind, Cond.code yX0_blockBehind cX0_blockBehind 5 (some .int), Cond.fieldLink RX0 73 "CodeMover$Program" "firstExit" "[I", Cond.fieldLink RX0 76 "CodeMover$Program" "secondExit" "[I", Cond.fieldLink RX0 79 "CodeMover$Program" "to" "[I", Cond.methodLink RL 181 yX4_walk, Cond.instanceMethod yX4_walk, Cond.selects RX4 yX4_walk yX4_walk, Cond.code yX4_walk cX4_walk 10 (some .int), Cond.fieldLink RX4 134 "CodeMoverModel" "misses" "I", Cond.methodLink RX4 137 yX4_go, Cond.instanceMethod yX4_go, Cond.selects RX4 yX4_go yX4_go, Cond.code yX4_go cX4_go 4 (some .int)]
def wsL_law0_r28 : List Cond := [Cond.methodLink RX4 140 yX4_exit, Cond.instanceMethod yX4_exit, Cond.selects RX4 yX4_exit yX4_exit, Cond.code yX4_exit cX4_exit 5 (some .int), Cond.methodLink RL 182 yL_computed, Cond.static yL_computed, Cond.codeWith yL_computed cL_computed 4 (some .int) [(0, 9, 12, 25)], Cond.methodLink RL 86 yX3_computed, Cond.instanceMethod yX3_computed, Cond.selects RX3 yX3_computed yX3_computed, Cond.code yX3_computed cX3_computed 2 (some .int), Cond.fieldLink RX3 178 "CodeMover$Journey" "timesComputed" "[I", Cond.methodLink RL 184 yX4_computed, Cond.instanceMethod yX4_computed, Cond.selects RX4 yX4_computed yX4_computed, Cond.code yX4_computed cX4_computed 2 (some .int), Cond.methodLink RL 185 yX3_misses, Cond.instanceMethod yX3_misses, Cond.selects RX3 yX3_misses yX3_misses, Cond.code yX3_misses cX3_misses 1 (some .int), Cond.fieldLink RX3 181 "CodeMover$Journey" "missCount" "I", Cond.methodLink RL 188 yX4_misses, Cond.instanceMethod yX4_misses, Cond.selects RX4 yX4_misses yX4_misses]
def wsL_law0_r29 : List Cond := [Cond.code yX4_misses cX4_misses 1 (some .int), Cond.methodLink RL 189 yX3_lastBlock, Cond.instanceMethod yX3_lastBlock, Cond.selects RX3 yX3_lastBlock yX3_lastBlock, Cond.code yX3_lastBlock cX3_lastBlock 1 (some .int), Cond.fieldLink RX3 184 "CodeMover$Journey" "endBlock" "I", Cond.methodLink RL 192 yX4_lastBlock, Cond.instanceMethod yX4_lastBlock, Cond.selects RX4 yX4_lastBlock yX4_lastBlock, Cond.code yX4_lastBlock cX4_lastBlock 1 (some .int), Cond.methodLink RL 193 yL_heldFor, Cond.static yL_heldFor, Cond.codeWith yL_heldFor cL_heldFor 4 (some .int) [(0, 9, 12, 25)], Cond.methodLink RL 89 yX3_heldFor, Cond.instanceMethod yX3_heldFor, Cond.selects RX3 yX3_heldFor yX3_heldFor, Cond.code yX3_heldFor cX3_heldFor 2 (some .int), Cond.fieldLink RX3 187 "CodeMover$Journey" "timesHeld" "[I", Cond.methodLink RL 195 yX4_heldFor, Cond.instanceMethod yX4_heldFor, Cond.selects RX4 yX4_heldFor yX4_heldFor, Cond.code yX4_heldFor cX4_heldFor 2 (some .int), Cond.methodLink RL 196 yX3_digest, Cond.instanceMethod yX3_digest]
def wsL_law0_r30 : List Cond := [Cond.selects RX3 yX3_digest yX3_digest, Cond.code yX3_digest cX3_digest 3 (some .long), Cond.constantLong RX3 190 (83), Cond.constantLong RX3 196 (31), Cond.methodLink RX3 192 yX1_addToChecksum, Cond.instanceMethod yX1_addToChecksum, Cond.selects RX1 yX1_addToChecksum yX1_addToChecksum, Cond.code yX1_addToChecksum cX1_addToChecksum 7 (some .long), Cond.constantLong RX1 65 (31), Cond.methodLink RX1 67 yX1_endsOf, Cond.methodLink RL 200 yX4_digest, Cond.instanceMethod yX4_digest, Cond.selects RX4 yX4_digest yX4_digest, Cond.code yX4_digest cX4_digest 5 (some .long), Cond.constantLong RX4 143 (2573), Cond.constantLong RX4 145 (31)]
def wsL_law0 : List Cond := (wsL_law0_r1 ++ (wsL_law0_r2 ++ (wsL_law0_r3 ++ (wsL_law0_r4 ++ (wsL_law0_r5 ++ (wsL_law0_r6 ++ (wsL_law0_r7 ++ (wsL_law0_r8 ++ (wsL_law0_r9 ++ (wsL_law0_r10 ++ (wsL_law0_r11 ++ (wsL_law0_r12 ++ (wsL_law0_r13 ++ (wsL_law0_r14 ++ (wsL_law0_r15 ++ (wsL_law0_r16 ++ (wsL_law0_r17 ++ (wsL_law0_r18 ++ (wsL_law0_r19 ++ (wsL_law0_r20 ++ (wsL_law0_r21 ++ (wsL_law0_r22 ++ (wsL_law0_r23 ++ (wsL_law0_r24 ++ (wsL_law0_r25 ++ (wsL_law0_r26 ++ (wsL_law0_r27 ++ (wsL_law0_r28 ++ (wsL_law0_r29 ++ wsL_law0_r30))))))))))))))))))))))))))))) ++ wsX30 ++ wsX40 ++ wsX10 ++ wsX20 ++ wsX00 ++ ([] : List Cond)
def wsL_law : List Cond := wsL_law0 ++ (vx_atS RX3 36 "java/lang/IllegalArgumentException" ["java/lang/RuntimeException", "java/lang/Exception"]).filter goodWord ++ (vx_atS RX3 47 "java/lang/IllegalStateException" ["java/lang/RuntimeException", "java/lang/Exception"]).filter goodWord ++ (vx_atS RX3 102 "java/lang/IndexOutOfBoundsException" ["java/lang/RuntimeException", "java/lang/Exception"]).filter goodWord
theorem inlX0 : ∀ w ∈ wsX00, w ∈ wsL_law := fun _ h => List.mem_append_left _ (List.mem_append_left _ (List.mem_append_left _ (List.mem_append_left _ (List.mem_append_right _ h))))
theorem inlX1 : ∀ w ∈ wsX10, w ∈ wsL_law := fun _ h => List.mem_append_left _ (List.mem_append_left _ (List.mem_append_left _ (List.mem_append_left _ (List.mem_append_left _ (List.mem_append_left _ (List.mem_append_right _ h))))))
theorem inlX2 : ∀ w ∈ wsX20, w ∈ wsL_law := fun _ h => List.mem_append_left _ (List.mem_append_left _ (List.mem_append_left _ (List.mem_append_left _ (List.mem_append_left _ (List.mem_append_right _ h)))))
theorem inlX3 : ∀ w ∈ wsX30, w ∈ wsL_law := fun _ h => List.mem_append_left _ (List.mem_append_left _ (List.mem_append_left _ (List.mem_append_left _ (List.mem_append_left _ (List.mem_append_left _ (List.mem_append_left _ (List.mem_append_left _ (List.mem_append_right _ h))))))))
theorem inlX4 : ∀ w ∈ wsX40, w ∈ wsL_law := fun _ h => List.mem_append_left _ (List.mem_append_left _ (List.mem_append_left _ (List.mem_append_left _ (List.mem_append_left _ (List.mem_append_left _ (List.mem_append_left _ (List.mem_append_right _ h)))))))
abbrev vwCl : List vw_C := [(RX0, TX0, 9), (RX1, TX1, 12), (RX2, TX2, 13), (RX3, TX3, 3), (RX4, TX4, 18)]
end
section
theorem dX0_init_0 : decode cX0_init 0 = .ok (.aload_n 0, 1) := by decide +kernel
theorem dX0_init_1 : decode cX0_init 1 = .ok (.invokespecial 3, 3) := by decide +kernel
theorem dX0_init_4 : decode cX0_init 4 = .ok (.aload_n 0, 1) := by decide +kernel
theorem dX0_init_5 : decode cX0_init 5 = .ok (.bipush 8, 2) := by decide +kernel
theorem dX0_init_7 : decode cX0_init 7 = .ok (.newarray .int, 2) := by decide +kernel
theorem dX0_init_9 : decode cX0_init 9 = .ok (.putfield 9, 3) := by decide +kernel
theorem dX0_init_12 : decode cX0_init 12 = .ok (.aload_n 0, 1) := by decide +kernel
theorem dX0_init_13 : decode cX0_init 13 = .ok (.bipush 8, 2) := by decide +kernel
theorem dX0_init_15 : decode cX0_init 15 = .ok (.newarray .int, 2) := by decide +kernel
theorem dX0_init_17 : decode cX0_init 17 = .ok (.putfield 15, 3) := by decide +kernel
theorem dX0_init_20 : decode cX0_init 20 = .ok (.aload_n 0, 1) := by decide +kernel
theorem dX0_init_21 : decode cX0_init 21 = .ok (.iconst 0, 1) := by decide +kernel
theorem dX0_init_22 : decode cX0_init 22 = .ok (.putfield 18, 3) := by decide +kernel
theorem dX0_init_25 : decode cX0_init 25 = .ok (.aload_n 0, 1) := by decide +kernel
theorem dX0_init_26 : decode cX0_init 26 = .ok (.iconst (-1), 1) := by decide +kernel
theorem dX0_init_27 : decode cX0_init 27 = .ok (.putfield 22, 3) := by decide +kernel
theorem dX0_init_30 : decode cX0_init 30 = .ok (.aload_n 0, 1) := by decide +kernel
theorem dX0_init_31 : decode cX0_init 31 = .ok (.iconst 0, 1) := by decide +kernel
theorem dX0_init_32 : decode cX0_init 32 = .ok (.putfield 25, 3) := by decide +kernel
theorem dX0_init_35 : decode cX0_init 35 = .ok (.aload_n 0, 1) := by decide +kernel
theorem dX0_init_36 : decode cX0_init 36 = .ok (.bipush 8, 2) := by decide +kernel
theorem dX0_init_38 : decode cX0_init 38 = .ok (.newarray .int, 2) := by decide +kernel
theorem dX0_init_40 : decode cX0_init 40 = .ok (.putfield 28, 3) := by decide +kernel
theorem dX0_init_43 : decode cX0_init 43 = .ok (.aload_n 0, 1) := by decide +kernel
theorem dX0_init_44 : decode cX0_init 44 = .ok (.iconst 0, 1) := by decide +kernel
theorem dX0_init_45 : decode cX0_init 45 = .ok (.putfield 31, 3) := by decide +kernel
theorem dX0_init_48 : decode cX0_init 48 = .ok (.aload_n 0, 1) := by decide +kernel
theorem dX0_init_49 : decode cX0_init 49 = .ok (.iconst 0, 1) := by decide +kernel
theorem dX0_init_50 : decode cX0_init 50 = .ok (.putfield 34, 3) := by decide +kernel
theorem dX0_init_53 : decode cX0_init 53 = .ok (.aload_n 0, 1) := by decide +kernel
theorem dX0_init_54 : decode cX0_init 54 = .ok (.aload_n 1, 1) := by decide +kernel
theorem dX0_init_55 : decode cX0_init 55 = .ok (.putfield 37, 3) := by decide +kernel
theorem dX0_init_58 : decode cX0_init 58 = .ok (.return_, 1) := by decide +kernel
set_option maxRecDepth 20000 in
theorem ggX0_goThrough_X0_begin : GoodIn wsX0_goThrough wsX0_begin := goodIn_r _ [7, 8, 9, 10, 2, 11, 12, 43, 44, 45, 46, 47, 48, 49, 50, 51] (by decide +kernel) (by decide +kernel)
set_option maxRecDepth 20000 in
theorem gX0_goThrough_X0_begin : GoodIn wsX0_goThrough (wsV RX0 41 RX0 yX0_begin wsX0_begin) := goodIn_app (goodIn_of _ (by decide +kernel)) ggX0_goThrough_X0_begin
set_option maxRecDepth 20000 in
theorem ggX0_goThrough_X0_goThroughBlock : GoodIn wsX0_goThrough wsX0_goThroughBlock := goodIn_r _ [16, 17, 18, 11, 2, 19, 10, 20, 21, 22, 23, 24, 25, 26, 27, 28, 6, 29, 8, 30, 31, 32, 33, 34, 35, 9, 43, 44, 45, 46, 47, 48, 49, 50, 51, 52, 53, 54, 55, 56, 57, 58, 59, 60, 61, 62, 63] (by decide +kernel) (by decide +kernel)
set_option maxRecDepth 20000 in
theorem gX0_goThrough_X0_goThroughBlock : GoodIn wsX0_goThrough (wsV RX0 44 RX0 yX0_goThroughBlock wsX0_goThroughBlock) := goodIn_app (goodIn_of _ (by decide +kernel)) ggX0_goThrough_X0_goThroughBlock
set_option maxRecDepth 20000 in
theorem ggX0_goThrough_X0_blockBehind : GoodIn wsX0_goThrough wsX0_blockBehind := goodIn_r _ [39, 17, 40, 41, 12, 42, 43, 44, 45, 46, 47, 48, 49, 50, 51, 52, 53, 54, 55, 56, 57, 58, 59, 60, 61, 62, 63] (by decide +kernel) (by decide +kernel)
set_option maxRecDepth 20000 in
theorem gX0_goThrough_X0_blockBehind : GoodIn wsX0_goThrough (wsV RX0 48 RX0 yX0_blockBehind wsX0_blockBehind) := goodIn_app (goodIn_of _ (by decide +kernel)) ggX0_goThrough_X0_blockBehind
set_option maxRecDepth 20000 in
theorem ggX0_goThrough_X0_letGo : GoodIn wsX0_goThrough wsX0_letGo := goodIn_r _ [34, 17, 35, 9, 11, 30, 2, 43, 44, 45, 46, 47, 48, 49, 50, 51, 52, 53, 54, 55, 56, 57, 58, 59, 60, 61, 62, 63] (by decide +kernel) (by decide +kernel)
set_option maxRecDepth 20000 in
theorem gX0_goThrough_X0_letGo : GoodIn wsX0_goThrough (wsV RX0 52 RX0 yX0_letGo wsX0_letGo) := goodIn_app (goodIn_of _ (by decide +kernel)) ggX0_goThrough_X0_letGo
theorem dX0_goThrough_0 : decode cX0_goThrough 0 = .ok (.aload_n 0, 1) := by decide +kernel
theorem dX0_goThrough_1 : decode cX0_goThrough 1 = .ok (.invokevirtual 41, 3) := by decide +kernel
theorem dX0_goThrough_4 : decode cX0_goThrough 4 = .ok (.iconst 0, 1) := by decide +kernel
theorem dX0_goThrough_5 : decode cX0_goThrough 5 = .ok (.istore 4, 2) := by decide +kernel
theorem dX0_goThrough_7 : decode cX0_goThrough 7 = .ok (.iconst 0, 1) := by decide +kernel
theorem dX0_goThrough_8 : decode cX0_goThrough 8 = .ok (.istore 5, 2) := by decide +kernel
theorem dX0_goThrough_10 : decode cX0_goThrough 10 = .ok (.iload 4, 2) := by decide +kernel
theorem dX0_goThrough_12 : decode cX0_goThrough 12 = .ok (.iload_n 3, 1) := by decide +kernel
theorem dX0_goThrough_13 : decode cX0_goThrough 13 = .ok (.if_icmp .ge 36, 3) := by decide +kernel
theorem dX0_goThrough_16 : decode cX0_goThrough 16 = .ok (.iload 5, 2) := by decide +kernel
theorem dX0_goThrough_18 : decode cX0_goThrough 18 = .ok (.iconst (-1), 1) := by decide +kernel
theorem dX0_goThrough_19 : decode cX0_goThrough 19 = .ok (.if_icmp .eq 30, 3) := by decide +kernel
theorem dX0_goThrough_22 : decode cX0_goThrough 22 = .ok (.aload_n 0, 1) := by decide +kernel
theorem dX0_goThrough_23 : decode cX0_goThrough 23 = .ok (.iload 5, 2) := by decide +kernel
theorem dX0_goThrough_25 : decode cX0_goThrough 25 = .ok (.invokevirtual 44, 3) := by decide +kernel
theorem dX0_goThrough_28 : decode cX0_goThrough 28 = .ok (.aload_n 0, 1) := by decide +kernel
theorem dX0_goThrough_29 : decode cX0_goThrough 29 = .ok (.iload 5, 2) := by decide +kernel
theorem dX0_goThrough_31 : decode cX0_goThrough 31 = .ok (.putfield 22, 3) := by decide +kernel
theorem dX0_goThrough_34 : decode cX0_goThrough 34 = .ok (.aload_n 0, 1) := by decide +kernel
theorem dX0_goThrough_35 : decode cX0_goThrough 35 = .ok (.iload 5, 2) := by decide +kernel
theorem dX0_goThrough_37 : decode cX0_goThrough 37 = .ok (.lload_n 1, 1) := by decide +kernel
theorem dX0_goThrough_38 : decode cX0_goThrough 38 = .ok (.invokevirtual 48, 3) := by decide +kernel
theorem dX0_goThrough_41 : decode cX0_goThrough 41 = .ok (.istore 5, 2) := by decide +kernel
theorem dX0_goThrough_43 : decode cX0_goThrough 43 = .ok (.iinc 4 1, 3) := by decide +kernel
theorem dX0_goThrough_46 : decode cX0_goThrough 46 = .ok (.goto (-36), 3) := by decide +kernel
theorem dX0_goThrough_49 : decode cX0_goThrough 49 = .ok (.aload_n 0, 1) := by decide +kernel
theorem dX0_goThrough_50 : decode cX0_goThrough 50 = .ok (.aload_n 0, 1) := by decide +kernel
theorem dX0_goThrough_51 : decode cX0_goThrough 51 = .ok (.getfield 25, 3) := by decide +kernel
theorem dX0_goThrough_54 : decode cX0_goThrough 54 = .ok (.invokevirtual 52, 3) := by decide +kernel
theorem dX0_goThrough_57 : decode cX0_goThrough 57 = .ok (.iload 4, 2) := by decide +kernel
theorem dX0_goThrough_59 : decode cX0_goThrough 59 = .ok (.ireturn, 1) := by decide +kernel
theorem dX0_begin_0 : decode cX0_begin 0 = .ok (.iconst 0, 1) := by decide +kernel
theorem dX0_begin_1 : decode cX0_begin 1 = .ok (.istore_n 1, 1) := by decide +kernel
theorem dX0_begin_2 : decode cX0_begin 2 = .ok (.iload_n 1, 1) := by decide +kernel
theorem dX0_begin_3 : decode cX0_begin 3 = .ok (.bipush 8, 2) := by decide +kernel
theorem dX0_begin_5 : decode cX0_begin 5 = .ok (.if_icmp .ge 23, 3) := by decide +kernel
theorem dX0_begin_8 : decode cX0_begin 8 = .ok (.aload_n 0, 1) := by decide +kernel
theorem dX0_begin_9 : decode cX0_begin 9 = .ok (.getfield 9, 3) := by decide +kernel
theorem dX0_begin_12 : decode cX0_begin 12 = .ok (.iload_n 1, 1) := by decide +kernel
theorem dX0_begin_13 : decode cX0_begin 13 = .ok (.iconst 0, 1) := by decide +kernel
theorem dX0_begin_14 : decode cX0_begin 14 = .ok (.iastore, 1) := by decide +kernel
theorem dX0_begin_15 : decode cX0_begin 15 = .ok (.aload_n 0, 1) := by decide +kernel
theorem dX0_begin_16 : decode cX0_begin 16 = .ok (.getfield 15, 3) := by decide +kernel
theorem dX0_begin_19 : decode cX0_begin 19 = .ok (.iload_n 1, 1) := by decide +kernel
theorem dX0_begin_20 : decode cX0_begin 20 = .ok (.iconst 0, 1) := by decide +kernel
theorem dX0_begin_21 : decode cX0_begin 21 = .ok (.iastore, 1) := by decide +kernel
theorem dX0_begin_22 : decode cX0_begin 22 = .ok (.iinc 1 1, 3) := by decide +kernel
theorem dX0_begin_25 : decode cX0_begin 25 = .ok (.goto (-23), 3) := by decide +kernel
theorem dX0_begin_28 : decode cX0_begin 28 = .ok (.aload_n 0, 1) := by decide +kernel
theorem dX0_begin_29 : decode cX0_begin 29 = .ok (.iconst 0, 1) := by decide +kernel
theorem dX0_begin_30 : decode cX0_begin 30 = .ok (.putfield 18, 3) := by decide +kernel
theorem dX0_begin_33 : decode cX0_begin 33 = .ok (.aload_n 0, 1) := by decide +kernel
theorem dX0_begin_34 : decode cX0_begin 34 = .ok (.iconst 0, 1) := by decide +kernel
theorem dX0_begin_35 : decode cX0_begin 35 = .ok (.putfield 25, 3) := by decide +kernel
theorem dX0_begin_38 : decode cX0_begin 38 = .ok (.aload_n 0, 1) := by decide +kernel
theorem dX0_begin_39 : decode cX0_begin 39 = .ok (.iconst 0, 1) := by decide +kernel
theorem dX0_begin_40 : decode cX0_begin 40 = .ok (.putfield 31, 3) := by decide +kernel
theorem dX0_begin_43 : decode cX0_begin 43 = .ok (.aload_n 0, 1) := by decide +kernel
theorem dX0_begin_44 : decode cX0_begin 44 = .ok (.iconst 0, 1) := by decide +kernel
theorem dX0_begin_45 : decode cX0_begin 45 = .ok (.putfield 34, 3) := by decide +kernel
theorem dX0_begin_48 : decode cX0_begin 48 = .ok (.return_, 1) := by decide +kernel
set_option maxRecDepth 20000 in
theorem ggX0_goThroughBlock_X1_codeAt : GoodIn wsX0_goThroughBlock wsX1_codeAt := goodIn_r _ [11, 12, 35, 36, 37, 38, 39, 40, 41, 42, 43, 44, 45, 46] (by decide +kernel) (by decide +kernel)
set_option maxRecDepth 20000 in
theorem gX0_goThroughBlock_X1_codeAt : GoodIn wsX0_goThroughBlock (wsV RX0 60 RX1 yX1_codeAt wsX1_codeAt) := goodIn_app (goodIn_of _ (by decide +kernel)) ggX0_goThroughBlock_X1_codeAt
set_option maxRecDepth 20000 in
theorem ggX0_goThroughBlock_X0_hold : GoodIn wsX0_goThroughBlock wsX0_hold := goodIn_r _ [17, 18, 4, 19, 3, 26, 27, 28, 29, 30, 31, 32, 33, 34] (by decide +kernel) (by decide +kernel)
set_option maxRecDepth 20000 in
theorem gX0_goThroughBlock_X0_hold : GoodIn wsX0_goThroughBlock (wsV RX0 64 RX0 yX0_hold wsX0_hold) := goodIn_app (goodIn_of _ (by decide +kernel)) ggX0_goThroughBlock_X0_hold
set_option maxRecDepth 20000 in
theorem ggX0_goThroughBlock_X0_letGo : GoodIn wsX0_goThroughBlock wsX0_letGo := goodIn_r _ [23, 1, 24, 25, 3, 19, 4, 26, 27, 28, 29, 30, 31, 32, 33, 34, 35, 36, 37, 38, 39, 40, 41, 42, 43, 44, 45, 46] (by decide +kernel) (by decide +kernel)
set_option maxRecDepth 20000 in
theorem gX0_goThroughBlock_X0_letGo : GoodIn wsX0_goThroughBlock (wsV RX0 52 RX0 yX0_letGo wsX0_letGo) := goodIn_app (goodIn_of _ (by decide +kernel)) ggX0_goThroughBlock_X0_letGo
theorem dX0_goThroughBlock_0 : decode cX0_goThroughBlock 0 = .ok (.iconst 0, 1) := by decide +kernel
theorem dX0_goThroughBlock_1 : decode cX0_goThroughBlock 1 = .ok (.istore_n 2, 1) := by decide +kernel
theorem dX0_goThroughBlock_2 : decode cX0_goThroughBlock 2 = .ok (.iload_n 2, 1) := by decide +kernel
theorem dX0_goThroughBlock_3 : decode cX0_goThroughBlock 3 = .ok (.aload_n 0, 1) := by decide +kernel
theorem dX0_goThroughBlock_4 : decode cX0_goThroughBlock 4 = .ok (.getfield 37, 3) := by decide +kernel
theorem dX0_goThroughBlock_7 : decode cX0_goThroughBlock 7 = .ok (.getfield 55, 3) := by decide +kernel
theorem dX0_goThroughBlock_10 : decode cX0_goThroughBlock 10 = .ok (.iload_n 1, 1) := by decide +kernel
theorem dX0_goThroughBlock_11 : decode cX0_goThroughBlock 11 = .ok (.iaload, 1) := by decide +kernel
theorem dX0_goThroughBlock_12 : decode cX0_goThroughBlock 12 = .ok (.if_icmp .ge 103, 3) := by decide +kernel
theorem dX0_goThroughBlock_15 : decode cX0_goThroughBlock 15 = .ok (.aload_n 0, 1) := by decide +kernel
theorem dX0_goThroughBlock_16 : decode cX0_goThroughBlock 16 = .ok (.getfield 37, 3) := by decide +kernel
theorem dX0_goThroughBlock_19 : decode cX0_goThroughBlock 19 = .ok (.iload_n 1, 1) := by decide +kernel
theorem dX0_goThroughBlock_20 : decode cX0_goThroughBlock 20 = .ok (.iload_n 2, 1) := by decide +kernel
theorem dX0_goThroughBlock_21 : decode cX0_goThroughBlock 21 = .ok (.invokevirtual 60, 3) := by decide +kernel
theorem dX0_goThroughBlock_24 : decode cX0_goThroughBlock 24 = .ok (.istore_n 3, 1) := by decide +kernel
theorem dX0_goThroughBlock_25 : decode cX0_goThroughBlock 25 = .ok (.iload_n 3, 1) := by decide +kernel
theorem dX0_goThroughBlock_26 : decode cX0_goThroughBlock 26 = .ok (.iconst 3, 1) := by decide +kernel
theorem dX0_goThroughBlock_27 : decode cX0_goThroughBlock 27 = .ok (.idiv, 1) := by decide +kernel
theorem dX0_goThroughBlock_28 : decode cX0_goThroughBlock 28 = .ok (.istore 4, 2) := by decide +kernel
theorem dX0_goThroughBlock_30 : decode cX0_goThroughBlock 30 = .ok (.iload_n 3, 1) := by decide +kernel
theorem dX0_goThroughBlock_31 : decode cX0_goThroughBlock 31 = .ok (.iconst 3, 1) := by decide +kernel
theorem dX0_goThroughBlock_32 : decode cX0_goThroughBlock 32 = .ok (.irem, 1) := by decide +kernel
theorem dX0_goThroughBlock_33 : decode cX0_goThroughBlock 33 = .ok (.istore 5, 2) := by decide +kernel
theorem dX0_goThroughBlock_35 : decode cX0_goThroughBlock 35 = .ok (.aload_n 0, 1) := by decide +kernel
theorem dX0_goThroughBlock_36 : decode cX0_goThroughBlock 36 = .ok (.dup, 1) := by decide +kernel
theorem dX0_goThroughBlock_37 : decode cX0_goThroughBlock 37 = .ok (.getfield 31, 3) := by decide +kernel
theorem dX0_goThroughBlock_40 : decode cX0_goThroughBlock 40 = .ok (.iconst 1, 1) := by decide +kernel
theorem dX0_goThroughBlock_41 : decode cX0_goThroughBlock 41 = .ok (.iadd, 1) := by decide +kernel
theorem dX0_goThroughBlock_42 : decode cX0_goThroughBlock 42 = .ok (.putfield 31, 3) := by decide +kernel
theorem dX0_goThroughBlock_45 : decode cX0_goThroughBlock 45 = .ok (.iload 5, 2) := by decide +kernel
theorem dX0_goThroughBlock_47 : decode cX0_goThroughBlock 47 = .ok (.ifCond .ne 12, 3) := by decide +kernel
theorem dX0_goThroughBlock_50 : decode cX0_goThroughBlock 50 = .ok (.aload_n 0, 1) := by decide +kernel
theorem dX0_goThroughBlock_51 : decode cX0_goThroughBlock 51 = .ok (.iload 4, 2) := by decide +kernel
theorem dX0_goThroughBlock_53 : decode cX0_goThroughBlock 53 = .ok (.invokevirtual 64, 3) := by decide +kernel
theorem dX0_goThroughBlock_56 : decode cX0_goThroughBlock 56 = .ok (.goto 53, 3) := by decide +kernel
theorem dX0_goThroughBlock_59 : decode cX0_goThroughBlock 59 = .ok (.iload 5, 2) := by decide +kernel
theorem dX0_goThroughBlock_61 : decode cX0_goThroughBlock 61 = .ok (.iconst 2, 1) := by decide +kernel
theorem dX0_goThroughBlock_62 : decode cX0_goThroughBlock 62 = .ok (.if_icmp .ne 25, 3) := by decide +kernel
theorem dX0_goThroughBlock_65 : decode cX0_goThroughBlock 65 = .ok (.aload_n 0, 1) := by decide +kernel
theorem dX0_goThroughBlock_66 : decode cX0_goThroughBlock 66 = .ok (.aload_n 0, 1) := by decide +kernel
theorem dX0_goThroughBlock_67 : decode cX0_goThroughBlock 67 = .ok (.getfield 25, 3) := by decide +kernel
theorem dX0_goThroughBlock_70 : decode cX0_goThroughBlock 70 = .ok (.aload_n 0, 1) := by decide +kernel
theorem dX0_goThroughBlock_71 : decode cX0_goThroughBlock 71 = .ok (.getfield 37, 3) := by decide +kernel
theorem dX0_goThroughBlock_74 : decode cX0_goThroughBlock 74 = .ok (.getfield 67, 3) := by decide +kernel
theorem dX0_goThroughBlock_77 : decode cX0_goThroughBlock 77 = .ok (.iload 4, 2) := by decide +kernel
theorem dX0_goThroughBlock_79 : decode cX0_goThroughBlock 79 = .ok (.iaload, 1) := by decide +kernel
theorem dX0_goThroughBlock_80 : decode cX0_goThroughBlock 80 = .ok (.iand, 1) := by decide +kernel
theorem dX0_goThroughBlock_81 : decode cX0_goThroughBlock 81 = .ok (.invokevirtual 52, 3) := by decide +kernel
theorem dX0_goThroughBlock_84 : decode cX0_goThroughBlock 84 = .ok (.goto 25, 3) := by decide +kernel
theorem dX0_goThroughBlock_87 : decode cX0_goThroughBlock 87 = .ok (.aload_n 0, 1) := by decide +kernel
theorem dX0_goThroughBlock_88 : decode cX0_goThroughBlock 88 = .ok (.getfield 25, 3) := by decide +kernel
theorem dX0_goThroughBlock_91 : decode cX0_goThroughBlock 91 = .ok (.iload 4, 2) := by decide +kernel
theorem dX0_goThroughBlock_93 : decode cX0_goThroughBlock 93 = .ok (.ishr, 1) := by decide +kernel
theorem dX0_goThroughBlock_94 : decode cX0_goThroughBlock 94 = .ok (.iconst 1, 1) := by decide +kernel
theorem dX0_goThroughBlock_95 : decode cX0_goThroughBlock 95 = .ok (.iand, 1) := by decide +kernel
theorem dX0_goThroughBlock_96 : decode cX0_goThroughBlock 96 = .ok (.ifCond .ne 13, 3) := by decide +kernel
theorem dX0_goThroughBlock_99 : decode cX0_goThroughBlock 99 = .ok (.aload_n 0, 1) := by decide +kernel
theorem dX0_goThroughBlock_100 : decode cX0_goThroughBlock 100 = .ok (.dup, 1) := by decide +kernel
theorem dX0_goThroughBlock_101 : decode cX0_goThroughBlock 101 = .ok (.getfield 18, 3) := by decide +kernel
theorem dX0_goThroughBlock_104 : decode cX0_goThroughBlock 104 = .ok (.iconst 1, 1) := by decide +kernel
theorem dX0_goThroughBlock_105 : decode cX0_goThroughBlock 105 = .ok (.iadd, 1) := by decide +kernel
theorem dX0_goThroughBlock_106 : decode cX0_goThroughBlock 106 = .ok (.putfield 18, 3) := by decide +kernel
theorem dX0_goThroughBlock_109 : decode cX0_goThroughBlock 109 = .ok (.iinc 2 1, 3) := by decide +kernel
theorem dX0_goThroughBlock_112 : decode cX0_goThroughBlock 112 = .ok (.goto (-110), 3) := by decide +kernel
theorem dX0_goThroughBlock_115 : decode cX0_goThroughBlock 115 = .ok (.return_, 1) := by decide +kernel
theorem dX0_hold_0 : decode cX0_hold 0 = .ok (.aload_n 0, 1) := by decide +kernel
theorem dX0_hold_1 : decode cX0_hold 1 = .ok (.getfield 9, 3) := by decide +kernel
theorem dX0_hold_4 : decode cX0_hold 4 = .ok (.iload_n 1, 1) := by decide +kernel
theorem dX0_hold_5 : decode cX0_hold 5 = .ok (.dup2, 1) := by decide +kernel
theorem dX0_hold_6 : decode cX0_hold 6 = .ok (.iaload, 1) := by decide +kernel
theorem dX0_hold_7 : decode cX0_hold 7 = .ok (.iconst 1, 1) := by decide +kernel
theorem dX0_hold_8 : decode cX0_hold 8 = .ok (.iadd, 1) := by decide +kernel
theorem dX0_hold_9 : decode cX0_hold 9 = .ok (.iastore, 1) := by decide +kernel
theorem dX0_hold_10 : decode cX0_hold 10 = .ok (.aload_n 0, 1) := by decide +kernel
theorem dX0_hold_11 : decode cX0_hold 11 = .ok (.getfield 25, 3) := by decide +kernel
theorem dX0_hold_14 : decode cX0_hold 14 = .ok (.iload_n 1, 1) := by decide +kernel
theorem dX0_hold_15 : decode cX0_hold 15 = .ok (.ishr, 1) := by decide +kernel
theorem dX0_hold_16 : decode cX0_hold 16 = .ok (.iconst 1, 1) := by decide +kernel
theorem dX0_hold_17 : decode cX0_hold 17 = .ok (.iand, 1) := by decide +kernel
theorem dX0_hold_18 : decode cX0_hold 18 = .ok (.ifCond .ne 25, 3) := by decide +kernel
theorem dX0_hold_21 : decode cX0_hold 21 = .ok (.aload_n 0, 1) := by decide +kernel
theorem dX0_hold_22 : decode cX0_hold 22 = .ok (.dup, 1) := by decide +kernel
theorem dX0_hold_23 : decode cX0_hold 23 = .ok (.getfield 25, 3) := by decide +kernel
theorem dX0_hold_26 : decode cX0_hold 26 = .ok (.iconst 1, 1) := by decide +kernel
theorem dX0_hold_27 : decode cX0_hold 27 = .ok (.iload_n 1, 1) := by decide +kernel
theorem dX0_hold_28 : decode cX0_hold 28 = .ok (.ishl, 1) := by decide +kernel
theorem dX0_hold_29 : decode cX0_hold 29 = .ok (.ior, 1) := by decide +kernel
theorem dX0_hold_30 : decode cX0_hold 30 = .ok (.putfield 25, 3) := by decide +kernel
theorem dX0_hold_33 : decode cX0_hold 33 = .ok (.aload_n 0, 1) := by decide +kernel
theorem dX0_hold_34 : decode cX0_hold 34 = .ok (.getfield 28, 3) := by decide +kernel
theorem dX0_hold_37 : decode cX0_hold 37 = .ok (.iload_n 1, 1) := by decide +kernel
theorem dX0_hold_38 : decode cX0_hold 38 = .ok (.aload_n 0, 1) := by decide +kernel
theorem dX0_hold_39 : decode cX0_hold 39 = .ok (.getfield 31, 3) := by decide +kernel
theorem dX0_hold_42 : decode cX0_hold 42 = .ok (.iastore, 1) := by decide +kernel
theorem dX0_hold_43 : decode cX0_hold 43 = .ok (.return_, 1) := by decide +kernel
theorem dX0_letGo_0 : decode cX0_letGo 0 = .ok (.iconst 0, 1) := by decide +kernel
theorem dX0_letGo_1 : decode cX0_letGo 1 = .ok (.istore_n 2, 1) := by decide +kernel
theorem dX0_letGo_2 : decode cX0_letGo 2 = .ok (.iload_n 2, 1) := by decide +kernel
theorem dX0_letGo_3 : decode cX0_letGo 3 = .ok (.aload_n 0, 1) := by decide +kernel
theorem dX0_letGo_4 : decode cX0_letGo 4 = .ok (.getfield 37, 3) := by decide +kernel
theorem dX0_letGo_7 : decode cX0_letGo 7 = .ok (.getfield 70, 3) := by decide +kernel
theorem dX0_letGo_10 : decode cX0_letGo 10 = .ok (.if_icmp .ge 37, 3) := by decide +kernel
theorem dX0_letGo_13 : decode cX0_letGo 13 = .ok (.iload_n 1, 1) := by decide +kernel
theorem dX0_letGo_14 : decode cX0_letGo 14 = .ok (.iload_n 2, 1) := by decide +kernel
theorem dX0_letGo_15 : decode cX0_letGo 15 = .ok (.ishr, 1) := by decide +kernel
theorem dX0_letGo_16 : decode cX0_letGo 16 = .ok (.iconst 1, 1) := by decide +kernel
theorem dX0_letGo_17 : decode cX0_letGo 17 = .ok (.iand, 1) := by decide +kernel
theorem dX0_letGo_18 : decode cX0_letGo 18 = .ok (.ifCond .eq 23, 3) := by decide +kernel
theorem dX0_letGo_21 : decode cX0_letGo 21 = .ok (.aload_n 0, 1) := by decide +kernel
theorem dX0_letGo_22 : decode cX0_letGo 22 = .ok (.getfield 15, 3) := by decide +kernel
theorem dX0_letGo_25 : decode cX0_letGo 25 = .ok (.iload_n 2, 1) := by decide +kernel
theorem dX0_letGo_26 : decode cX0_letGo 26 = .ok (.dup2, 1) := by decide +kernel
theorem dX0_letGo_27 : decode cX0_letGo 27 = .ok (.iaload, 1) := by decide +kernel
theorem dX0_letGo_28 : decode cX0_letGo 28 = .ok (.aload_n 0, 1) := by decide +kernel
theorem dX0_letGo_29 : decode cX0_letGo 29 = .ok (.getfield 31, 3) := by decide +kernel
theorem dX0_letGo_32 : decode cX0_letGo 32 = .ok (.aload_n 0, 1) := by decide +kernel
theorem dX0_letGo_33 : decode cX0_letGo 33 = .ok (.getfield 28, 3) := by decide +kernel
theorem dX0_letGo_36 : decode cX0_letGo 36 = .ok (.iload_n 2, 1) := by decide +kernel
theorem dX0_letGo_37 : decode cX0_letGo 37 = .ok (.iaload, 1) := by decide +kernel
theorem dX0_letGo_38 : decode cX0_letGo 38 = .ok (.isub, 1) := by decide +kernel
theorem dX0_letGo_39 : decode cX0_letGo 39 = .ok (.iadd, 1) := by decide +kernel
theorem dX0_letGo_40 : decode cX0_letGo 40 = .ok (.iastore, 1) := by decide +kernel
theorem dX0_letGo_41 : decode cX0_letGo 41 = .ok (.iinc 2 1, 3) := by decide +kernel
theorem dX0_letGo_44 : decode cX0_letGo 44 = .ok (.goto (-42), 3) := by decide +kernel
theorem dX0_letGo_47 : decode cX0_letGo 47 = .ok (.aload_n 0, 1) := by decide +kernel
theorem dX0_letGo_48 : decode cX0_letGo 48 = .ok (.dup, 1) := by decide +kernel
theorem dX0_letGo_49 : decode cX0_letGo 49 = .ok (.getfield 25, 3) := by decide +kernel
theorem dX0_letGo_52 : decode cX0_letGo 52 = .ok (.iload_n 1, 1) := by decide +kernel
theorem dX0_letGo_53 : decode cX0_letGo 53 = .ok (.iconst (-1), 1) := by decide +kernel
theorem dX0_letGo_54 : decode cX0_letGo 54 = .ok (.ixor, 1) := by decide +kernel
theorem dX0_letGo_55 : decode cX0_letGo 55 = .ok (.iand, 1) := by decide +kernel
theorem dX0_letGo_56 : decode cX0_letGo 56 = .ok (.putfield 25, 3) := by decide +kernel
theorem dX0_letGo_59 : decode cX0_letGo 59 = .ok (.return_, 1) := by decide +kernel
theorem dX0_blockBehind_0 : decode cX0_blockBehind 0 = .ok (.aload_n 0, 1) := by decide +kernel
theorem dX0_blockBehind_1 : decode cX0_blockBehind 1 = .ok (.getfield 37, 3) := by decide +kernel
theorem dX0_blockBehind_4 : decode cX0_blockBehind 4 = .ok (.getfield 73, 3) := by decide +kernel
theorem dX0_blockBehind_7 : decode cX0_blockBehind 7 = .ok (.iload_n 1, 1) := by decide +kernel
theorem dX0_blockBehind_8 : decode cX0_blockBehind 8 = .ok (.iaload, 1) := by decide +kernel
theorem dX0_blockBehind_9 : decode cX0_blockBehind 9 = .ok (.istore 4, 2) := by decide +kernel
theorem dX0_blockBehind_11 : decode cX0_blockBehind 11 = .ok (.aload_n 0, 1) := by decide +kernel
theorem dX0_blockBehind_12 : decode cX0_blockBehind 12 = .ok (.getfield 37, 3) := by decide +kernel
theorem dX0_blockBehind_15 : decode cX0_blockBehind 15 = .ok (.getfield 76, 3) := by decide +kernel
theorem dX0_blockBehind_18 : decode cX0_blockBehind 18 = .ok (.iload_n 1, 1) := by decide +kernel
theorem dX0_blockBehind_19 : decode cX0_blockBehind 19 = .ok (.iaload, 1) := by decide +kernel
theorem dX0_blockBehind_20 : decode cX0_blockBehind 20 = .ok (.iconst (-1), 1) := by decide +kernel
theorem dX0_blockBehind_21 : decode cX0_blockBehind 21 = .ok (.if_icmp .eq 40, 3) := by decide +kernel
theorem dX0_blockBehind_24 : decode cX0_blockBehind 24 = .ok (.lload_n 2, 1) := by decide +kernel
theorem dX0_blockBehind_25 : decode cX0_blockBehind 25 = .ok (.aload_n 0, 1) := by decide +kernel
theorem dX0_blockBehind_26 : decode cX0_blockBehind 26 = .ok (.getfield 34, 3) := by decide +kernel
theorem dX0_blockBehind_29 : decode cX0_blockBehind 29 = .ok (.bipush 63, 2) := by decide +kernel
theorem dX0_blockBehind_31 : decode cX0_blockBehind 31 = .ok (.iand, 1) := by decide +kernel
theorem dX0_blockBehind_32 : decode cX0_blockBehind 32 = .ok (.lushr, 1) := by decide +kernel
theorem dX0_blockBehind_33 : decode cX0_blockBehind 33 = .ok (.lconst 1, 1) := by decide +kernel
theorem dX0_blockBehind_34 : decode cX0_blockBehind 34 = .ok (.land, 1) := by decide +kernel
theorem dX0_blockBehind_35 : decode cX0_blockBehind 35 = .ok (.lconst 0, 1) := by decide +kernel
theorem dX0_blockBehind_36 : decode cX0_blockBehind 36 = .ok (.lcmp, 1) := by decide +kernel
theorem dX0_blockBehind_37 : decode cX0_blockBehind 37 = .ok (.ifCond .eq 14, 3) := by decide +kernel
theorem dX0_blockBehind_40 : decode cX0_blockBehind 40 = .ok (.aload_n 0, 1) := by decide +kernel
theorem dX0_blockBehind_41 : decode cX0_blockBehind 41 = .ok (.getfield 37, 3) := by decide +kernel
theorem dX0_blockBehind_44 : decode cX0_blockBehind 44 = .ok (.getfield 76, 3) := by decide +kernel
theorem dX0_blockBehind_47 : decode cX0_blockBehind 47 = .ok (.iload_n 1, 1) := by decide +kernel
theorem dX0_blockBehind_48 : decode cX0_blockBehind 48 = .ok (.iaload, 1) := by decide +kernel
theorem dX0_blockBehind_49 : decode cX0_blockBehind 49 = .ok (.istore 4, 2) := by decide +kernel
theorem dX0_blockBehind_51 : decode cX0_blockBehind 51 = .ok (.aload_n 0, 1) := by decide +kernel
theorem dX0_blockBehind_52 : decode cX0_blockBehind 52 = .ok (.dup, 1) := by decide +kernel
theorem dX0_blockBehind_53 : decode cX0_blockBehind 53 = .ok (.getfield 34, 3) := by decide +kernel
theorem dX0_blockBehind_56 : decode cX0_blockBehind 56 = .ok (.iconst 1, 1) := by decide +kernel
theorem dX0_blockBehind_57 : decode cX0_blockBehind 57 = .ok (.iadd, 1) := by decide +kernel
theorem dX0_blockBehind_58 : decode cX0_blockBehind 58 = .ok (.putfield 34, 3) := by decide +kernel
theorem dX0_blockBehind_61 : decode cX0_blockBehind 61 = .ok (.iload 4, 2) := by decide +kernel
theorem dX0_blockBehind_63 : decode cX0_blockBehind 63 = .ok (.iconst (-1), 1) := by decide +kernel
theorem dX0_blockBehind_64 : decode cX0_blockBehind 64 = .ok (.if_icmp .ne 7, 3) := by decide +kernel
theorem dX0_blockBehind_67 : decode cX0_blockBehind 67 = .ok (.iconst (-1), 1) := by decide +kernel
theorem dX0_blockBehind_68 : decode cX0_blockBehind 68 = .ok (.goto 13, 3) := by decide +kernel
theorem dX0_blockBehind_71 : decode cX0_blockBehind 71 = .ok (.aload_n 0, 1) := by decide +kernel
theorem dX0_blockBehind_72 : decode cX0_blockBehind 72 = .ok (.getfield 37, 3) := by decide +kernel
theorem dX0_blockBehind_75 : decode cX0_blockBehind 75 = .ok (.getfield 79, 3) := by decide +kernel
theorem dX0_blockBehind_78 : decode cX0_blockBehind 78 = .ok (.iload 4, 2) := by decide +kernel
theorem dX0_blockBehind_80 : decode cX0_blockBehind 80 = .ok (.iaload, 1) := by decide +kernel
theorem dX0_blockBehind_81 : decode cX0_blockBehind 81 = .ok (.ireturn, 1) := by decide +kernel
theorem dX1_init_0 : decode cX1_init 0 = .ok (.aload_n 0, 1) := by decide +kernel
theorem dX1_init_1 : decode cX1_init 1 = .ok (.invokespecial 3, 3) := by decide +kernel
theorem dX1_init_4 : decode cX1_init 4 = .ok (.aload_n 0, 1) := by decide +kernel
theorem dX1_init_5 : decode cX1_init 5 = .ok (.iconst 0, 1) := by decide +kernel
theorem dX1_init_6 : decode cX1_init 6 = .ok (.putfield 9, 3) := by decide +kernel
theorem dX1_init_9 : decode cX1_init 9 = .ok (.aload_n 0, 1) := by decide +kernel
theorem dX1_init_10 : decode cX1_init 10 = .ok (.bipush 8, 2) := by decide +kernel
theorem dX1_init_12 : decode cX1_init 12 = .ok (.newarray .int, 2) := by decide +kernel
theorem dX1_init_14 : decode cX1_init 14 = .ok (.putfield 15, 3) := by decide +kernel
theorem dX1_init_17 : decode cX1_init 17 = .ok (.aload_n 0, 1) := by decide +kernel
theorem dX1_init_18 : decode cX1_init 18 = .ok (.bipush 6, 2) := by decide +kernel
theorem dX1_init_20 : decode cX1_init 20 = .ok (.newarray .int, 2) := by decide +kernel
theorem dX1_init_22 : decode cX1_init 22 = .ok (.putfield 19, 3) := by decide +kernel
theorem dX1_init_25 : decode cX1_init 25 = .ok (.aload_n 0, 1) := by decide +kernel
theorem dX1_init_26 : decode cX1_init 26 = .ok (.iconst 1, 1) := by decide +kernel
theorem dX1_init_27 : decode cX1_init 27 = .ok (.putfield 22, 3) := by decide +kernel
theorem dX1_init_30 : decode cX1_init 30 = .ok (.aload_n 0, 1) := by decide +kernel
theorem dX1_init_31 : decode cX1_init 31 = .ok (.bipush 40, 2) := by decide +kernel
theorem dX1_init_33 : decode cX1_init 33 = .ok (.newarray .int, 2) := by decide +kernel
theorem dX1_init_35 : decode cX1_init 35 = .ok (.putfield 25, 3) := by decide +kernel
theorem dX1_init_38 : decode cX1_init 38 = .ok (.aload_n 0, 1) := by decide +kernel
theorem dX1_init_39 : decode cX1_init 39 = .ok (.sipush 480, 3) := by decide +kernel
theorem dX1_init_42 : decode cX1_init 42 = .ok (.newarray .int, 2) := by decide +kernel
theorem dX1_init_44 : decode cX1_init 44 = .ok (.putfield 28, 3) := by decide +kernel
theorem dX1_init_47 : decode cX1_init 47 = .ok (.aload_n 0, 1) := by decide +kernel
theorem dX1_init_48 : decode cX1_init 48 = .ok (.iconst 0, 1) := by decide +kernel
theorem dX1_init_49 : decode cX1_init 49 = .ok (.putfield 31, 3) := by decide +kernel
theorem dX1_init_52 : decode cX1_init 52 = .ok (.aload_n 0, 1) := by decide +kernel
theorem dX1_init_53 : decode cX1_init 53 = .ok (.bipush 80, 2) := by decide +kernel
theorem dX1_init_55 : decode cX1_init 55 = .ok (.newarray .int, 2) := by decide +kernel
theorem dX1_init_57 : decode cX1_init 57 = .ok (.putfield 34, 3) := by decide +kernel
theorem dX1_init_60 : decode cX1_init 60 = .ok (.aload_n 0, 1) := by decide +kernel
theorem dX1_init_61 : decode cX1_init 61 = .ok (.bipush 80, 2) := by decide +kernel
theorem dX1_init_63 : decode cX1_init 63 = .ok (.newarray .int, 2) := by decide +kernel
theorem dX1_init_65 : decode cX1_init 65 = .ok (.putfield 37, 3) := by decide +kernel
theorem dX1_init_68 : decode cX1_init 68 = .ok (.aload_n 0, 1) := by decide +kernel
theorem dX1_init_69 : decode cX1_init 69 = .ok (.bipush 40, 2) := by decide +kernel
theorem dX1_init_71 : decode cX1_init 71 = .ok (.newarray .int, 2) := by decide +kernel
theorem dX1_init_73 : decode cX1_init 73 = .ok (.putfield 40, 3) := by decide +kernel
theorem dX1_init_76 : decode cX1_init 76 = .ok (.aload_n 0, 1) := by decide +kernel
theorem dX1_init_77 : decode cX1_init 77 = .ok (.bipush 40, 2) := by decide +kernel
theorem dX1_init_79 : decode cX1_init 79 = .ok (.newarray .int, 2) := by decide +kernel
theorem dX1_init_81 : decode cX1_init 81 = .ok (.putfield 43, 3) := by decide +kernel
theorem dX1_init_84 : decode cX1_init 84 = .ok (.aload_n 0, 1) := by decide +kernel
theorem dX1_init_85 : decode cX1_init 85 = .ok (.iconst 1, 1) := by decide +kernel
theorem dX1_init_86 : decode cX1_init 86 = .ok (.putfield 46, 3) := by decide +kernel
theorem dX1_init_89 : decode cX1_init 89 = .ok (.iconst 0, 1) := by decide +kernel
theorem dX1_init_90 : decode cX1_init 90 = .ok (.istore_n 1, 1) := by decide +kernel
theorem dX1_init_91 : decode cX1_init 91 = .ok (.iload_n 1, 1) := by decide +kernel
theorem dX1_init_92 : decode cX1_init 92 = .ok (.bipush 40, 2) := by decide +kernel
theorem dX1_init_94 : decode cX1_init 94 = .ok (.if_icmp .ge 23, 3) := by decide +kernel
theorem dX1_init_97 : decode cX1_init 97 = .ok (.aload_n 0, 1) := by decide +kernel
theorem dX1_init_98 : decode cX1_init 98 = .ok (.getfield 40, 3) := by decide +kernel
theorem dX1_init_101 : decode cX1_init 101 = .ok (.iload_n 1, 1) := by decide +kernel
theorem dX1_init_102 : decode cX1_init 102 = .ok (.iconst (-1), 1) := by decide +kernel
theorem dX1_init_103 : decode cX1_init 103 = .ok (.iastore, 1) := by decide +kernel
theorem dX1_init_104 : decode cX1_init 104 = .ok (.aload_n 0, 1) := by decide +kernel
theorem dX1_init_105 : decode cX1_init 105 = .ok (.getfield 43, 3) := by decide +kernel
theorem dX1_init_108 : decode cX1_init 108 = .ok (.iload_n 1, 1) := by decide +kernel
theorem dX1_init_109 : decode cX1_init 109 = .ok (.iconst (-1), 1) := by decide +kernel
theorem dX1_init_110 : decode cX1_init 110 = .ok (.iastore, 1) := by decide +kernel
theorem dX1_init_111 : decode cX1_init 111 = .ok (.iinc 1 1, 3) := by decide +kernel
theorem dX1_init_114 : decode cX1_init 114 = .ok (.goto (-23), 3) := by decide +kernel
theorem dX1_init_117 : decode cX1_init 117 = .ok (.return_, 1) := by decide +kernel
theorem dX1_allExpressions_0 : decode cX1_allExpressions 0 = .ok (.iconst 1, 1) := by decide +kernel
theorem dX1_allExpressions_1 : decode cX1_allExpressions 1 = .ok (.aload_n 0, 1) := by decide +kernel
theorem dX1_allExpressions_2 : decode cX1_allExpressions 2 = .ok (.getfield 9, 3) := by decide +kernel
theorem dX1_allExpressions_5 : decode cX1_allExpressions 5 = .ok (.ishl, 1) := by decide +kernel
theorem dX1_allExpressions_6 : decode cX1_allExpressions 6 = .ok (.iconst 1, 1) := by decide +kernel
theorem dX1_allExpressions_7 : decode cX1_allExpressions 7 = .ok (.isub, 1) := by decide +kernel
theorem dX1_allExpressions_8 : decode cX1_allExpressions 8 = .ok (.ireturn, 1) := by decide +kernel
theorem dX1_newExpression_0 : decode cX1_newExpression 0 = .ok (.aload_n 0, 1) := by decide +kernel
theorem dX1_newExpression_1 : decode cX1_newExpression 1 = .ok (.getfield 9, 3) := by decide +kernel
theorem dX1_newExpression_4 : decode cX1_newExpression 4 = .ok (.istore_n 2, 1) := by decide +kernel
theorem dX1_newExpression_5 : decode cX1_newExpression 5 = .ok (.aload_n 0, 1) := by decide +kernel
theorem dX1_newExpression_6 : decode cX1_newExpression 6 = .ok (.getfield 15, 3) := by decide +kernel
theorem dX1_newExpression_9 : decode cX1_newExpression 9 = .ok (.iload_n 2, 1) := by decide +kernel
theorem dX1_newExpression_10 : decode cX1_newExpression 10 = .ok (.iload_n 1, 1) := by decide +kernel
theorem dX1_newExpression_11 : decode cX1_newExpression 11 = .ok (.iastore, 1) := by decide +kernel
theorem dX1_newExpression_12 : decode cX1_newExpression 12 = .ok (.iconst 0, 1) := by decide +kernel
theorem dX1_newExpression_13 : decode cX1_newExpression 13 = .ok (.istore_n 3, 1) := by decide +kernel
theorem dX1_newExpression_14 : decode cX1_newExpression 14 = .ok (.iload_n 3, 1) := by decide +kernel
theorem dX1_newExpression_15 : decode cX1_newExpression 15 = .ok (.bipush 6, 2) := by decide +kernel
theorem dX1_newExpression_17 : decode cX1_newExpression 17 = .ok (.if_icmp .ge 29, 3) := by decide +kernel
theorem dX1_newExpression_20 : decode cX1_newExpression 20 = .ok (.iload_n 1, 1) := by decide +kernel
theorem dX1_newExpression_21 : decode cX1_newExpression 21 = .ok (.iload_n 3, 1) := by decide +kernel
theorem dX1_newExpression_22 : decode cX1_newExpression 22 = .ok (.ishr, 1) := by decide +kernel
theorem dX1_newExpression_23 : decode cX1_newExpression 23 = .ok (.iconst 1, 1) := by decide +kernel
theorem dX1_newExpression_24 : decode cX1_newExpression 24 = .ok (.iand, 1) := by decide +kernel
theorem dX1_newExpression_25 : decode cX1_newExpression 25 = .ok (.ifCond .eq 15, 3) := by decide +kernel
theorem dX1_newExpression_28 : decode cX1_newExpression 28 = .ok (.aload_n 0, 1) := by decide +kernel
theorem dX1_newExpression_29 : decode cX1_newExpression 29 = .ok (.getfield 19, 3) := by decide +kernel
theorem dX1_newExpression_32 : decode cX1_newExpression 32 = .ok (.iload_n 3, 1) := by decide +kernel
theorem dX1_newExpression_33 : decode cX1_newExpression 33 = .ok (.dup2, 1) := by decide +kernel
theorem dX1_newExpression_34 : decode cX1_newExpression 34 = .ok (.iaload, 1) := by decide +kernel
theorem dX1_newExpression_35 : decode cX1_newExpression 35 = .ok (.iconst 1, 1) := by decide +kernel
theorem dX1_newExpression_36 : decode cX1_newExpression 36 = .ok (.iload_n 2, 1) := by decide +kernel
theorem dX1_newExpression_37 : decode cX1_newExpression 37 = .ok (.ishl, 1) := by decide +kernel
theorem dX1_newExpression_38 : decode cX1_newExpression 38 = .ok (.ior, 1) := by decide +kernel
theorem dX1_newExpression_39 : decode cX1_newExpression 39 = .ok (.iastore, 1) := by decide +kernel
theorem dX1_newExpression_40 : decode cX1_newExpression 40 = .ok (.iinc 3 1, 3) := by decide +kernel
theorem dX1_newExpression_43 : decode cX1_newExpression 43 = .ok (.goto (-29), 3) := by decide +kernel
theorem dX1_newExpression_46 : decode cX1_newExpression 46 = .ok (.aload_n 0, 1) := by decide +kernel
theorem dX1_newExpression_47 : decode cX1_newExpression 47 = .ok (.dup, 1) := by decide +kernel
theorem dX1_newExpression_48 : decode cX1_newExpression 48 = .ok (.getfield 9, 3) := by decide +kernel
theorem dX1_newExpression_51 : decode cX1_newExpression 51 = .ok (.iconst 1, 1) := by decide +kernel
theorem dX1_newExpression_52 : decode cX1_newExpression 52 = .ok (.iadd, 1) := by decide +kernel
theorem dX1_newExpression_53 : decode cX1_newExpression 53 = .ok (.putfield 9, 3) := by decide +kernel
theorem dX1_newExpression_56 : decode cX1_newExpression 56 = .ok (.aload_n 0, 1) := by decide +kernel
theorem dX1_newExpression_57 : decode cX1_newExpression 57 = .ok (.iconst 1, 1) := by decide +kernel
theorem dX1_newExpression_58 : decode cX1_newExpression 58 = .ok (.putfield 46, 3) := by decide +kernel
theorem dX1_newExpression_61 : decode cX1_newExpression 61 = .ok (.iload_n 2, 1) := by decide +kernel
theorem dX1_newExpression_62 : decode cX1_newExpression 62 = .ok (.ireturn, 1) := by decide +kernel
theorem dX1_newBlock_0 : decode cX1_newBlock 0 = .ok (.aload_n 0, 1) := by decide +kernel
theorem dX1_newBlock_1 : decode cX1_newBlock 1 = .ok (.getfield 22, 3) := by decide +kernel
theorem dX1_newBlock_4 : decode cX1_newBlock 4 = .ok (.istore_n 1, 1) := by decide +kernel
theorem dX1_newBlock_5 : decode cX1_newBlock 5 = .ok (.aload_n 0, 1) := by decide +kernel
theorem dX1_newBlock_6 : decode cX1_newBlock 6 = .ok (.dup, 1) := by decide +kernel
theorem dX1_newBlock_7 : decode cX1_newBlock 7 = .ok (.getfield 22, 3) := by decide +kernel
theorem dX1_newBlock_10 : decode cX1_newBlock 10 = .ok (.iconst 1, 1) := by decide +kernel
theorem dX1_newBlock_11 : decode cX1_newBlock 11 = .ok (.iadd, 1) := by decide +kernel
theorem dX1_newBlock_12 : decode cX1_newBlock 12 = .ok (.putfield 22, 3) := by decide +kernel
theorem dX1_newBlock_15 : decode cX1_newBlock 15 = .ok (.aload_n 0, 1) := by decide +kernel
theorem dX1_newBlock_16 : decode cX1_newBlock 16 = .ok (.iconst 1, 1) := by decide +kernel
theorem dX1_newBlock_17 : decode cX1_newBlock 17 = .ok (.putfield 46, 3) := by decide +kernel
theorem dX1_newBlock_20 : decode cX1_newBlock 20 = .ok (.iload_n 1, 1) := by decide +kernel
theorem dX1_newBlock_21 : decode cX1_newBlock 21 = .ok (.ireturn, 1) := by decide +kernel
theorem dX1_hasEdge_0 : decode cX1_hasEdge 0 = .ok (.aload_n 0, 1) := by decide +kernel
theorem dX1_hasEdge_1 : decode cX1_hasEdge 1 = .ok (.getfield 40, 3) := by decide +kernel
theorem dX1_hasEdge_4 : decode cX1_hasEdge 4 = .ok (.iload_n 1, 1) := by decide +kernel
theorem dX1_hasEdge_5 : decode cX1_hasEdge 5 = .ok (.iaload, 1) := by decide +kernel
theorem dX1_hasEdge_6 : decode cX1_hasEdge 6 = .ok (.istore_n 3, 1) := by decide +kernel
theorem dX1_hasEdge_7 : decode cX1_hasEdge 7 = .ok (.aload_n 0, 1) := by decide +kernel
theorem dX1_hasEdge_8 : decode cX1_hasEdge 8 = .ok (.getfield 43, 3) := by decide +kernel
theorem dX1_hasEdge_11 : decode cX1_hasEdge 11 = .ok (.iload_n 1, 1) := by decide +kernel
theorem dX1_hasEdge_12 : decode cX1_hasEdge 12 = .ok (.iaload, 1) := by decide +kernel
theorem dX1_hasEdge_13 : decode cX1_hasEdge 13 = .ok (.istore 4, 2) := by decide +kernel
theorem dX1_hasEdge_15 : decode cX1_hasEdge 15 = .ok (.iload_n 3, 1) := by decide +kernel
theorem dX1_hasEdge_16 : decode cX1_hasEdge 16 = .ok (.iconst (-1), 1) := by decide +kernel
theorem dX1_hasEdge_17 : decode cX1_hasEdge 17 = .ok (.if_icmp .eq 13, 3) := by decide +kernel
theorem dX1_hasEdge_20 : decode cX1_hasEdge 20 = .ok (.aload_n 0, 1) := by decide +kernel
theorem dX1_hasEdge_21 : decode cX1_hasEdge 21 = .ok (.getfield 37, 3) := by decide +kernel
theorem dX1_hasEdge_24 : decode cX1_hasEdge 24 = .ok (.iload_n 3, 1) := by decide +kernel
theorem dX1_hasEdge_25 : decode cX1_hasEdge 25 = .ok (.iaload, 1) := by decide +kernel
theorem dX1_hasEdge_26 : decode cX1_hasEdge 26 = .ok (.iload_n 2, 1) := by decide +kernel
theorem dX1_hasEdge_27 : decode cX1_hasEdge 27 = .ok (.if_icmp .eq 20, 3) := by decide +kernel
theorem dX1_hasEdge_30 : decode cX1_hasEdge 30 = .ok (.iload 4, 2) := by decide +kernel
theorem dX1_hasEdge_32 : decode cX1_hasEdge 32 = .ok (.iconst (-1), 1) := by decide +kernel
theorem dX1_hasEdge_33 : decode cX1_hasEdge 33 = .ok (.if_icmp .eq 18, 3) := by decide +kernel
theorem dX1_hasEdge_36 : decode cX1_hasEdge 36 = .ok (.aload_n 0, 1) := by decide +kernel
theorem dX1_hasEdge_37 : decode cX1_hasEdge 37 = .ok (.getfield 37, 3) := by decide +kernel
theorem dX1_hasEdge_40 : decode cX1_hasEdge 40 = .ok (.iload 4, 2) := by decide +kernel
theorem dX1_hasEdge_42 : decode cX1_hasEdge 42 = .ok (.iaload, 1) := by decide +kernel
theorem dX1_hasEdge_43 : decode cX1_hasEdge 43 = .ok (.iload_n 2, 1) := by decide +kernel
theorem dX1_hasEdge_44 : decode cX1_hasEdge 44 = .ok (.if_icmp .ne 7, 3) := by decide +kernel
theorem dX1_hasEdge_47 : decode cX1_hasEdge 47 = .ok (.iconst 1, 1) := by decide +kernel
theorem dX1_hasEdge_48 : decode cX1_hasEdge 48 = .ok (.goto 4, 3) := by decide +kernel
theorem dX1_hasEdge_51 : decode cX1_hasEdge 51 = .ok (.iconst 0, 1) := by decide +kernel
theorem dX1_hasEdge_52 : decode cX1_hasEdge 52 = .ok (.ireturn, 1) := by decide +kernel
theorem dX1_newEdge_0 : decode cX1_newEdge 0 = .ok (.aload_n 0, 1) := by decide +kernel
theorem dX1_newEdge_1 : decode cX1_newEdge 1 = .ok (.getfield 31, 3) := by decide +kernel
theorem dX1_newEdge_4 : decode cX1_newEdge 4 = .ok (.istore_n 3, 1) := by decide +kernel
theorem dX1_newEdge_5 : decode cX1_newEdge 5 = .ok (.aload_n 0, 1) := by decide +kernel
theorem dX1_newEdge_6 : decode cX1_newEdge 6 = .ok (.getfield 34, 3) := by decide +kernel
theorem dX1_newEdge_9 : decode cX1_newEdge 9 = .ok (.iload_n 3, 1) := by decide +kernel
theorem dX1_newEdge_10 : decode cX1_newEdge 10 = .ok (.iload_n 1, 1) := by decide +kernel
theorem dX1_newEdge_11 : decode cX1_newEdge 11 = .ok (.iastore, 1) := by decide +kernel
theorem dX1_newEdge_12 : decode cX1_newEdge 12 = .ok (.aload_n 0, 1) := by decide +kernel
theorem dX1_newEdge_13 : decode cX1_newEdge 13 = .ok (.getfield 37, 3) := by decide +kernel
theorem dX1_newEdge_16 : decode cX1_newEdge 16 = .ok (.iload_n 3, 1) := by decide +kernel
theorem dX1_newEdge_17 : decode cX1_newEdge 17 = .ok (.iload_n 2, 1) := by decide +kernel
theorem dX1_newEdge_18 : decode cX1_newEdge 18 = .ok (.iastore, 1) := by decide +kernel
theorem dX1_newEdge_19 : decode cX1_newEdge 19 = .ok (.aload_n 0, 1) := by decide +kernel
theorem dX1_newEdge_20 : decode cX1_newEdge 20 = .ok (.getfield 40, 3) := by decide +kernel
theorem dX1_newEdge_23 : decode cX1_newEdge 23 = .ok (.iload_n 1, 1) := by decide +kernel
theorem dX1_newEdge_24 : decode cX1_newEdge 24 = .ok (.iaload, 1) := by decide +kernel
theorem dX1_newEdge_25 : decode cX1_newEdge 25 = .ok (.iconst (-1), 1) := by decide +kernel
theorem dX1_newEdge_26 : decode cX1_newEdge 26 = .ok (.if_icmp .ne 13, 3) := by decide +kernel
theorem dX1_newEdge_29 : decode cX1_newEdge 29 = .ok (.aload_n 0, 1) := by decide +kernel
theorem dX1_newEdge_30 : decode cX1_newEdge 30 = .ok (.getfield 40, 3) := by decide +kernel
theorem dX1_newEdge_33 : decode cX1_newEdge 33 = .ok (.iload_n 1, 1) := by decide +kernel
theorem dX1_newEdge_34 : decode cX1_newEdge 34 = .ok (.iload_n 3, 1) := by decide +kernel
theorem dX1_newEdge_35 : decode cX1_newEdge 35 = .ok (.iastore, 1) := by decide +kernel
theorem dX1_newEdge_36 : decode cX1_newEdge 36 = .ok (.goto 10, 3) := by decide +kernel
theorem dX1_newEdge_39 : decode cX1_newEdge 39 = .ok (.aload_n 0, 1) := by decide +kernel
theorem dX1_newEdge_40 : decode cX1_newEdge 40 = .ok (.getfield 43, 3) := by decide +kernel
theorem dX1_newEdge_43 : decode cX1_newEdge 43 = .ok (.iload_n 1, 1) := by decide +kernel
theorem dX1_newEdge_44 : decode cX1_newEdge 44 = .ok (.iload_n 3, 1) := by decide +kernel
theorem dX1_newEdge_45 : decode cX1_newEdge 45 = .ok (.iastore, 1) := by decide +kernel
theorem dX1_newEdge_46 : decode cX1_newEdge 46 = .ok (.aload_n 0, 1) := by decide +kernel
theorem dX1_newEdge_47 : decode cX1_newEdge 47 = .ok (.dup, 1) := by decide +kernel
theorem dX1_newEdge_48 : decode cX1_newEdge 48 = .ok (.getfield 31, 3) := by decide +kernel
theorem dX1_newEdge_51 : decode cX1_newEdge 51 = .ok (.iconst 1, 1) := by decide +kernel
theorem dX1_newEdge_52 : decode cX1_newEdge 52 = .ok (.iadd, 1) := by decide +kernel
theorem dX1_newEdge_53 : decode cX1_newEdge 53 = .ok (.putfield 31, 3) := by decide +kernel
theorem dX1_newEdge_56 : decode cX1_newEdge 56 = .ok (.aload_n 0, 1) := by decide +kernel
theorem dX1_newEdge_57 : decode cX1_newEdge 57 = .ok (.iconst 1, 1) := by decide +kernel
theorem dX1_newEdge_58 : decode cX1_newEdge 58 = .ok (.putfield 46, 3) := by decide +kernel
theorem dX1_newEdge_61 : decode cX1_newEdge 61 = .ok (.iload_n 3, 1) := by decide +kernel
theorem dX1_newEdge_62 : decode cX1_newEdge 62 = .ok (.ireturn, 1) := by decide +kernel
theorem dX1_endsOf_0 : decode cX1_endsOf 0 = .ok (.bipush 40, 2) := by decide +kernel
theorem dX1_endsOf_2 : decode cX1_endsOf 2 = .ok (.aload_n 0, 1) := by decide +kernel
theorem dX1_endsOf_3 : decode cX1_endsOf 3 = .ok (.getfield 34, 3) := by decide +kernel
theorem dX1_endsOf_6 : decode cX1_endsOf 6 = .ok (.iload_n 1, 1) := by decide +kernel
theorem dX1_endsOf_7 : decode cX1_endsOf 7 = .ok (.iaload, 1) := by decide +kernel
theorem dX1_endsOf_8 : decode cX1_endsOf 8 = .ok (.imul, 1) := by decide +kernel
theorem dX1_endsOf_9 : decode cX1_endsOf 9 = .ok (.aload_n 0, 1) := by decide +kernel
theorem dX1_endsOf_10 : decode cX1_endsOf 10 = .ok (.getfield 37, 3) := by decide +kernel
theorem dX1_endsOf_13 : decode cX1_endsOf 13 = .ok (.iload_n 1, 1) := by decide +kernel
theorem dX1_endsOf_14 : decode cX1_endsOf 14 = .ok (.iaload, 1) := by decide +kernel
theorem dX1_endsOf_15 : decode cX1_endsOf 15 = .ok (.iadd, 1) := by decide +kernel
theorem dX1_endsOf_16 : decode cX1_endsOf 16 = .ok (.ireturn, 1) := by decide +kernel
theorem dX1_codeAt_0 : decode cX1_codeAt 0 = .ok (.aload_n 0, 1) := by decide +kernel
theorem dX1_codeAt_1 : decode cX1_codeAt 1 = .ok (.getfield 28, 3) := by decide +kernel
theorem dX1_codeAt_4 : decode cX1_codeAt 4 = .ok (.iload_n 1, 1) := by decide +kernel
theorem dX1_codeAt_5 : decode cX1_codeAt 5 = .ok (.bipush 12, 2) := by decide +kernel
theorem dX1_codeAt_7 : decode cX1_codeAt 7 = .ok (.imul, 1) := by decide +kernel
theorem dX1_codeAt_8 : decode cX1_codeAt 8 = .ok (.iload_n 2, 1) := by decide +kernel
theorem dX1_codeAt_9 : decode cX1_codeAt 9 = .ok (.iadd, 1) := by decide +kernel
theorem dX1_codeAt_10 : decode cX1_codeAt 10 = .ok (.iaload, 1) := by decide +kernel
theorem dX1_codeAt_11 : decode cX1_codeAt 11 = .ok (.ireturn, 1) := by decide +kernel
theorem dX1_append_0 : decode cX1_append 0 = .ok (.aload_n 0, 1) := by decide +kernel
theorem dX1_append_1 : decode cX1_append 1 = .ok (.getfield 28, 3) := by decide +kernel
theorem dX1_append_4 : decode cX1_append 4 = .ok (.iload_n 1, 1) := by decide +kernel
theorem dX1_append_5 : decode cX1_append 5 = .ok (.bipush 12, 2) := by decide +kernel
theorem dX1_append_7 : decode cX1_append 7 = .ok (.imul, 1) := by decide +kernel
theorem dX1_append_8 : decode cX1_append 8 = .ok (.aload_n 0, 1) := by decide +kernel
theorem dX1_append_9 : decode cX1_append 9 = .ok (.getfield 25, 3) := by decide +kernel
theorem dX1_append_12 : decode cX1_append 12 = .ok (.iload_n 1, 1) := by decide +kernel
theorem dX1_append_13 : decode cX1_append 13 = .ok (.iaload, 1) := by decide +kernel
theorem dX1_append_14 : decode cX1_append 14 = .ok (.iadd, 1) := by decide +kernel
theorem dX1_append_15 : decode cX1_append 15 = .ok (.iconst 3, 1) := by decide +kernel
theorem dX1_append_16 : decode cX1_append 16 = .ok (.iload_n 3, 1) := by decide +kernel
theorem dX1_append_17 : decode cX1_append 17 = .ok (.imul, 1) := by decide +kernel
theorem dX1_append_18 : decode cX1_append 18 = .ok (.iload_n 2, 1) := by decide +kernel
theorem dX1_append_19 : decode cX1_append 19 = .ok (.iadd, 1) := by decide +kernel
theorem dX1_append_20 : decode cX1_append 20 = .ok (.iastore, 1) := by decide +kernel
theorem dX1_append_21 : decode cX1_append 21 = .ok (.aload_n 0, 1) := by decide +kernel
theorem dX1_append_22 : decode cX1_append 22 = .ok (.getfield 25, 3) := by decide +kernel
theorem dX1_append_25 : decode cX1_append 25 = .ok (.iload_n 1, 1) := by decide +kernel
theorem dX1_append_26 : decode cX1_append 26 = .ok (.dup2, 1) := by decide +kernel
theorem dX1_append_27 : decode cX1_append 27 = .ok (.iaload, 1) := by decide +kernel
theorem dX1_append_28 : decode cX1_append 28 = .ok (.iconst 1, 1) := by decide +kernel
theorem dX1_append_29 : decode cX1_append 29 = .ok (.iadd, 1) := by decide +kernel
theorem dX1_append_30 : decode cX1_append 30 = .ok (.iastore, 1) := by decide +kernel
theorem dX1_append_31 : decode cX1_append 31 = .ok (.aload_n 0, 1) := by decide +kernel
theorem dX1_append_32 : decode cX1_append 32 = .ok (.iconst 1, 1) := by decide +kernel
theorem dX1_append_33 : decode cX1_append 33 = .ok (.putfield 46, 3) := by decide +kernel
theorem dX1_append_36 : decode cX1_append 36 = .ok (.aload_n 0, 1) := by decide +kernel
theorem dX1_append_37 : decode cX1_append 37 = .ok (.getfield 25, 3) := by decide +kernel
theorem dX1_append_40 : decode cX1_append 40 = .ok (.iload_n 1, 1) := by decide +kernel
theorem dX1_append_41 : decode cX1_append 41 = .ok (.iaload, 1) := by decide +kernel
theorem dX1_append_42 : decode cX1_append 42 = .ok (.ireturn, 1) := by decide +kernel
theorem dX1_removeLast_0 : decode cX1_removeLast 0 = .ok (.aload_n 0, 1) := by decide +kernel
theorem dX1_removeLast_1 : decode cX1_removeLast 1 = .ok (.getfield 25, 3) := by decide +kernel
theorem dX1_removeLast_4 : decode cX1_removeLast 4 = .ok (.iload_n 1, 1) := by decide +kernel
theorem dX1_removeLast_5 : decode cX1_removeLast 5 = .ok (.dup2, 1) := by decide +kernel
theorem dX1_removeLast_6 : decode cX1_removeLast 6 = .ok (.iaload, 1) := by decide +kernel
theorem dX1_removeLast_7 : decode cX1_removeLast 7 = .ok (.iconst 1, 1) := by decide +kernel
theorem dX1_removeLast_8 : decode cX1_removeLast 8 = .ok (.isub, 1) := by decide +kernel
theorem dX1_removeLast_9 : decode cX1_removeLast 9 = .ok (.iastore, 1) := by decide +kernel
theorem dX1_removeLast_10 : decode cX1_removeLast 10 = .ok (.aload_n 0, 1) := by decide +kernel
theorem dX1_removeLast_11 : decode cX1_removeLast 11 = .ok (.iconst 1, 1) := by decide +kernel
theorem dX1_removeLast_12 : decode cX1_removeLast 12 = .ok (.putfield 46, 3) := by decide +kernel
theorem dX1_removeLast_15 : decode cX1_removeLast 15 = .ok (.aload_n 0, 1) := by decide +kernel
theorem dX1_removeLast_16 : decode cX1_removeLast 16 = .ok (.getfield 25, 3) := by decide +kernel
theorem dX1_removeLast_19 : decode cX1_removeLast 19 = .ok (.iload_n 1, 1) := by decide +kernel
theorem dX1_removeLast_20 : decode cX1_removeLast 20 = .ok (.iaload, 1) := by decide +kernel
theorem dX1_removeLast_21 : decode cX1_removeLast 21 = .ok (.ireturn, 1) := by decide +kernel
set_option maxRecDepth 20000 in
theorem ggX1_turnFirstComputesToUses_X1_codeAt : GoodIn wsX1_turnFirstComputesToUses wsX1_codeAt := goodIn_r _ [8, 2, 9, 10, 11, 12, 13, 14, 15, 16, 17, 18, 19, 20] (by decide +kernel) (by decide +kernel)
set_option maxRecDepth 20000 in
theorem gX1_turnFirstComputesToUses_X1_codeAt : GoodIn wsX1_turnFirstComputesToUses (wsV RX1 50 RX1 yX1_codeAt wsX1_codeAt) := goodIn_app (goodIn_of _ (by decide +kernel)) ggX1_turnFirstComputesToUses_X1_codeAt
theorem dX1_turnFirstComputesToUses_0 : decode cX1_turnFirstComputesToUses 0 = .ok (.iload_n 2, 1) := by decide +kernel
theorem dX1_turnFirstComputesToUses_1 : decode cX1_turnFirstComputesToUses 1 = .ok (.istore_n 3, 1) := by decide +kernel
theorem dX1_turnFirstComputesToUses_2 : decode cX1_turnFirstComputesToUses 2 = .ok (.iconst 0, 1) := by decide +kernel
theorem dX1_turnFirstComputesToUses_3 : decode cX1_turnFirstComputesToUses 3 = .ok (.istore 4, 2) := by decide +kernel
theorem dX1_turnFirstComputesToUses_5 : decode cX1_turnFirstComputesToUses 5 = .ok (.iload 4, 2) := by decide +kernel
theorem dX1_turnFirstComputesToUses_7 : decode cX1_turnFirstComputesToUses 7 = .ok (.aload_n 0, 1) := by decide +kernel
theorem dX1_turnFirstComputesToUses_8 : decode cX1_turnFirstComputesToUses 8 = .ok (.getfield 25, 3) := by decide +kernel
theorem dX1_turnFirstComputesToUses_11 : decode cX1_turnFirstComputesToUses 11 = .ok (.iload_n 1, 1) := by decide +kernel
theorem dX1_turnFirstComputesToUses_12 : decode cX1_turnFirstComputesToUses 12 = .ok (.iaload, 1) := by decide +kernel
theorem dX1_turnFirstComputesToUses_13 : decode cX1_turnFirstComputesToUses 13 = .ok (.if_icmp .ge 70, 3) := by decide +kernel
theorem dX1_turnFirstComputesToUses_16 : decode cX1_turnFirstComputesToUses 16 = .ok (.aload_n 0, 1) := by decide +kernel
theorem dX1_turnFirstComputesToUses_17 : decode cX1_turnFirstComputesToUses 17 = .ok (.iload_n 1, 1) := by decide +kernel
theorem dX1_turnFirstComputesToUses_18 : decode cX1_turnFirstComputesToUses 18 = .ok (.iload 4, 2) := by decide +kernel
theorem dX1_turnFirstComputesToUses_20 : decode cX1_turnFirstComputesToUses 20 = .ok (.invokevirtual 50, 3) := by decide +kernel
theorem dX1_turnFirstComputesToUses_23 : decode cX1_turnFirstComputesToUses 23 = .ok (.istore 5, 2) := by decide +kernel
theorem dX1_turnFirstComputesToUses_25 : decode cX1_turnFirstComputesToUses 25 = .ok (.iconst 1, 1) := by decide +kernel
theorem dX1_turnFirstComputesToUses_26 : decode cX1_turnFirstComputesToUses 26 = .ok (.iload 5, 2) := by decide +kernel
theorem dX1_turnFirstComputesToUses_28 : decode cX1_turnFirstComputesToUses 28 = .ok (.iconst 3, 1) := by decide +kernel
theorem dX1_turnFirstComputesToUses_29 : decode cX1_turnFirstComputesToUses 29 = .ok (.idiv, 1) := by decide +kernel
theorem dX1_turnFirstComputesToUses_30 : decode cX1_turnFirstComputesToUses 30 = .ok (.ishl, 1) := by decide +kernel
theorem dX1_turnFirstComputesToUses_31 : decode cX1_turnFirstComputesToUses 31 = .ok (.istore 6, 2) := by decide +kernel
theorem dX1_turnFirstComputesToUses_33 : decode cX1_turnFirstComputesToUses 33 = .ok (.iload 5, 2) := by decide +kernel
theorem dX1_turnFirstComputesToUses_35 : decode cX1_turnFirstComputesToUses 35 = .ok (.iconst 3, 1) := by decide +kernel
theorem dX1_turnFirstComputesToUses_36 : decode cX1_turnFirstComputesToUses 36 = .ok (.irem, 1) := by decide +kernel
theorem dX1_turnFirstComputesToUses_37 : decode cX1_turnFirstComputesToUses 37 = .ok (.ifCond .ne 40, 3) := by decide +kernel
theorem dX1_turnFirstComputesToUses_40 : decode cX1_turnFirstComputesToUses 40 = .ok (.iload_n 3, 1) := by decide +kernel
theorem dX1_turnFirstComputesToUses_41 : decode cX1_turnFirstComputesToUses 41 = .ok (.iload 6, 2) := by decide +kernel
theorem dX1_turnFirstComputesToUses_43 : decode cX1_turnFirstComputesToUses 43 = .ok (.iand, 1) := by decide +kernel
theorem dX1_turnFirstComputesToUses_44 : decode cX1_turnFirstComputesToUses 44 = .ok (.ifCond .eq 33, 3) := by decide +kernel
theorem dX1_turnFirstComputesToUses_47 : decode cX1_turnFirstComputesToUses 47 = .ok (.aload_n 0, 1) := by decide +kernel
theorem dX1_turnFirstComputesToUses_48 : decode cX1_turnFirstComputesToUses 48 = .ok (.getfield 28, 3) := by decide +kernel
theorem dX1_turnFirstComputesToUses_51 : decode cX1_turnFirstComputesToUses 51 = .ok (.iload_n 1, 1) := by decide +kernel
theorem dX1_turnFirstComputesToUses_52 : decode cX1_turnFirstComputesToUses 52 = .ok (.bipush 12, 2) := by decide +kernel
theorem dX1_turnFirstComputesToUses_54 : decode cX1_turnFirstComputesToUses 54 = .ok (.imul, 1) := by decide +kernel
theorem dX1_turnFirstComputesToUses_55 : decode cX1_turnFirstComputesToUses 55 = .ok (.iload 4, 2) := by decide +kernel
theorem dX1_turnFirstComputesToUses_57 : decode cX1_turnFirstComputesToUses 57 = .ok (.iadd, 1) := by decide +kernel
theorem dX1_turnFirstComputesToUses_58 : decode cX1_turnFirstComputesToUses 58 = .ok (.iload 5, 2) := by decide +kernel
theorem dX1_turnFirstComputesToUses_60 : decode cX1_turnFirstComputesToUses 60 = .ok (.iconst 0, 1) := by decide +kernel
theorem dX1_turnFirstComputesToUses_61 : decode cX1_turnFirstComputesToUses 61 = .ok (.isub, 1) := by decide +kernel
theorem dX1_turnFirstComputesToUses_62 : decode cX1_turnFirstComputesToUses 62 = .ok (.iconst 1, 1) := by decide +kernel
theorem dX1_turnFirstComputesToUses_63 : decode cX1_turnFirstComputesToUses 63 = .ok (.iadd, 1) := by decide +kernel
theorem dX1_turnFirstComputesToUses_64 : decode cX1_turnFirstComputesToUses 64 = .ok (.iastore, 1) := by decide +kernel
theorem dX1_turnFirstComputesToUses_65 : decode cX1_turnFirstComputesToUses 65 = .ok (.iload_n 3, 1) := by decide +kernel
theorem dX1_turnFirstComputesToUses_66 : decode cX1_turnFirstComputesToUses 66 = .ok (.iload 6, 2) := by decide +kernel
theorem dX1_turnFirstComputesToUses_68 : decode cX1_turnFirstComputesToUses 68 = .ok (.iconst (-1), 1) := by decide +kernel
theorem dX1_turnFirstComputesToUses_69 : decode cX1_turnFirstComputesToUses 69 = .ok (.ixor, 1) := by decide +kernel
theorem dX1_turnFirstComputesToUses_70 : decode cX1_turnFirstComputesToUses 70 = .ok (.iand, 1) := by decide +kernel
theorem dX1_turnFirstComputesToUses_71 : decode cX1_turnFirstComputesToUses 71 = .ok (.istore_n 3, 1) := by decide +kernel
theorem dX1_turnFirstComputesToUses_72 : decode cX1_turnFirstComputesToUses 72 = .ok (.aload_n 0, 1) := by decide +kernel
theorem dX1_turnFirstComputesToUses_73 : decode cX1_turnFirstComputesToUses 73 = .ok (.iconst 1, 1) := by decide +kernel
theorem dX1_turnFirstComputesToUses_74 : decode cX1_turnFirstComputesToUses 74 = .ok (.putfield 46, 3) := by decide +kernel
theorem dX1_turnFirstComputesToUses_77 : decode cX1_turnFirstComputesToUses 77 = .ok (.iinc 4 1, 3) := by decide +kernel
theorem dX1_turnFirstComputesToUses_80 : decode cX1_turnFirstComputesToUses 80 = .ok (.goto (-75), 3) := by decide +kernel
theorem dX1_turnFirstComputesToUses_83 : decode cX1_turnFirstComputesToUses 83 = .ok (.return_, 1) := by decide +kernel
set_option maxRecDepth 20000 in
theorem ggX1_splitEdge_X1_newBlock : GoodIn wsX1_splitEdge wsX1_newBlock := goodIn_r _ [7, 8, 9, 24, 25, 26, 27, 28, 29, 30, 31, 32, 33, 34, 35] (by decide +kernel) (by decide +kernel)
set_option maxRecDepth 20000 in
theorem gX1_splitEdge_X1_newBlock : GoodIn wsX1_splitEdge (wsV RX1 54 RX1 yX1_newBlock wsX1_newBlock) := goodIn_app (goodIn_of _ (by decide +kernel)) ggX1_splitEdge_X1_newBlock
set_option maxRecDepth 20000 in
theorem ggX1_splitEdge_X1_append : GoodIn wsX1_splitEdge wsX1_append := goodIn_r _ [13, 14, 15, 9, 24, 25, 26, 27, 28, 29, 30, 31, 32, 33, 34, 35] (by decide +kernel) (by decide +kernel)
set_option maxRecDepth 20000 in
theorem gX1_splitEdge_X1_append : GoodIn wsX1_splitEdge (wsV RX1 58 RX1 yX1_append wsX1_append) := goodIn_app (goodIn_of _ (by decide +kernel)) ggX1_splitEdge_X1_append
set_option maxRecDepth 20000 in
theorem ggX1_splitEdge_X1_newEdge : GoodIn wsX1_splitEdge wsX1_newEdge := goodIn_r _ [19, 20, 21, 2, 22, 23, 9, 24, 25, 26, 27, 28, 29, 30, 31, 32, 33, 34, 35] (by decide +kernel) (by decide +kernel)
set_option maxRecDepth 20000 in
theorem gX1_splitEdge_X1_newEdge : GoodIn wsX1_splitEdge (wsV RX1 62 RX1 yX1_newEdge wsX1_newEdge) := goodIn_app (goodIn_of _ (by decide +kernel)) ggX1_splitEdge_X1_newEdge
theorem dX1_splitEdge_0 : decode cX1_splitEdge 0 = .ok (.aload_n 0, 1) := by decide +kernel
theorem dX1_splitEdge_1 : decode cX1_splitEdge 1 = .ok (.invokevirtual 54, 3) := by decide +kernel
theorem dX1_splitEdge_4 : decode cX1_splitEdge 4 = .ok (.istore_n 3, 1) := by decide +kernel
theorem dX1_splitEdge_5 : decode cX1_splitEdge 5 = .ok (.iconst 0, 1) := by decide +kernel
theorem dX1_splitEdge_6 : decode cX1_splitEdge 6 = .ok (.istore 4, 2) := by decide +kernel
theorem dX1_splitEdge_8 : decode cX1_splitEdge 8 = .ok (.iload 4, 2) := by decide +kernel
theorem dX1_splitEdge_10 : decode cX1_splitEdge 10 = .ok (.aload_n 0, 1) := by decide +kernel
theorem dX1_splitEdge_11 : decode cX1_splitEdge 11 = .ok (.getfield 9, 3) := by decide +kernel
theorem dX1_splitEdge_14 : decode cX1_splitEdge 14 = .ok (.if_icmp .ge 27, 3) := by decide +kernel
theorem dX1_splitEdge_17 : decode cX1_splitEdge 17 = .ok (.iload_n 2, 1) := by decide +kernel
theorem dX1_splitEdge_18 : decode cX1_splitEdge 18 = .ok (.iload 4, 2) := by decide +kernel
theorem dX1_splitEdge_20 : decode cX1_splitEdge 20 = .ok (.ishr, 1) := by decide +kernel
theorem dX1_splitEdge_21 : decode cX1_splitEdge 21 = .ok (.iconst 1, 1) := by decide +kernel
theorem dX1_splitEdge_22 : decode cX1_splitEdge 22 = .ok (.iand, 1) := by decide +kernel
theorem dX1_splitEdge_23 : decode cX1_splitEdge 23 = .ok (.ifCond .eq 12, 3) := by decide +kernel
theorem dX1_splitEdge_26 : decode cX1_splitEdge 26 = .ok (.aload_n 0, 1) := by decide +kernel
theorem dX1_splitEdge_27 : decode cX1_splitEdge 27 = .ok (.iload_n 3, 1) := by decide +kernel
theorem dX1_splitEdge_28 : decode cX1_splitEdge 28 = .ok (.iconst 0, 1) := by decide +kernel
theorem dX1_splitEdge_29 : decode cX1_splitEdge 29 = .ok (.iload 4, 2) := by decide +kernel
theorem dX1_splitEdge_31 : decode cX1_splitEdge 31 = .ok (.invokevirtual 58, 3) := by decide +kernel
theorem dX1_splitEdge_34 : decode cX1_splitEdge 34 = .ok (.pop, 1) := by decide +kernel
theorem dX1_splitEdge_35 : decode cX1_splitEdge 35 = .ok (.iinc 4 1, 3) := by decide +kernel
theorem dX1_splitEdge_38 : decode cX1_splitEdge 38 = .ok (.goto (-30), 3) := by decide +kernel
theorem dX1_splitEdge_41 : decode cX1_splitEdge 41 = .ok (.aload_n 0, 1) := by decide +kernel
theorem dX1_splitEdge_42 : decode cX1_splitEdge 42 = .ok (.getfield 37, 3) := by decide +kernel
theorem dX1_splitEdge_45 : decode cX1_splitEdge 45 = .ok (.iload_n 1, 1) := by decide +kernel
theorem dX1_splitEdge_46 : decode cX1_splitEdge 46 = .ok (.iaload, 1) := by decide +kernel
theorem dX1_splitEdge_47 : decode cX1_splitEdge 47 = .ok (.istore 4, 2) := by decide +kernel
theorem dX1_splitEdge_49 : decode cX1_splitEdge 49 = .ok (.aload_n 0, 1) := by decide +kernel
theorem dX1_splitEdge_50 : decode cX1_splitEdge 50 = .ok (.getfield 37, 3) := by decide +kernel
theorem dX1_splitEdge_53 : decode cX1_splitEdge 53 = .ok (.iload_n 1, 1) := by decide +kernel
theorem dX1_splitEdge_54 : decode cX1_splitEdge 54 = .ok (.iload_n 3, 1) := by decide +kernel
theorem dX1_splitEdge_55 : decode cX1_splitEdge 55 = .ok (.iastore, 1) := by decide +kernel
theorem dX1_splitEdge_56 : decode cX1_splitEdge 56 = .ok (.aload_n 0, 1) := by decide +kernel
theorem dX1_splitEdge_57 : decode cX1_splitEdge 57 = .ok (.iload_n 3, 1) := by decide +kernel
theorem dX1_splitEdge_58 : decode cX1_splitEdge 58 = .ok (.iload 4, 2) := by decide +kernel
theorem dX1_splitEdge_60 : decode cX1_splitEdge 60 = .ok (.invokevirtual 62, 3) := by decide +kernel
theorem dX1_splitEdge_63 : decode cX1_splitEdge 63 = .ok (.pop, 1) := by decide +kernel
theorem dX1_splitEdge_64 : decode cX1_splitEdge 64 = .ok (.return_, 1) := by decide +kernel
set_option maxRecDepth 20000 in
theorem ggX1_addToChecksum_X1_codeAt : GoodIn wsX1_addToChecksum wsX1_codeAt := goodIn_r _ [11, 12, 19, 20, 21, 22, 23, 24, 25, 26, 27, 28, 29, 30] (by decide +kernel) (by decide +kernel)
set_option maxRecDepth 20000 in
theorem gX1_addToChecksum_X1_codeAt : GoodIn wsX1_addToChecksum (wsV RX1 50 RX1 yX1_codeAt wsX1_codeAt) := goodIn_app (goodIn_of _ (by decide +kernel)) ggX1_addToChecksum_X1_codeAt
set_option maxRecDepth 20000 in
theorem ggX1_addToChecksum_X1_endsOf : GoodIn wsX1_addToChecksum wsX1_endsOf := goodIn_r _ [16, 17, 18, 19, 20, 21, 22, 23, 24, 25, 26, 27, 28, 29, 30] (by decide +kernel) (by decide +kernel)
set_option maxRecDepth 20000 in
theorem gX1_addToChecksum_X1_endsOf : GoodIn wsX1_addToChecksum (wsV RX1 67 RX1 yX1_endsOf wsX1_endsOf) := goodIn_app (goodIn_of _ (by decide +kernel)) ggX1_addToChecksum_X1_endsOf
theorem dX1_addToChecksum_0 : decode cX1_addToChecksum 0 = .ok (.lload_n 1, 1) := by decide +kernel
theorem dX1_addToChecksum_1 : decode cX1_addToChecksum 1 = .ok (.ldc2_w 65, 3) := by decide +kernel
theorem dX1_addToChecksum_4 : decode cX1_addToChecksum 4 = .ok (.lmul, 1) := by decide +kernel
theorem dX1_addToChecksum_5 : decode cX1_addToChecksum 5 = .ok (.aload_n 0, 1) := by decide +kernel
theorem dX1_addToChecksum_6 : decode cX1_addToChecksum 6 = .ok (.getfield 9, 3) := by decide +kernel
theorem dX1_addToChecksum_9 : decode cX1_addToChecksum 9 = .ok (.i2l, 1) := by decide +kernel
theorem dX1_addToChecksum_10 : decode cX1_addToChecksum 10 = .ok (.ladd, 1) := by decide +kernel
theorem dX1_addToChecksum_11 : decode cX1_addToChecksum 11 = .ok (.lstore_n 3, 1) := by decide +kernel
theorem dX1_addToChecksum_12 : decode cX1_addToChecksum 12 = .ok (.iconst 0, 1) := by decide +kernel
theorem dX1_addToChecksum_13 : decode cX1_addToChecksum 13 = .ok (.istore 5, 2) := by decide +kernel
theorem dX1_addToChecksum_15 : decode cX1_addToChecksum 15 = .ok (.iload 5, 2) := by decide +kernel
theorem dX1_addToChecksum_17 : decode cX1_addToChecksum 17 = .ok (.aload_n 0, 1) := by decide +kernel
theorem dX1_addToChecksum_18 : decode cX1_addToChecksum 18 = .ok (.getfield 9, 3) := by decide +kernel
theorem dX1_addToChecksum_21 : decode cX1_addToChecksum 21 = .ok (.if_icmp .ge 24, 3) := by decide +kernel
theorem dX1_addToChecksum_24 : decode cX1_addToChecksum 24 = .ok (.lload_n 3, 1) := by decide +kernel
theorem dX1_addToChecksum_25 : decode cX1_addToChecksum 25 = .ok (.ldc2_w 65, 3) := by decide +kernel
theorem dX1_addToChecksum_28 : decode cX1_addToChecksum 28 = .ok (.lmul, 1) := by decide +kernel
theorem dX1_addToChecksum_29 : decode cX1_addToChecksum 29 = .ok (.aload_n 0, 1) := by decide +kernel
theorem dX1_addToChecksum_30 : decode cX1_addToChecksum 30 = .ok (.getfield 15, 3) := by decide +kernel
theorem dX1_addToChecksum_33 : decode cX1_addToChecksum 33 = .ok (.iload 5, 2) := by decide +kernel
theorem dX1_addToChecksum_35 : decode cX1_addToChecksum 35 = .ok (.iaload, 1) := by decide +kernel
theorem dX1_addToChecksum_36 : decode cX1_addToChecksum 36 = .ok (.i2l, 1) := by decide +kernel
theorem dX1_addToChecksum_37 : decode cX1_addToChecksum 37 = .ok (.ladd, 1) := by decide +kernel
theorem dX1_addToChecksum_38 : decode cX1_addToChecksum 38 = .ok (.lstore_n 3, 1) := by decide +kernel
theorem dX1_addToChecksum_39 : decode cX1_addToChecksum 39 = .ok (.iinc 5 1, 3) := by decide +kernel
theorem dX1_addToChecksum_42 : decode cX1_addToChecksum 42 = .ok (.goto (-27), 3) := by decide +kernel
theorem dX1_addToChecksum_45 : decode cX1_addToChecksum 45 = .ok (.lload_n 3, 1) := by decide +kernel
theorem dX1_addToChecksum_46 : decode cX1_addToChecksum 46 = .ok (.ldc2_w 65, 3) := by decide +kernel
theorem dX1_addToChecksum_49 : decode cX1_addToChecksum 49 = .ok (.lmul, 1) := by decide +kernel
theorem dX1_addToChecksum_50 : decode cX1_addToChecksum 50 = .ok (.aload_n 0, 1) := by decide +kernel
theorem dX1_addToChecksum_51 : decode cX1_addToChecksum 51 = .ok (.getfield 22, 3) := by decide +kernel
theorem dX1_addToChecksum_54 : decode cX1_addToChecksum 54 = .ok (.i2l, 1) := by decide +kernel
theorem dX1_addToChecksum_55 : decode cX1_addToChecksum 55 = .ok (.ladd, 1) := by decide +kernel
theorem dX1_addToChecksum_56 : decode cX1_addToChecksum 56 = .ok (.lstore_n 3, 1) := by decide +kernel
theorem dX1_addToChecksum_57 : decode cX1_addToChecksum 57 = .ok (.iconst 0, 1) := by decide +kernel
theorem dX1_addToChecksum_58 : decode cX1_addToChecksum 58 = .ok (.istore 5, 2) := by decide +kernel
theorem dX1_addToChecksum_60 : decode cX1_addToChecksum 60 = .ok (.iload 5, 2) := by decide +kernel
theorem dX1_addToChecksum_62 : decode cX1_addToChecksum 62 = .ok (.aload_n 0, 1) := by decide +kernel
theorem dX1_addToChecksum_63 : decode cX1_addToChecksum 63 = .ok (.getfield 22, 3) := by decide +kernel
theorem dX1_addToChecksum_66 : decode cX1_addToChecksum 66 = .ok (.if_icmp .ge 61, 3) := by decide +kernel
theorem dX1_addToChecksum_69 : decode cX1_addToChecksum 69 = .ok (.lload_n 3, 1) := by decide +kernel
theorem dX1_addToChecksum_70 : decode cX1_addToChecksum 70 = .ok (.ldc2_w 65, 3) := by decide +kernel
theorem dX1_addToChecksum_73 : decode cX1_addToChecksum 73 = .ok (.lmul, 1) := by decide +kernel
theorem dX1_addToChecksum_74 : decode cX1_addToChecksum 74 = .ok (.aload_n 0, 1) := by decide +kernel
theorem dX1_addToChecksum_75 : decode cX1_addToChecksum 75 = .ok (.getfield 25, 3) := by decide +kernel
theorem dX1_addToChecksum_78 : decode cX1_addToChecksum 78 = .ok (.iload 5, 2) := by decide +kernel
theorem dX1_addToChecksum_80 : decode cX1_addToChecksum 80 = .ok (.iaload, 1) := by decide +kernel
theorem dX1_addToChecksum_81 : decode cX1_addToChecksum 81 = .ok (.i2l, 1) := by decide +kernel
theorem dX1_addToChecksum_82 : decode cX1_addToChecksum 82 = .ok (.ladd, 1) := by decide +kernel
theorem dX1_addToChecksum_83 : decode cX1_addToChecksum 83 = .ok (.lstore_n 3, 1) := by decide +kernel
theorem dX1_addToChecksum_84 : decode cX1_addToChecksum 84 = .ok (.iconst 0, 1) := by decide +kernel
theorem dX1_addToChecksum_85 : decode cX1_addToChecksum 85 = .ok (.istore 6, 2) := by decide +kernel
theorem dX1_addToChecksum_87 : decode cX1_addToChecksum 87 = .ok (.iload 6, 2) := by decide +kernel
theorem dX1_addToChecksum_89 : decode cX1_addToChecksum 89 = .ok (.aload_n 0, 1) := by decide +kernel
theorem dX1_addToChecksum_90 : decode cX1_addToChecksum 90 = .ok (.getfield 25, 3) := by decide +kernel
theorem dX1_addToChecksum_93 : decode cX1_addToChecksum 93 = .ok (.iload 5, 2) := by decide +kernel
theorem dX1_addToChecksum_95 : decode cX1_addToChecksum 95 = .ok (.iaload, 1) := by decide +kernel
theorem dX1_addToChecksum_96 : decode cX1_addToChecksum 96 = .ok (.if_icmp .ge 25, 3) := by decide +kernel
theorem dX1_addToChecksum_99 : decode cX1_addToChecksum 99 = .ok (.lload_n 3, 1) := by decide +kernel
theorem dX1_addToChecksum_100 : decode cX1_addToChecksum 100 = .ok (.ldc2_w 65, 3) := by decide +kernel
theorem dX1_addToChecksum_103 : decode cX1_addToChecksum 103 = .ok (.lmul, 1) := by decide +kernel
theorem dX1_addToChecksum_104 : decode cX1_addToChecksum 104 = .ok (.aload_n 0, 1) := by decide +kernel
theorem dX1_addToChecksum_105 : decode cX1_addToChecksum 105 = .ok (.iload 5, 2) := by decide +kernel
theorem dX1_addToChecksum_107 : decode cX1_addToChecksum 107 = .ok (.iload 6, 2) := by decide +kernel
theorem dX1_addToChecksum_109 : decode cX1_addToChecksum 109 = .ok (.invokevirtual 50, 3) := by decide +kernel
theorem dX1_addToChecksum_112 : decode cX1_addToChecksum 112 = .ok (.i2l, 1) := by decide +kernel
theorem dX1_addToChecksum_113 : decode cX1_addToChecksum 113 = .ok (.ladd, 1) := by decide +kernel
theorem dX1_addToChecksum_114 : decode cX1_addToChecksum 114 = .ok (.lstore_n 3, 1) := by decide +kernel
theorem dX1_addToChecksum_115 : decode cX1_addToChecksum 115 = .ok (.iinc 6 1, 3) := by decide +kernel
theorem dX1_addToChecksum_118 : decode cX1_addToChecksum 118 = .ok (.goto (-31), 3) := by decide +kernel
theorem dX1_addToChecksum_121 : decode cX1_addToChecksum 121 = .ok (.iinc 5 1, 3) := by decide +kernel
theorem dX1_addToChecksum_124 : decode cX1_addToChecksum 124 = .ok (.goto (-64), 3) := by decide +kernel
theorem dX1_addToChecksum_127 : decode cX1_addToChecksum 127 = .ok (.lload_n 3, 1) := by decide +kernel
theorem dX1_addToChecksum_128 : decode cX1_addToChecksum 128 = .ok (.ldc2_w 65, 3) := by decide +kernel
theorem dX1_addToChecksum_131 : decode cX1_addToChecksum 131 = .ok (.lmul, 1) := by decide +kernel
theorem dX1_addToChecksum_132 : decode cX1_addToChecksum 132 = .ok (.aload_n 0, 1) := by decide +kernel
theorem dX1_addToChecksum_133 : decode cX1_addToChecksum 133 = .ok (.getfield 31, 3) := by decide +kernel
theorem dX1_addToChecksum_136 : decode cX1_addToChecksum 136 = .ok (.i2l, 1) := by decide +kernel
theorem dX1_addToChecksum_137 : decode cX1_addToChecksum 137 = .ok (.ladd, 1) := by decide +kernel
theorem dX1_addToChecksum_138 : decode cX1_addToChecksum 138 = .ok (.lstore_n 3, 1) := by decide +kernel
theorem dX1_addToChecksum_139 : decode cX1_addToChecksum 139 = .ok (.iconst 0, 1) := by decide +kernel
theorem dX1_addToChecksum_140 : decode cX1_addToChecksum 140 = .ok (.istore 5, 2) := by decide +kernel
theorem dX1_addToChecksum_142 : decode cX1_addToChecksum 142 = .ok (.iload 5, 2) := by decide +kernel
theorem dX1_addToChecksum_144 : decode cX1_addToChecksum 144 = .ok (.aload_n 0, 1) := by decide +kernel
theorem dX1_addToChecksum_145 : decode cX1_addToChecksum 145 = .ok (.getfield 31, 3) := by decide +kernel
theorem dX1_addToChecksum_148 : decode cX1_addToChecksum 148 = .ok (.if_icmp .ge 23, 3) := by decide +kernel
theorem dX1_addToChecksum_151 : decode cX1_addToChecksum 151 = .ok (.lload_n 3, 1) := by decide +kernel
theorem dX1_addToChecksum_152 : decode cX1_addToChecksum 152 = .ok (.ldc2_w 65, 3) := by decide +kernel
theorem dX1_addToChecksum_155 : decode cX1_addToChecksum 155 = .ok (.lmul, 1) := by decide +kernel
theorem dX1_addToChecksum_156 : decode cX1_addToChecksum 156 = .ok (.aload_n 0, 1) := by decide +kernel
theorem dX1_addToChecksum_157 : decode cX1_addToChecksum 157 = .ok (.iload 5, 2) := by decide +kernel
theorem dX1_addToChecksum_159 : decode cX1_addToChecksum 159 = .ok (.invokevirtual 67, 3) := by decide +kernel
theorem dX1_addToChecksum_162 : decode cX1_addToChecksum 162 = .ok (.i2l, 1) := by decide +kernel
theorem dX1_addToChecksum_163 : decode cX1_addToChecksum 163 = .ok (.ladd, 1) := by decide +kernel
theorem dX1_addToChecksum_164 : decode cX1_addToChecksum 164 = .ok (.lstore_n 3, 1) := by decide +kernel
theorem dX1_addToChecksum_165 : decode cX1_addToChecksum 165 = .ok (.iinc 5 1, 3) := by decide +kernel
theorem dX1_addToChecksum_168 : decode cX1_addToChecksum 168 = .ok (.goto (-26), 3) := by decide +kernel
theorem dX1_addToChecksum_171 : decode cX1_addToChecksum 171 = .ok (.lload_n 3, 1) := by decide +kernel
theorem dX1_addToChecksum_172 : decode cX1_addToChecksum 172 = .ok (.lreturn, 1) := by decide +kernel
theorem dX2_init_0 : decode cX2_init 0 = .ok (.aload_n 0, 1) := by decide +kernel
theorem dX2_init_1 : decode cX2_init 1 = .ok (.invokespecial 3, 3) := by decide +kernel
theorem dX2_init_4 : decode cX2_init 4 = .ok (.aload_n 0, 1) := by decide +kernel
theorem dX2_init_5 : decode cX2_init 5 = .ok (.bipush 40, 2) := by decide +kernel
theorem dX2_init_7 : decode cX2_init 7 = .ok (.newarray .int, 2) := by decide +kernel
theorem dX2_init_9 : decode cX2_init 9 = .ok (.putfield 9, 3) := by decide +kernel
theorem dX2_init_12 : decode cX2_init 12 = .ok (.aload_n 0, 1) := by decide +kernel
theorem dX2_init_13 : decode cX2_init 13 = .ok (.bipush 40, 2) := by decide +kernel
theorem dX2_init_15 : decode cX2_init 15 = .ok (.newarray .int, 2) := by decide +kernel
theorem dX2_init_17 : decode cX2_init 17 = .ok (.putfield 15, 3) := by decide +kernel
theorem dX2_init_20 : decode cX2_init 20 = .ok (.aload_n 0, 1) := by decide +kernel
theorem dX2_init_21 : decode cX2_init 21 = .ok (.bipush 40, 2) := by decide +kernel
theorem dX2_init_23 : decode cX2_init 23 = .ok (.newarray .int, 2) := by decide +kernel
theorem dX2_init_25 : decode cX2_init 25 = .ok (.putfield 18, 3) := by decide +kernel
theorem dX2_init_28 : decode cX2_init 28 = .ok (.aload_n 0, 1) := by decide +kernel
theorem dX2_init_29 : decode cX2_init 29 = .ok (.bipush 40, 2) := by decide +kernel
theorem dX2_init_31 : decode cX2_init 31 = .ok (.newarray .int, 2) := by decide +kernel
theorem dX2_init_33 : decode cX2_init 33 = .ok (.putfield 21, 3) := by decide +kernel
theorem dX2_init_36 : decode cX2_init 36 = .ok (.aload_n 0, 1) := by decide +kernel
theorem dX2_init_37 : decode cX2_init 37 = .ok (.bipush 40, 2) := by decide +kernel
theorem dX2_init_39 : decode cX2_init 39 = .ok (.newarray .int, 2) := by decide +kernel
theorem dX2_init_41 : decode cX2_init 41 = .ok (.putfield 24, 3) := by decide +kernel
theorem dX2_init_44 : decode cX2_init 44 = .ok (.aload_n 0, 1) := by decide +kernel
theorem dX2_init_45 : decode cX2_init 45 = .ok (.bipush 40, 2) := by decide +kernel
theorem dX2_init_47 : decode cX2_init 47 = .ok (.newarray .int, 2) := by decide +kernel
theorem dX2_init_49 : decode cX2_init 49 = .ok (.putfield 27, 3) := by decide +kernel
theorem dX2_init_52 : decode cX2_init 52 = .ok (.aload_n 0, 1) := by decide +kernel
theorem dX2_init_53 : decode cX2_init 53 = .ok (.bipush 40, 2) := by decide +kernel
theorem dX2_init_55 : decode cX2_init 55 = .ok (.newarray .int, 2) := by decide +kernel
theorem dX2_init_57 : decode cX2_init 57 = .ok (.putfield 30, 3) := by decide +kernel
theorem dX2_init_60 : decode cX2_init 60 = .ok (.aload_n 0, 1) := by decide +kernel
theorem dX2_init_61 : decode cX2_init 61 = .ok (.bipush 40, 2) := by decide +kernel
theorem dX2_init_63 : decode cX2_init 63 = .ok (.newarray .int, 2) := by decide +kernel
theorem dX2_init_65 : decode cX2_init 65 = .ok (.putfield 33, 3) := by decide +kernel
theorem dX2_init_68 : decode cX2_init 68 = .ok (.aload_n 0, 1) := by decide +kernel
theorem dX2_init_69 : decode cX2_init 69 = .ok (.bipush 40, 2) := by decide +kernel
theorem dX2_init_71 : decode cX2_init 71 = .ok (.newarray .int, 2) := by decide +kernel
theorem dX2_init_73 : decode cX2_init 73 = .ok (.putfield 36, 3) := by decide +kernel
theorem dX2_init_76 : decode cX2_init 76 = .ok (.aload_n 0, 1) := by decide +kernel
theorem dX2_init_77 : decode cX2_init 77 = .ok (.bipush 80, 2) := by decide +kernel
theorem dX2_init_79 : decode cX2_init 79 = .ok (.newarray .int, 2) := by decide +kernel
theorem dX2_init_81 : decode cX2_init 81 = .ok (.putfield 39, 3) := by decide +kernel
theorem dX2_init_84 : decode cX2_init 84 = .ok (.aload_n 0, 1) := by decide +kernel
theorem dX2_init_85 : decode cX2_init 85 = .ok (.bipush 80, 2) := by decide +kernel
theorem dX2_init_87 : decode cX2_init 87 = .ok (.newarray .int, 2) := by decide +kernel
theorem dX2_init_89 : decode cX2_init 89 = .ok (.putfield 42, 3) := by decide +kernel
theorem dX2_init_92 : decode cX2_init 92 = .ok (.aload_n 0, 1) := by decide +kernel
theorem dX2_init_93 : decode cX2_init 93 = .ok (.bipush 80, 2) := by decide +kernel
theorem dX2_init_95 : decode cX2_init 95 = .ok (.newarray .int, 2) := by decide +kernel
theorem dX2_init_97 : decode cX2_init 97 = .ok (.putfield 45, 3) := by decide +kernel
theorem dX2_init_100 : decode cX2_init 100 = .ok (.aload_n 0, 1) := by decide +kernel
theorem dX2_init_101 : decode cX2_init 101 = .ok (.aload_n 1, 1) := by decide +kernel
theorem dX2_init_102 : decode cX2_init 102 = .ok (.putfield 48, 3) := by decide +kernel
theorem dX2_init_105 : decode cX2_init 105 = .ok (.return_, 1) := by decide +kernel
set_option maxRecDepth 20000 in
theorem ggX2_bringUpToDate_X2_findSetsOfBlock : GoodIn wsX2_bringUpToDate wsX2_findSetsOfBlock := goodIn_r _ [8, 1, 9, 10, 11, 12, 13, 14, 15, 16, 17, 18, 19, 20, 21, 22, 23, 24, 86, 87, 88, 89, 90, 91, 92, 93, 94, 95, 96, 97, 98, 99, 100, 101, 102, 103, 104, 105, 106, 107, 108, 109, 110] (by decide +kernel) (by decide +kernel)
set_option maxRecDepth 20000 in
theorem gX2_bringUpToDate_X2_findSetsOfBlock : GoodIn wsX2_bringUpToDate (wsV RX2 62 RX2 yX2_findSetsOfBlock wsX2_findSetsOfBlock) := goodIn_app (goodIn_of _ (by decide +kernel)) ggX2_bringUpToDate_X2_findSetsOfBlock
set_option maxRecDepth 20000 in
theorem ggX2_bringUpToDate_X2_findNeeded : GoodIn wsX2_bringUpToDate wsX2_findNeeded := goodIn_r _ [28, 1, 3, 29, 20, 21, 22, 17, 23, 24, 30, 31, 32, 7, 33, 34, 35, 12, 11, 36, 37, 38, 39, 40, 41, 42, 86, 87, 88, 89, 90, 91, 92, 93, 94, 95, 96, 97, 98, 99, 100, 101, 102, 103, 104, 105, 106, 107, 108, 109, 110] (by decide +kernel) (by decide +kernel)
set_option maxRecDepth 20000 in
theorem gX2_bringUpToDate_X2_findNeeded : GoodIn wsX2_bringUpToDate (wsV RX2 66 RX2 yX2_findNeeded wsX2_findNeeded) := goodIn_app (goodIn_of _ (by decide +kernel)) ggX2_bringUpToDate_X2_findNeeded
set_option maxRecDepth 20000 in
theorem ggX2_bringUpToDate_X2_findThere : GoodIn wsX2_bringUpToDate wsX2_findThere := goodIn_r _ [46, 47, 1, 3, 48, 49, 50, 7, 51, 40, 42, 20, 21, 22, 17, 23, 24, 52, 53, 54, 55, 56, 13, 11, 57, 58, 59, 60, 41, 86, 87, 88, 89, 90, 91, 92, 93, 94, 95, 96, 97, 98, 99, 100, 101, 102, 103, 104, 105, 106, 107, 108, 109, 110] (by decide +kernel) (by decide +kernel)
set_option maxRecDepth 20000 in
theorem gX2_bringUpToDate_X2_findThere : GoodIn wsX2_bringUpToDate (wsV RX2 69 RX2 yX2_findThere wsX2_findThere) := goodIn_app (goodIn_of _ (by decide +kernel)) ggX2_bringUpToDate_X2_findThere
set_option maxRecDepth 20000 in
theorem ggX2_bringUpToDate_X2_findEarliest : GoodIn wsX2_bringUpToDate wsX2_findEarliest := goodIn_r _ [64, 1, 40, 41, 35, 42, 56, 65, 11, 34, 86, 87, 88, 89, 90, 91, 92, 93, 94, 95, 96, 97, 98, 99, 100, 101, 102, 103, 104, 105, 106, 107, 108, 109, 110] (by decide +kernel) (by decide +kernel)
set_option maxRecDepth 20000 in
theorem gX2_bringUpToDate_X2_findEarliest : GoodIn wsX2_bringUpToDate (wsV RX2 72 RX2 yX2_findEarliest wsX2_findEarliest) := goodIn_app (goodIn_of _ (by decide +kernel)) ggX2_bringUpToDate_X2_findEarliest
set_option maxRecDepth 20000 in
theorem ggX2_bringUpToDate_X2_findDelayed : GoodIn wsX2_bringUpToDate wsX2_findDelayed := goodIn_r _ [69, 70, 35, 1, 40, 71, 48, 49, 50, 7, 51, 3, 42, 20, 21, 22, 17, 23, 24, 72, 73, 74, 75, 76, 77, 78, 79, 41, 65, 12, 86, 87, 88, 89, 90, 91, 92, 93, 94, 95, 96, 97, 98, 99, 100, 101, 102, 103, 104, 105, 106, 107, 108, 109, 110] (by decide +kernel) (by decide +kernel)
set_option maxRecDepth 20000 in
theorem gX2_bringUpToDate_X2_findDelayed : GoodIn wsX2_bringUpToDate (wsV RX2 75 RX2 yX2_findDelayed wsX2_findDelayed) := goodIn_app (goodIn_of _ (by decide +kernel)) ggX2_bringUpToDate_X2_findDelayed
set_option maxRecDepth 20000 in
theorem ggX2_bringUpToDate_X2_findInsertionsAndDeletions : GoodIn wsX2_bringUpToDate wsX2_findInsertionsAndDeletions := goodIn_r _ [83, 1, 40, 84, 71, 70, 42, 3, 85, 12, 86, 87, 88, 89, 90, 91, 92, 93, 94, 95, 96, 97, 98, 99, 100, 101, 102, 103, 104, 105, 106, 107, 108, 109, 110] (by decide +kernel) (by decide +kernel)
set_option maxRecDepth 20000 in
theorem gX2_bringUpToDate_X2_findInsertionsAndDeletions : GoodIn wsX2_bringUpToDate (wsV RX2 78 RX2 yX2_findInsertionsAndDeletions wsX2_findInsertionsAndDeletions) := goodIn_app (goodIn_of _ (by decide +kernel)) ggX2_bringUpToDate_X2_findInsertionsAndDeletions
theorem dX2_bringUpToDate_0 : decode cX2_bringUpToDate 0 = .ok (.aload_n 0, 1) := by decide +kernel
theorem dX2_bringUpToDate_1 : decode cX2_bringUpToDate 1 = .ok (.getfield 48, 3) := by decide +kernel
theorem dX2_bringUpToDate_4 : decode cX2_bringUpToDate 4 = .ok (.getfield 52, 3) := by decide +kernel
theorem dX2_bringUpToDate_7 : decode cX2_bringUpToDate 7 = .ok (.ifCond .ne 4, 3) := by decide +kernel
theorem dX2_bringUpToDate_10 : decode cX2_bringUpToDate 10 = .ok (.return_, 1) := by decide +kernel
theorem dX2_bringUpToDate_11 : decode cX2_bringUpToDate 11 = .ok (.iconst 0, 1) := by decide +kernel
theorem dX2_bringUpToDate_12 : decode cX2_bringUpToDate 12 = .ok (.istore_n 1, 1) := by decide +kernel
theorem dX2_bringUpToDate_13 : decode cX2_bringUpToDate 13 = .ok (.iload_n 1, 1) := by decide +kernel
theorem dX2_bringUpToDate_14 : decode cX2_bringUpToDate 14 = .ok (.aload_n 0, 1) := by decide +kernel
theorem dX2_bringUpToDate_15 : decode cX2_bringUpToDate 15 = .ok (.getfield 48, 3) := by decide +kernel
theorem dX2_bringUpToDate_18 : decode cX2_bringUpToDate 18 = .ok (.getfield 58, 3) := by decide +kernel
theorem dX2_bringUpToDate_21 : decode cX2_bringUpToDate 21 = .ok (.if_icmp .ge 14, 3) := by decide +kernel
theorem dX2_bringUpToDate_24 : decode cX2_bringUpToDate 24 = .ok (.aload_n 0, 1) := by decide +kernel
theorem dX2_bringUpToDate_25 : decode cX2_bringUpToDate 25 = .ok (.iload_n 1, 1) := by decide +kernel
theorem dX2_bringUpToDate_26 : decode cX2_bringUpToDate 26 = .ok (.invokevirtual 62, 3) := by decide +kernel
theorem dX2_bringUpToDate_29 : decode cX2_bringUpToDate 29 = .ok (.iinc 1 1, 3) := by decide +kernel
theorem dX2_bringUpToDate_32 : decode cX2_bringUpToDate 32 = .ok (.goto (-19), 3) := by decide +kernel
theorem dX2_bringUpToDate_35 : decode cX2_bringUpToDate 35 = .ok (.aload_n 0, 1) := by decide +kernel
theorem dX2_bringUpToDate_36 : decode cX2_bringUpToDate 36 = .ok (.invokevirtual 66, 3) := by decide +kernel
theorem dX2_bringUpToDate_39 : decode cX2_bringUpToDate 39 = .ok (.aload_n 0, 1) := by decide +kernel
theorem dX2_bringUpToDate_40 : decode cX2_bringUpToDate 40 = .ok (.invokevirtual 69, 3) := by decide +kernel
theorem dX2_bringUpToDate_43 : decode cX2_bringUpToDate 43 = .ok (.aload_n 0, 1) := by decide +kernel
theorem dX2_bringUpToDate_44 : decode cX2_bringUpToDate 44 = .ok (.invokevirtual 72, 3) := by decide +kernel
theorem dX2_bringUpToDate_47 : decode cX2_bringUpToDate 47 = .ok (.aload_n 0, 1) := by decide +kernel
theorem dX2_bringUpToDate_48 : decode cX2_bringUpToDate 48 = .ok (.invokevirtual 75, 3) := by decide +kernel
theorem dX2_bringUpToDate_51 : decode cX2_bringUpToDate 51 = .ok (.aload_n 0, 1) := by decide +kernel
theorem dX2_bringUpToDate_52 : decode cX2_bringUpToDate 52 = .ok (.invokevirtual 78, 3) := by decide +kernel
theorem dX2_bringUpToDate_55 : decode cX2_bringUpToDate 55 = .ok (.aload_n 0, 1) := by decide +kernel
theorem dX2_bringUpToDate_56 : decode cX2_bringUpToDate 56 = .ok (.getfield 48, 3) := by decide +kernel
theorem dX2_bringUpToDate_59 : decode cX2_bringUpToDate 59 = .ok (.iconst 0, 1) := by decide +kernel
theorem dX2_bringUpToDate_60 : decode cX2_bringUpToDate 60 = .ok (.putfield 52, 3) := by decide +kernel
theorem dX2_bringUpToDate_63 : decode cX2_bringUpToDate 63 = .ok (.return_, 1) := by decide +kernel
theorem dX2_countEdgesWithInsertions_0 : decode cX2_countEdgesWithInsertions 0 = .ok (.iconst 0, 1) := by decide +kernel
theorem dX2_countEdgesWithInsertions_1 : decode cX2_countEdgesWithInsertions 1 = .ok (.istore_n 1, 1) := by decide +kernel
theorem dX2_countEdgesWithInsertions_2 : decode cX2_countEdgesWithInsertions 2 = .ok (.iconst 0, 1) := by decide +kernel
theorem dX2_countEdgesWithInsertions_3 : decode cX2_countEdgesWithInsertions 3 = .ok (.istore_n 2, 1) := by decide +kernel
theorem dX2_countEdgesWithInsertions_4 : decode cX2_countEdgesWithInsertions 4 = .ok (.iload_n 2, 1) := by decide +kernel
theorem dX2_countEdgesWithInsertions_5 : decode cX2_countEdgesWithInsertions 5 = .ok (.aload_n 0, 1) := by decide +kernel
theorem dX2_countEdgesWithInsertions_6 : decode cX2_countEdgesWithInsertions 6 = .ok (.getfield 48, 3) := by decide +kernel
theorem dX2_countEdgesWithInsertions_9 : decode cX2_countEdgesWithInsertions 9 = .ok (.getfield 81, 3) := by decide +kernel
theorem dX2_countEdgesWithInsertions_12 : decode cX2_countEdgesWithInsertions 12 = .ok (.if_icmp .ge 21, 3) := by decide +kernel
theorem dX2_countEdgesWithInsertions_15 : decode cX2_countEdgesWithInsertions 15 = .ok (.aload_n 0, 1) := by decide +kernel
theorem dX2_countEdgesWithInsertions_16 : decode cX2_countEdgesWithInsertions 16 = .ok (.getfield 45, 3) := by decide +kernel
theorem dX2_countEdgesWithInsertions_19 : decode cX2_countEdgesWithInsertions 19 = .ok (.iload_n 2, 1) := by decide +kernel
theorem dX2_countEdgesWithInsertions_20 : decode cX2_countEdgesWithInsertions 20 = .ok (.iaload, 1) := by decide +kernel
theorem dX2_countEdgesWithInsertions_21 : decode cX2_countEdgesWithInsertions 21 = .ok (.ifCond .eq 6, 3) := by decide +kernel
theorem dX2_countEdgesWithInsertions_24 : decode cX2_countEdgesWithInsertions 24 = .ok (.iinc 1 1, 3) := by decide +kernel
theorem dX2_countEdgesWithInsertions_27 : decode cX2_countEdgesWithInsertions 27 = .ok (.iinc 2 1, 3) := by decide +kernel
theorem dX2_countEdgesWithInsertions_30 : decode cX2_countEdgesWithInsertions 30 = .ok (.goto (-26), 3) := by decide +kernel
theorem dX2_countEdgesWithInsertions_33 : decode cX2_countEdgesWithInsertions 33 = .ok (.iload_n 1, 1) := by decide +kernel
theorem dX2_countEdgesWithInsertions_34 : decode cX2_countEdgesWithInsertions 34 = .ok (.ireturn, 1) := by decide +kernel
set_option maxRecDepth 20000 in
theorem ggX2_findSetsOfBlock_X1_codeAt : GoodIn wsX2_findSetsOfBlock wsX1_codeAt := goodIn_r _ [11, 12, 31, 32, 33, 34, 35, 36, 37, 38, 39, 40, 41, 42] (by decide +kernel) (by decide +kernel)
set_option maxRecDepth 20000 in
theorem gX2_findSetsOfBlock_X1_codeAt : GoodIn wsX2_findSetsOfBlock (wsV RX2 87 RX1 yX1_codeAt wsX1_codeAt) := goodIn_app (goodIn_of _ (by decide +kernel)) ggX2_findSetsOfBlock_X1_codeAt
set_option maxRecDepth 20000 in
theorem ggX2_findSetsOfBlock_X1_allExpressions : GoodIn wsX2_findSetsOfBlock wsX1_allExpressions := goodIn_r _ [16, 17, 31, 32, 33, 34, 35, 36, 37, 38, 39, 40, 41, 42] (by decide +kernel) (by decide +kernel)
set_option maxRecDepth 20000 in
theorem gX2_findSetsOfBlock_X1_allExpressions : GoodIn wsX2_findSetsOfBlock (wsV RX2 94 RX1 yX1_allExpressions wsX1_allExpressions) := goodIn_app (goodIn_of _ (by decide +kernel)) ggX2_findSetsOfBlock_X1_allExpressions
theorem dX2_findSetsOfBlock_0 : decode cX2_findSetsOfBlock 0 = .ok (.iconst 0, 1) := by decide +kernel
theorem dX2_findSetsOfBlock_1 : decode cX2_findSetsOfBlock 1 = .ok (.istore_n 2, 1) := by decide +kernel
theorem dX2_findSetsOfBlock_2 : decode cX2_findSetsOfBlock 2 = .ok (.iconst 0, 1) := by decide +kernel
theorem dX2_findSetsOfBlock_3 : decode cX2_findSetsOfBlock 3 = .ok (.istore_n 3, 1) := by decide +kernel
theorem dX2_findSetsOfBlock_4 : decode cX2_findSetsOfBlock 4 = .ok (.iconst 0, 1) := by decide +kernel
theorem dX2_findSetsOfBlock_5 : decode cX2_findSetsOfBlock 5 = .ok (.istore 4, 2) := by decide +kernel
theorem dX2_findSetsOfBlock_7 : decode cX2_findSetsOfBlock 7 = .ok (.iconst 0, 1) := by decide +kernel
theorem dX2_findSetsOfBlock_8 : decode cX2_findSetsOfBlock 8 = .ok (.istore 5, 2) := by decide +kernel
theorem dX2_findSetsOfBlock_10 : decode cX2_findSetsOfBlock 10 = .ok (.iload 5, 2) := by decide +kernel
theorem dX2_findSetsOfBlock_12 : decode cX2_findSetsOfBlock 12 = .ok (.aload_n 0, 1) := by decide +kernel
theorem dX2_findSetsOfBlock_13 : decode cX2_findSetsOfBlock 13 = .ok (.getfield 48, 3) := by decide +kernel
theorem dX2_findSetsOfBlock_16 : decode cX2_findSetsOfBlock 16 = .ok (.getfield 84, 3) := by decide +kernel
theorem dX2_findSetsOfBlock_19 : decode cX2_findSetsOfBlock 19 = .ok (.iload_n 1, 1) := by decide +kernel
theorem dX2_findSetsOfBlock_20 : decode cX2_findSetsOfBlock 20 = .ok (.iaload, 1) := by decide +kernel
theorem dX2_findSetsOfBlock_21 : decode cX2_findSetsOfBlock 21 = .ok (.if_icmp .ge 97, 3) := by decide +kernel
theorem dX2_findSetsOfBlock_24 : decode cX2_findSetsOfBlock 24 = .ok (.aload_n 0, 1) := by decide +kernel
theorem dX2_findSetsOfBlock_25 : decode cX2_findSetsOfBlock 25 = .ok (.getfield 48, 3) := by decide +kernel
theorem dX2_findSetsOfBlock_28 : decode cX2_findSetsOfBlock 28 = .ok (.iload_n 1, 1) := by decide +kernel
theorem dX2_findSetsOfBlock_29 : decode cX2_findSetsOfBlock 29 = .ok (.iload 5, 2) := by decide +kernel
theorem dX2_findSetsOfBlock_31 : decode cX2_findSetsOfBlock 31 = .ok (.invokevirtual 87, 3) := by decide +kernel
theorem dX2_findSetsOfBlock_34 : decode cX2_findSetsOfBlock 34 = .ok (.istore 6, 2) := by decide +kernel
theorem dX2_findSetsOfBlock_36 : decode cX2_findSetsOfBlock 36 = .ok (.iload 6, 2) := by decide +kernel
theorem dX2_findSetsOfBlock_38 : decode cX2_findSetsOfBlock 38 = .ok (.iconst 3, 1) := by decide +kernel
theorem dX2_findSetsOfBlock_39 : decode cX2_findSetsOfBlock 39 = .ok (.idiv, 1) := by decide +kernel
theorem dX2_findSetsOfBlock_40 : decode cX2_findSetsOfBlock 40 = .ok (.istore 7, 2) := by decide +kernel
theorem dX2_findSetsOfBlock_42 : decode cX2_findSetsOfBlock 42 = .ok (.iload 6, 2) := by decide +kernel
theorem dX2_findSetsOfBlock_44 : decode cX2_findSetsOfBlock 44 = .ok (.iconst 3, 1) := by decide +kernel
theorem dX2_findSetsOfBlock_45 : decode cX2_findSetsOfBlock 45 = .ok (.irem, 1) := by decide +kernel
theorem dX2_findSetsOfBlock_46 : decode cX2_findSetsOfBlock 46 = .ok (.istore 8, 2) := by decide +kernel
theorem dX2_findSetsOfBlock_48 : decode cX2_findSetsOfBlock 48 = .ok (.iload 8, 2) := by decide +kernel
theorem dX2_findSetsOfBlock_50 : decode cX2_findSetsOfBlock 50 = .ok (.ifCond .ne 26, 3) := by decide +kernel
theorem dX2_findSetsOfBlock_53 : decode cX2_findSetsOfBlock 53 = .ok (.iload_n 3, 1) := by decide +kernel
theorem dX2_findSetsOfBlock_54 : decode cX2_findSetsOfBlock 54 = .ok (.iconst 1, 1) := by decide +kernel
theorem dX2_findSetsOfBlock_55 : decode cX2_findSetsOfBlock 55 = .ok (.iload 7, 2) := by decide +kernel
theorem dX2_findSetsOfBlock_57 : decode cX2_findSetsOfBlock 57 = .ok (.ishl, 1) := by decide +kernel
theorem dX2_findSetsOfBlock_58 : decode cX2_findSetsOfBlock 58 = .ok (.iload_n 2, 1) := by decide +kernel
theorem dX2_findSetsOfBlock_59 : decode cX2_findSetsOfBlock 59 = .ok (.iconst (-1), 1) := by decide +kernel
theorem dX2_findSetsOfBlock_60 : decode cX2_findSetsOfBlock 60 = .ok (.ixor, 1) := by decide +kernel
theorem dX2_findSetsOfBlock_61 : decode cX2_findSetsOfBlock 61 = .ok (.iand, 1) := by decide +kernel
theorem dX2_findSetsOfBlock_62 : decode cX2_findSetsOfBlock 62 = .ok (.ior, 1) := by decide +kernel
theorem dX2_findSetsOfBlock_63 : decode cX2_findSetsOfBlock 63 = .ok (.istore_n 3, 1) := by decide +kernel
theorem dX2_findSetsOfBlock_64 : decode cX2_findSetsOfBlock 64 = .ok (.iload 4, 2) := by decide +kernel
theorem dX2_findSetsOfBlock_66 : decode cX2_findSetsOfBlock 66 = .ok (.iconst 1, 1) := by decide +kernel
theorem dX2_findSetsOfBlock_67 : decode cX2_findSetsOfBlock 67 = .ok (.iload 7, 2) := by decide +kernel
theorem dX2_findSetsOfBlock_69 : decode cX2_findSetsOfBlock 69 = .ok (.ishl, 1) := by decide +kernel
theorem dX2_findSetsOfBlock_70 : decode cX2_findSetsOfBlock 70 = .ok (.ior, 1) := by decide +kernel
theorem dX2_findSetsOfBlock_71 : decode cX2_findSetsOfBlock 71 = .ok (.istore 4, 2) := by decide +kernel
theorem dX2_findSetsOfBlock_73 : decode cX2_findSetsOfBlock 73 = .ok (.goto 39, 3) := by decide +kernel
theorem dX2_findSetsOfBlock_76 : decode cX2_findSetsOfBlock 76 = .ok (.iload 8, 2) := by decide +kernel
theorem dX2_findSetsOfBlock_78 : decode cX2_findSetsOfBlock 78 = .ok (.iconst 2, 1) := by decide +kernel
theorem dX2_findSetsOfBlock_79 : decode cX2_findSetsOfBlock 79 = .ok (.if_icmp .ne 33, 3) := by decide +kernel
theorem dX2_findSetsOfBlock_82 : decode cX2_findSetsOfBlock 82 = .ok (.iload_n 2, 1) := by decide +kernel
theorem dX2_findSetsOfBlock_83 : decode cX2_findSetsOfBlock 83 = .ok (.aload_n 0, 1) := by decide +kernel
theorem dX2_findSetsOfBlock_84 : decode cX2_findSetsOfBlock 84 = .ok (.getfield 48, 3) := by decide +kernel
theorem dX2_findSetsOfBlock_87 : decode cX2_findSetsOfBlock 87 = .ok (.getfield 91, 3) := by decide +kernel
theorem dX2_findSetsOfBlock_90 : decode cX2_findSetsOfBlock 90 = .ok (.iload 7, 2) := by decide +kernel
theorem dX2_findSetsOfBlock_92 : decode cX2_findSetsOfBlock 92 = .ok (.iaload, 1) := by decide +kernel
theorem dX2_findSetsOfBlock_93 : decode cX2_findSetsOfBlock 93 = .ok (.ior, 1) := by decide +kernel
theorem dX2_findSetsOfBlock_94 : decode cX2_findSetsOfBlock 94 = .ok (.istore_n 2, 1) := by decide +kernel
theorem dX2_findSetsOfBlock_95 : decode cX2_findSetsOfBlock 95 = .ok (.iload 4, 2) := by decide +kernel
theorem dX2_findSetsOfBlock_97 : decode cX2_findSetsOfBlock 97 = .ok (.aload_n 0, 1) := by decide +kernel
theorem dX2_findSetsOfBlock_98 : decode cX2_findSetsOfBlock 98 = .ok (.getfield 48, 3) := by decide +kernel
theorem dX2_findSetsOfBlock_101 : decode cX2_findSetsOfBlock 101 = .ok (.getfield 91, 3) := by decide +kernel
theorem dX2_findSetsOfBlock_104 : decode cX2_findSetsOfBlock 104 = .ok (.iload 7, 2) := by decide +kernel
theorem dX2_findSetsOfBlock_106 : decode cX2_findSetsOfBlock 106 = .ok (.iaload, 1) := by decide +kernel
theorem dX2_findSetsOfBlock_107 : decode cX2_findSetsOfBlock 107 = .ok (.iconst (-1), 1) := by decide +kernel
theorem dX2_findSetsOfBlock_108 : decode cX2_findSetsOfBlock 108 = .ok (.ixor, 1) := by decide +kernel
theorem dX2_findSetsOfBlock_109 : decode cX2_findSetsOfBlock 109 = .ok (.iand, 1) := by decide +kernel
theorem dX2_findSetsOfBlock_110 : decode cX2_findSetsOfBlock 110 = .ok (.istore 4, 2) := by decide +kernel
theorem dX2_findSetsOfBlock_112 : decode cX2_findSetsOfBlock 112 = .ok (.iinc 5 1, 3) := by decide +kernel
theorem dX2_findSetsOfBlock_115 : decode cX2_findSetsOfBlock 115 = .ok (.goto (-105), 3) := by decide +kernel
theorem dX2_findSetsOfBlock_118 : decode cX2_findSetsOfBlock 118 = .ok (.aload_n 0, 1) := by decide +kernel
theorem dX2_findSetsOfBlock_119 : decode cX2_findSetsOfBlock 119 = .ok (.getfield 9, 3) := by decide +kernel
theorem dX2_findSetsOfBlock_122 : decode cX2_findSetsOfBlock 122 = .ok (.iload_n 1, 1) := by decide +kernel
theorem dX2_findSetsOfBlock_123 : decode cX2_findSetsOfBlock 123 = .ok (.aload_n 0, 1) := by decide +kernel
theorem dX2_findSetsOfBlock_124 : decode cX2_findSetsOfBlock 124 = .ok (.getfield 48, 3) := by decide +kernel
theorem dX2_findSetsOfBlock_127 : decode cX2_findSetsOfBlock 127 = .ok (.invokevirtual 94, 3) := by decide +kernel
theorem dX2_findSetsOfBlock_130 : decode cX2_findSetsOfBlock 130 = .ok (.iload_n 2, 1) := by decide +kernel
theorem dX2_findSetsOfBlock_131 : decode cX2_findSetsOfBlock 131 = .ok (.iconst (-1), 1) := by decide +kernel
theorem dX2_findSetsOfBlock_132 : decode cX2_findSetsOfBlock 132 = .ok (.ixor, 1) := by decide +kernel
theorem dX2_findSetsOfBlock_133 : decode cX2_findSetsOfBlock 133 = .ok (.iand, 1) := by decide +kernel
theorem dX2_findSetsOfBlock_134 : decode cX2_findSetsOfBlock 134 = .ok (.iastore, 1) := by decide +kernel
theorem dX2_findSetsOfBlock_135 : decode cX2_findSetsOfBlock 135 = .ok (.aload_n 0, 1) := by decide +kernel
theorem dX2_findSetsOfBlock_136 : decode cX2_findSetsOfBlock 136 = .ok (.getfield 15, 3) := by decide +kernel
theorem dX2_findSetsOfBlock_139 : decode cX2_findSetsOfBlock 139 = .ok (.iload_n 1, 1) := by decide +kernel
theorem dX2_findSetsOfBlock_140 : decode cX2_findSetsOfBlock 140 = .ok (.iload_n 3, 1) := by decide +kernel
theorem dX2_findSetsOfBlock_141 : decode cX2_findSetsOfBlock 141 = .ok (.iastore, 1) := by decide +kernel
theorem dX2_findSetsOfBlock_142 : decode cX2_findSetsOfBlock 142 = .ok (.aload_n 0, 1) := by decide +kernel
theorem dX2_findSetsOfBlock_143 : decode cX2_findSetsOfBlock 143 = .ok (.getfield 18, 3) := by decide +kernel
theorem dX2_findSetsOfBlock_146 : decode cX2_findSetsOfBlock 146 = .ok (.iload_n 1, 1) := by decide +kernel
theorem dX2_findSetsOfBlock_147 : decode cX2_findSetsOfBlock 147 = .ok (.iload 4, 2) := by decide +kernel
theorem dX2_findSetsOfBlock_149 : decode cX2_findSetsOfBlock 149 = .ok (.iastore, 1) := by decide +kernel
theorem dX2_findSetsOfBlock_150 : decode cX2_findSetsOfBlock 150 = .ok (.return_, 1) := by decide +kernel
set_option maxRecDepth 20000 in
theorem ggX2_findNeeded_X1_allExpressions : GoodIn wsX2_findNeeded wsX1_allExpressions := goodIn_r _ [8, 9, 39, 40, 41, 42, 43, 44, 45, 46, 47, 48, 49, 50] (by decide +kernel) (by decide +kernel)
set_option maxRecDepth 20000 in
theorem gX2_findNeeded_X1_allExpressions : GoodIn wsX2_findNeeded (wsV RX2 94 RX1 yX1_allExpressions wsX1_allExpressions) := goodIn_app (goodIn_of _ (by decide +kernel)) ggX2_findNeeded_X1_allExpressions
set_option maxRecDepth 20000 in
theorem ggX2_findNeeded_X2_setNeededAtEnd : GoodIn wsX2_findNeeded wsX2_setNeededAtEnd := goodIn_r _ [14, 15, 16, 17, 18, 26, 27, 28, 29, 30, 31, 32, 33, 34, 35, 36, 37, 38] (by decide +kernel) (by decide +kernel)
set_option maxRecDepth 20000 in
theorem gX2_findNeeded_X2_setNeededAtEnd : GoodIn wsX2_findNeeded (wsV RX2 101 RX2 yX2_setNeededAtEnd wsX2_setNeededAtEnd) := goodIn_app (goodIn_of _ (by decide +kernel)) ggX2_findNeeded_X2_setNeededAtEnd
set_option maxRecDepth 20000 in
theorem ggX2_findNeeded_X2_shrinkNeeded : GoodIn wsX2_findNeeded wsX2_shrinkNeeded := goodIn_r _ [22, 1, 23, 24, 15, 16, 25, 10, 11, 12, 13, 14, 17, 18, 26, 27, 28, 29, 30, 31, 32, 33, 34, 35, 36, 37, 38, 39, 40, 41, 42, 43, 44, 45, 46, 47, 48, 49, 50] (by decide +kernel) (by decide +kernel)
set_option maxRecDepth 20000 in
theorem gX2_findNeeded_X2_shrinkNeeded : GoodIn wsX2_findNeeded (wsV RX2 105 RX2 yX2_shrinkNeeded wsX2_shrinkNeeded) := goodIn_app (goodIn_of _ (by decide +kernel)) ggX2_findNeeded_X2_shrinkNeeded
theorem dX2_findNeeded_0 : decode cX2_findNeeded 0 = .ok (.iconst 0, 1) := by decide +kernel
theorem dX2_findNeeded_1 : decode cX2_findNeeded 1 = .ok (.istore_n 1, 1) := by decide +kernel
theorem dX2_findNeeded_2 : decode cX2_findNeeded 2 = .ok (.iload_n 1, 1) := by decide +kernel
theorem dX2_findNeeded_3 : decode cX2_findNeeded 3 = .ok (.aload_n 0, 1) := by decide +kernel
theorem dX2_findNeeded_4 : decode cX2_findNeeded 4 = .ok (.getfield 48, 3) := by decide +kernel
theorem dX2_findNeeded_7 : decode cX2_findNeeded 7 = .ok (.getfield 58, 3) := by decide +kernel
theorem dX2_findNeeded_10 : decode cX2_findNeeded 10 = .ok (.if_icmp .ge 48, 3) := by decide +kernel
theorem dX2_findNeeded_13 : decode cX2_findNeeded 13 = .ok (.aload_n 0, 1) := by decide +kernel
theorem dX2_findNeeded_14 : decode cX2_findNeeded 14 = .ok (.getfield 48, 3) := by decide +kernel
theorem dX2_findNeeded_17 : decode cX2_findNeeded 17 = .ok (.getfield 98, 3) := by decide +kernel
theorem dX2_findNeeded_20 : decode cX2_findNeeded 20 = .ok (.iload_n 1, 1) := by decide +kernel
theorem dX2_findNeeded_21 : decode cX2_findNeeded 21 = .ok (.iaload, 1) := by decide +kernel
theorem dX2_findNeeded_22 : decode cX2_findNeeded 22 = .ok (.iconst (-1), 1) := by decide +kernel
theorem dX2_findNeeded_23 : decode cX2_findNeeded 23 = .ok (.if_icmp .eq 7, 3) := by decide +kernel
theorem dX2_findNeeded_26 : decode cX2_findNeeded 26 = .ok (.iconst 1, 1) := by decide +kernel
theorem dX2_findNeeded_27 : decode cX2_findNeeded 27 = .ok (.goto 4, 3) := by decide +kernel
theorem dX2_findNeeded_30 : decode cX2_findNeeded 30 = .ok (.iconst 0, 1) := by decide +kernel
theorem dX2_findNeeded_31 : decode cX2_findNeeded 31 = .ok (.istore_n 2, 1) := by decide +kernel
theorem dX2_findNeeded_32 : decode cX2_findNeeded 32 = .ok (.aload_n 0, 1) := by decide +kernel
theorem dX2_findNeeded_33 : decode cX2_findNeeded 33 = .ok (.iload_n 1, 1) := by decide +kernel
theorem dX2_findNeeded_34 : decode cX2_findNeeded 34 = .ok (.iload_n 2, 1) := by decide +kernel
theorem dX2_findNeeded_35 : decode cX2_findNeeded 35 = .ok (.ifCond .eq 13, 3) := by decide +kernel
theorem dX2_findNeeded_38 : decode cX2_findNeeded 38 = .ok (.aload_n 0, 1) := by decide +kernel
theorem dX2_findNeeded_39 : decode cX2_findNeeded 39 = .ok (.getfield 48, 3) := by decide +kernel
theorem dX2_findNeeded_42 : decode cX2_findNeeded 42 = .ok (.invokevirtual 94, 3) := by decide +kernel
theorem dX2_findNeeded_45 : decode cX2_findNeeded 45 = .ok (.goto 4, 3) := by decide +kernel
theorem dX2_findNeeded_48 : decode cX2_findNeeded 48 = .ok (.iconst 0, 1) := by decide +kernel
theorem dX2_findNeeded_49 : decode cX2_findNeeded 49 = .ok (.invokevirtual 101, 3) := by decide +kernel
theorem dX2_findNeeded_52 : decode cX2_findNeeded 52 = .ok (.iinc 1 1, 3) := by decide +kernel
theorem dX2_findNeeded_55 : decode cX2_findNeeded 55 = .ok (.goto (-53), 3) := by decide +kernel
theorem dX2_findNeeded_58 : decode cX2_findNeeded 58 = .ok (.iconst 1, 1) := by decide +kernel
theorem dX2_findNeeded_59 : decode cX2_findNeeded 59 = .ok (.istore_n 1, 1) := by decide +kernel
theorem dX2_findNeeded_60 : decode cX2_findNeeded 60 = .ok (.iconst 0, 1) := by decide +kernel
theorem dX2_findNeeded_61 : decode cX2_findNeeded 61 = .ok (.istore_n 2, 1) := by decide +kernel
theorem dX2_findNeeded_62 : decode cX2_findNeeded 62 = .ok (.iload_n 2, 1) := by decide +kernel
theorem dX2_findNeeded_63 : decode cX2_findNeeded 63 = .ok (.sipush 1000, 3) := by decide +kernel
theorem dX2_findNeeded_66 : decode cX2_findNeeded 66 = .ok (.if_icmp .ge 18, 3) := by decide +kernel
theorem dX2_findNeeded_69 : decode cX2_findNeeded 69 = .ok (.iload_n 1, 1) := by decide +kernel
theorem dX2_findNeeded_70 : decode cX2_findNeeded 70 = .ok (.ifCond .eq 14, 3) := by decide +kernel
theorem dX2_findNeeded_73 : decode cX2_findNeeded 73 = .ok (.aload_n 0, 1) := by decide +kernel
theorem dX2_findNeeded_74 : decode cX2_findNeeded 74 = .ok (.invokevirtual 105, 3) := by decide +kernel
theorem dX2_findNeeded_77 : decode cX2_findNeeded 77 = .ok (.istore_n 1, 1) := by decide +kernel
theorem dX2_findNeeded_78 : decode cX2_findNeeded 78 = .ok (.iinc 2 1, 3) := by decide +kernel
theorem dX2_findNeeded_81 : decode cX2_findNeeded 81 = .ok (.goto (-19), 3) := by decide +kernel
theorem dX2_findNeeded_84 : decode cX2_findNeeded 84 = .ok (.return_, 1) := by decide +kernel
set_option maxRecDepth 20000 in
theorem ggX2_shrinkNeeded_X2_setNeededAtEnd : GoodIn wsX2_shrinkNeeded wsX2_setNeededAtEnd := goodIn_r _ [11, 4, 5, 12, 13, 14, 15, 16, 17, 18, 19, 20, 21, 22, 23, 24, 25, 26] (by decide +kernel) (by decide +kernel)
set_option maxRecDepth 20000 in
theorem gX2_shrinkNeeded_X2_setNeededAtEnd : GoodIn wsX2_shrinkNeeded (wsV RX2 101 RX2 yX2_setNeededAtEnd wsX2_setNeededAtEnd) := goodIn_app (goodIn_of _ (by decide +kernel)) ggX2_shrinkNeeded_X2_setNeededAtEnd
theorem dX2_shrinkNeeded_0 : decode cX2_shrinkNeeded 0 = .ok (.iconst 0, 1) := by decide +kernel
theorem dX2_shrinkNeeded_1 : decode cX2_shrinkNeeded 1 = .ok (.istore_n 1, 1) := by decide +kernel
theorem dX2_shrinkNeeded_2 : decode cX2_shrinkNeeded 2 = .ok (.aload_n 0, 1) := by decide +kernel
theorem dX2_shrinkNeeded_3 : decode cX2_shrinkNeeded 3 = .ok (.getfield 48, 3) := by decide +kernel
theorem dX2_shrinkNeeded_6 : decode cX2_shrinkNeeded 6 = .ok (.getfield 81, 3) := by decide +kernel
theorem dX2_shrinkNeeded_9 : decode cX2_shrinkNeeded 9 = .ok (.iconst 1, 1) := by decide +kernel
theorem dX2_shrinkNeeded_10 : decode cX2_shrinkNeeded 10 = .ok (.isub, 1) := by decide +kernel
theorem dX2_shrinkNeeded_11 : decode cX2_shrinkNeeded 11 = .ok (.istore_n 2, 1) := by decide +kernel
theorem dX2_shrinkNeeded_12 : decode cX2_shrinkNeeded 12 = .ok (.iload_n 2, 1) := by decide +kernel
theorem dX2_shrinkNeeded_13 : decode cX2_shrinkNeeded 13 = .ok (.ifCond .lt 62, 3) := by decide +kernel
theorem dX2_shrinkNeeded_16 : decode cX2_shrinkNeeded 16 = .ok (.aload_n 0, 1) := by decide +kernel
theorem dX2_shrinkNeeded_17 : decode cX2_shrinkNeeded 17 = .ok (.getfield 48, 3) := by decide +kernel
theorem dX2_shrinkNeeded_20 : decode cX2_shrinkNeeded 20 = .ok (.getfield 109, 3) := by decide +kernel
theorem dX2_shrinkNeeded_23 : decode cX2_shrinkNeeded 23 = .ok (.iload_n 2, 1) := by decide +kernel
theorem dX2_shrinkNeeded_24 : decode cX2_shrinkNeeded 24 = .ok (.iaload, 1) := by decide +kernel
theorem dX2_shrinkNeeded_25 : decode cX2_shrinkNeeded 25 = .ok (.istore_n 3, 1) := by decide +kernel
theorem dX2_shrinkNeeded_26 : decode cX2_shrinkNeeded 26 = .ok (.aload_n 0, 1) := by decide +kernel
theorem dX2_shrinkNeeded_27 : decode cX2_shrinkNeeded 27 = .ok (.getfield 24, 3) := by decide +kernel
theorem dX2_shrinkNeeded_30 : decode cX2_shrinkNeeded 30 = .ok (.iload_n 3, 1) := by decide +kernel
theorem dX2_shrinkNeeded_31 : decode cX2_shrinkNeeded 31 = .ok (.iaload, 1) := by decide +kernel
theorem dX2_shrinkNeeded_32 : decode cX2_shrinkNeeded 32 = .ok (.aload_n 0, 1) := by decide +kernel
theorem dX2_shrinkNeeded_33 : decode cX2_shrinkNeeded 33 = .ok (.getfield 21, 3) := by decide +kernel
theorem dX2_shrinkNeeded_36 : decode cX2_shrinkNeeded 36 = .ok (.aload_n 0, 1) := by decide +kernel
theorem dX2_shrinkNeeded_37 : decode cX2_shrinkNeeded 37 = .ok (.getfield 48, 3) := by decide +kernel
theorem dX2_shrinkNeeded_40 : decode cX2_shrinkNeeded 40 = .ok (.getfield 112, 3) := by decide +kernel
theorem dX2_shrinkNeeded_43 : decode cX2_shrinkNeeded 43 = .ok (.iload_n 2, 1) := by decide +kernel
theorem dX2_shrinkNeeded_44 : decode cX2_shrinkNeeded 44 = .ok (.iaload, 1) := by decide +kernel
theorem dX2_shrinkNeeded_45 : decode cX2_shrinkNeeded 45 = .ok (.iaload, 1) := by decide +kernel
theorem dX2_shrinkNeeded_46 : decode cX2_shrinkNeeded 46 = .ok (.iand, 1) := by decide +kernel
theorem dX2_shrinkNeeded_47 : decode cX2_shrinkNeeded 47 = .ok (.istore 4, 2) := by decide +kernel
theorem dX2_shrinkNeeded_49 : decode cX2_shrinkNeeded 49 = .ok (.iload 4, 2) := by decide +kernel
theorem dX2_shrinkNeeded_51 : decode cX2_shrinkNeeded 51 = .ok (.aload_n 0, 1) := by decide +kernel
theorem dX2_shrinkNeeded_52 : decode cX2_shrinkNeeded 52 = .ok (.getfield 24, 3) := by decide +kernel
theorem dX2_shrinkNeeded_55 : decode cX2_shrinkNeeded 55 = .ok (.iload_n 3, 1) := by decide +kernel
theorem dX2_shrinkNeeded_56 : decode cX2_shrinkNeeded 56 = .ok (.iaload, 1) := by decide +kernel
theorem dX2_shrinkNeeded_57 : decode cX2_shrinkNeeded 57 = .ok (.if_icmp .eq 12, 3) := by decide +kernel
theorem dX2_shrinkNeeded_60 : decode cX2_shrinkNeeded 60 = .ok (.aload_n 0, 1) := by decide +kernel
theorem dX2_shrinkNeeded_61 : decode cX2_shrinkNeeded 61 = .ok (.iload_n 3, 1) := by decide +kernel
theorem dX2_shrinkNeeded_62 : decode cX2_shrinkNeeded 62 = .ok (.iload 4, 2) := by decide +kernel
theorem dX2_shrinkNeeded_64 : decode cX2_shrinkNeeded 64 = .ok (.invokevirtual 101, 3) := by decide +kernel
theorem dX2_shrinkNeeded_67 : decode cX2_shrinkNeeded 67 = .ok (.iconst 1, 1) := by decide +kernel
theorem dX2_shrinkNeeded_68 : decode cX2_shrinkNeeded 68 = .ok (.istore_n 1, 1) := by decide +kernel
theorem dX2_shrinkNeeded_69 : decode cX2_shrinkNeeded 69 = .ok (.iinc 2 (-1), 3) := by decide +kernel
theorem dX2_shrinkNeeded_72 : decode cX2_shrinkNeeded 72 = .ok (.goto (-60), 3) := by decide +kernel
theorem dX2_shrinkNeeded_75 : decode cX2_shrinkNeeded 75 = .ok (.iload_n 1, 1) := by decide +kernel
theorem dX2_shrinkNeeded_76 : decode cX2_shrinkNeeded 76 = .ok (.ireturn, 1) := by decide +kernel
theorem dX2_setNeededAtEnd_0 : decode cX2_setNeededAtEnd 0 = .ok (.aload_n 0, 1) := by decide +kernel
theorem dX2_setNeededAtEnd_1 : decode cX2_setNeededAtEnd 1 = .ok (.getfield 24, 3) := by decide +kernel
theorem dX2_setNeededAtEnd_4 : decode cX2_setNeededAtEnd 4 = .ok (.iload_n 1, 1) := by decide +kernel
theorem dX2_setNeededAtEnd_5 : decode cX2_setNeededAtEnd 5 = .ok (.iload_n 2, 1) := by decide +kernel
theorem dX2_setNeededAtEnd_6 : decode cX2_setNeededAtEnd 6 = .ok (.iastore, 1) := by decide +kernel
theorem dX2_setNeededAtEnd_7 : decode cX2_setNeededAtEnd 7 = .ok (.aload_n 0, 1) := by decide +kernel
theorem dX2_setNeededAtEnd_8 : decode cX2_setNeededAtEnd 8 = .ok (.getfield 21, 3) := by decide +kernel
theorem dX2_setNeededAtEnd_11 : decode cX2_setNeededAtEnd 11 = .ok (.iload_n 1, 1) := by decide +kernel
theorem dX2_setNeededAtEnd_12 : decode cX2_setNeededAtEnd 12 = .ok (.aload_n 0, 1) := by decide +kernel
theorem dX2_setNeededAtEnd_13 : decode cX2_setNeededAtEnd 13 = .ok (.getfield 15, 3) := by decide +kernel
theorem dX2_setNeededAtEnd_16 : decode cX2_setNeededAtEnd 16 = .ok (.iload_n 1, 1) := by decide +kernel
theorem dX2_setNeededAtEnd_17 : decode cX2_setNeededAtEnd 17 = .ok (.iaload, 1) := by decide +kernel
theorem dX2_setNeededAtEnd_18 : decode cX2_setNeededAtEnd 18 = .ok (.aload_n 0, 1) := by decide +kernel
theorem dX2_setNeededAtEnd_19 : decode cX2_setNeededAtEnd 19 = .ok (.getfield 9, 3) := by decide +kernel
theorem dX2_setNeededAtEnd_22 : decode cX2_setNeededAtEnd 22 = .ok (.iload_n 1, 1) := by decide +kernel
theorem dX2_setNeededAtEnd_23 : decode cX2_setNeededAtEnd 23 = .ok (.iaload, 1) := by decide +kernel
theorem dX2_setNeededAtEnd_24 : decode cX2_setNeededAtEnd 24 = .ok (.iload_n 2, 1) := by decide +kernel
theorem dX2_setNeededAtEnd_25 : decode cX2_setNeededAtEnd 25 = .ok (.iand, 1) := by decide +kernel
theorem dX2_setNeededAtEnd_26 : decode cX2_setNeededAtEnd 26 = .ok (.ior, 1) := by decide +kernel
theorem dX2_setNeededAtEnd_27 : decode cX2_setNeededAtEnd 27 = .ok (.iastore, 1) := by decide +kernel
theorem dX2_setNeededAtEnd_28 : decode cX2_setNeededAtEnd 28 = .ok (.return_, 1) := by decide +kernel
set_option maxRecDepth 20000 in
theorem ggX2_findThere_X2_fillWhereEdgesLead : GoodIn wsX2_findThere wsX2_fillWhereEdgesLead := goodIn_r _ [8, 2, 3, 9, 10, 11, 12, 13, 14, 15, 16, 29, 30, 31, 32, 33, 34, 35, 36, 37, 38, 39, 40, 41, 42, 43, 44, 45, 46, 47, 48, 49, 50, 51, 52, 53] (by decide +kernel) (by decide +kernel)
set_option maxRecDepth 20000 in
theorem gX2_findThere_X2_fillWhereEdgesLead : GoodIn wsX2_findThere (wsV RX2 115 RX2 yX2_fillWhereEdgesLead wsX2_fillWhereEdgesLead) := goodIn_app (goodIn_of _ (by decide +kernel)) ggX2_findThere_X2_fillWhereEdgesLead
set_option maxRecDepth 20000 in
theorem ggX2_findThere_X2_setThereAtStart : GoodIn wsX2_findThere wsX2_setThereAtStart := goodIn_r _ [20, 1, 21, 22, 23, 29, 30, 31, 32, 33, 34, 35, 36, 37, 38, 39, 40, 41] (by decide +kernel) (by decide +kernel)
set_option maxRecDepth 20000 in
theorem gX2_findThere_X2_setThereAtStart : GoodIn wsX2_findThere (wsV RX2 119 RX2 yX2_setThereAtStart wsX2_setThereAtStart) := goodIn_app (goodIn_of _ (by decide +kernel)) ggX2_findThere_X2_setThereAtStart
set_option maxRecDepth 20000 in
theorem ggX2_findThere_X2_shrinkThere : GoodIn wsX2_findThere wsX2_shrinkThere := goodIn_r _ [27, 2, 9, 10, 1, 21, 28, 17, 18, 19, 7, 20, 22, 23, 29, 30, 31, 32, 33, 34, 35, 36, 37, 38, 39, 40, 41, 42, 43, 44, 45, 46, 47, 48, 49, 50, 51, 52, 53] (by decide +kernel) (by decide +kernel)
set_option maxRecDepth 20000 in
theorem gX2_findThere_X2_shrinkThere : GoodIn wsX2_findThere (wsV RX2 122 RX2 yX2_shrinkThere wsX2_shrinkThere) := goodIn_app (goodIn_of _ (by decide +kernel)) ggX2_findThere_X2_shrinkThere
theorem dX2_findThere_0 : decode cX2_findThere 0 = .ok (.aload_n 0, 1) := by decide +kernel
theorem dX2_findThere_1 : decode cX2_findThere 1 = .ok (.aload_n 0, 1) := by decide +kernel
theorem dX2_findThere_2 : decode cX2_findThere 2 = .ok (.getfield 27, 3) := by decide +kernel
theorem dX2_findThere_5 : decode cX2_findThere 5 = .ok (.invokevirtual 115, 3) := by decide +kernel
theorem dX2_findThere_8 : decode cX2_findThere 8 = .ok (.iconst 0, 1) := by decide +kernel
theorem dX2_findThere_9 : decode cX2_findThere 9 = .ok (.istore_n 1, 1) := by decide +kernel
theorem dX2_findThere_10 : decode cX2_findThere 10 = .ok (.iload_n 1, 1) := by decide +kernel
theorem dX2_findThere_11 : decode cX2_findThere 11 = .ok (.aload_n 0, 1) := by decide +kernel
theorem dX2_findThere_12 : decode cX2_findThere 12 = .ok (.getfield 48, 3) := by decide +kernel
theorem dX2_findThere_15 : decode cX2_findThere 15 = .ok (.getfield 58, 3) := by decide +kernel
theorem dX2_findThere_18 : decode cX2_findThere 18 = .ok (.if_icmp .ge 20, 3) := by decide +kernel
theorem dX2_findThere_21 : decode cX2_findThere 21 = .ok (.aload_n 0, 1) := by decide +kernel
theorem dX2_findThere_22 : decode cX2_findThere 22 = .ok (.iload_n 1, 1) := by decide +kernel
theorem dX2_findThere_23 : decode cX2_findThere 23 = .ok (.aload_n 0, 1) := by decide +kernel
theorem dX2_findThere_24 : decode cX2_findThere 24 = .ok (.getfield 27, 3) := by decide +kernel
theorem dX2_findThere_27 : decode cX2_findThere 27 = .ok (.iload_n 1, 1) := by decide +kernel
theorem dX2_findThere_28 : decode cX2_findThere 28 = .ok (.iaload, 1) := by decide +kernel
theorem dX2_findThere_29 : decode cX2_findThere 29 = .ok (.invokevirtual 119, 3) := by decide +kernel
theorem dX2_findThere_32 : decode cX2_findThere 32 = .ok (.iinc 1 1, 3) := by decide +kernel
theorem dX2_findThere_35 : decode cX2_findThere 35 = .ok (.goto (-25), 3) := by decide +kernel
theorem dX2_findThere_38 : decode cX2_findThere 38 = .ok (.iconst 1, 1) := by decide +kernel
theorem dX2_findThere_39 : decode cX2_findThere 39 = .ok (.istore_n 1, 1) := by decide +kernel
theorem dX2_findThere_40 : decode cX2_findThere 40 = .ok (.iconst 0, 1) := by decide +kernel
theorem dX2_findThere_41 : decode cX2_findThere 41 = .ok (.istore_n 2, 1) := by decide +kernel
theorem dX2_findThere_42 : decode cX2_findThere 42 = .ok (.iload_n 2, 1) := by decide +kernel
theorem dX2_findThere_43 : decode cX2_findThere 43 = .ok (.sipush 1000, 3) := by decide +kernel
theorem dX2_findThere_46 : decode cX2_findThere 46 = .ok (.if_icmp .ge 18, 3) := by decide +kernel
theorem dX2_findThere_49 : decode cX2_findThere 49 = .ok (.iload_n 1, 1) := by decide +kernel
theorem dX2_findThere_50 : decode cX2_findThere 50 = .ok (.ifCond .eq 14, 3) := by decide +kernel
theorem dX2_findThere_53 : decode cX2_findThere 53 = .ok (.aload_n 0, 1) := by decide +kernel
theorem dX2_findThere_54 : decode cX2_findThere 54 = .ok (.invokevirtual 122, 3) := by decide +kernel
theorem dX2_findThere_57 : decode cX2_findThere 57 = .ok (.istore_n 1, 1) := by decide +kernel
theorem dX2_findThere_58 : decode cX2_findThere 58 = .ok (.iinc 2 1, 3) := by decide +kernel
theorem dX2_findThere_61 : decode cX2_findThere 61 = .ok (.goto (-19), 3) := by decide +kernel
theorem dX2_findThere_64 : decode cX2_findThere 64 = .ok (.return_, 1) := by decide +kernel
set_option maxRecDepth 20000 in
theorem ggX2_shrinkThere_X2_setThereAtStart : GoodIn wsX2_shrinkThere wsX2_setThereAtStart := goodIn_r _ [11, 4, 5, 12, 13, 14, 15, 16, 17, 18, 19, 20, 21, 22, 23, 24, 25, 26] (by decide +kernel) (by decide +kernel)
set_option maxRecDepth 20000 in
theorem gX2_shrinkThere_X2_setThereAtStart : GoodIn wsX2_shrinkThere (wsV RX2 119 RX2 yX2_setThereAtStart wsX2_setThereAtStart) := goodIn_app (goodIn_of _ (by decide +kernel)) ggX2_shrinkThere_X2_setThereAtStart
theorem dX2_shrinkThere_0 : decode cX2_shrinkThere 0 = .ok (.iconst 0, 1) := by decide +kernel
theorem dX2_shrinkThere_1 : decode cX2_shrinkThere 1 = .ok (.istore_n 1, 1) := by decide +kernel
theorem dX2_shrinkThere_2 : decode cX2_shrinkThere 2 = .ok (.iconst 0, 1) := by decide +kernel
theorem dX2_shrinkThere_3 : decode cX2_shrinkThere 3 = .ok (.istore_n 2, 1) := by decide +kernel
theorem dX2_shrinkThere_4 : decode cX2_shrinkThere 4 = .ok (.iload_n 2, 1) := by decide +kernel
theorem dX2_shrinkThere_5 : decode cX2_shrinkThere 5 = .ok (.aload_n 0, 1) := by decide +kernel
theorem dX2_shrinkThere_6 : decode cX2_shrinkThere 6 = .ok (.getfield 48, 3) := by decide +kernel
theorem dX2_shrinkThere_9 : decode cX2_shrinkThere 9 = .ok (.getfield 81, 3) := by decide +kernel
theorem dX2_shrinkThere_12 : decode cX2_shrinkThere 12 = .ok (.if_icmp .ge 62, 3) := by decide +kernel
theorem dX2_shrinkThere_15 : decode cX2_shrinkThere 15 = .ok (.aload_n 0, 1) := by decide +kernel
theorem dX2_shrinkThere_16 : decode cX2_shrinkThere 16 = .ok (.getfield 48, 3) := by decide +kernel
theorem dX2_shrinkThere_19 : decode cX2_shrinkThere 19 = .ok (.getfield 112, 3) := by decide +kernel
theorem dX2_shrinkThere_22 : decode cX2_shrinkThere 22 = .ok (.iload_n 2, 1) := by decide +kernel
theorem dX2_shrinkThere_23 : decode cX2_shrinkThere 23 = .ok (.iaload, 1) := by decide +kernel
theorem dX2_shrinkThere_24 : decode cX2_shrinkThere 24 = .ok (.istore_n 3, 1) := by decide +kernel
theorem dX2_shrinkThere_25 : decode cX2_shrinkThere 25 = .ok (.aload_n 0, 1) := by decide +kernel
theorem dX2_shrinkThere_26 : decode cX2_shrinkThere 26 = .ok (.getfield 27, 3) := by decide +kernel
theorem dX2_shrinkThere_29 : decode cX2_shrinkThere 29 = .ok (.iload_n 3, 1) := by decide +kernel
theorem dX2_shrinkThere_30 : decode cX2_shrinkThere 30 = .ok (.iaload, 1) := by decide +kernel
theorem dX2_shrinkThere_31 : decode cX2_shrinkThere 31 = .ok (.aload_n 0, 1) := by decide +kernel
theorem dX2_shrinkThere_32 : decode cX2_shrinkThere 32 = .ok (.getfield 30, 3) := by decide +kernel
theorem dX2_shrinkThere_35 : decode cX2_shrinkThere 35 = .ok (.aload_n 0, 1) := by decide +kernel
theorem dX2_shrinkThere_36 : decode cX2_shrinkThere 36 = .ok (.getfield 48, 3) := by decide +kernel
theorem dX2_shrinkThere_39 : decode cX2_shrinkThere 39 = .ok (.getfield 109, 3) := by decide +kernel
theorem dX2_shrinkThere_42 : decode cX2_shrinkThere 42 = .ok (.iload_n 2, 1) := by decide +kernel
theorem dX2_shrinkThere_43 : decode cX2_shrinkThere 43 = .ok (.iaload, 1) := by decide +kernel
theorem dX2_shrinkThere_44 : decode cX2_shrinkThere 44 = .ok (.iaload, 1) := by decide +kernel
theorem dX2_shrinkThere_45 : decode cX2_shrinkThere 45 = .ok (.iand, 1) := by decide +kernel
theorem dX2_shrinkThere_46 : decode cX2_shrinkThere 46 = .ok (.istore 4, 2) := by decide +kernel
theorem dX2_shrinkThere_48 : decode cX2_shrinkThere 48 = .ok (.iload 4, 2) := by decide +kernel
theorem dX2_shrinkThere_50 : decode cX2_shrinkThere 50 = .ok (.aload_n 0, 1) := by decide +kernel
theorem dX2_shrinkThere_51 : decode cX2_shrinkThere 51 = .ok (.getfield 27, 3) := by decide +kernel
theorem dX2_shrinkThere_54 : decode cX2_shrinkThere 54 = .ok (.iload_n 3, 1) := by decide +kernel
theorem dX2_shrinkThere_55 : decode cX2_shrinkThere 55 = .ok (.iaload, 1) := by decide +kernel
theorem dX2_shrinkThere_56 : decode cX2_shrinkThere 56 = .ok (.if_icmp .eq 12, 3) := by decide +kernel
theorem dX2_shrinkThere_59 : decode cX2_shrinkThere 59 = .ok (.aload_n 0, 1) := by decide +kernel
theorem dX2_shrinkThere_60 : decode cX2_shrinkThere 60 = .ok (.iload_n 3, 1) := by decide +kernel
theorem dX2_shrinkThere_61 : decode cX2_shrinkThere 61 = .ok (.iload 4, 2) := by decide +kernel
theorem dX2_shrinkThere_63 : decode cX2_shrinkThere 63 = .ok (.invokevirtual 119, 3) := by decide +kernel
theorem dX2_shrinkThere_66 : decode cX2_shrinkThere 66 = .ok (.iconst 1, 1) := by decide +kernel
theorem dX2_shrinkThere_67 : decode cX2_shrinkThere 67 = .ok (.istore_n 1, 1) := by decide +kernel
theorem dX2_shrinkThere_68 : decode cX2_shrinkThere 68 = .ok (.iinc 2 1, 3) := by decide +kernel
theorem dX2_shrinkThere_71 : decode cX2_shrinkThere 71 = .ok (.goto (-67), 3) := by decide +kernel
theorem dX2_shrinkThere_74 : decode cX2_shrinkThere 74 = .ok (.iload_n 1, 1) := by decide +kernel
theorem dX2_shrinkThere_75 : decode cX2_shrinkThere 75 = .ok (.ireturn, 1) := by decide +kernel
theorem dX2_setThereAtStart_0 : decode cX2_setThereAtStart 0 = .ok (.aload_n 0, 1) := by decide +kernel
theorem dX2_setThereAtStart_1 : decode cX2_setThereAtStart 1 = .ok (.getfield 27, 3) := by decide +kernel
theorem dX2_setThereAtStart_4 : decode cX2_setThereAtStart 4 = .ok (.iload_n 1, 1) := by decide +kernel
theorem dX2_setThereAtStart_5 : decode cX2_setThereAtStart 5 = .ok (.iload_n 2, 1) := by decide +kernel
theorem dX2_setThereAtStart_6 : decode cX2_setThereAtStart 6 = .ok (.iastore, 1) := by decide +kernel
theorem dX2_setThereAtStart_7 : decode cX2_setThereAtStart 7 = .ok (.aload_n 0, 1) := by decide +kernel
theorem dX2_setThereAtStart_8 : decode cX2_setThereAtStart 8 = .ok (.getfield 30, 3) := by decide +kernel
theorem dX2_setThereAtStart_11 : decode cX2_setThereAtStart 11 = .ok (.iload_n 1, 1) := by decide +kernel
theorem dX2_setThereAtStart_12 : decode cX2_setThereAtStart 12 = .ok (.aload_n 0, 1) := by decide +kernel
theorem dX2_setThereAtStart_13 : decode cX2_setThereAtStart 13 = .ok (.getfield 18, 3) := by decide +kernel
theorem dX2_setThereAtStart_16 : decode cX2_setThereAtStart 16 = .ok (.iload_n 1, 1) := by decide +kernel
theorem dX2_setThereAtStart_17 : decode cX2_setThereAtStart 17 = .ok (.iaload, 1) := by decide +kernel
theorem dX2_setThereAtStart_18 : decode cX2_setThereAtStart 18 = .ok (.aload_n 0, 1) := by decide +kernel
theorem dX2_setThereAtStart_19 : decode cX2_setThereAtStart 19 = .ok (.getfield 9, 3) := by decide +kernel
theorem dX2_setThereAtStart_22 : decode cX2_setThereAtStart 22 = .ok (.iload_n 1, 1) := by decide +kernel
theorem dX2_setThereAtStart_23 : decode cX2_setThereAtStart 23 = .ok (.iaload, 1) := by decide +kernel
theorem dX2_setThereAtStart_24 : decode cX2_setThereAtStart 24 = .ok (.iload_n 2, 1) := by decide +kernel
theorem dX2_setThereAtStart_25 : decode cX2_setThereAtStart 25 = .ok (.iand, 1) := by decide +kernel
theorem dX2_setThereAtStart_26 : decode cX2_setThereAtStart 26 = .ok (.ior, 1) := by decide +kernel
theorem dX2_setThereAtStart_27 : decode cX2_setThereAtStart 27 = .ok (.iastore, 1) := by decide +kernel
theorem dX2_setThereAtStart_28 : decode cX2_setThereAtStart 28 = .ok (.return_, 1) := by decide +kernel
set_option maxRecDepth 20000 in
theorem ggX2_fillWhereEdgesLead_X1_allExpressions : GoodIn wsX2_fillWhereEdgesLead wsX1_allExpressions := goodIn_r _ [9, 10, 24, 25, 26, 27, 28, 29, 30, 31, 32, 33, 34, 35] (by decide +kernel) (by decide +kernel)
set_option maxRecDepth 20000 in
theorem gX2_fillWhereEdgesLead_X1_allExpressions : GoodIn wsX2_fillWhereEdgesLead (wsV RX2 94 RX1 yX1_allExpressions wsX1_allExpressions) := goodIn_app (goodIn_of _ (by decide +kernel)) ggX2_fillWhereEdgesLead_X1_allExpressions
theorem dX2_fillWhereEdgesLead_0 : decode cX2_fillWhereEdgesLead 0 = .ok (.iconst 0, 1) := by decide +kernel
theorem dX2_fillWhereEdgesLead_1 : decode cX2_fillWhereEdgesLead 1 = .ok (.istore_n 2, 1) := by decide +kernel
theorem dX2_fillWhereEdgesLead_2 : decode cX2_fillWhereEdgesLead 2 = .ok (.iload_n 2, 1) := by decide +kernel
theorem dX2_fillWhereEdgesLead_3 : decode cX2_fillWhereEdgesLead 3 = .ok (.aload_n 0, 1) := by decide +kernel
theorem dX2_fillWhereEdgesLead_4 : decode cX2_fillWhereEdgesLead 4 = .ok (.getfield 48, 3) := by decide +kernel
theorem dX2_fillWhereEdgesLead_7 : decode cX2_fillWhereEdgesLead 7 = .ok (.getfield 58, 3) := by decide +kernel
theorem dX2_fillWhereEdgesLead_10 : decode cX2_fillWhereEdgesLead 10 = .ok (.if_icmp .ge 13, 3) := by decide +kernel
theorem dX2_fillWhereEdgesLead_13 : decode cX2_fillWhereEdgesLead 13 = .ok (.aload_n 1, 1) := by decide +kernel
theorem dX2_fillWhereEdgesLead_14 : decode cX2_fillWhereEdgesLead 14 = .ok (.iload_n 2, 1) := by decide +kernel
theorem dX2_fillWhereEdgesLead_15 : decode cX2_fillWhereEdgesLead 15 = .ok (.iconst 0, 1) := by decide +kernel
theorem dX2_fillWhereEdgesLead_16 : decode cX2_fillWhereEdgesLead 16 = .ok (.iastore, 1) := by decide +kernel
theorem dX2_fillWhereEdgesLead_17 : decode cX2_fillWhereEdgesLead 17 = .ok (.iinc 2 1, 3) := by decide +kernel
theorem dX2_fillWhereEdgesLead_20 : decode cX2_fillWhereEdgesLead 20 = .ok (.goto (-18), 3) := by decide +kernel
theorem dX2_fillWhereEdgesLead_23 : decode cX2_fillWhereEdgesLead 23 = .ok (.iconst 0, 1) := by decide +kernel
theorem dX2_fillWhereEdgesLead_24 : decode cX2_fillWhereEdgesLead 24 = .ok (.istore_n 2, 1) := by decide +kernel
theorem dX2_fillWhereEdgesLead_25 : decode cX2_fillWhereEdgesLead 25 = .ok (.iload_n 2, 1) := by decide +kernel
theorem dX2_fillWhereEdgesLead_26 : decode cX2_fillWhereEdgesLead 26 = .ok (.aload_n 0, 1) := by decide +kernel
theorem dX2_fillWhereEdgesLead_27 : decode cX2_fillWhereEdgesLead 27 = .ok (.getfield 48, 3) := by decide +kernel
theorem dX2_fillWhereEdgesLead_30 : decode cX2_fillWhereEdgesLead 30 = .ok (.getfield 81, 3) := by decide +kernel
theorem dX2_fillWhereEdgesLead_33 : decode cX2_fillWhereEdgesLead 33 = .ok (.if_icmp .ge 27, 3) := by decide +kernel
theorem dX2_fillWhereEdgesLead_36 : decode cX2_fillWhereEdgesLead 36 = .ok (.aload_n 1, 1) := by decide +kernel
theorem dX2_fillWhereEdgesLead_37 : decode cX2_fillWhereEdgesLead 37 = .ok (.aload_n 0, 1) := by decide +kernel
theorem dX2_fillWhereEdgesLead_38 : decode cX2_fillWhereEdgesLead 38 = .ok (.getfield 48, 3) := by decide +kernel
theorem dX2_fillWhereEdgesLead_41 : decode cX2_fillWhereEdgesLead 41 = .ok (.getfield 112, 3) := by decide +kernel
theorem dX2_fillWhereEdgesLead_44 : decode cX2_fillWhereEdgesLead 44 = .ok (.iload_n 2, 1) := by decide +kernel
theorem dX2_fillWhereEdgesLead_45 : decode cX2_fillWhereEdgesLead 45 = .ok (.iaload, 1) := by decide +kernel
theorem dX2_fillWhereEdgesLead_46 : decode cX2_fillWhereEdgesLead 46 = .ok (.aload_n 0, 1) := by decide +kernel
theorem dX2_fillWhereEdgesLead_47 : decode cX2_fillWhereEdgesLead 47 = .ok (.getfield 48, 3) := by decide +kernel
theorem dX2_fillWhereEdgesLead_50 : decode cX2_fillWhereEdgesLead 50 = .ok (.invokevirtual 94, 3) := by decide +kernel
theorem dX2_fillWhereEdgesLead_53 : decode cX2_fillWhereEdgesLead 53 = .ok (.iastore, 1) := by decide +kernel
theorem dX2_fillWhereEdgesLead_54 : decode cX2_fillWhereEdgesLead 54 = .ok (.iinc 2 1, 3) := by decide +kernel
theorem dX2_fillWhereEdgesLead_57 : decode cX2_fillWhereEdgesLead 57 = .ok (.goto (-32), 3) := by decide +kernel
theorem dX2_fillWhereEdgesLead_60 : decode cX2_fillWhereEdgesLead 60 = .ok (.return_, 1) := by decide +kernel
theorem dX2_findEarliest_0 : decode cX2_findEarliest 0 = .ok (.iconst 0, 1) := by decide +kernel
theorem dX2_findEarliest_1 : decode cX2_findEarliest 1 = .ok (.istore_n 1, 1) := by decide +kernel
theorem dX2_findEarliest_2 : decode cX2_findEarliest 2 = .ok (.iload_n 1, 1) := by decide +kernel
theorem dX2_findEarliest_3 : decode cX2_findEarliest 3 = .ok (.aload_n 0, 1) := by decide +kernel
theorem dX2_findEarliest_4 : decode cX2_findEarliest 4 = .ok (.getfield 48, 3) := by decide +kernel
theorem dX2_findEarliest_7 : decode cX2_findEarliest 7 = .ok (.getfield 81, 3) := by decide +kernel
theorem dX2_findEarliest_10 : decode cX2_findEarliest 10 = .ok (.if_icmp .ge 66, 3) := by decide +kernel
theorem dX2_findEarliest_13 : decode cX2_findEarliest 13 = .ok (.aload_n 0, 1) := by decide +kernel
theorem dX2_findEarliest_14 : decode cX2_findEarliest 14 = .ok (.getfield 48, 3) := by decide +kernel
theorem dX2_findEarliest_17 : decode cX2_findEarliest 17 = .ok (.getfield 109, 3) := by decide +kernel
theorem dX2_findEarliest_20 : decode cX2_findEarliest 20 = .ok (.iload_n 1, 1) := by decide +kernel
theorem dX2_findEarliest_21 : decode cX2_findEarliest 21 = .ok (.iaload, 1) := by decide +kernel
theorem dX2_findEarliest_22 : decode cX2_findEarliest 22 = .ok (.istore_n 2, 1) := by decide +kernel
theorem dX2_findEarliest_23 : decode cX2_findEarliest 23 = .ok (.aload_n 0, 1) := by decide +kernel
theorem dX2_findEarliest_24 : decode cX2_findEarliest 24 = .ok (.getfield 21, 3) := by decide +kernel
theorem dX2_findEarliest_27 : decode cX2_findEarliest 27 = .ok (.aload_n 0, 1) := by decide +kernel
theorem dX2_findEarliest_28 : decode cX2_findEarliest 28 = .ok (.getfield 48, 3) := by decide +kernel
theorem dX2_findEarliest_31 : decode cX2_findEarliest 31 = .ok (.getfield 112, 3) := by decide +kernel
theorem dX2_findEarliest_34 : decode cX2_findEarliest 34 = .ok (.iload_n 1, 1) := by decide +kernel
theorem dX2_findEarliest_35 : decode cX2_findEarliest 35 = .ok (.iaload, 1) := by decide +kernel
theorem dX2_findEarliest_36 : decode cX2_findEarliest 36 = .ok (.iaload, 1) := by decide +kernel
theorem dX2_findEarliest_37 : decode cX2_findEarliest 37 = .ok (.aload_n 0, 1) := by decide +kernel
theorem dX2_findEarliest_38 : decode cX2_findEarliest 38 = .ok (.getfield 30, 3) := by decide +kernel
theorem dX2_findEarliest_41 : decode cX2_findEarliest 41 = .ok (.iload_n 2, 1) := by decide +kernel
theorem dX2_findEarliest_42 : decode cX2_findEarliest 42 = .ok (.iaload, 1) := by decide +kernel
theorem dX2_findEarliest_43 : decode cX2_findEarliest 43 = .ok (.iconst (-1), 1) := by decide +kernel
theorem dX2_findEarliest_44 : decode cX2_findEarliest 44 = .ok (.ixor, 1) := by decide +kernel
theorem dX2_findEarliest_45 : decode cX2_findEarliest 45 = .ok (.iand, 1) := by decide +kernel
theorem dX2_findEarliest_46 : decode cX2_findEarliest 46 = .ok (.istore_n 3, 1) := by decide +kernel
theorem dX2_findEarliest_47 : decode cX2_findEarliest 47 = .ok (.aload_n 0, 1) := by decide +kernel
theorem dX2_findEarliest_48 : decode cX2_findEarliest 48 = .ok (.getfield 39, 3) := by decide +kernel
theorem dX2_findEarliest_51 : decode cX2_findEarliest 51 = .ok (.iload_n 1, 1) := by decide +kernel
theorem dX2_findEarliest_52 : decode cX2_findEarliest 52 = .ok (.iload_n 3, 1) := by decide +kernel
theorem dX2_findEarliest_53 : decode cX2_findEarliest 53 = .ok (.aload_n 0, 1) := by decide +kernel
theorem dX2_findEarliest_54 : decode cX2_findEarliest 54 = .ok (.getfield 9, 3) := by decide +kernel
theorem dX2_findEarliest_57 : decode cX2_findEarliest 57 = .ok (.iload_n 2, 1) := by decide +kernel
theorem dX2_findEarliest_58 : decode cX2_findEarliest 58 = .ok (.iaload, 1) := by decide +kernel
theorem dX2_findEarliest_59 : decode cX2_findEarliest 59 = .ok (.aload_n 0, 1) := by decide +kernel
theorem dX2_findEarliest_60 : decode cX2_findEarliest 60 = .ok (.getfield 24, 3) := by decide +kernel
theorem dX2_findEarliest_63 : decode cX2_findEarliest 63 = .ok (.iload_n 2, 1) := by decide +kernel
theorem dX2_findEarliest_64 : decode cX2_findEarliest 64 = .ok (.iaload, 1) := by decide +kernel
theorem dX2_findEarliest_65 : decode cX2_findEarliest 65 = .ok (.iand, 1) := by decide +kernel
theorem dX2_findEarliest_66 : decode cX2_findEarliest 66 = .ok (.iconst (-1), 1) := by decide +kernel
theorem dX2_findEarliest_67 : decode cX2_findEarliest 67 = .ok (.ixor, 1) := by decide +kernel
theorem dX2_findEarliest_68 : decode cX2_findEarliest 68 = .ok (.iand, 1) := by decide +kernel
theorem dX2_findEarliest_69 : decode cX2_findEarliest 69 = .ok (.iastore, 1) := by decide +kernel
theorem dX2_findEarliest_70 : decode cX2_findEarliest 70 = .ok (.iinc 1 1, 3) := by decide +kernel
theorem dX2_findEarliest_73 : decode cX2_findEarliest 73 = .ok (.goto (-71), 3) := by decide +kernel
theorem dX2_findEarliest_76 : decode cX2_findEarliest 76 = .ok (.return_, 1) := by decide +kernel
set_option maxRecDepth 20000 in
theorem ggX2_findDelayed_X2_fillWhereEdgesLead : GoodIn wsX2_findDelayed wsX2_fillWhereEdgesLead := goodIn_r _ [10, 3, 11, 4, 12, 13, 14, 15, 16, 17, 18, 30, 31, 32, 33, 34, 35, 36, 37, 38, 39, 40, 41, 42, 43, 44, 45, 46, 47, 48, 49, 50, 51, 52, 53, 54] (by decide +kernel) (by decide +kernel)
set_option maxRecDepth 20000 in
theorem gX2_findDelayed_X2_fillWhereEdgesLead : GoodIn wsX2_findDelayed (wsV RX2 115 RX2 yX2_fillWhereEdgesLead wsX2_fillWhereEdgesLead) := goodIn_app (goodIn_of _ (by decide +kernel)) ggX2_findDelayed_X2_fillWhereEdgesLead
set_option maxRecDepth 20000 in
theorem ggX2_findDelayed_X2_shrinkDelayed : GoodIn wsX2_findDelayed wsX2_shrinkDelayed := goodIn_r _ [22, 3, 4, 12, 1, 23, 24, 25, 9, 26, 27, 28, 29, 30, 31, 32, 33, 34, 35, 36, 37, 38, 39, 40, 41, 42, 43, 44, 45, 46, 47, 48, 49, 50, 51, 52, 53, 54] (by decide +kernel) (by decide +kernel)
set_option maxRecDepth 20000 in
theorem gX2_findDelayed_X2_shrinkDelayed : GoodIn wsX2_findDelayed (wsV RX2 125 RX2 yX2_shrinkDelayed wsX2_shrinkDelayed) := goodIn_app (goodIn_of _ (by decide +kernel)) ggX2_findDelayed_X2_shrinkDelayed
set_option maxRecDepth 20000 in
theorem ggX2_findDelayed_X2_findDelayedOnEdge : GoodIn wsX2_findDelayed wsX2_findDelayedOnEdge := goodIn_r _ [26, 3, 27, 28, 1, 29, 30, 31, 32, 33, 34, 35, 36, 37, 38, 39, 40, 41, 42, 43, 44, 45, 46, 47, 48, 49, 50, 51, 52, 53, 54] (by decide +kernel) (by decide +kernel)
set_option maxRecDepth 20000 in
theorem gX2_findDelayed_X2_findDelayedOnEdge : GoodIn wsX2_findDelayed (wsV RX2 128 RX2 yX2_findDelayedOnEdge wsX2_findDelayedOnEdge) := goodIn_app (goodIn_of _ (by decide +kernel)) ggX2_findDelayed_X2_findDelayedOnEdge
theorem dX2_findDelayed_0 : decode cX2_findDelayed 0 = .ok (.aload_n 0, 1) := by decide +kernel
theorem dX2_findDelayed_1 : decode cX2_findDelayed 1 = .ok (.aload_n 0, 1) := by decide +kernel
theorem dX2_findDelayed_2 : decode cX2_findDelayed 2 = .ok (.getfield 33, 3) := by decide +kernel
theorem dX2_findDelayed_5 : decode cX2_findDelayed 5 = .ok (.invokevirtual 115, 3) := by decide +kernel
theorem dX2_findDelayed_8 : decode cX2_findDelayed 8 = .ok (.aload_n 0, 1) := by decide +kernel
theorem dX2_findDelayed_9 : decode cX2_findDelayed 9 = .ok (.getfield 33, 3) := by decide +kernel
theorem dX2_findDelayed_12 : decode cX2_findDelayed 12 = .ok (.iconst 0, 1) := by decide +kernel
theorem dX2_findDelayed_13 : decode cX2_findDelayed 13 = .ok (.aload_n 0, 1) := by decide +kernel
theorem dX2_findDelayed_14 : decode cX2_findDelayed 14 = .ok (.getfield 21, 3) := by decide +kernel
theorem dX2_findDelayed_17 : decode cX2_findDelayed 17 = .ok (.iconst 0, 1) := by decide +kernel
theorem dX2_findDelayed_18 : decode cX2_findDelayed 18 = .ok (.iaload, 1) := by decide +kernel
theorem dX2_findDelayed_19 : decode cX2_findDelayed 19 = .ok (.iastore, 1) := by decide +kernel
theorem dX2_findDelayed_20 : decode cX2_findDelayed 20 = .ok (.iconst 1, 1) := by decide +kernel
theorem dX2_findDelayed_21 : decode cX2_findDelayed 21 = .ok (.istore_n 1, 1) := by decide +kernel
theorem dX2_findDelayed_22 : decode cX2_findDelayed 22 = .ok (.iconst 0, 1) := by decide +kernel
theorem dX2_findDelayed_23 : decode cX2_findDelayed 23 = .ok (.istore_n 2, 1) := by decide +kernel
theorem dX2_findDelayed_24 : decode cX2_findDelayed 24 = .ok (.iload_n 2, 1) := by decide +kernel
theorem dX2_findDelayed_25 : decode cX2_findDelayed 25 = .ok (.sipush 1000, 3) := by decide +kernel
theorem dX2_findDelayed_28 : decode cX2_findDelayed 28 = .ok (.if_icmp .ge 18, 3) := by decide +kernel
theorem dX2_findDelayed_31 : decode cX2_findDelayed 31 = .ok (.iload_n 1, 1) := by decide +kernel
theorem dX2_findDelayed_32 : decode cX2_findDelayed 32 = .ok (.ifCond .eq 14, 3) := by decide +kernel
theorem dX2_findDelayed_35 : decode cX2_findDelayed 35 = .ok (.aload_n 0, 1) := by decide +kernel
theorem dX2_findDelayed_36 : decode cX2_findDelayed 36 = .ok (.invokevirtual 125, 3) := by decide +kernel
theorem dX2_findDelayed_39 : decode cX2_findDelayed 39 = .ok (.istore_n 1, 1) := by decide +kernel
theorem dX2_findDelayed_40 : decode cX2_findDelayed 40 = .ok (.iinc 2 1, 3) := by decide +kernel
theorem dX2_findDelayed_43 : decode cX2_findDelayed 43 = .ok (.goto (-19), 3) := by decide +kernel
theorem dX2_findDelayed_46 : decode cX2_findDelayed 46 = .ok (.iconst 0, 1) := by decide +kernel
theorem dX2_findDelayed_47 : decode cX2_findDelayed 47 = .ok (.istore_n 2, 1) := by decide +kernel
theorem dX2_findDelayed_48 : decode cX2_findDelayed 48 = .ok (.iload_n 2, 1) := by decide +kernel
theorem dX2_findDelayed_49 : decode cX2_findDelayed 49 = .ok (.aload_n 0, 1) := by decide +kernel
theorem dX2_findDelayed_50 : decode cX2_findDelayed 50 = .ok (.getfield 48, 3) := by decide +kernel
theorem dX2_findDelayed_53 : decode cX2_findDelayed 53 = .ok (.getfield 81, 3) := by decide +kernel
theorem dX2_findDelayed_56 : decode cX2_findDelayed 56 = .ok (.if_icmp .ge 20, 3) := by decide +kernel
theorem dX2_findDelayed_59 : decode cX2_findDelayed 59 = .ok (.aload_n 0, 1) := by decide +kernel
theorem dX2_findDelayed_60 : decode cX2_findDelayed 60 = .ok (.getfield 42, 3) := by decide +kernel
theorem dX2_findDelayed_63 : decode cX2_findDelayed 63 = .ok (.iload_n 2, 1) := by decide +kernel
theorem dX2_findDelayed_64 : decode cX2_findDelayed 64 = .ok (.aload_n 0, 1) := by decide +kernel
theorem dX2_findDelayed_65 : decode cX2_findDelayed 65 = .ok (.iload_n 2, 1) := by decide +kernel
theorem dX2_findDelayed_66 : decode cX2_findDelayed 66 = .ok (.invokevirtual 128, 3) := by decide +kernel
theorem dX2_findDelayed_69 : decode cX2_findDelayed 69 = .ok (.iastore, 1) := by decide +kernel
theorem dX2_findDelayed_70 : decode cX2_findDelayed 70 = .ok (.iinc 2 1, 3) := by decide +kernel
theorem dX2_findDelayed_73 : decode cX2_findDelayed 73 = .ok (.goto (-25), 3) := by decide +kernel
theorem dX2_findDelayed_76 : decode cX2_findDelayed 76 = .ok (.return_, 1) := by decide +kernel
set_option maxRecDepth 20000 in
theorem ggX2_shrinkDelayed_X2_findDelayedOnEdge : GoodIn wsX2_shrinkDelayed wsX2_findDelayedOnEdge := goodIn_r _ [9, 1, 10, 11, 4, 12, 13, 14, 15, 16, 17, 18, 19, 20, 21, 22, 23, 24, 25, 26, 27, 28, 29, 30, 31, 32, 33, 34, 35, 36, 37] (by decide +kernel) (by decide +kernel)
set_option maxRecDepth 20000 in
theorem gX2_shrinkDelayed_X2_findDelayedOnEdge : GoodIn wsX2_shrinkDelayed (wsV RX2 128 RX2 yX2_findDelayedOnEdge wsX2_findDelayedOnEdge) := goodIn_app (goodIn_of _ (by decide +kernel)) ggX2_shrinkDelayed_X2_findDelayedOnEdge
theorem dX2_shrinkDelayed_0 : decode cX2_shrinkDelayed 0 = .ok (.iconst 0, 1) := by decide +kernel
theorem dX2_shrinkDelayed_1 : decode cX2_shrinkDelayed 1 = .ok (.istore_n 1, 1) := by decide +kernel
theorem dX2_shrinkDelayed_2 : decode cX2_shrinkDelayed 2 = .ok (.iconst 0, 1) := by decide +kernel
theorem dX2_shrinkDelayed_3 : decode cX2_shrinkDelayed 3 = .ok (.istore_n 2, 1) := by decide +kernel
theorem dX2_shrinkDelayed_4 : decode cX2_shrinkDelayed 4 = .ok (.iload_n 2, 1) := by decide +kernel
theorem dX2_shrinkDelayed_5 : decode cX2_shrinkDelayed 5 = .ok (.aload_n 0, 1) := by decide +kernel
theorem dX2_shrinkDelayed_6 : decode cX2_shrinkDelayed 6 = .ok (.getfield 48, 3) := by decide +kernel
theorem dX2_shrinkDelayed_9 : decode cX2_shrinkDelayed 9 = .ok (.getfield 81, 3) := by decide +kernel
theorem dX2_shrinkDelayed_12 : decode cX2_shrinkDelayed 12 = .ok (.if_icmp .ge 54, 3) := by decide +kernel
theorem dX2_shrinkDelayed_15 : decode cX2_shrinkDelayed 15 = .ok (.aload_n 0, 1) := by decide +kernel
theorem dX2_shrinkDelayed_16 : decode cX2_shrinkDelayed 16 = .ok (.getfield 48, 3) := by decide +kernel
theorem dX2_shrinkDelayed_19 : decode cX2_shrinkDelayed 19 = .ok (.getfield 112, 3) := by decide +kernel
theorem dX2_shrinkDelayed_22 : decode cX2_shrinkDelayed 22 = .ok (.iload_n 2, 1) := by decide +kernel
theorem dX2_shrinkDelayed_23 : decode cX2_shrinkDelayed 23 = .ok (.iaload, 1) := by decide +kernel
theorem dX2_shrinkDelayed_24 : decode cX2_shrinkDelayed 24 = .ok (.istore_n 3, 1) := by decide +kernel
theorem dX2_shrinkDelayed_25 : decode cX2_shrinkDelayed 25 = .ok (.aload_n 0, 1) := by decide +kernel
theorem dX2_shrinkDelayed_26 : decode cX2_shrinkDelayed 26 = .ok (.getfield 33, 3) := by decide +kernel
theorem dX2_shrinkDelayed_29 : decode cX2_shrinkDelayed 29 = .ok (.iload_n 3, 1) := by decide +kernel
theorem dX2_shrinkDelayed_30 : decode cX2_shrinkDelayed 30 = .ok (.iaload, 1) := by decide +kernel
theorem dX2_shrinkDelayed_31 : decode cX2_shrinkDelayed 31 = .ok (.aload_n 0, 1) := by decide +kernel
theorem dX2_shrinkDelayed_32 : decode cX2_shrinkDelayed 32 = .ok (.iload_n 2, 1) := by decide +kernel
theorem dX2_shrinkDelayed_33 : decode cX2_shrinkDelayed 33 = .ok (.invokevirtual 128, 3) := by decide +kernel
theorem dX2_shrinkDelayed_36 : decode cX2_shrinkDelayed 36 = .ok (.iand, 1) := by decide +kernel
theorem dX2_shrinkDelayed_37 : decode cX2_shrinkDelayed 37 = .ok (.istore 4, 2) := by decide +kernel
theorem dX2_shrinkDelayed_39 : decode cX2_shrinkDelayed 39 = .ok (.iload 4, 2) := by decide +kernel
theorem dX2_shrinkDelayed_41 : decode cX2_shrinkDelayed 41 = .ok (.aload_n 0, 1) := by decide +kernel
theorem dX2_shrinkDelayed_42 : decode cX2_shrinkDelayed 42 = .ok (.getfield 33, 3) := by decide +kernel
theorem dX2_shrinkDelayed_45 : decode cX2_shrinkDelayed 45 = .ok (.iload_n 3, 1) := by decide +kernel
theorem dX2_shrinkDelayed_46 : decode cX2_shrinkDelayed 46 = .ok (.iaload, 1) := by decide +kernel
theorem dX2_shrinkDelayed_47 : decode cX2_shrinkDelayed 47 = .ok (.if_icmp .eq 13, 3) := by decide +kernel
theorem dX2_shrinkDelayed_50 : decode cX2_shrinkDelayed 50 = .ok (.aload_n 0, 1) := by decide +kernel
theorem dX2_shrinkDelayed_51 : decode cX2_shrinkDelayed 51 = .ok (.getfield 33, 3) := by decide +kernel
theorem dX2_shrinkDelayed_54 : decode cX2_shrinkDelayed 54 = .ok (.iload_n 3, 1) := by decide +kernel
theorem dX2_shrinkDelayed_55 : decode cX2_shrinkDelayed 55 = .ok (.iload 4, 2) := by decide +kernel
theorem dX2_shrinkDelayed_57 : decode cX2_shrinkDelayed 57 = .ok (.iastore, 1) := by decide +kernel
theorem dX2_shrinkDelayed_58 : decode cX2_shrinkDelayed 58 = .ok (.iconst 1, 1) := by decide +kernel
theorem dX2_shrinkDelayed_59 : decode cX2_shrinkDelayed 59 = .ok (.istore_n 1, 1) := by decide +kernel
theorem dX2_shrinkDelayed_60 : decode cX2_shrinkDelayed 60 = .ok (.iinc 2 1, 3) := by decide +kernel
theorem dX2_shrinkDelayed_63 : decode cX2_shrinkDelayed 63 = .ok (.goto (-59), 3) := by decide +kernel
theorem dX2_shrinkDelayed_66 : decode cX2_shrinkDelayed 66 = .ok (.iload_n 1, 1) := by decide +kernel
theorem dX2_shrinkDelayed_67 : decode cX2_shrinkDelayed 67 = .ok (.ireturn, 1) := by decide +kernel
theorem dX2_findDelayedOnEdge_0 : decode cX2_findDelayedOnEdge 0 = .ok (.aload_n 0, 1) := by decide +kernel
theorem dX2_findDelayedOnEdge_1 : decode cX2_findDelayedOnEdge 1 = .ok (.getfield 48, 3) := by decide +kernel
theorem dX2_findDelayedOnEdge_4 : decode cX2_findDelayedOnEdge 4 = .ok (.getfield 109, 3) := by decide +kernel
theorem dX2_findDelayedOnEdge_7 : decode cX2_findDelayedOnEdge 7 = .ok (.iload_n 1, 1) := by decide +kernel
theorem dX2_findDelayedOnEdge_8 : decode cX2_findDelayedOnEdge 8 = .ok (.iaload, 1) := by decide +kernel
theorem dX2_findDelayedOnEdge_9 : decode cX2_findDelayedOnEdge 9 = .ok (.istore_n 2, 1) := by decide +kernel
theorem dX2_findDelayedOnEdge_10 : decode cX2_findDelayedOnEdge 10 = .ok (.aload_n 0, 1) := by decide +kernel
theorem dX2_findDelayedOnEdge_11 : decode cX2_findDelayedOnEdge 11 = .ok (.getfield 39, 3) := by decide +kernel
theorem dX2_findDelayedOnEdge_14 : decode cX2_findDelayedOnEdge 14 = .ok (.iload_n 1, 1) := by decide +kernel
theorem dX2_findDelayedOnEdge_15 : decode cX2_findDelayedOnEdge 15 = .ok (.iaload, 1) := by decide +kernel
theorem dX2_findDelayedOnEdge_16 : decode cX2_findDelayedOnEdge 16 = .ok (.aload_n 0, 1) := by decide +kernel
theorem dX2_findDelayedOnEdge_17 : decode cX2_findDelayedOnEdge 17 = .ok (.getfield 33, 3) := by decide +kernel
theorem dX2_findDelayedOnEdge_20 : decode cX2_findDelayedOnEdge 20 = .ok (.iload_n 2, 1) := by decide +kernel
theorem dX2_findDelayedOnEdge_21 : decode cX2_findDelayedOnEdge 21 = .ok (.iaload, 1) := by decide +kernel
theorem dX2_findDelayedOnEdge_22 : decode cX2_findDelayedOnEdge 22 = .ok (.aload_n 0, 1) := by decide +kernel
theorem dX2_findDelayedOnEdge_23 : decode cX2_findDelayedOnEdge 23 = .ok (.getfield 15, 3) := by decide +kernel
theorem dX2_findDelayedOnEdge_26 : decode cX2_findDelayedOnEdge 26 = .ok (.iload_n 2, 1) := by decide +kernel
theorem dX2_findDelayedOnEdge_27 : decode cX2_findDelayedOnEdge 27 = .ok (.iaload, 1) := by decide +kernel
theorem dX2_findDelayedOnEdge_28 : decode cX2_findDelayedOnEdge 28 = .ok (.iconst (-1), 1) := by decide +kernel
theorem dX2_findDelayedOnEdge_29 : decode cX2_findDelayedOnEdge 29 = .ok (.ixor, 1) := by decide +kernel
theorem dX2_findDelayedOnEdge_30 : decode cX2_findDelayedOnEdge 30 = .ok (.iand, 1) := by decide +kernel
theorem dX2_findDelayedOnEdge_31 : decode cX2_findDelayedOnEdge 31 = .ok (.ior, 1) := by decide +kernel
theorem dX2_findDelayedOnEdge_32 : decode cX2_findDelayedOnEdge 32 = .ok (.ireturn, 1) := by decide +kernel
theorem dX2_findInsertionsAndDeletions_0 : decode cX2_findInsertionsAndDeletions 0 = .ok (.iconst 0, 1) := by decide +kernel
theorem dX2_findInsertionsAndDeletions_1 : decode cX2_findInsertionsAndDeletions 1 = .ok (.istore_n 1, 1) := by decide +kernel
theorem dX2_findInsertionsAndDeletions_2 : decode cX2_findInsertionsAndDeletions 2 = .ok (.iload_n 1, 1) := by decide +kernel
theorem dX2_findInsertionsAndDeletions_3 : decode cX2_findInsertionsAndDeletions 3 = .ok (.aload_n 0, 1) := by decide +kernel
theorem dX2_findInsertionsAndDeletions_4 : decode cX2_findInsertionsAndDeletions 4 = .ok (.getfield 48, 3) := by decide +kernel
theorem dX2_findInsertionsAndDeletions_7 : decode cX2_findInsertionsAndDeletions 7 = .ok (.getfield 81, 3) := by decide +kernel
theorem dX2_findInsertionsAndDeletions_10 : decode cX2_findInsertionsAndDeletions 10 = .ok (.if_icmp .ge 38, 3) := by decide +kernel
theorem dX2_findInsertionsAndDeletions_13 : decode cX2_findInsertionsAndDeletions 13 = .ok (.aload_n 0, 1) := by decide +kernel
theorem dX2_findInsertionsAndDeletions_14 : decode cX2_findInsertionsAndDeletions 14 = .ok (.getfield 45, 3) := by decide +kernel
theorem dX2_findInsertionsAndDeletions_17 : decode cX2_findInsertionsAndDeletions 17 = .ok (.iload_n 1, 1) := by decide +kernel
theorem dX2_findInsertionsAndDeletions_18 : decode cX2_findInsertionsAndDeletions 18 = .ok (.aload_n 0, 1) := by decide +kernel
theorem dX2_findInsertionsAndDeletions_19 : decode cX2_findInsertionsAndDeletions 19 = .ok (.getfield 42, 3) := by decide +kernel
theorem dX2_findInsertionsAndDeletions_22 : decode cX2_findInsertionsAndDeletions 22 = .ok (.iload_n 1, 1) := by decide +kernel
theorem dX2_findInsertionsAndDeletions_23 : decode cX2_findInsertionsAndDeletions 23 = .ok (.iaload, 1) := by decide +kernel
theorem dX2_findInsertionsAndDeletions_24 : decode cX2_findInsertionsAndDeletions 24 = .ok (.aload_n 0, 1) := by decide +kernel
theorem dX2_findInsertionsAndDeletions_25 : decode cX2_findInsertionsAndDeletions 25 = .ok (.getfield 33, 3) := by decide +kernel
theorem dX2_findInsertionsAndDeletions_28 : decode cX2_findInsertionsAndDeletions 28 = .ok (.aload_n 0, 1) := by decide +kernel
theorem dX2_findInsertionsAndDeletions_29 : decode cX2_findInsertionsAndDeletions 29 = .ok (.getfield 48, 3) := by decide +kernel
theorem dX2_findInsertionsAndDeletions_32 : decode cX2_findInsertionsAndDeletions 32 = .ok (.getfield 112, 3) := by decide +kernel
theorem dX2_findInsertionsAndDeletions_35 : decode cX2_findInsertionsAndDeletions 35 = .ok (.iload_n 1, 1) := by decide +kernel
theorem dX2_findInsertionsAndDeletions_36 : decode cX2_findInsertionsAndDeletions 36 = .ok (.iaload, 1) := by decide +kernel
theorem dX2_findInsertionsAndDeletions_37 : decode cX2_findInsertionsAndDeletions 37 = .ok (.iaload, 1) := by decide +kernel
theorem dX2_findInsertionsAndDeletions_38 : decode cX2_findInsertionsAndDeletions 38 = .ok (.iconst (-1), 1) := by decide +kernel
theorem dX2_findInsertionsAndDeletions_39 : decode cX2_findInsertionsAndDeletions 39 = .ok (.ixor, 1) := by decide +kernel
theorem dX2_findInsertionsAndDeletions_40 : decode cX2_findInsertionsAndDeletions 40 = .ok (.iand, 1) := by decide +kernel
theorem dX2_findInsertionsAndDeletions_41 : decode cX2_findInsertionsAndDeletions 41 = .ok (.iastore, 1) := by decide +kernel
theorem dX2_findInsertionsAndDeletions_42 : decode cX2_findInsertionsAndDeletions 42 = .ok (.iinc 1 1, 3) := by decide +kernel
theorem dX2_findInsertionsAndDeletions_45 : decode cX2_findInsertionsAndDeletions 45 = .ok (.goto (-43), 3) := by decide +kernel
theorem dX2_findInsertionsAndDeletions_48 : decode cX2_findInsertionsAndDeletions 48 = .ok (.iconst 0, 1) := by decide +kernel
theorem dX2_findInsertionsAndDeletions_49 : decode cX2_findInsertionsAndDeletions 49 = .ok (.istore_n 1, 1) := by decide +kernel
theorem dX2_findInsertionsAndDeletions_50 : decode cX2_findInsertionsAndDeletions 50 = .ok (.iload_n 1, 1) := by decide +kernel
theorem dX2_findInsertionsAndDeletions_51 : decode cX2_findInsertionsAndDeletions 51 = .ok (.aload_n 0, 1) := by decide +kernel
theorem dX2_findInsertionsAndDeletions_52 : decode cX2_findInsertionsAndDeletions 52 = .ok (.getfield 48, 3) := by decide +kernel
theorem dX2_findInsertionsAndDeletions_55 : decode cX2_findInsertionsAndDeletions 55 = .ok (.getfield 58, 3) := by decide +kernel
theorem dX2_findInsertionsAndDeletions_58 : decode cX2_findInsertionsAndDeletions 58 = .ok (.if_icmp .ge 30, 3) := by decide +kernel
theorem dX2_findInsertionsAndDeletions_61 : decode cX2_findInsertionsAndDeletions 61 = .ok (.aload_n 0, 1) := by decide +kernel
theorem dX2_findInsertionsAndDeletions_62 : decode cX2_findInsertionsAndDeletions 62 = .ok (.getfield 36, 3) := by decide +kernel
theorem dX2_findInsertionsAndDeletions_65 : decode cX2_findInsertionsAndDeletions 65 = .ok (.iload_n 1, 1) := by decide +kernel
theorem dX2_findInsertionsAndDeletions_66 : decode cX2_findInsertionsAndDeletions 66 = .ok (.aload_n 0, 1) := by decide +kernel
theorem dX2_findInsertionsAndDeletions_67 : decode cX2_findInsertionsAndDeletions 67 = .ok (.getfield 15, 3) := by decide +kernel
theorem dX2_findInsertionsAndDeletions_70 : decode cX2_findInsertionsAndDeletions 70 = .ok (.iload_n 1, 1) := by decide +kernel
theorem dX2_findInsertionsAndDeletions_71 : decode cX2_findInsertionsAndDeletions 71 = .ok (.iaload, 1) := by decide +kernel
theorem dX2_findInsertionsAndDeletions_72 : decode cX2_findInsertionsAndDeletions 72 = .ok (.aload_n 0, 1) := by decide +kernel
theorem dX2_findInsertionsAndDeletions_73 : decode cX2_findInsertionsAndDeletions 73 = .ok (.getfield 33, 3) := by decide +kernel
theorem dX2_findInsertionsAndDeletions_76 : decode cX2_findInsertionsAndDeletions 76 = .ok (.iload_n 1, 1) := by decide +kernel
theorem dX2_findInsertionsAndDeletions_77 : decode cX2_findInsertionsAndDeletions 77 = .ok (.iaload, 1) := by decide +kernel
theorem dX2_findInsertionsAndDeletions_78 : decode cX2_findInsertionsAndDeletions 78 = .ok (.iconst (-1), 1) := by decide +kernel
theorem dX2_findInsertionsAndDeletions_79 : decode cX2_findInsertionsAndDeletions 79 = .ok (.ixor, 1) := by decide +kernel
theorem dX2_findInsertionsAndDeletions_80 : decode cX2_findInsertionsAndDeletions 80 = .ok (.iand, 1) := by decide +kernel
theorem dX2_findInsertionsAndDeletions_81 : decode cX2_findInsertionsAndDeletions 81 = .ok (.iastore, 1) := by decide +kernel
theorem dX2_findInsertionsAndDeletions_82 : decode cX2_findInsertionsAndDeletions 82 = .ok (.iinc 1 1, 3) := by decide +kernel
theorem dX2_findInsertionsAndDeletions_85 : decode cX2_findInsertionsAndDeletions 85 = .ok (.goto (-35), 3) := by decide +kernel
theorem dX2_findInsertionsAndDeletions_88 : decode cX2_findInsertionsAndDeletions 88 = .ok (.return_, 1) := by decide +kernel
set_option maxRecDepth 20000 in
theorem ggX3_init_X1_init : GoodIn wsX3_init wsX1_init := goodIn_r _ [18, 19, 2, 3, 20, 21, 22, 23, 24, 25, 26, 27, 28, 29, 30, 31, 32, 63, 64, 65, 66, 67, 68, 69, 70, 71, 72, 73, 74] (by decide +kernel) (by decide +kernel)
set_option maxRecDepth 20000 in
theorem gX3_init_X1_init : GoodIn wsX3_init (wsX1_init) := ggX3_init_X1_init
set_option maxRecDepth 20000 in
theorem ggX3_init_X2_init : GoodIn wsX3_init wsX2_init := goodIn_r _ [35, 36, 2, 3, 21, 37, 38, 39, 40, 41, 42, 43, 44, 45, 46, 47, 48, 49, 78, 79, 80, 81, 82, 83, 84, 85, 86, 87, 88, 89, 90] (by decide +kernel) (by decide +kernel)
set_option maxRecDepth 20000 in
theorem gX3_init_X2_init : GoodIn wsX3_init (wsX2_init) := ggX3_init_X2_init
set_option maxRecDepth 20000 in
theorem ggX3_init_X0_init : GoodIn wsX3_init wsX0_init := goodIn_r _ [52, 53, 2, 3, 21, 54, 55, 56, 57, 58, 59, 60, 61, 62, 91, 92, 93, 94, 95, 96, 97, 98, 99] (by decide +kernel) (by decide +kernel)
set_option maxRecDepth 20000 in
theorem gX3_init_X0_init : GoodIn wsX3_init (wsX0_init) := ggX3_init_X0_init
end
section
theorem dX3_init_0 : decode cX3_init 0 = .ok (.aload_n 0, 1) := by decide +kernel
theorem dX3_init_1 : decode cX3_init 1 = .ok (.invokespecial 1, 3) := by decide +kernel
theorem dX3_init_4 : decode cX3_init 4 = .ok (.aload_n 0, 1) := by decide +kernel
theorem dX3_init_5 : decode cX3_init 5 = .ok (.new 7, 3) := by decide +kernel
theorem dX3_init_8 : decode cX3_init 8 = .ok (.dup, 1) := by decide +kernel
theorem dX3_init_9 : decode cX3_init 9 = .ok (.invokespecial 9, 3) := by decide +kernel
theorem dX3_init_12 : decode cX3_init 12 = .ok (.putfield 10, 3) := by decide +kernel
theorem dX3_init_15 : decode cX3_init 15 = .ok (.aload_n 0, 1) := by decide +kernel
theorem dX3_init_16 : decode cX3_init 16 = .ok (.new 16, 3) := by decide +kernel
theorem dX3_init_19 : decode cX3_init 19 = .ok (.dup, 1) := by decide +kernel
theorem dX3_init_20 : decode cX3_init 20 = .ok (.aload_n 0, 1) := by decide +kernel
theorem dX3_init_21 : decode cX3_init 21 = .ok (.getfield 10, 3) := by decide +kernel
theorem dX3_init_24 : decode cX3_init 24 = .ok (.invokespecial 18, 3) := by decide +kernel
theorem dX3_init_27 : decode cX3_init 27 = .ok (.putfield 21, 3) := by decide +kernel
theorem dX3_init_30 : decode cX3_init 30 = .ok (.aload_n 0, 1) := by decide +kernel
theorem dX3_init_31 : decode cX3_init 31 = .ok (.new 25, 3) := by decide +kernel
theorem dX3_init_34 : decode cX3_init 34 = .ok (.dup, 1) := by decide +kernel
theorem dX3_init_35 : decode cX3_init 35 = .ok (.aload_n 0, 1) := by decide +kernel
theorem dX3_init_36 : decode cX3_init 36 = .ok (.getfield 10, 3) := by decide +kernel
theorem dX3_init_39 : decode cX3_init 39 = .ok (.invokespecial 27, 3) := by decide +kernel
theorem dX3_init_42 : decode cX3_init 42 = .ok (.putfield 28, 3) := by decide +kernel
theorem dX3_init_45 : decode cX3_init 45 = .ok (.return_, 1) := by decide +kernel
set_option maxRecDepth 20000 in
theorem ggX3_addExpression_X1_newExpression : GoodIn wsX3_addExpression wsX1_newExpression := goodIn_r _ [11, 12, 13, 14, 15, 19, 20, 21, 22, 23, 24, 25, 26, 27, 28, 29, 30] (by decide +kernel) (by decide +kernel)
set_option maxRecDepth 20000 in
theorem gX3_addExpression_X1_newExpression : GoodIn wsX3_addExpression (wsV RX3 48 RX1 yX1_newExpression wsX1_newExpression) := goodIn_app (goodIn_of _ (by decide +kernel)) ggX3_addExpression_X1_newExpression
theorem dX3_addExpression_0 : decode cX3_addExpression 0 = .ok (.iload_n 1, 1) := by decide +kernel
theorem dX3_addExpression_1 : decode cX3_addExpression 1 = .ok (.ifCond .lt 9, 3) := by decide +kernel
theorem dX3_addExpression_4 : decode cX3_addExpression 4 = .ok (.iload_n 1, 1) := by decide +kernel
theorem dX3_addExpression_5 : decode cX3_addExpression 5 = .ok (.bipush 64, 2) := by decide +kernel
theorem dX3_addExpression_7 : decode cX3_addExpression 7 = .ok (.if_icmp .lt 13, 3) := by decide +kernel
theorem dX3_addExpression_10 : decode cX3_addExpression 10 = .ok (.new 32, 3) := by decide +kernel
theorem dX3_addExpression_13 : decode cX3_addExpression 13 = .ok (.dup, 1) := by decide +kernel
theorem dX3_addExpression_14 : decode cX3_addExpression 14 = .ok (.ldc 34, 2) := by decide +kernel
theorem dX3_addExpression_16 : decode cX3_addExpression 16 = .ok (.invokespecial 36, 3) := by decide +kernel
theorem dX3_addExpression_19 : decode cX3_addExpression 19 = .ok (.athrow, 1) := by decide +kernel
theorem dX3_addExpression_20 : decode cX3_addExpression 20 = .ok (.aload_n 0, 1) := by decide +kernel
theorem dX3_addExpression_21 : decode cX3_addExpression 21 = .ok (.getfield 10, 3) := by decide +kernel
theorem dX3_addExpression_24 : decode cX3_addExpression 24 = .ok (.getfield 39, 3) := by decide +kernel
theorem dX3_addExpression_27 : decode cX3_addExpression 27 = .ok (.bipush 8, 2) := by decide +kernel
theorem dX3_addExpression_29 : decode cX3_addExpression 29 = .ok (.if_icmp .lt 13, 3) := by decide +kernel
theorem dX3_addExpression_32 : decode cX3_addExpression 32 = .ok (.new 43, 3) := by decide +kernel
theorem dX3_addExpression_35 : decode cX3_addExpression 35 = .ok (.dup, 1) := by decide +kernel
theorem dX3_addExpression_36 : decode cX3_addExpression 36 = .ok (.ldc 45, 2) := by decide +kernel
theorem dX3_addExpression_38 : decode cX3_addExpression 38 = .ok (.invokespecial 47, 3) := by decide +kernel
theorem dX3_addExpression_41 : decode cX3_addExpression 41 = .ok (.athrow, 1) := by decide +kernel
theorem dX3_addExpression_42 : decode cX3_addExpression 42 = .ok (.aload_n 0, 1) := by decide +kernel
theorem dX3_addExpression_43 : decode cX3_addExpression 43 = .ok (.getfield 10, 3) := by decide +kernel
theorem dX3_addExpression_46 : decode cX3_addExpression 46 = .ok (.iload_n 1, 1) := by decide +kernel
theorem dX3_addExpression_47 : decode cX3_addExpression 47 = .ok (.invokevirtual 48, 3) := by decide +kernel
theorem dX3_addExpression_50 : decode cX3_addExpression 50 = .ok (.ireturn, 1) := by decide +kernel
set_option maxRecDepth 20000 in
theorem ggX3_addBlock_X1_newBlock : GoodIn wsX3_addBlock wsX1_newBlock := goodIn_r _ [9, 10, 11, 15, 16, 17, 18, 19, 20, 21, 22, 23, 24, 25, 26] (by decide +kernel) (by decide +kernel)
set_option maxRecDepth 20000 in
theorem gX3_addBlock_X1_newBlock : GoodIn wsX3_addBlock (wsV RX3 57 RX1 yX1_newBlock wsX1_newBlock) := goodIn_app (goodIn_of _ (by decide +kernel)) ggX3_addBlock_X1_newBlock
theorem dX3_addBlock_0 : decode cX3_addBlock 0 = .ok (.aload_n 0, 1) := by decide +kernel
theorem dX3_addBlock_1 : decode cX3_addBlock 1 = .ok (.getfield 10, 3) := by decide +kernel
theorem dX3_addBlock_4 : decode cX3_addBlock 4 = .ok (.getfield 52, 3) := by decide +kernel
theorem dX3_addBlock_7 : decode cX3_addBlock 7 = .ok (.bipush 40, 2) := by decide +kernel
theorem dX3_addBlock_9 : decode cX3_addBlock 9 = .ok (.if_icmp .lt 13, 3) := by decide +kernel
theorem dX3_addBlock_12 : decode cX3_addBlock 12 = .ok (.new 43, 3) := by decide +kernel
theorem dX3_addBlock_15 : decode cX3_addBlock 15 = .ok (.dup, 1) := by decide +kernel
theorem dX3_addBlock_16 : decode cX3_addBlock 16 = .ok (.ldc 55, 2) := by decide +kernel
theorem dX3_addBlock_18 : decode cX3_addBlock 18 = .ok (.invokespecial 47, 3) := by decide +kernel
theorem dX3_addBlock_21 : decode cX3_addBlock 21 = .ok (.athrow, 1) := by decide +kernel
theorem dX3_addBlock_22 : decode cX3_addBlock 22 = .ok (.aload_n 0, 1) := by decide +kernel
theorem dX3_addBlock_23 : decode cX3_addBlock 23 = .ok (.getfield 10, 3) := by decide +kernel
theorem dX3_addBlock_26 : decode cX3_addBlock 26 = .ok (.invokevirtual 57, 3) := by decide +kernel
theorem dX3_addBlock_29 : decode cX3_addBlock 29 = .ok (.ireturn, 1) := by decide +kernel
set_option maxRecDepth 20000 in
theorem ggX3_addEdge_X3_requireBlock : GoodIn wsX3_addEdge wsX3_requireBlock := goodIn_ca (goodIn_r _ [12, 13, 14, 5, 15, 31, 32, 33, 34, 35, 36, 37, 38, 39, 40, 41, 42, 43, 44, 45] (by decide +kernel) (by decide +kernel)) (goodIn_sub (fun _ h => List.mem_cons_of_mem _ (List.mem_append_right _ h)) (by decide +kernel))
set_option maxRecDepth 20000 in
theorem gX3_addEdge_X3_requireBlock : GoodIn wsX3_addEdge (wsV RX3 61 RX3 yX3_requireBlock wsX3_requireBlock) := goodIn_app (goodIn_of _ (by decide +kernel)) ggX3_addEdge_X3_requireBlock
set_option maxRecDepth 20000 in
theorem ggX3_addEdge_X1_hasEdge : GoodIn wsX3_addEdge wsX1_hasEdge := goodIn_r _ [20, 21, 22, 23, 34, 35, 36, 37, 38, 39, 40, 41, 42, 43, 44, 45] (by decide +kernel) (by decide +kernel)
set_option maxRecDepth 20000 in
theorem gX3_addEdge_X1_hasEdge : GoodIn wsX3_addEdge (wsV RX3 67 RX1 yX1_hasEdge wsX1_hasEdge) := goodIn_app (goodIn_of _ (by decide +kernel)) ggX3_addEdge_X1_hasEdge
set_option maxRecDepth 20000 in
theorem ggX3_addEdge_X1_newEdge : GoodIn wsX3_addEdge wsX1_newEdge := goodIn_r _ [27, 28, 29, 23, 21, 22, 30, 34, 35, 36, 37, 38, 39, 40, 41, 42, 43, 44, 45] (by decide +kernel) (by decide +kernel)
set_option maxRecDepth 20000 in
theorem gX3_addEdge_X1_newEdge : GoodIn wsX3_addEdge (wsV RX3 84 RX1 yX1_newEdge wsX1_newEdge) := goodIn_app (goodIn_of _ (by decide +kernel)) ggX3_addEdge_X1_newEdge
theorem dX3_addEdge_0 : decode cX3_addEdge 0 = .ok (.aload_n 0, 1) := by decide +kernel
theorem dX3_addEdge_1 : decode cX3_addEdge 1 = .ok (.iload_n 1, 1) := by decide +kernel
theorem dX3_addEdge_2 : decode cX3_addEdge 2 = .ok (.invokevirtual 61, 3) := by decide +kernel
theorem dX3_addEdge_5 : decode cX3_addEdge 5 = .ok (.aload_n 0, 1) := by decide +kernel
theorem dX3_addEdge_6 : decode cX3_addEdge 6 = .ok (.iload_n 2, 1) := by decide +kernel
theorem dX3_addEdge_7 : decode cX3_addEdge 7 = .ok (.invokevirtual 61, 3) := by decide +kernel
theorem dX3_addEdge_10 : decode cX3_addEdge 10 = .ok (.iload_n 2, 1) := by decide +kernel
theorem dX3_addEdge_11 : decode cX3_addEdge 11 = .ok (.ifCond .ne 13, 3) := by decide +kernel
theorem dX3_addEdge_14 : decode cX3_addEdge 14 = .ok (.new 32, 3) := by decide +kernel
theorem dX3_addEdge_17 : decode cX3_addEdge 17 = .ok (.dup, 1) := by decide +kernel
theorem dX3_addEdge_18 : decode cX3_addEdge 18 = .ok (.ldc 65, 2) := by decide +kernel
theorem dX3_addEdge_20 : decode cX3_addEdge 20 = .ok (.invokespecial 36, 3) := by decide +kernel
theorem dX3_addEdge_23 : decode cX3_addEdge 23 = .ok (.athrow, 1) := by decide +kernel
theorem dX3_addEdge_24 : decode cX3_addEdge 24 = .ok (.aload_n 0, 1) := by decide +kernel
theorem dX3_addEdge_25 : decode cX3_addEdge 25 = .ok (.getfield 10, 3) := by decide +kernel
theorem dX3_addEdge_28 : decode cX3_addEdge 28 = .ok (.iload_n 1, 1) := by decide +kernel
theorem dX3_addEdge_29 : decode cX3_addEdge 29 = .ok (.iload_n 2, 1) := by decide +kernel
theorem dX3_addEdge_30 : decode cX3_addEdge 30 = .ok (.invokevirtual 67, 3) := by decide +kernel
theorem dX3_addEdge_33 : decode cX3_addEdge 33 = .ok (.ifCond .eq 13, 3) := by decide +kernel
theorem dX3_addEdge_36 : decode cX3_addEdge 36 = .ok (.new 32, 3) := by decide +kernel
theorem dX3_addEdge_39 : decode cX3_addEdge 39 = .ok (.dup, 1) := by decide +kernel
theorem dX3_addEdge_40 : decode cX3_addEdge 40 = .ok (.ldc 71, 2) := by decide +kernel
theorem dX3_addEdge_42 : decode cX3_addEdge 42 = .ok (.invokespecial 36, 3) := by decide +kernel
theorem dX3_addEdge_45 : decode cX3_addEdge 45 = .ok (.athrow, 1) := by decide +kernel
theorem dX3_addEdge_46 : decode cX3_addEdge 46 = .ok (.aload_n 0, 1) := by decide +kernel
theorem dX3_addEdge_47 : decode cX3_addEdge 47 = .ok (.getfield 10, 3) := by decide +kernel
theorem dX3_addEdge_50 : decode cX3_addEdge 50 = .ok (.getfield 73, 3) := by decide +kernel
theorem dX3_addEdge_53 : decode cX3_addEdge 53 = .ok (.iload_n 1, 1) := by decide +kernel
theorem dX3_addEdge_54 : decode cX3_addEdge 54 = .ok (.iaload, 1) := by decide +kernel
theorem dX3_addEdge_55 : decode cX3_addEdge 55 = .ok (.iconst (-1), 1) := by decide +kernel
theorem dX3_addEdge_56 : decode cX3_addEdge 56 = .ok (.if_icmp .eq 13, 3) := by decide +kernel
theorem dX3_addEdge_59 : decode cX3_addEdge 59 = .ok (.new 43, 3) := by decide +kernel
theorem dX3_addEdge_62 : decode cX3_addEdge 62 = .ok (.dup, 1) := by decide +kernel
theorem dX3_addEdge_63 : decode cX3_addEdge 63 = .ok (.ldc 77, 2) := by decide +kernel
theorem dX3_addEdge_65 : decode cX3_addEdge 65 = .ok (.invokespecial 47, 3) := by decide +kernel
theorem dX3_addEdge_68 : decode cX3_addEdge 68 = .ok (.athrow, 1) := by decide +kernel
theorem dX3_addEdge_69 : decode cX3_addEdge 69 = .ok (.aload_n 0, 1) := by decide +kernel
theorem dX3_addEdge_70 : decode cX3_addEdge 70 = .ok (.getfield 10, 3) := by decide +kernel
theorem dX3_addEdge_73 : decode cX3_addEdge 73 = .ok (.getfield 79, 3) := by decide +kernel
theorem dX3_addEdge_76 : decode cX3_addEdge 76 = .ok (.bipush 80, 2) := by decide +kernel
theorem dX3_addEdge_78 : decode cX3_addEdge 78 = .ok (.if_icmp .lt 13, 3) := by decide +kernel
theorem dX3_addEdge_81 : decode cX3_addEdge 81 = .ok (.new 43, 3) := by decide +kernel
theorem dX3_addEdge_84 : decode cX3_addEdge 84 = .ok (.dup, 1) := by decide +kernel
theorem dX3_addEdge_85 : decode cX3_addEdge 85 = .ok (.ldc 82, 2) := by decide +kernel
theorem dX3_addEdge_87 : decode cX3_addEdge 87 = .ok (.invokespecial 47, 3) := by decide +kernel
theorem dX3_addEdge_90 : decode cX3_addEdge 90 = .ok (.athrow, 1) := by decide +kernel
theorem dX3_addEdge_91 : decode cX3_addEdge 91 = .ok (.aload_n 0, 1) := by decide +kernel
theorem dX3_addEdge_92 : decode cX3_addEdge 92 = .ok (.getfield 10, 3) := by decide +kernel
theorem dX3_addEdge_95 : decode cX3_addEdge 95 = .ok (.iload_n 1, 1) := by decide +kernel
theorem dX3_addEdge_96 : decode cX3_addEdge 96 = .ok (.iload_n 2, 1) := by decide +kernel
theorem dX3_addEdge_97 : decode cX3_addEdge 97 = .ok (.invokevirtual 84, 3) := by decide +kernel
theorem dX3_addEdge_100 : decode cX3_addEdge 100 = .ok (.ireturn, 1) := by decide +kernel
set_option maxRecDepth 20000 in
theorem ggX3_compute_X3_requireBlock : GoodIn wsX3_compute wsX3_requireBlock := goodIn_ca (goodIn_r _ [6, 7, 8, 1, 9, 30, 31, 32, 33, 34, 35, 36, 37, 38, 39, 40, 41, 42, 43, 44] (by decide +kernel) (by decide +kernel)) (goodIn_sub (fun _ h => List.mem_cons_of_mem _ (List.mem_append_left _ (List.mem_append_right _ h))) (by decide +kernel))
set_option maxRecDepth 20000 in
theorem gX3_compute_X3_requireBlock : GoodIn wsX3_compute (wsV RX3 61 RX3 yX3_requireBlock wsX3_requireBlock) := goodIn_app (goodIn_of _ (by decide +kernel)) ggX3_compute_X3_requireBlock
set_option maxRecDepth 20000 in
theorem ggX3_compute_X3_requireExpression : GoodIn wsX3_compute wsX3_requireExpression := goodIn_ca (goodIn_r _ [13, 7, 8, 1, 14, 30, 31, 32, 33, 34, 35, 36, 37, 38, 39, 40, 41, 42, 43, 44] (by decide +kernel) (by decide +kernel)) (goodIn_sub (fun _ h => List.mem_cons_of_mem _ (List.mem_append_left _ (List.mem_append_right _ h))) (by decide +kernel))
set_option maxRecDepth 20000 in
theorem gX3_compute_X3_requireExpression : GoodIn wsX3_compute (wsV RX3 88 RX3 yX3_requireExpression wsX3_requireExpression) := goodIn_app (goodIn_of _ (by decide +kernel)) ggX3_compute_X3_requireExpression
set_option maxRecDepth 20000 in
theorem ggX3_compute_X3_requireRoom : GoodIn wsX3_compute wsX3_requireRoom := goodIn_ca (goodIn_r _ [18, 19, 20, 1, 21, 30, 31, 32, 33, 34, 35, 36, 37, 38, 39, 40, 41, 42, 43, 44] (by decide +kernel) (by decide +kernel)) (goodIn_sub (fun _ h => List.mem_cons_of_mem _ (List.mem_append_right _ h)) (by decide +kernel))
set_option maxRecDepth 20000 in
theorem gX3_compute_X3_requireRoom : GoodIn wsX3_compute (wsV RX3 91 RX3 yX3_requireRoom wsX3_requireRoom) := goodIn_app (goodIn_of _ (by decide +kernel)) ggX3_compute_X3_requireRoom
set_option maxRecDepth 20000 in
theorem ggX3_compute_X1_append : GoodIn wsX3_compute wsX1_append := goodIn_r _ [26, 27, 28, 29, 33, 34, 35, 36, 37, 38, 39, 40, 41, 42, 43, 44] (by decide +kernel) (by decide +kernel)
set_option maxRecDepth 20000 in
theorem gX3_compute_X1_append : GoodIn wsX3_compute (wsV RX3 94 RX1 yX1_append wsX1_append) := goodIn_app (goodIn_of _ (by decide +kernel)) ggX3_compute_X1_append
theorem dX3_compute_0 : decode cX3_compute 0 = .ok (.aload_n 0, 1) := by decide +kernel
theorem dX3_compute_1 : decode cX3_compute 1 = .ok (.iload_n 1, 1) := by decide +kernel
theorem dX3_compute_2 : decode cX3_compute 2 = .ok (.invokevirtual 61, 3) := by decide +kernel
theorem dX3_compute_5 : decode cX3_compute 5 = .ok (.aload_n 0, 1) := by decide +kernel
theorem dX3_compute_6 : decode cX3_compute 6 = .ok (.iload_n 2, 1) := by decide +kernel
theorem dX3_compute_7 : decode cX3_compute 7 = .ok (.invokevirtual 88, 3) := by decide +kernel
theorem dX3_compute_10 : decode cX3_compute 10 = .ok (.aload_n 0, 1) := by decide +kernel
theorem dX3_compute_11 : decode cX3_compute 11 = .ok (.iload_n 1, 1) := by decide +kernel
theorem dX3_compute_12 : decode cX3_compute 12 = .ok (.invokevirtual 91, 3) := by decide +kernel
theorem dX3_compute_15 : decode cX3_compute 15 = .ok (.aload_n 0, 1) := by decide +kernel
theorem dX3_compute_16 : decode cX3_compute 16 = .ok (.getfield 10, 3) := by decide +kernel
theorem dX3_compute_19 : decode cX3_compute 19 = .ok (.iload_n 1, 1) := by decide +kernel
theorem dX3_compute_20 : decode cX3_compute 20 = .ok (.iconst 0, 1) := by decide +kernel
theorem dX3_compute_21 : decode cX3_compute 21 = .ok (.iload_n 2, 1) := by decide +kernel
theorem dX3_compute_22 : decode cX3_compute 22 = .ok (.invokevirtual 94, 3) := by decide +kernel
theorem dX3_compute_25 : decode cX3_compute 25 = .ok (.ireturn, 1) := by decide +kernel
set_option maxRecDepth 20000 in
theorem ggX3_use_X3_requireBlock : GoodIn wsX3_use wsX3_requireBlock := goodIn_ca (goodIn_r _ [6, 7, 8, 1, 9, 30, 31, 32, 33, 34, 35, 36, 37, 38, 39, 40, 41, 42, 43, 44] (by decide +kernel) (by decide +kernel)) (goodIn_sub (fun _ h => List.mem_cons_of_mem _ (List.mem_append_left _ (List.mem_append_right _ h))) (by decide +kernel))
set_option maxRecDepth 20000 in
theorem gX3_use_X3_requireBlock : GoodIn wsX3_use (wsV RX3 61 RX3 yX3_requireBlock wsX3_requireBlock) := goodIn_app (goodIn_of _ (by decide +kernel)) ggX3_use_X3_requireBlock
set_option maxRecDepth 20000 in
theorem ggX3_use_X3_requireExpression : GoodIn wsX3_use wsX3_requireExpression := goodIn_ca (goodIn_r _ [13, 7, 8, 1, 14, 30, 31, 32, 33, 34, 35, 36, 37, 38, 39, 40, 41, 42, 43, 44] (by decide +kernel) (by decide +kernel)) (goodIn_sub (fun _ h => List.mem_cons_of_mem _ (List.mem_append_left _ (List.mem_append_right _ h))) (by decide +kernel))
set_option maxRecDepth 20000 in
theorem gX3_use_X3_requireExpression : GoodIn wsX3_use (wsV RX3 88 RX3 yX3_requireExpression wsX3_requireExpression) := goodIn_app (goodIn_of _ (by decide +kernel)) ggX3_use_X3_requireExpression
set_option maxRecDepth 20000 in
theorem ggX3_use_X3_requireRoom : GoodIn wsX3_use wsX3_requireRoom := goodIn_ca (goodIn_r _ [18, 19, 20, 1, 21, 30, 31, 32, 33, 34, 35, 36, 37, 38, 39, 40, 41, 42, 43, 44] (by decide +kernel) (by decide +kernel)) (goodIn_sub (fun _ h => List.mem_cons_of_mem _ (List.mem_append_right _ h)) (by decide +kernel))
set_option maxRecDepth 20000 in
theorem gX3_use_X3_requireRoom : GoodIn wsX3_use (wsV RX3 91 RX3 yX3_requireRoom wsX3_requireRoom) := goodIn_app (goodIn_of _ (by decide +kernel)) ggX3_use_X3_requireRoom
set_option maxRecDepth 20000 in
theorem ggX3_use_X1_append : GoodIn wsX3_use wsX1_append := goodIn_r _ [26, 27, 28, 29, 33, 34, 35, 36, 37, 38, 39, 40, 41, 42, 43, 44] (by decide +kernel) (by decide +kernel)
set_option maxRecDepth 20000 in
theorem gX3_use_X1_append : GoodIn wsX3_use (wsV RX3 94 RX1 yX1_append wsX1_append) := goodIn_app (goodIn_of _ (by decide +kernel)) ggX3_use_X1_append
theorem dX3_use_0 : decode cX3_use 0 = .ok (.aload_n 0, 1) := by decide +kernel
theorem dX3_use_1 : decode cX3_use 1 = .ok (.iload_n 1, 1) := by decide +kernel
theorem dX3_use_2 : decode cX3_use 2 = .ok (.invokevirtual 61, 3) := by decide +kernel
theorem dX3_use_5 : decode cX3_use 5 = .ok (.aload_n 0, 1) := by decide +kernel
theorem dX3_use_6 : decode cX3_use 6 = .ok (.iload_n 2, 1) := by decide +kernel
theorem dX3_use_7 : decode cX3_use 7 = .ok (.invokevirtual 88, 3) := by decide +kernel
theorem dX3_use_10 : decode cX3_use 10 = .ok (.aload_n 0, 1) := by decide +kernel
theorem dX3_use_11 : decode cX3_use 11 = .ok (.iload_n 1, 1) := by decide +kernel
theorem dX3_use_12 : decode cX3_use 12 = .ok (.invokevirtual 91, 3) := by decide +kernel
theorem dX3_use_15 : decode cX3_use 15 = .ok (.aload_n 0, 1) := by decide +kernel
theorem dX3_use_16 : decode cX3_use 16 = .ok (.getfield 10, 3) := by decide +kernel
theorem dX3_use_19 : decode cX3_use 19 = .ok (.iload_n 1, 1) := by decide +kernel
theorem dX3_use_20 : decode cX3_use 20 = .ok (.iconst 1, 1) := by decide +kernel
theorem dX3_use_21 : decode cX3_use 21 = .ok (.iload_n 2, 1) := by decide +kernel
theorem dX3_use_22 : decode cX3_use 22 = .ok (.invokevirtual 94, 3) := by decide +kernel
theorem dX3_use_25 : decode cX3_use 25 = .ok (.ireturn, 1) := by decide +kernel
set_option maxRecDepth 20000 in
theorem ggX3_assign_X3_requireBlock : GoodIn wsX3_assign wsX3_requireBlock := goodIn_ca (goodIn_r _ [8, 1, 2, 3, 9, 25, 26, 27, 28, 29, 30, 31, 32, 33, 34, 35, 36, 37, 38, 39] (by decide +kernel) (by decide +kernel)) (goodIn_sub (fun _ h => List.mem_cons_of_mem _ (List.mem_append_left _ (List.mem_append_right _ h))) (by decide +kernel))
set_option maxRecDepth 20000 in
theorem gX3_assign_X3_requireBlock : GoodIn wsX3_assign (wsV RX3 61 RX3 yX3_requireBlock wsX3_requireBlock) := goodIn_app (goodIn_of _ (by decide +kernel)) ggX3_assign_X3_requireBlock
set_option maxRecDepth 20000 in
theorem ggX3_assign_X3_requireRoom : GoodIn wsX3_assign wsX3_requireRoom := goodIn_ca (goodIn_r _ [13, 14, 15, 3, 16, 25, 26, 27, 28, 29, 30, 31, 32, 33, 34, 35, 36, 37, 38, 39] (by decide +kernel) (by decide +kernel)) (goodIn_sub (fun _ h => List.mem_cons_of_mem _ (List.mem_append_right _ h)) (by decide +kernel))
set_option maxRecDepth 20000 in
theorem gX3_assign_X3_requireRoom : GoodIn wsX3_assign (wsV RX3 91 RX3 yX3_requireRoom wsX3_requireRoom) := goodIn_app (goodIn_of _ (by decide +kernel)) ggX3_assign_X3_requireRoom
set_option maxRecDepth 20000 in
theorem ggX3_assign_X1_append : GoodIn wsX3_assign wsX1_append := goodIn_r _ [21, 22, 23, 24, 28, 29, 30, 31, 32, 33, 34, 35, 36, 37, 38, 39] (by decide +kernel) (by decide +kernel)
set_option maxRecDepth 20000 in
theorem gX3_assign_X1_append : GoodIn wsX3_assign (wsV RX3 94 RX1 yX1_append wsX1_append) := goodIn_app (goodIn_of _ (by decide +kernel)) ggX3_assign_X1_append
theorem dX3_assign_0 : decode cX3_assign 0 = .ok (.aload_n 0, 1) := by decide +kernel
theorem dX3_assign_1 : decode cX3_assign 1 = .ok (.iload_n 1, 1) := by decide +kernel
theorem dX3_assign_2 : decode cX3_assign 2 = .ok (.invokevirtual 61, 3) := by decide +kernel
theorem dX3_assign_5 : decode cX3_assign 5 = .ok (.iload_n 2, 1) := by decide +kernel
theorem dX3_assign_6 : decode cX3_assign 6 = .ok (.ifCond .lt 9, 3) := by decide +kernel
theorem dX3_assign_9 : decode cX3_assign 9 = .ok (.iload_n 2, 1) := by decide +kernel
theorem dX3_assign_10 : decode cX3_assign 10 = .ok (.bipush 6, 2) := by decide +kernel
theorem dX3_assign_12 : decode cX3_assign 12 = .ok (.if_icmp .lt 13, 3) := by decide +kernel
theorem dX3_assign_15 : decode cX3_assign 15 = .ok (.new 98, 3) := by decide +kernel
theorem dX3_assign_18 : decode cX3_assign 18 = .ok (.dup, 1) := by decide +kernel
theorem dX3_assign_19 : decode cX3_assign 19 = .ok (.ldc 100, 2) := by decide +kernel
theorem dX3_assign_21 : decode cX3_assign 21 = .ok (.invokespecial 102, 3) := by decide +kernel
theorem dX3_assign_24 : decode cX3_assign 24 = .ok (.athrow, 1) := by decide +kernel
theorem dX3_assign_25 : decode cX3_assign 25 = .ok (.aload_n 0, 1) := by decide +kernel
theorem dX3_assign_26 : decode cX3_assign 26 = .ok (.iload_n 1, 1) := by decide +kernel
theorem dX3_assign_27 : decode cX3_assign 27 = .ok (.invokevirtual 91, 3) := by decide +kernel
theorem dX3_assign_30 : decode cX3_assign 30 = .ok (.aload_n 0, 1) := by decide +kernel
theorem dX3_assign_31 : decode cX3_assign 31 = .ok (.getfield 10, 3) := by decide +kernel
theorem dX3_assign_34 : decode cX3_assign 34 = .ok (.iload_n 1, 1) := by decide +kernel
theorem dX3_assign_35 : decode cX3_assign 35 = .ok (.iconst 2, 1) := by decide +kernel
theorem dX3_assign_36 : decode cX3_assign 36 = .ok (.iload_n 2, 1) := by decide +kernel
theorem dX3_assign_37 : decode cX3_assign 37 = .ok (.invokevirtual 94, 3) := by decide +kernel
theorem dX3_assign_40 : decode cX3_assign 40 = .ok (.ireturn, 1) := by decide +kernel
set_option maxRecDepth 20000 in
theorem ggX3_drop_X3_requireBlock : GoodIn wsX3_drop wsX3_requireBlock := goodIn_ca (goodIn_r _ [9, 10, 11, 3, 12, 20, 21, 22, 23, 24, 25, 26, 27, 28, 29, 30, 31, 32, 33, 34] (by decide +kernel) (by decide +kernel)) (goodIn_sub (fun _ h => List.mem_cons_of_mem _ (List.mem_append_right _ h)) (by decide +kernel))
set_option maxRecDepth 20000 in
theorem gX3_drop_X3_requireBlock : GoodIn wsX3_drop (wsV RX3 61 RX3 yX3_requireBlock wsX3_requireBlock) := goodIn_app (goodIn_of _ (by decide +kernel)) ggX3_drop_X3_requireBlock
set_option maxRecDepth 20000 in
theorem ggX3_drop_X1_removeLast : GoodIn wsX3_drop wsX1_removeLast := goodIn_r _ [17, 18, 19, 23, 24, 25, 26, 27, 28, 29, 30, 31, 32, 33, 34] (by decide +kernel) (by decide +kernel)
set_option maxRecDepth 20000 in
theorem gX3_drop_X1_removeLast : GoodIn wsX3_drop (wsV RX3 108 RX1 yX1_removeLast wsX1_removeLast) := goodIn_app (goodIn_of _ (by decide +kernel)) ggX3_drop_X1_removeLast
theorem dX3_drop_0 : decode cX3_drop 0 = .ok (.aload_n 0, 1) := by decide +kernel
theorem dX3_drop_1 : decode cX3_drop 1 = .ok (.iload_n 1, 1) := by decide +kernel
theorem dX3_drop_2 : decode cX3_drop 2 = .ok (.invokevirtual 61, 3) := by decide +kernel
theorem dX3_drop_5 : decode cX3_drop 5 = .ok (.aload_n 0, 1) := by decide +kernel
theorem dX3_drop_6 : decode cX3_drop 6 = .ok (.getfield 10, 3) := by decide +kernel
theorem dX3_drop_9 : decode cX3_drop 9 = .ok (.getfield 103, 3) := by decide +kernel
theorem dX3_drop_12 : decode cX3_drop 12 = .ok (.iload_n 1, 1) := by decide +kernel
theorem dX3_drop_13 : decode cX3_drop 13 = .ok (.iaload, 1) := by decide +kernel
theorem dX3_drop_14 : decode cX3_drop 14 = .ok (.ifCond .ne 13, 3) := by decide +kernel
theorem dX3_drop_17 : decode cX3_drop 17 = .ok (.new 43, 3) := by decide +kernel
theorem dX3_drop_20 : decode cX3_drop 20 = .ok (.dup, 1) := by decide +kernel
theorem dX3_drop_21 : decode cX3_drop 21 = .ok (.ldc 106, 2) := by decide +kernel
theorem dX3_drop_23 : decode cX3_drop 23 = .ok (.invokespecial 47, 3) := by decide +kernel
theorem dX3_drop_26 : decode cX3_drop 26 = .ok (.athrow, 1) := by decide +kernel
theorem dX3_drop_27 : decode cX3_drop 27 = .ok (.aload_n 0, 1) := by decide +kernel
theorem dX3_drop_28 : decode cX3_drop 28 = .ok (.getfield 10, 3) := by decide +kernel
theorem dX3_drop_31 : decode cX3_drop 31 = .ok (.iload_n 1, 1) := by decide +kernel
theorem dX3_drop_32 : decode cX3_drop 32 = .ok (.invokevirtual 108, 3) := by decide +kernel
theorem dX3_drop_35 : decode cX3_drop 35 = .ok (.ireturn, 1) := by decide +kernel
theorem dX3_blockCount_0 : decode cX3_blockCount 0 = .ok (.aload_n 0, 1) := by decide +kernel
theorem dX3_blockCount_1 : decode cX3_blockCount 1 = .ok (.getfield 10, 3) := by decide +kernel
theorem dX3_blockCount_4 : decode cX3_blockCount 4 = .ok (.getfield 52, 3) := by decide +kernel
theorem dX3_blockCount_7 : decode cX3_blockCount 7 = .ok (.ireturn, 1) := by decide +kernel
theorem dX3_edgeCount_0 : decode cX3_edgeCount 0 = .ok (.aload_n 0, 1) := by decide +kernel
theorem dX3_edgeCount_1 : decode cX3_edgeCount 1 = .ok (.getfield 10, 3) := by decide +kernel
theorem dX3_edgeCount_4 : decode cX3_edgeCount 4 = .ok (.getfield 79, 3) := by decide +kernel
theorem dX3_edgeCount_7 : decode cX3_edgeCount 7 = .ok (.ireturn, 1) := by decide +kernel
set_option maxRecDepth 20000 in
theorem ggX3_size_X3_requireBlock : GoodIn wsX3_size wsX3_requireBlock := goodIn_ca (goodIn_r _ [7, 8, 9, 1, 10, 11, 12, 13, 14, 15, 16, 17, 18, 19, 20, 21, 22, 23, 24, 25] (by decide +kernel) (by decide +kernel)) (goodIn_sub (fun _ h => List.mem_cons_of_mem _ (List.mem_append_right _ h)) (by decide +kernel))
set_option maxRecDepth 20000 in
theorem gX3_size_X3_requireBlock : GoodIn wsX3_size (wsV RX3 61 RX3 yX3_requireBlock wsX3_requireBlock) := goodIn_app (goodIn_of _ (by decide +kernel)) ggX3_size_X3_requireBlock
theorem dX3_size_0 : decode cX3_size 0 = .ok (.aload_n 0, 1) := by decide +kernel
theorem dX3_size_1 : decode cX3_size 1 = .ok (.iload_n 1, 1) := by decide +kernel
theorem dX3_size_2 : decode cX3_size 2 = .ok (.invokevirtual 61, 3) := by decide +kernel
theorem dX3_size_5 : decode cX3_size 5 = .ok (.aload_n 0, 1) := by decide +kernel
theorem dX3_size_6 : decode cX3_size 6 = .ok (.getfield 10, 3) := by decide +kernel
theorem dX3_size_9 : decode cX3_size 9 = .ok (.getfield 103, 3) := by decide +kernel
theorem dX3_size_12 : decode cX3_size 12 = .ok (.iload_n 1, 1) := by decide +kernel
theorem dX3_size_13 : decode cX3_size 13 = .ok (.iaload, 1) := by decide +kernel
theorem dX3_size_14 : decode cX3_size 14 = .ok (.ireturn, 1) := by decide +kernel
set_option maxRecDepth 20000 in
theorem ggX3_instruction_X3_requireBlock : GoodIn wsX3_instruction wsX3_requireBlock := goodIn_ca (goodIn_r _ [9, 1, 2, 3, 10, 17, 18, 19, 20, 21, 22, 23, 24, 25, 26, 27, 28, 29, 30, 31] (by decide +kernel) (by decide +kernel)) (goodIn_sub (fun _ h => List.mem_cons_of_mem _ (List.mem_append_right _ h)) (by decide +kernel))
set_option maxRecDepth 20000 in
theorem gX3_instruction_X3_requireBlock : GoodIn wsX3_instruction (wsV RX3 61 RX3 yX3_requireBlock wsX3_requireBlock) := goodIn_app (goodIn_of _ (by decide +kernel)) ggX3_instruction_X3_requireBlock
set_option maxRecDepth 20000 in
theorem ggX3_instruction_X1_codeAt : GoodIn wsX3_instruction wsX1_codeAt := goodIn_r _ [15, 16, 20, 21, 22, 23, 24, 25, 26, 27, 28, 29, 30, 31] (by decide +kernel) (by decide +kernel)
set_option maxRecDepth 20000 in
theorem gX3_instruction_X1_codeAt : GoodIn wsX3_instruction (wsV RX3 113 RX1 yX1_codeAt wsX1_codeAt) := goodIn_app (goodIn_of _ (by decide +kernel)) ggX3_instruction_X1_codeAt
theorem dX3_instruction_0 : decode cX3_instruction 0 = .ok (.aload_n 0, 1) := by decide +kernel
theorem dX3_instruction_1 : decode cX3_instruction 1 = .ok (.iload_n 1, 1) := by decide +kernel
theorem dX3_instruction_2 : decode cX3_instruction 2 = .ok (.invokevirtual 61, 3) := by decide +kernel
theorem dX3_instruction_5 : decode cX3_instruction 5 = .ok (.iload_n 2, 1) := by decide +kernel
theorem dX3_instruction_6 : decode cX3_instruction 6 = .ok (.ifCond .lt 16, 3) := by decide +kernel
theorem dX3_instruction_9 : decode cX3_instruction 9 = .ok (.iload_n 2, 1) := by decide +kernel
theorem dX3_instruction_10 : decode cX3_instruction 10 = .ok (.aload_n 0, 1) := by decide +kernel
theorem dX3_instruction_11 : decode cX3_instruction 11 = .ok (.getfield 10, 3) := by decide +kernel
theorem dX3_instruction_14 : decode cX3_instruction 14 = .ok (.getfield 103, 3) := by decide +kernel
theorem dX3_instruction_17 : decode cX3_instruction 17 = .ok (.iload_n 1, 1) := by decide +kernel
theorem dX3_instruction_18 : decode cX3_instruction 18 = .ok (.iaload, 1) := by decide +kernel
theorem dX3_instruction_19 : decode cX3_instruction 19 = .ok (.if_icmp .lt 13, 3) := by decide +kernel
theorem dX3_instruction_22 : decode cX3_instruction 22 = .ok (.new 98, 3) := by decide +kernel
theorem dX3_instruction_25 : decode cX3_instruction 25 = .ok (.dup, 1) := by decide +kernel
theorem dX3_instruction_26 : decode cX3_instruction 26 = .ok (.ldc 111, 2) := by decide +kernel
theorem dX3_instruction_28 : decode cX3_instruction 28 = .ok (.invokespecial 102, 3) := by decide +kernel
theorem dX3_instruction_31 : decode cX3_instruction 31 = .ok (.athrow, 1) := by decide +kernel
theorem dX3_instruction_32 : decode cX3_instruction 32 = .ok (.aload_n 0, 1) := by decide +kernel
theorem dX3_instruction_33 : decode cX3_instruction 33 = .ok (.getfield 10, 3) := by decide +kernel
theorem dX3_instruction_36 : decode cX3_instruction 36 = .ok (.iload_n 1, 1) := by decide +kernel
theorem dX3_instruction_37 : decode cX3_instruction 37 = .ok (.iload_n 2, 1) := by decide +kernel
theorem dX3_instruction_38 : decode cX3_instruction 38 = .ok (.invokevirtual 113, 3) := by decide +kernel
theorem dX3_instruction_41 : decode cX3_instruction 41 = .ok (.ireturn, 1) := by decide +kernel
set_option maxRecDepth 20000 in
theorem ggX3_ends_X3_requireEdge : GoodIn wsX3_ends wsX3_requireEdge := goodIn_ca (goodIn_r _ [6, 7, 8, 1, 9, 17, 18, 19, 20, 21, 22, 23, 24, 25, 26, 27, 28, 29, 30, 31] (by decide +kernel) (by decide +kernel)) (goodIn_sub (fun _ h => List.mem_cons_of_mem _ (List.mem_append_right _ h)) (by decide +kernel))
set_option maxRecDepth 20000 in
theorem gX3_ends_X3_requireEdge : GoodIn wsX3_ends (wsV RX3 116 RX3 yX3_requireEdge wsX3_requireEdge) := goodIn_app (goodIn_of _ (by decide +kernel)) ggX3_ends_X3_requireEdge
set_option maxRecDepth 20000 in
theorem ggX3_ends_X1_endsOf : GoodIn wsX3_ends wsX1_endsOf := goodIn_r _ [14, 15, 16, 20, 21, 22, 23, 24, 25, 26, 27, 28, 29, 30, 31] (by decide +kernel) (by decide +kernel)
set_option maxRecDepth 20000 in
theorem gX3_ends_X1_endsOf : GoodIn wsX3_ends (wsV RX3 119 RX1 yX1_endsOf wsX1_endsOf) := goodIn_app (goodIn_of _ (by decide +kernel)) ggX3_ends_X1_endsOf
theorem dX3_ends_0 : decode cX3_ends 0 = .ok (.aload_n 0, 1) := by decide +kernel
theorem dX3_ends_1 : decode cX3_ends 1 = .ok (.iload_n 1, 1) := by decide +kernel
theorem dX3_ends_2 : decode cX3_ends 2 = .ok (.invokevirtual 116, 3) := by decide +kernel
theorem dX3_ends_5 : decode cX3_ends 5 = .ok (.aload_n 0, 1) := by decide +kernel
theorem dX3_ends_6 : decode cX3_ends 6 = .ok (.getfield 10, 3) := by decide +kernel
theorem dX3_ends_9 : decode cX3_ends 9 = .ok (.iload_n 1, 1) := by decide +kernel
theorem dX3_ends_10 : decode cX3_ends 10 = .ok (.invokevirtual 119, 3) := by decide +kernel
theorem dX3_ends_13 : decode cX3_ends 13 = .ok (.ireturn, 1) := by decide +kernel
set_option maxRecDepth 20000 in
theorem ggX3_kept_X3_requireBlock : GoodIn wsX3_kept wsX3_requireBlock := goodIn_ca (goodIn_r _ [7, 8, 9, 10, 11, 101, 102, 103, 117, 118, 119, 120, 121, 122, 123, 124, 125, 126, 127, 128] (by decide +kernel) (by decide +kernel)) (goodIn_sub (fun _ h => List.mem_cons_of_mem _ (List.mem_append_right _ h)) (by decide +kernel))
set_option maxRecDepth 20000 in
theorem gX3_kept_X3_requireBlock : GoodIn wsX3_kept (wsV RX3 61 RX3 yX3_requireBlock wsX3_requireBlock) := goodIn_app (goodIn_of _ (by decide +kernel)) ggX3_kept_X3_requireBlock
set_option maxRecDepth 20000 in
theorem ggX3_kept_X2_bringUpToDate : GoodIn wsX3_kept wsX2_bringUpToDate := goodIn_r _ [16, 17, 18, 19, 20, 21, 22, 15, 23, 24, 25, 26, 27, 28, 29, 30, 31, 32, 33, 34, 35, 36, 37, 38, 39, 40, 41, 42, 43, 44, 45, 46, 47, 48, 49, 50, 51, 52, 53, 54, 55, 56, 57, 58, 59, 60, 61, 62, 63, 64, 65, 66, 67, 68, 69, 70, 71, 72, 73, 74, 75, 76, 77, 78, 79, 80, 81, 82, 83, 84, 85, 86, 87, 88, 89, 90, 91, 92, 93, 94, 95, 96, 97, 98, 99, 100, 104, 105, 106, 107, 108, 109, 110, 111, 112, 113, 114, 115, 116, 117, 118, 119, 120, 121, 122, 123, 124, 125, 126, 127, 128] (by decide +kernel) (by decide +kernel)
set_option maxRecDepth 20000 in
theorem gX3_kept_X2_bringUpToDate : GoodIn wsX3_kept (wsV RX3 122 RX2 yX2_bringUpToDate wsX2_bringUpToDate) := goodIn_app (goodIn_of _ (by decide +kernel)) ggX3_kept_X2_bringUpToDate
theorem dX3_kept_0 : decode cX3_kept 0 = .ok (.aload_n 0, 1) := by decide +kernel
theorem dX3_kept_1 : decode cX3_kept 1 = .ok (.iload_n 1, 1) := by decide +kernel
theorem dX3_kept_2 : decode cX3_kept 2 = .ok (.invokevirtual 61, 3) := by decide +kernel
theorem dX3_kept_5 : decode cX3_kept 5 = .ok (.aload_n 0, 1) := by decide +kernel
theorem dX3_kept_6 : decode cX3_kept 6 = .ok (.getfield 21, 3) := by decide +kernel
theorem dX3_kept_9 : decode cX3_kept 9 = .ok (.invokevirtual 122, 3) := by decide +kernel
theorem dX3_kept_12 : decode cX3_kept 12 = .ok (.aload_n 0, 1) := by decide +kernel
theorem dX3_kept_13 : decode cX3_kept 13 = .ok (.getfield 21, 3) := by decide +kernel
theorem dX3_kept_16 : decode cX3_kept 16 = .ok (.getfield 125, 3) := by decide +kernel
theorem dX3_kept_19 : decode cX3_kept 19 = .ok (.iload_n 1, 1) := by decide +kernel
theorem dX3_kept_20 : decode cX3_kept 20 = .ok (.iaload, 1) := by decide +kernel
theorem dX3_kept_21 : decode cX3_kept 21 = .ok (.ireturn, 1) := by decide +kernel
set_option maxRecDepth 20000 in
theorem ggX3_early_X3_requireBlock : GoodIn wsX3_early wsX3_requireBlock := goodIn_ca (goodIn_r _ [7, 8, 9, 10, 11, 101, 102, 103, 117, 118, 119, 120, 121, 122, 123, 124, 125, 126, 127, 128] (by decide +kernel) (by decide +kernel)) (goodIn_sub (fun _ h => List.mem_cons_of_mem _ (List.mem_append_right _ h)) (by decide +kernel))
set_option maxRecDepth 20000 in
theorem gX3_early_X3_requireBlock : GoodIn wsX3_early (wsV RX3 61 RX3 yX3_requireBlock wsX3_requireBlock) := goodIn_app (goodIn_of _ (by decide +kernel)) ggX3_early_X3_requireBlock
set_option maxRecDepth 20000 in
theorem ggX3_early_X2_bringUpToDate : GoodIn wsX3_early wsX2_bringUpToDate := goodIn_r _ [16, 17, 18, 19, 20, 21, 22, 15, 23, 24, 25, 26, 27, 28, 29, 30, 31, 32, 33, 34, 35, 36, 37, 38, 39, 40, 41, 42, 43, 44, 45, 46, 47, 48, 49, 50, 51, 52, 53, 54, 55, 56, 57, 58, 59, 60, 61, 62, 63, 64, 65, 66, 67, 68, 69, 70, 71, 72, 73, 74, 75, 76, 77, 78, 79, 80, 81, 82, 83, 84, 85, 86, 87, 88, 89, 90, 91, 92, 93, 94, 95, 96, 97, 98, 99, 100, 104, 105, 106, 107, 108, 109, 110, 111, 112, 113, 114, 115, 116, 117, 118, 119, 120, 121, 122, 123, 124, 125, 126, 127, 128] (by decide +kernel) (by decide +kernel)
set_option maxRecDepth 20000 in
theorem gX3_early_X2_bringUpToDate : GoodIn wsX3_early (wsV RX3 122 RX2 yX2_bringUpToDate wsX2_bringUpToDate) := goodIn_app (goodIn_of _ (by decide +kernel)) ggX3_early_X2_bringUpToDate
theorem dX3_early_0 : decode cX3_early 0 = .ok (.aload_n 0, 1) := by decide +kernel
theorem dX3_early_1 : decode cX3_early 1 = .ok (.iload_n 1, 1) := by decide +kernel
theorem dX3_early_2 : decode cX3_early 2 = .ok (.invokevirtual 61, 3) := by decide +kernel
theorem dX3_early_5 : decode cX3_early 5 = .ok (.aload_n 0, 1) := by decide +kernel
theorem dX3_early_6 : decode cX3_early 6 = .ok (.getfield 21, 3) := by decide +kernel
theorem dX3_early_9 : decode cX3_early 9 = .ok (.invokevirtual 122, 3) := by decide +kernel
theorem dX3_early_12 : decode cX3_early 12 = .ok (.aload_n 0, 1) := by decide +kernel
theorem dX3_early_13 : decode cX3_early 13 = .ok (.getfield 21, 3) := by decide +kernel
theorem dX3_early_16 : decode cX3_early 16 = .ok (.getfield 128, 3) := by decide +kernel
theorem dX3_early_19 : decode cX3_early 19 = .ok (.iload_n 1, 1) := by decide +kernel
theorem dX3_early_20 : decode cX3_early 20 = .ok (.iaload, 1) := by decide +kernel
theorem dX3_early_21 : decode cX3_early 21 = .ok (.ireturn, 1) := by decide +kernel
set_option maxRecDepth 20000 in
theorem ggX3_late_X3_requireBlock : GoodIn wsX3_late wsX3_requireBlock := goodIn_ca (goodIn_r _ [7, 8, 9, 10, 11, 101, 102, 103, 117, 118, 119, 120, 121, 122, 123, 124, 125, 126, 127, 128] (by decide +kernel) (by decide +kernel)) (goodIn_sub (fun _ h => List.mem_cons_of_mem _ (List.mem_append_right _ h)) (by decide +kernel))
set_option maxRecDepth 20000 in
theorem gX3_late_X3_requireBlock : GoodIn wsX3_late (wsV RX3 61 RX3 yX3_requireBlock wsX3_requireBlock) := goodIn_app (goodIn_of _ (by decide +kernel)) ggX3_late_X3_requireBlock
set_option maxRecDepth 20000 in
theorem ggX3_late_X2_bringUpToDate : GoodIn wsX3_late wsX2_bringUpToDate := goodIn_r _ [16, 17, 18, 19, 20, 21, 22, 15, 23, 24, 25, 26, 27, 28, 29, 30, 31, 32, 33, 34, 35, 36, 37, 38, 39, 40, 41, 42, 43, 44, 45, 46, 47, 48, 49, 50, 51, 52, 53, 54, 55, 56, 57, 58, 59, 60, 61, 62, 63, 64, 65, 66, 67, 68, 69, 70, 71, 72, 73, 74, 75, 76, 77, 78, 79, 80, 81, 82, 83, 84, 85, 86, 87, 88, 89, 90, 91, 92, 93, 94, 95, 96, 97, 98, 99, 100, 104, 105, 106, 107, 108, 109, 110, 111, 112, 113, 114, 115, 116, 117, 118, 119, 120, 121, 122, 123, 124, 125, 126, 127, 128] (by decide +kernel) (by decide +kernel)
set_option maxRecDepth 20000 in
theorem gX3_late_X2_bringUpToDate : GoodIn wsX3_late (wsV RX3 122 RX2 yX2_bringUpToDate wsX2_bringUpToDate) := goodIn_app (goodIn_of _ (by decide +kernel)) ggX3_late_X2_bringUpToDate
theorem dX3_late_0 : decode cX3_late 0 = .ok (.aload_n 0, 1) := by decide +kernel
theorem dX3_late_1 : decode cX3_late 1 = .ok (.iload_n 1, 1) := by decide +kernel
theorem dX3_late_2 : decode cX3_late 2 = .ok (.invokevirtual 61, 3) := by decide +kernel
theorem dX3_late_5 : decode cX3_late 5 = .ok (.aload_n 0, 1) := by decide +kernel
theorem dX3_late_6 : decode cX3_late 6 = .ok (.getfield 21, 3) := by decide +kernel
theorem dX3_late_9 : decode cX3_late 9 = .ok (.invokevirtual 122, 3) := by decide +kernel
theorem dX3_late_12 : decode cX3_late 12 = .ok (.aload_n 0, 1) := by decide +kernel
theorem dX3_late_13 : decode cX3_late 13 = .ok (.getfield 21, 3) := by decide +kernel
theorem dX3_late_16 : decode cX3_late 16 = .ok (.getfield 131, 3) := by decide +kernel
theorem dX3_late_19 : decode cX3_late 19 = .ok (.iload_n 1, 1) := by decide +kernel
theorem dX3_late_20 : decode cX3_late 20 = .ok (.iaload, 1) := by decide +kernel
theorem dX3_late_21 : decode cX3_late 21 = .ok (.ireturn, 1) := by decide +kernel
set_option maxRecDepth 20000 in
theorem ggX3_needed_X3_requireBlock : GoodIn wsX3_needed wsX3_requireBlock := goodIn_ca (goodIn_r _ [8, 9, 10, 11, 12, 102, 103, 104, 118, 119, 120, 121, 122, 123, 124, 125, 126, 127, 128, 129] (by decide +kernel) (by decide +kernel)) (goodIn_sub (fun _ h => List.mem_cons_of_mem _ (List.mem_append_right _ h)) (by decide +kernel))
set_option maxRecDepth 20000 in
theorem gX3_needed_X3_requireBlock : GoodIn wsX3_needed (wsV RX3 61 RX3 yX3_requireBlock wsX3_requireBlock) := goodIn_app (goodIn_of _ (by decide +kernel)) ggX3_needed_X3_requireBlock
set_option maxRecDepth 20000 in
theorem ggX3_needed_X2_bringUpToDate : GoodIn wsX3_needed wsX2_bringUpToDate := goodIn_r _ [17, 18, 19, 20, 21, 22, 23, 16, 24, 25, 26, 27, 28, 29, 30, 31, 32, 33, 34, 35, 36, 37, 38, 39, 40, 41, 42, 43, 44, 45, 46, 47, 48, 49, 50, 51, 52, 53, 54, 55, 56, 57, 58, 59, 60, 61, 62, 63, 64, 65, 66, 67, 68, 69, 70, 71, 72, 73, 74, 75, 76, 77, 78, 79, 80, 81, 82, 83, 84, 85, 86, 87, 88, 89, 90, 91, 92, 93, 94, 95, 96, 97, 98, 99, 100, 101, 105, 106, 107, 108, 109, 110, 111, 112, 113, 114, 115, 116, 117, 118, 119, 120, 121, 122, 123, 124, 125, 126, 127, 128, 129] (by decide +kernel) (by decide +kernel)
set_option maxRecDepth 20000 in
theorem gX3_needed_X2_bringUpToDate : GoodIn wsX3_needed (wsV RX3 122 RX2 yX2_bringUpToDate wsX2_bringUpToDate) := goodIn_app (goodIn_of _ (by decide +kernel)) ggX3_needed_X2_bringUpToDate
theorem dX3_needed_0 : decode cX3_needed 0 = .ok (.aload_n 0, 1) := by decide +kernel
theorem dX3_needed_1 : decode cX3_needed 1 = .ok (.iload_n 1, 1) := by decide +kernel
theorem dX3_needed_2 : decode cX3_needed 2 = .ok (.invokevirtual 61, 3) := by decide +kernel
theorem dX3_needed_5 : decode cX3_needed 5 = .ok (.aload_n 0, 1) := by decide +kernel
theorem dX3_needed_6 : decode cX3_needed 6 = .ok (.getfield 21, 3) := by decide +kernel
theorem dX3_needed_9 : decode cX3_needed 9 = .ok (.invokevirtual 122, 3) := by decide +kernel
theorem dX3_needed_12 : decode cX3_needed 12 = .ok (.iload_n 2, 1) := by decide +kernel
theorem dX3_needed_13 : decode cX3_needed 13 = .ok (.ifCond .eq 15, 3) := by decide +kernel
theorem dX3_needed_16 : decode cX3_needed 16 = .ok (.aload_n 0, 1) := by decide +kernel
theorem dX3_needed_17 : decode cX3_needed 17 = .ok (.getfield 21, 3) := by decide +kernel
theorem dX3_needed_20 : decode cX3_needed 20 = .ok (.getfield 134, 3) := by decide +kernel
theorem dX3_needed_23 : decode cX3_needed 23 = .ok (.iload_n 1, 1) := by decide +kernel
theorem dX3_needed_24 : decode cX3_needed 24 = .ok (.iaload, 1) := by decide +kernel
theorem dX3_needed_25 : decode cX3_needed 25 = .ok (.goto 12, 3) := by decide +kernel
theorem dX3_needed_28 : decode cX3_needed 28 = .ok (.aload_n 0, 1) := by decide +kernel
theorem dX3_needed_29 : decode cX3_needed 29 = .ok (.getfield 21, 3) := by decide +kernel
theorem dX3_needed_32 : decode cX3_needed 32 = .ok (.getfield 137, 3) := by decide +kernel
theorem dX3_needed_35 : decode cX3_needed 35 = .ok (.iload_n 1, 1) := by decide +kernel
theorem dX3_needed_36 : decode cX3_needed 36 = .ok (.iaload, 1) := by decide +kernel
theorem dX3_needed_37 : decode cX3_needed 37 = .ok (.ireturn, 1) := by decide +kernel
set_option maxRecDepth 20000 in
theorem ggX3_there_X3_requireBlock : GoodIn wsX3_there wsX3_requireBlock := goodIn_ca (goodIn_r _ [8, 9, 10, 11, 12, 102, 103, 104, 118, 119, 120, 121, 122, 123, 124, 125, 126, 127, 128, 129] (by decide +kernel) (by decide +kernel)) (goodIn_sub (fun _ h => List.mem_cons_of_mem _ (List.mem_append_right _ h)) (by decide +kernel))
set_option maxRecDepth 20000 in
theorem gX3_there_X3_requireBlock : GoodIn wsX3_there (wsV RX3 61 RX3 yX3_requireBlock wsX3_requireBlock) := goodIn_app (goodIn_of _ (by decide +kernel)) ggX3_there_X3_requireBlock
set_option maxRecDepth 20000 in
theorem ggX3_there_X2_bringUpToDate : GoodIn wsX3_there wsX2_bringUpToDate := goodIn_r _ [17, 18, 19, 20, 21, 22, 23, 16, 24, 25, 26, 27, 28, 29, 30, 31, 32, 33, 34, 35, 36, 37, 38, 39, 40, 41, 42, 43, 44, 45, 46, 47, 48, 49, 50, 51, 52, 53, 54, 55, 56, 57, 58, 59, 60, 61, 62, 63, 64, 65, 66, 67, 68, 69, 70, 71, 72, 73, 74, 75, 76, 77, 78, 79, 80, 81, 82, 83, 84, 85, 86, 87, 88, 89, 90, 91, 92, 93, 94, 95, 96, 97, 98, 99, 100, 101, 105, 106, 107, 108, 109, 110, 111, 112, 113, 114, 115, 116, 117, 118, 119, 120, 121, 122, 123, 124, 125, 126, 127, 128, 129] (by decide +kernel) (by decide +kernel)
set_option maxRecDepth 20000 in
theorem gX3_there_X2_bringUpToDate : GoodIn wsX3_there (wsV RX3 122 RX2 yX2_bringUpToDate wsX2_bringUpToDate) := goodIn_app (goodIn_of _ (by decide +kernel)) ggX3_there_X2_bringUpToDate
theorem dX3_there_0 : decode cX3_there 0 = .ok (.aload_n 0, 1) := by decide +kernel
theorem dX3_there_1 : decode cX3_there 1 = .ok (.iload_n 1, 1) := by decide +kernel
theorem dX3_there_2 : decode cX3_there 2 = .ok (.invokevirtual 61, 3) := by decide +kernel
theorem dX3_there_5 : decode cX3_there 5 = .ok (.aload_n 0, 1) := by decide +kernel
theorem dX3_there_6 : decode cX3_there 6 = .ok (.getfield 21, 3) := by decide +kernel
theorem dX3_there_9 : decode cX3_there 9 = .ok (.invokevirtual 122, 3) := by decide +kernel
theorem dX3_there_12 : decode cX3_there 12 = .ok (.iload_n 2, 1) := by decide +kernel
theorem dX3_there_13 : decode cX3_there 13 = .ok (.ifCond .eq 15, 3) := by decide +kernel
theorem dX3_there_16 : decode cX3_there 16 = .ok (.aload_n 0, 1) := by decide +kernel
theorem dX3_there_17 : decode cX3_there 17 = .ok (.getfield 21, 3) := by decide +kernel
theorem dX3_there_20 : decode cX3_there 20 = .ok (.getfield 140, 3) := by decide +kernel
theorem dX3_there_23 : decode cX3_there 23 = .ok (.iload_n 1, 1) := by decide +kernel
theorem dX3_there_24 : decode cX3_there 24 = .ok (.iaload, 1) := by decide +kernel
theorem dX3_there_25 : decode cX3_there 25 = .ok (.goto 12, 3) := by decide +kernel
theorem dX3_there_28 : decode cX3_there 28 = .ok (.aload_n 0, 1) := by decide +kernel
theorem dX3_there_29 : decode cX3_there 29 = .ok (.getfield 21, 3) := by decide +kernel
theorem dX3_there_32 : decode cX3_there 32 = .ok (.getfield 143, 3) := by decide +kernel
theorem dX3_there_35 : decode cX3_there 35 = .ok (.iload_n 1, 1) := by decide +kernel
theorem dX3_there_36 : decode cX3_there 36 = .ok (.iaload, 1) := by decide +kernel
theorem dX3_there_37 : decode cX3_there 37 = .ok (.ireturn, 1) := by decide +kernel
set_option maxRecDepth 20000 in
theorem ggX3_earliest_X3_requireEdge : GoodIn wsX3_earliest wsX3_requireEdge := goodIn_ca (goodIn_r _ [7, 8, 9, 10, 11, 101, 102, 103, 117, 118, 119, 120, 121, 122, 123, 124, 125, 126, 127, 128] (by decide +kernel) (by decide +kernel)) (goodIn_sub (fun _ h => List.mem_cons_of_mem _ (List.mem_append_right _ h)) (by decide +kernel))
set_option maxRecDepth 20000 in
theorem gX3_earliest_X3_requireEdge : GoodIn wsX3_earliest (wsV RX3 116 RX3 yX3_requireEdge wsX3_requireEdge) := goodIn_app (goodIn_of _ (by decide +kernel)) ggX3_earliest_X3_requireEdge
set_option maxRecDepth 20000 in
theorem ggX3_earliest_X2_bringUpToDate : GoodIn wsX3_earliest wsX2_bringUpToDate := goodIn_r _ [16, 17, 18, 19, 20, 21, 22, 15, 23, 24, 25, 26, 27, 28, 29, 30, 31, 32, 33, 34, 35, 36, 37, 38, 39, 40, 41, 42, 43, 44, 45, 46, 47, 48, 49, 50, 51, 52, 53, 54, 55, 56, 57, 58, 59, 60, 61, 62, 63, 64, 65, 66, 67, 68, 69, 70, 71, 72, 73, 74, 75, 76, 77, 78, 79, 80, 81, 82, 83, 84, 85, 86, 87, 88, 89, 90, 91, 92, 93, 94, 95, 96, 97, 98, 99, 100, 104, 105, 106, 107, 108, 109, 110, 111, 112, 113, 114, 115, 116, 117, 118, 119, 120, 121, 122, 123, 124, 125, 126, 127, 128] (by decide +kernel) (by decide +kernel)
set_option maxRecDepth 20000 in
theorem gX3_earliest_X2_bringUpToDate : GoodIn wsX3_earliest (wsV RX3 122 RX2 yX2_bringUpToDate wsX2_bringUpToDate) := goodIn_app (goodIn_of _ (by decide +kernel)) ggX3_earliest_X2_bringUpToDate
theorem dX3_earliest_0 : decode cX3_earliest 0 = .ok (.aload_n 0, 1) := by decide +kernel
theorem dX3_earliest_1 : decode cX3_earliest 1 = .ok (.iload_n 1, 1) := by decide +kernel
theorem dX3_earliest_2 : decode cX3_earliest 2 = .ok (.invokevirtual 116, 3) := by decide +kernel
theorem dX3_earliest_5 : decode cX3_earliest 5 = .ok (.aload_n 0, 1) := by decide +kernel
theorem dX3_earliest_6 : decode cX3_earliest 6 = .ok (.getfield 21, 3) := by decide +kernel
theorem dX3_earliest_9 : decode cX3_earliest 9 = .ok (.invokevirtual 122, 3) := by decide +kernel
theorem dX3_earliest_12 : decode cX3_earliest 12 = .ok (.aload_n 0, 1) := by decide +kernel
theorem dX3_earliest_13 : decode cX3_earliest 13 = .ok (.getfield 21, 3) := by decide +kernel
theorem dX3_earliest_16 : decode cX3_earliest 16 = .ok (.getfield 146, 3) := by decide +kernel
theorem dX3_earliest_19 : decode cX3_earliest 19 = .ok (.iload_n 1, 1) := by decide +kernel
theorem dX3_earliest_20 : decode cX3_earliest 20 = .ok (.iaload, 1) := by decide +kernel
theorem dX3_earliest_21 : decode cX3_earliest 21 = .ok (.ireturn, 1) := by decide +kernel
set_option maxRecDepth 20000 in
theorem ggX3_delayedOn_X3_requireEdge : GoodIn wsX3_delayedOn wsX3_requireEdge := goodIn_ca (goodIn_r _ [7, 8, 9, 10, 11, 101, 102, 103, 117, 118, 119, 120, 121, 122, 123, 124, 125, 126, 127, 128] (by decide +kernel) (by decide +kernel)) (goodIn_sub (fun _ h => List.mem_cons_of_mem _ (List.mem_append_right _ h)) (by decide +kernel))
set_option maxRecDepth 20000 in
theorem gX3_delayedOn_X3_requireEdge : GoodIn wsX3_delayedOn (wsV RX3 116 RX3 yX3_requireEdge wsX3_requireEdge) := goodIn_app (goodIn_of _ (by decide +kernel)) ggX3_delayedOn_X3_requireEdge
set_option maxRecDepth 20000 in
theorem ggX3_delayedOn_X2_bringUpToDate : GoodIn wsX3_delayedOn wsX2_bringUpToDate := goodIn_r _ [16, 17, 18, 19, 20, 21, 22, 15, 23, 24, 25, 26, 27, 28, 29, 30, 31, 32, 33, 34, 35, 36, 37, 38, 39, 40, 41, 42, 43, 44, 45, 46, 47, 48, 49, 50, 51, 52, 53, 54, 55, 56, 57, 58, 59, 60, 61, 62, 63, 64, 65, 66, 67, 68, 69, 70, 71, 72, 73, 74, 75, 76, 77, 78, 79, 80, 81, 82, 83, 84, 85, 86, 87, 88, 89, 90, 91, 92, 93, 94, 95, 96, 97, 98, 99, 100, 104, 105, 106, 107, 108, 109, 110, 111, 112, 113, 114, 115, 116, 117, 118, 119, 120, 121, 122, 123, 124, 125, 126, 127, 128] (by decide +kernel) (by decide +kernel)
set_option maxRecDepth 20000 in
theorem gX3_delayedOn_X2_bringUpToDate : GoodIn wsX3_delayedOn (wsV RX3 122 RX2 yX2_bringUpToDate wsX2_bringUpToDate) := goodIn_app (goodIn_of _ (by decide +kernel)) ggX3_delayedOn_X2_bringUpToDate
theorem dX3_delayedOn_0 : decode cX3_delayedOn 0 = .ok (.aload_n 0, 1) := by decide +kernel
theorem dX3_delayedOn_1 : decode cX3_delayedOn 1 = .ok (.iload_n 1, 1) := by decide +kernel
theorem dX3_delayedOn_2 : decode cX3_delayedOn 2 = .ok (.invokevirtual 116, 3) := by decide +kernel
theorem dX3_delayedOn_5 : decode cX3_delayedOn 5 = .ok (.aload_n 0, 1) := by decide +kernel
theorem dX3_delayedOn_6 : decode cX3_delayedOn 6 = .ok (.getfield 21, 3) := by decide +kernel
theorem dX3_delayedOn_9 : decode cX3_delayedOn 9 = .ok (.invokevirtual 122, 3) := by decide +kernel
theorem dX3_delayedOn_12 : decode cX3_delayedOn 12 = .ok (.aload_n 0, 1) := by decide +kernel
theorem dX3_delayedOn_13 : decode cX3_delayedOn 13 = .ok (.getfield 21, 3) := by decide +kernel
theorem dX3_delayedOn_16 : decode cX3_delayedOn 16 = .ok (.getfield 149, 3) := by decide +kernel
theorem dX3_delayedOn_19 : decode cX3_delayedOn 19 = .ok (.iload_n 1, 1) := by decide +kernel
theorem dX3_delayedOn_20 : decode cX3_delayedOn 20 = .ok (.iaload, 1) := by decide +kernel
theorem dX3_delayedOn_21 : decode cX3_delayedOn 21 = .ok (.ireturn, 1) := by decide +kernel
set_option maxRecDepth 20000 in
theorem ggX3_delayedAt_X3_requireBlock : GoodIn wsX3_delayedAt wsX3_requireBlock := goodIn_ca (goodIn_r _ [7, 8, 9, 10, 11, 101, 102, 103, 117, 118, 119, 120, 121, 122, 123, 124, 125, 126, 127, 128] (by decide +kernel) (by decide +kernel)) (goodIn_sub (fun _ h => List.mem_cons_of_mem _ (List.mem_append_right _ h)) (by decide +kernel))
set_option maxRecDepth 20000 in
theorem gX3_delayedAt_X3_requireBlock : GoodIn wsX3_delayedAt (wsV RX3 61 RX3 yX3_requireBlock wsX3_requireBlock) := goodIn_app (goodIn_of _ (by decide +kernel)) ggX3_delayedAt_X3_requireBlock
set_option maxRecDepth 20000 in
theorem ggX3_delayedAt_X2_bringUpToDate : GoodIn wsX3_delayedAt wsX2_bringUpToDate := goodIn_r _ [16, 17, 18, 19, 20, 21, 22, 15, 23, 24, 25, 26, 27, 28, 29, 30, 31, 32, 33, 34, 35, 36, 37, 38, 39, 40, 41, 42, 43, 44, 45, 46, 47, 48, 49, 50, 51, 52, 53, 54, 55, 56, 57, 58, 59, 60, 61, 62, 63, 64, 65, 66, 67, 68, 69, 70, 71, 72, 73, 74, 75, 76, 77, 78, 79, 80, 81, 82, 83, 84, 85, 86, 87, 88, 89, 90, 91, 92, 93, 94, 95, 96, 97, 98, 99, 100, 104, 105, 106, 107, 108, 109, 110, 111, 112, 113, 114, 115, 116, 117, 118, 119, 120, 121, 122, 123, 124, 125, 126, 127, 128] (by decide +kernel) (by decide +kernel)
set_option maxRecDepth 20000 in
theorem gX3_delayedAt_X2_bringUpToDate : GoodIn wsX3_delayedAt (wsV RX3 122 RX2 yX2_bringUpToDate wsX2_bringUpToDate) := goodIn_app (goodIn_of _ (by decide +kernel)) ggX3_delayedAt_X2_bringUpToDate
theorem dX3_delayedAt_0 : decode cX3_delayedAt 0 = .ok (.aload_n 0, 1) := by decide +kernel
theorem dX3_delayedAt_1 : decode cX3_delayedAt 1 = .ok (.iload_n 1, 1) := by decide +kernel
theorem dX3_delayedAt_2 : decode cX3_delayedAt 2 = .ok (.invokevirtual 61, 3) := by decide +kernel
theorem dX3_delayedAt_5 : decode cX3_delayedAt 5 = .ok (.aload_n 0, 1) := by decide +kernel
theorem dX3_delayedAt_6 : decode cX3_delayedAt 6 = .ok (.getfield 21, 3) := by decide +kernel
theorem dX3_delayedAt_9 : decode cX3_delayedAt 9 = .ok (.invokevirtual 122, 3) := by decide +kernel
theorem dX3_delayedAt_12 : decode cX3_delayedAt 12 = .ok (.aload_n 0, 1) := by decide +kernel
theorem dX3_delayedAt_13 : decode cX3_delayedAt 13 = .ok (.getfield 21, 3) := by decide +kernel
theorem dX3_delayedAt_16 : decode cX3_delayedAt 16 = .ok (.getfield 152, 3) := by decide +kernel
theorem dX3_delayedAt_19 : decode cX3_delayedAt 19 = .ok (.iload_n 1, 1) := by decide +kernel
theorem dX3_delayedAt_20 : decode cX3_delayedAt 20 = .ok (.iaload, 1) := by decide +kernel
theorem dX3_delayedAt_21 : decode cX3_delayedAt 21 = .ok (.ireturn, 1) := by decide +kernel
set_option maxRecDepth 20000 in
theorem ggX3_insertions_X3_requireEdge : GoodIn wsX3_insertions wsX3_requireEdge := goodIn_ca (goodIn_r _ [7, 8, 9, 10, 11, 101, 102, 103, 117, 118, 119, 120, 121, 122, 123, 124, 125, 126, 127, 128] (by decide +kernel) (by decide +kernel)) (goodIn_sub (fun _ h => List.mem_cons_of_mem _ (List.mem_append_right _ h)) (by decide +kernel))
set_option maxRecDepth 20000 in
theorem gX3_insertions_X3_requireEdge : GoodIn wsX3_insertions (wsV RX3 116 RX3 yX3_requireEdge wsX3_requireEdge) := goodIn_app (goodIn_of _ (by decide +kernel)) ggX3_insertions_X3_requireEdge
set_option maxRecDepth 20000 in
theorem ggX3_insertions_X2_bringUpToDate : GoodIn wsX3_insertions wsX2_bringUpToDate := goodIn_r _ [16, 17, 18, 19, 20, 21, 22, 15, 23, 24, 25, 26, 27, 28, 29, 30, 31, 32, 33, 34, 35, 36, 37, 38, 39, 40, 41, 42, 43, 44, 45, 46, 47, 48, 49, 50, 51, 52, 53, 54, 55, 56, 57, 58, 59, 60, 61, 62, 63, 64, 65, 66, 67, 68, 69, 70, 71, 72, 73, 74, 75, 76, 77, 78, 79, 80, 81, 82, 83, 84, 85, 86, 87, 88, 89, 90, 91, 92, 93, 94, 95, 96, 97, 98, 99, 100, 104, 105, 106, 107, 108, 109, 110, 111, 112, 113, 114, 115, 116, 117, 118, 119, 120, 121, 122, 123, 124, 125, 126, 127, 128] (by decide +kernel) (by decide +kernel)
set_option maxRecDepth 20000 in
theorem gX3_insertions_X2_bringUpToDate : GoodIn wsX3_insertions (wsV RX3 122 RX2 yX2_bringUpToDate wsX2_bringUpToDate) := goodIn_app (goodIn_of _ (by decide +kernel)) ggX3_insertions_X2_bringUpToDate
theorem dX3_insertions_0 : decode cX3_insertions 0 = .ok (.aload_n 0, 1) := by decide +kernel
theorem dX3_insertions_1 : decode cX3_insertions 1 = .ok (.iload_n 1, 1) := by decide +kernel
theorem dX3_insertions_2 : decode cX3_insertions 2 = .ok (.invokevirtual 116, 3) := by decide +kernel
theorem dX3_insertions_5 : decode cX3_insertions 5 = .ok (.aload_n 0, 1) := by decide +kernel
theorem dX3_insertions_6 : decode cX3_insertions 6 = .ok (.getfield 21, 3) := by decide +kernel
theorem dX3_insertions_9 : decode cX3_insertions 9 = .ok (.invokevirtual 122, 3) := by decide +kernel
theorem dX3_insertions_12 : decode cX3_insertions 12 = .ok (.aload_n 0, 1) := by decide +kernel
theorem dX3_insertions_13 : decode cX3_insertions 13 = .ok (.getfield 21, 3) := by decide +kernel
theorem dX3_insertions_16 : decode cX3_insertions 16 = .ok (.getfield 155, 3) := by decide +kernel
theorem dX3_insertions_19 : decode cX3_insertions 19 = .ok (.iload_n 1, 1) := by decide +kernel
theorem dX3_insertions_20 : decode cX3_insertions 20 = .ok (.iaload, 1) := by decide +kernel
theorem dX3_insertions_21 : decode cX3_insertions 21 = .ok (.ireturn, 1) := by decide +kernel
set_option maxRecDepth 20000 in
theorem ggX3_deletions_X3_requireBlock : GoodIn wsX3_deletions wsX3_requireBlock := goodIn_ca (goodIn_r _ [7, 8, 9, 10, 11, 101, 102, 103, 117, 118, 119, 120, 121, 122, 123, 124, 125, 126, 127, 128] (by decide +kernel) (by decide +kernel)) (goodIn_sub (fun _ h => List.mem_cons_of_mem _ (List.mem_append_right _ h)) (by decide +kernel))
set_option maxRecDepth 20000 in
theorem gX3_deletions_X3_requireBlock : GoodIn wsX3_deletions (wsV RX3 61 RX3 yX3_requireBlock wsX3_requireBlock) := goodIn_app (goodIn_of _ (by decide +kernel)) ggX3_deletions_X3_requireBlock
set_option maxRecDepth 20000 in
theorem ggX3_deletions_X2_bringUpToDate : GoodIn wsX3_deletions wsX2_bringUpToDate := goodIn_r _ [16, 17, 18, 19, 20, 21, 22, 15, 23, 24, 25, 26, 27, 28, 29, 30, 31, 32, 33, 34, 35, 36, 37, 38, 39, 40, 41, 42, 43, 44, 45, 46, 47, 48, 49, 50, 51, 52, 53, 54, 55, 56, 57, 58, 59, 60, 61, 62, 63, 64, 65, 66, 67, 68, 69, 70, 71, 72, 73, 74, 75, 76, 77, 78, 79, 80, 81, 82, 83, 84, 85, 86, 87, 88, 89, 90, 91, 92, 93, 94, 95, 96, 97, 98, 99, 100, 104, 105, 106, 107, 108, 109, 110, 111, 112, 113, 114, 115, 116, 117, 118, 119, 120, 121, 122, 123, 124, 125, 126, 127, 128] (by decide +kernel) (by decide +kernel)
set_option maxRecDepth 20000 in
theorem gX3_deletions_X2_bringUpToDate : GoodIn wsX3_deletions (wsV RX3 122 RX2 yX2_bringUpToDate wsX2_bringUpToDate) := goodIn_app (goodIn_of _ (by decide +kernel)) ggX3_deletions_X2_bringUpToDate
theorem dX3_deletions_0 : decode cX3_deletions 0 = .ok (.aload_n 0, 1) := by decide +kernel
theorem dX3_deletions_1 : decode cX3_deletions 1 = .ok (.iload_n 1, 1) := by decide +kernel
theorem dX3_deletions_2 : decode cX3_deletions 2 = .ok (.invokevirtual 61, 3) := by decide +kernel
theorem dX3_deletions_5 : decode cX3_deletions 5 = .ok (.aload_n 0, 1) := by decide +kernel
theorem dX3_deletions_6 : decode cX3_deletions 6 = .ok (.getfield 21, 3) := by decide +kernel
theorem dX3_deletions_9 : decode cX3_deletions 9 = .ok (.invokevirtual 122, 3) := by decide +kernel
theorem dX3_deletions_12 : decode cX3_deletions 12 = .ok (.aload_n 0, 1) := by decide +kernel
theorem dX3_deletions_13 : decode cX3_deletions 13 = .ok (.getfield 21, 3) := by decide +kernel
theorem dX3_deletions_16 : decode cX3_deletions 16 = .ok (.getfield 158, 3) := by decide +kernel
theorem dX3_deletions_19 : decode cX3_deletions 19 = .ok (.iload_n 1, 1) := by decide +kernel
theorem dX3_deletions_20 : decode cX3_deletions 20 = .ok (.iaload, 1) := by decide +kernel
theorem dX3_deletions_21 : decode cX3_deletions 21 = .ok (.ireturn, 1) := by decide +kernel
set_option maxRecDepth 20000 in
theorem ggX3_move_X2_bringUpToDate : GoodIn wsX3_move wsX2_bringUpToDate := goodIn_r _ [11, 12, 13, 14, 15, 16, 17, 10, 18, 19, 20, 21, 22, 23, 24, 25, 26, 27, 28, 29, 30, 31, 32, 33, 34, 35, 36, 37, 38, 39, 40, 41, 42, 43, 44, 45, 46, 47, 48, 49, 50, 51, 52, 53, 54, 55, 56, 57, 58, 59, 60, 61, 62, 63, 64, 65, 66, 67, 68, 69, 70, 71, 72, 73, 74, 75, 76, 77, 78, 79, 80, 81, 82, 83, 84, 85, 86, 87, 88, 89, 90, 91, 92, 93, 94, 95, 155, 156, 157, 158, 159, 160, 161, 162, 163, 164, 165, 166, 167, 143, 144, 145, 146, 147, 148, 149, 150, 151, 152, 153, 154] (by decide +kernel) (by decide +kernel)
set_option maxRecDepth 20000 in
theorem gX3_move_X2_bringUpToDate : GoodIn wsX3_move (wsV RX3 122 RX2 yX2_bringUpToDate wsX2_bringUpToDate) := goodIn_app (goodIn_of _ (by decide +kernel)) ggX3_move_X2_bringUpToDate
set_option maxRecDepth 20000 in
theorem ggX3_move_X2_countEdgesWithInsertions : GoodIn wsX3_move wsX2_countEdgesWithInsertions := goodIn_r _ [99, 12, 50, 94, 155, 156, 157, 158, 159, 160, 161, 162, 163, 164, 165, 166, 167, 143, 144, 145, 146, 147, 148, 149, 150, 151, 152, 153, 154] (by decide +kernel) (by decide +kernel)
set_option maxRecDepth 20000 in
theorem gX3_move_X2_countEdgesWithInsertions : GoodIn wsX3_move (wsV RX3 161 RX2 yX2_countEdgesWithInsertions wsX2_countEdgesWithInsertions) := goodIn_app (goodIn_of _ (by decide +kernel)) ggX3_move_X2_countEdgesWithInsertions
set_option maxRecDepth 20000 in
theorem ggX3_move_X3_deleteComputations : GoodIn wsX3_move wsX3_deleteComputations := goodIn_r _ [104, 4, 5, 3, 105, 106, 107, 108, 27, 109, 110, 29, 111, 112, 25, 26, 28, 140, 141, 142, 143, 144, 145, 146, 147, 148, 149, 150, 151, 152, 153, 154, 155, 156, 157, 158, 159, 160, 161, 162, 163, 164, 165, 166, 167] (by decide +kernel) (by decide +kernel)
set_option maxRecDepth 20000 in
theorem gX3_move_X3_deleteComputations : GoodIn wsX3_move (wsV RX3 166 RX3 yX3_deleteComputations wsX3_deleteComputations) := goodIn_app (goodIn_of _ (by decide +kernel)) ggX3_move_X3_deleteComputations
set_option maxRecDepth 20000 in
theorem ggX3_move_X3_insertComputations : GoodIn wsX3_move wsX3_insertComputations := goodIn_r _ [116, 4, 6, 3, 117, 118, 119, 120, 27, 121, 34, 122, 123, 124, 125, 126, 127, 111, 128, 129, 130, 131, 29, 110, 132, 133, 134, 135, 136, 137, 138, 139, 140, 141, 142, 143, 144, 145, 146, 147, 148, 149, 150, 151, 152, 153, 154, 155, 156, 157, 158, 159, 160, 161, 162, 163, 164, 165, 166, 167] (by decide +kernel) (by decide +kernel)
set_option maxRecDepth 20000 in
theorem gX3_move_X3_insertComputations : GoodIn wsX3_move (wsV RX3 169 RX3 yX3_insertComputations wsX3_insertComputations) := goodIn_app (goodIn_of _ (by decide +kernel)) ggX3_move_X3_insertComputations
theorem dX3_move_0 : decode cX3_move 0 = .ok (.aload_n 0, 1) := by decide +kernel
theorem dX3_move_1 : decode cX3_move 1 = .ok (.getfield 21, 3) := by decide +kernel
theorem dX3_move_4 : decode cX3_move 4 = .ok (.invokevirtual 122, 3) := by decide +kernel
theorem dX3_move_7 : decode cX3_move 7 = .ok (.aload_n 0, 1) := by decide +kernel
theorem dX3_move_8 : decode cX3_move 8 = .ok (.getfield 21, 3) := by decide +kernel
theorem dX3_move_11 : decode cX3_move 11 = .ok (.invokevirtual 161, 3) := by decide +kernel
theorem dX3_move_14 : decode cX3_move 14 = .ok (.istore_n 1, 1) := by decide +kernel
theorem dX3_move_15 : decode cX3_move 15 = .ok (.aload_n 0, 1) := by decide +kernel
theorem dX3_move_16 : decode cX3_move 16 = .ok (.getfield 10, 3) := by decide +kernel
theorem dX3_move_19 : decode cX3_move 19 = .ok (.getfield 52, 3) := by decide +kernel
theorem dX3_move_22 : decode cX3_move 22 = .ok (.iload_n 1, 1) := by decide +kernel
theorem dX3_move_23 : decode cX3_move 23 = .ok (.iadd, 1) := by decide +kernel
theorem dX3_move_24 : decode cX3_move 24 = .ok (.bipush 40, 2) := by decide +kernel
theorem dX3_move_26 : decode cX3_move 26 = .ok (.if_icmp .gt 17, 3) := by decide +kernel
theorem dX3_move_29 : decode cX3_move 29 = .ok (.aload_n 0, 1) := by decide +kernel
theorem dX3_move_30 : decode cX3_move 30 = .ok (.getfield 10, 3) := by decide +kernel
theorem dX3_move_33 : decode cX3_move 33 = .ok (.getfield 79, 3) := by decide +kernel
theorem dX3_move_36 : decode cX3_move 36 = .ok (.iload_n 1, 1) := by decide +kernel
theorem dX3_move_37 : decode cX3_move 37 = .ok (.iadd, 1) := by decide +kernel
theorem dX3_move_38 : decode cX3_move 38 = .ok (.bipush 80, 2) := by decide +kernel
theorem dX3_move_40 : decode cX3_move 40 = .ok (.if_icmp .le 13, 3) := by decide +kernel
theorem dX3_move_43 : decode cX3_move 43 = .ok (.new 43, 3) := by decide +kernel
theorem dX3_move_46 : decode cX3_move 46 = .ok (.dup, 1) := by decide +kernel
theorem dX3_move_47 : decode cX3_move 47 = .ok (.ldc 164, 2) := by decide +kernel
theorem dX3_move_49 : decode cX3_move 49 = .ok (.invokespecial 47, 3) := by decide +kernel
theorem dX3_move_52 : decode cX3_move 52 = .ok (.athrow, 1) := by decide +kernel
theorem dX3_move_53 : decode cX3_move 53 = .ok (.aload_n 0, 1) := by decide +kernel
theorem dX3_move_54 : decode cX3_move 54 = .ok (.invokevirtual 166, 3) := by decide +kernel
theorem dX3_move_57 : decode cX3_move 57 = .ok (.aload_n 0, 1) := by decide +kernel
theorem dX3_move_58 : decode cX3_move 58 = .ok (.invokevirtual 169, 3) := by decide +kernel
theorem dX3_move_61 : decode cX3_move 61 = .ok (.iload_n 1, 1) := by decide +kernel
theorem dX3_move_62 : decode cX3_move 62 = .ok (.ireturn, 1) := by decide +kernel
set_option maxRecDepth 20000 in
theorem ggX3_walk_X0_goThrough : GoodIn wsX3_walk wsX0_goThrough := goodIn_r _ [8, 9, 10, 11, 12, 13, 7, 14, 15, 16, 17, 18, 19, 20, 21, 22, 23, 24, 25, 26, 27, 28, 29, 30, 31, 32, 33, 34, 35, 36, 37, 38, 39, 40, 41, 42, 43, 44, 45, 46, 47, 48, 49, 53, 54, 55, 56, 57, 58, 59, 60, 61, 62, 63, 64, 65, 66, 67, 68, 69, 70, 71, 72, 73] (by decide +kernel) (by decide +kernel)
set_option maxRecDepth 20000 in
theorem gX3_walk_X0_goThrough : GoodIn wsX3_walk (wsV RX3 174 RX0 yX0_goThrough wsX0_goThrough) := goodIn_app (goodIn_of _ (by decide +kernel)) ggX3_walk_X0_goThrough
theorem dX3_walk_0 : decode cX3_walk 0 = .ok (.iload_n 3, 1) := by decide +kernel
theorem dX3_walk_1 : decode cX3_walk 1 = .ok (.iconst 1, 1) := by decide +kernel
theorem dX3_walk_2 : decode cX3_walk 2 = .ok (.if_icmp .lt 10, 3) := by decide +kernel
theorem dX3_walk_5 : decode cX3_walk 5 = .ok (.iload_n 3, 1) := by decide +kernel
theorem dX3_walk_6 : decode cX3_walk 6 = .ok (.sipush 1000, 3) := by decide +kernel
theorem dX3_walk_9 : decode cX3_walk 9 = .ok (.if_icmp .le 13, 3) := by decide +kernel
theorem dX3_walk_12 : decode cX3_walk 12 = .ok (.new 32, 3) := by decide +kernel
theorem dX3_walk_15 : decode cX3_walk 15 = .ok (.dup, 1) := by decide +kernel
theorem dX3_walk_16 : decode cX3_walk 16 = .ok (.ldc 172, 2) := by decide +kernel
theorem dX3_walk_18 : decode cX3_walk 18 = .ok (.invokespecial 36, 3) := by decide +kernel
theorem dX3_walk_21 : decode cX3_walk 21 = .ok (.athrow, 1) := by decide +kernel
theorem dX3_walk_22 : decode cX3_walk 22 = .ok (.aload_n 0, 1) := by decide +kernel
theorem dX3_walk_23 : decode cX3_walk 23 = .ok (.getfield 28, 3) := by decide +kernel
theorem dX3_walk_26 : decode cX3_walk 26 = .ok (.lload_n 1, 1) := by decide +kernel
theorem dX3_walk_27 : decode cX3_walk 27 = .ok (.iload_n 3, 1) := by decide +kernel
theorem dX3_walk_28 : decode cX3_walk 28 = .ok (.invokevirtual 174, 3) := by decide +kernel
theorem dX3_walk_31 : decode cX3_walk 31 = .ok (.ireturn, 1) := by decide +kernel
set_option maxRecDepth 20000 in
theorem ggX3_computed_X3_requireExpression : GoodIn wsX3_computed wsX3_requireExpression := goodIn_ca (goodIn_r _ [7, 8, 9, 10, 11, 12, 13, 14, 24, 25, 26, 27, 28, 29, 30, 31, 32, 33, 34, 35] (by decide +kernel) (by decide +kernel)) (goodIn_sub (fun _ h => List.mem_cons_of_mem _ (List.mem_append_right _ h)) (by decide +kernel))
set_option maxRecDepth 20000 in
theorem gX3_computed_X3_requireExpression : GoodIn wsX3_computed (wsV RX3 88 RX3 yX3_requireExpression wsX3_requireExpression) := goodIn_app (goodIn_of _ (by decide +kernel)) ggX3_computed_X3_requireExpression
theorem dX3_computed_0 : decode cX3_computed 0 = .ok (.aload_n 0, 1) := by decide +kernel
theorem dX3_computed_1 : decode cX3_computed 1 = .ok (.iload_n 1, 1) := by decide +kernel
theorem dX3_computed_2 : decode cX3_computed 2 = .ok (.invokevirtual 88, 3) := by decide +kernel
theorem dX3_computed_5 : decode cX3_computed 5 = .ok (.aload_n 0, 1) := by decide +kernel
theorem dX3_computed_6 : decode cX3_computed 6 = .ok (.getfield 28, 3) := by decide +kernel
theorem dX3_computed_9 : decode cX3_computed 9 = .ok (.getfield 178, 3) := by decide +kernel
theorem dX3_computed_12 : decode cX3_computed 12 = .ok (.iload_n 1, 1) := by decide +kernel
theorem dX3_computed_13 : decode cX3_computed 13 = .ok (.iaload, 1) := by decide +kernel
theorem dX3_computed_14 : decode cX3_computed 14 = .ok (.ireturn, 1) := by decide +kernel
theorem dX3_misses_0 : decode cX3_misses 0 = .ok (.aload_n 0, 1) := by decide +kernel
theorem dX3_misses_1 : decode cX3_misses 1 = .ok (.getfield 28, 3) := by decide +kernel
theorem dX3_misses_4 : decode cX3_misses 4 = .ok (.getfield 181, 3) := by decide +kernel
theorem dX3_misses_7 : decode cX3_misses 7 = .ok (.ireturn, 1) := by decide +kernel
theorem dX3_lastBlock_0 : decode cX3_lastBlock 0 = .ok (.aload_n 0, 1) := by decide +kernel
theorem dX3_lastBlock_1 : decode cX3_lastBlock 1 = .ok (.getfield 28, 3) := by decide +kernel
theorem dX3_lastBlock_4 : decode cX3_lastBlock 4 = .ok (.getfield 184, 3) := by decide +kernel
theorem dX3_lastBlock_7 : decode cX3_lastBlock 7 = .ok (.ireturn, 1) := by decide +kernel
set_option maxRecDepth 20000 in
theorem ggX3_heldFor_X3_requireExpression : GoodIn wsX3_heldFor wsX3_requireExpression := goodIn_ca (goodIn_r _ [7, 8, 9, 10, 11, 12, 13, 14, 24, 25, 26, 27, 28, 29, 30, 31, 32, 33, 34, 35] (by decide +kernel) (by decide +kernel)) (goodIn_sub (fun _ h => List.mem_cons_of_mem _ (List.mem_append_right _ h)) (by decide +kernel))
set_option maxRecDepth 20000 in
theorem gX3_heldFor_X3_requireExpression : GoodIn wsX3_heldFor (wsV RX3 88 RX3 yX3_requireExpression wsX3_requireExpression) := goodIn_app (goodIn_of _ (by decide +kernel)) ggX3_heldFor_X3_requireExpression
theorem dX3_heldFor_0 : decode cX3_heldFor 0 = .ok (.aload_n 0, 1) := by decide +kernel
theorem dX3_heldFor_1 : decode cX3_heldFor 1 = .ok (.iload_n 1, 1) := by decide +kernel
theorem dX3_heldFor_2 : decode cX3_heldFor 2 = .ok (.invokevirtual 88, 3) := by decide +kernel
theorem dX3_heldFor_5 : decode cX3_heldFor 5 = .ok (.aload_n 0, 1) := by decide +kernel
theorem dX3_heldFor_6 : decode cX3_heldFor 6 = .ok (.getfield 28, 3) := by decide +kernel
theorem dX3_heldFor_9 : decode cX3_heldFor 9 = .ok (.getfield 187, 3) := by decide +kernel
theorem dX3_heldFor_12 : decode cX3_heldFor 12 = .ok (.iload_n 1, 1) := by decide +kernel
theorem dX3_heldFor_13 : decode cX3_heldFor 13 = .ok (.iaload, 1) := by decide +kernel
theorem dX3_heldFor_14 : decode cX3_heldFor 14 = .ok (.ireturn, 1) := by decide +kernel
set_option maxRecDepth 20000 in
theorem ggX3_digest_X1_addToChecksum : GoodIn wsX3_digest wsX1_addToChecksum := goodIn_r _ [11, 12, 13, 14, 15, 16, 17, 18, 19, 20, 10, 21, 22, 23, 24, 25, 26, 27, 28, 41, 42, 43, 44, 45, 46, 47, 48, 49, 50, 51, 52] (by decide +kernel) (by decide +kernel)
set_option maxRecDepth 20000 in
theorem gX3_digest_X1_addToChecksum : GoodIn wsX3_digest (wsV RX3 192 RX1 yX1_addToChecksum wsX1_addToChecksum) := goodIn_app (goodIn_of _ (by decide +kernel)) ggX3_digest_X1_addToChecksum
theorem dX3_digest_0 : decode cX3_digest 0 = .ok (.aload_n 0, 1) := by decide +kernel
theorem dX3_digest_1 : decode cX3_digest 1 = .ok (.getfield 10, 3) := by decide +kernel
theorem dX3_digest_4 : decode cX3_digest 4 = .ok (.ldc2_w 190, 3) := by decide +kernel
theorem dX3_digest_7 : decode cX3_digest 7 = .ok (.invokevirtual 192, 3) := by decide +kernel
theorem dX3_digest_10 : decode cX3_digest 10 = .ok (.lstore_n 1, 1) := by decide +kernel
theorem dX3_digest_11 : decode cX3_digest 11 = .ok (.lload_n 1, 1) := by decide +kernel
theorem dX3_digest_12 : decode cX3_digest 12 = .ok (.ldc2_w 196, 3) := by decide +kernel
theorem dX3_digest_15 : decode cX3_digest 15 = .ok (.lmul, 1) := by decide +kernel
theorem dX3_digest_16 : decode cX3_digest 16 = .ok (.aload_n 0, 1) := by decide +kernel
theorem dX3_digest_17 : decode cX3_digest 17 = .ok (.getfield 28, 3) := by decide +kernel
theorem dX3_digest_20 : decode cX3_digest 20 = .ok (.getfield 181, 3) := by decide +kernel
theorem dX3_digest_23 : decode cX3_digest 23 = .ok (.i2l, 1) := by decide +kernel
theorem dX3_digest_24 : decode cX3_digest 24 = .ok (.ladd, 1) := by decide +kernel
theorem dX3_digest_25 : decode cX3_digest 25 = .ok (.lstore_n 1, 1) := by decide +kernel
theorem dX3_digest_26 : decode cX3_digest 26 = .ok (.lload_n 1, 1) := by decide +kernel
theorem dX3_digest_27 : decode cX3_digest 27 = .ok (.ldc2_w 196, 3) := by decide +kernel
theorem dX3_digest_30 : decode cX3_digest 30 = .ok (.lmul, 1) := by decide +kernel
theorem dX3_digest_31 : decode cX3_digest 31 = .ok (.aload_n 0, 1) := by decide +kernel
theorem dX3_digest_32 : decode cX3_digest 32 = .ok (.getfield 28, 3) := by decide +kernel
theorem dX3_digest_35 : decode cX3_digest 35 = .ok (.getfield 184, 3) := by decide +kernel
theorem dX3_digest_38 : decode cX3_digest 38 = .ok (.i2l, 1) := by decide +kernel
theorem dX3_digest_39 : decode cX3_digest 39 = .ok (.ladd, 1) := by decide +kernel
theorem dX3_digest_40 : decode cX3_digest 40 = .ok (.lreturn, 1) := by decide +kernel
theorem dX3_requireBlock_0 : decode cX3_requireBlock 0 = .ok (.iload_n 1, 1) := by decide +kernel
theorem dX3_requireBlock_1 : decode cX3_requireBlock 1 = .ok (.ifCond .lt 14, 3) := by decide +kernel
theorem dX3_requireBlock_4 : decode cX3_requireBlock 4 = .ok (.iload_n 1, 1) := by decide +kernel
theorem dX3_requireBlock_5 : decode cX3_requireBlock 5 = .ok (.aload_n 0, 1) := by decide +kernel
theorem dX3_requireBlock_6 : decode cX3_requireBlock 6 = .ok (.getfield 10, 3) := by decide +kernel
theorem dX3_requireBlock_9 : decode cX3_requireBlock 9 = .ok (.getfield 52, 3) := by decide +kernel
theorem dX3_requireBlock_12 : decode cX3_requireBlock 12 = .ok (.if_icmp .lt 13, 3) := by decide +kernel
theorem dX3_requireBlock_15 : decode cX3_requireBlock 15 = .ok (.new 98, 3) := by decide +kernel
theorem dX3_requireBlock_18 : decode cX3_requireBlock 18 = .ok (.dup, 1) := by decide +kernel
theorem dX3_requireBlock_19 : decode cX3_requireBlock 19 = .ok (.ldc 198, 2) := by decide +kernel
theorem dX3_requireBlock_21 : decode cX3_requireBlock 21 = .ok (.invokespecial 102, 3) := by decide +kernel
theorem dX3_requireBlock_24 : decode cX3_requireBlock 24 = .ok (.athrow, 1) := by decide +kernel
theorem dX3_requireBlock_25 : decode cX3_requireBlock 25 = .ok (.return_, 1) := by decide +kernel
theorem dX3_requireEdge_0 : decode cX3_requireEdge 0 = .ok (.iload_n 1, 1) := by decide +kernel
theorem dX3_requireEdge_1 : decode cX3_requireEdge 1 = .ok (.ifCond .lt 14, 3) := by decide +kernel
theorem dX3_requireEdge_4 : decode cX3_requireEdge 4 = .ok (.iload_n 1, 1) := by decide +kernel
theorem dX3_requireEdge_5 : decode cX3_requireEdge 5 = .ok (.aload_n 0, 1) := by decide +kernel
theorem dX3_requireEdge_6 : decode cX3_requireEdge 6 = .ok (.getfield 10, 3) := by decide +kernel
theorem dX3_requireEdge_9 : decode cX3_requireEdge 9 = .ok (.getfield 79, 3) := by decide +kernel
theorem dX3_requireEdge_12 : decode cX3_requireEdge 12 = .ok (.if_icmp .lt 13, 3) := by decide +kernel
theorem dX3_requireEdge_15 : decode cX3_requireEdge 15 = .ok (.new 98, 3) := by decide +kernel
theorem dX3_requireEdge_18 : decode cX3_requireEdge 18 = .ok (.dup, 1) := by decide +kernel
theorem dX3_requireEdge_19 : decode cX3_requireEdge 19 = .ok (.ldc 200, 2) := by decide +kernel
theorem dX3_requireEdge_21 : decode cX3_requireEdge 21 = .ok (.invokespecial 102, 3) := by decide +kernel
theorem dX3_requireEdge_24 : decode cX3_requireEdge 24 = .ok (.athrow, 1) := by decide +kernel
theorem dX3_requireEdge_25 : decode cX3_requireEdge 25 = .ok (.return_, 1) := by decide +kernel
theorem dX3_requireExpression_0 : decode cX3_requireExpression 0 = .ok (.iload_n 1, 1) := by decide +kernel
theorem dX3_requireExpression_1 : decode cX3_requireExpression 1 = .ok (.ifCond .lt 14, 3) := by decide +kernel
theorem dX3_requireExpression_4 : decode cX3_requireExpression 4 = .ok (.iload_n 1, 1) := by decide +kernel
theorem dX3_requireExpression_5 : decode cX3_requireExpression 5 = .ok (.aload_n 0, 1) := by decide +kernel
theorem dX3_requireExpression_6 : decode cX3_requireExpression 6 = .ok (.getfield 10, 3) := by decide +kernel
theorem dX3_requireExpression_9 : decode cX3_requireExpression 9 = .ok (.getfield 39, 3) := by decide +kernel
theorem dX3_requireExpression_12 : decode cX3_requireExpression 12 = .ok (.if_icmp .lt 13, 3) := by decide +kernel
theorem dX3_requireExpression_15 : decode cX3_requireExpression 15 = .ok (.new 98, 3) := by decide +kernel
theorem dX3_requireExpression_18 : decode cX3_requireExpression 18 = .ok (.dup, 1) := by decide +kernel
theorem dX3_requireExpression_19 : decode cX3_requireExpression 19 = .ok (.ldc 202, 2) := by decide +kernel
theorem dX3_requireExpression_21 : decode cX3_requireExpression 21 = .ok (.invokespecial 102, 3) := by decide +kernel
theorem dX3_requireExpression_24 : decode cX3_requireExpression 24 = .ok (.athrow, 1) := by decide +kernel
theorem dX3_requireExpression_25 : decode cX3_requireExpression 25 = .ok (.return_, 1) := by decide +kernel
theorem dX3_requireRoom_0 : decode cX3_requireRoom 0 = .ok (.aload_n 0, 1) := by decide +kernel
theorem dX3_requireRoom_1 : decode cX3_requireRoom 1 = .ok (.getfield 10, 3) := by decide +kernel
theorem dX3_requireRoom_4 : decode cX3_requireRoom 4 = .ok (.getfield 103, 3) := by decide +kernel
theorem dX3_requireRoom_7 : decode cX3_requireRoom 7 = .ok (.iload_n 1, 1) := by decide +kernel
theorem dX3_requireRoom_8 : decode cX3_requireRoom 8 = .ok (.iaload, 1) := by decide +kernel
theorem dX3_requireRoom_9 : decode cX3_requireRoom 9 = .ok (.bipush 12, 2) := by decide +kernel
theorem dX3_requireRoom_11 : decode cX3_requireRoom 11 = .ok (.if_icmp .lt 13, 3) := by decide +kernel
theorem dX3_requireRoom_14 : decode cX3_requireRoom 14 = .ok (.new 43, 3) := by decide +kernel
theorem dX3_requireRoom_17 : decode cX3_requireRoom 17 = .ok (.dup, 1) := by decide +kernel
theorem dX3_requireRoom_18 : decode cX3_requireRoom 18 = .ok (.ldc 204, 2) := by decide +kernel
theorem dX3_requireRoom_20 : decode cX3_requireRoom 20 = .ok (.invokespecial 47, 3) := by decide +kernel
theorem dX3_requireRoom_23 : decode cX3_requireRoom 23 = .ok (.athrow, 1) := by decide +kernel
theorem dX3_requireRoom_24 : decode cX3_requireRoom 24 = .ok (.return_, 1) := by decide +kernel
set_option maxRecDepth 20000 in
theorem ggX3_deleteComputations_X1_turnFirstComputesToUses : GoodIn wsX3_deleteComputations wsX1_turnFirstComputesToUses := goodIn_r _ [9, 10, 11, 12, 13, 14, 15, 8, 16, 20, 21, 22, 23, 24, 25, 26, 27, 28, 29, 30, 31] (by decide +kernel) (by decide +kernel)
set_option maxRecDepth 20000 in
theorem gX3_deleteComputations_X1_turnFirstComputesToUses : GoodIn wsX3_deleteComputations (wsV RX3 206 RX1 yX1_turnFirstComputesToUses wsX1_turnFirstComputesToUses) := goodIn_app (goodIn_of _ (by decide +kernel)) ggX3_deleteComputations_X1_turnFirstComputesToUses
theorem dX3_deleteComputations_0 : decode cX3_deleteComputations 0 = .ok (.iconst 0, 1) := by decide +kernel
theorem dX3_deleteComputations_1 : decode cX3_deleteComputations 1 = .ok (.istore_n 1, 1) := by decide +kernel
theorem dX3_deleteComputations_2 : decode cX3_deleteComputations 2 = .ok (.iload_n 1, 1) := by decide +kernel
theorem dX3_deleteComputations_3 : decode cX3_deleteComputations 3 = .ok (.aload_n 0, 1) := by decide +kernel
theorem dX3_deleteComputations_4 : decode cX3_deleteComputations 4 = .ok (.getfield 10, 3) := by decide +kernel
theorem dX3_deleteComputations_7 : decode cX3_deleteComputations 7 = .ok (.getfield 52, 3) := by decide +kernel
theorem dX3_deleteComputations_10 : decode cX3_deleteComputations 10 = .ok (.if_icmp .ge 26, 3) := by decide +kernel
theorem dX3_deleteComputations_13 : decode cX3_deleteComputations 13 = .ok (.aload_n 0, 1) := by decide +kernel
theorem dX3_deleteComputations_14 : decode cX3_deleteComputations 14 = .ok (.getfield 10, 3) := by decide +kernel
theorem dX3_deleteComputations_17 : decode cX3_deleteComputations 17 = .ok (.iload_n 1, 1) := by decide +kernel
theorem dX3_deleteComputations_18 : decode cX3_deleteComputations 18 = .ok (.aload_n 0, 1) := by decide +kernel
theorem dX3_deleteComputations_19 : decode cX3_deleteComputations 19 = .ok (.getfield 21, 3) := by decide +kernel
theorem dX3_deleteComputations_22 : decode cX3_deleteComputations 22 = .ok (.getfield 158, 3) := by decide +kernel
theorem dX3_deleteComputations_25 : decode cX3_deleteComputations 25 = .ok (.iload_n 1, 1) := by decide +kernel
theorem dX3_deleteComputations_26 : decode cX3_deleteComputations 26 = .ok (.iaload, 1) := by decide +kernel
theorem dX3_deleteComputations_27 : decode cX3_deleteComputations 27 = .ok (.invokevirtual 206, 3) := by decide +kernel
theorem dX3_deleteComputations_30 : decode cX3_deleteComputations 30 = .ok (.iinc 1 1, 3) := by decide +kernel
theorem dX3_deleteComputations_33 : decode cX3_deleteComputations 33 = .ok (.goto (-31), 3) := by decide +kernel
theorem dX3_deleteComputations_36 : decode cX3_deleteComputations 36 = .ok (.return_, 1) := by decide +kernel
set_option maxRecDepth 20000 in
theorem ggX3_insertComputations_X1_splitEdge : GoodIn wsX3_insertComputations wsX1_splitEdge := goodIn_r _ [9, 10, 11, 12, 13, 14, 8, 15, 16, 17, 18, 19, 20, 21, 22, 23, 24, 25, 26, 27, 28, 29, 30, 31, 35, 36, 37, 38, 39, 40, 41, 42, 43, 44, 45, 46] (by decide +kernel) (by decide +kernel)
set_option maxRecDepth 20000 in
theorem gX3_insertComputations_X1_splitEdge : GoodIn wsX3_insertComputations (wsV RX3 210 RX1 yX1_splitEdge wsX1_splitEdge) := goodIn_app (goodIn_of _ (by decide +kernel)) ggX3_insertComputations_X1_splitEdge
theorem dX3_insertComputations_0 : decode cX3_insertComputations 0 = .ok (.aload_n 0, 1) := by decide +kernel
theorem dX3_insertComputations_1 : decode cX3_insertComputations 1 = .ok (.getfield 10, 3) := by decide +kernel
theorem dX3_insertComputations_4 : decode cX3_insertComputations 4 = .ok (.getfield 79, 3) := by decide +kernel
theorem dX3_insertComputations_7 : decode cX3_insertComputations 7 = .ok (.istore_n 1, 1) := by decide +kernel
theorem dX3_insertComputations_8 : decode cX3_insertComputations 8 = .ok (.iconst 0, 1) := by decide +kernel
theorem dX3_insertComputations_9 : decode cX3_insertComputations 9 = .ok (.istore_n 2, 1) := by decide +kernel
theorem dX3_insertComputations_10 : decode cX3_insertComputations 10 = .ok (.iload_n 2, 1) := by decide +kernel
theorem dX3_insertComputations_11 : decode cX3_insertComputations 11 = .ok (.iload_n 1, 1) := by decide +kernel
theorem dX3_insertComputations_12 : decode cX3_insertComputations 12 = .ok (.if_icmp .ge 38, 3) := by decide +kernel
theorem dX3_insertComputations_15 : decode cX3_insertComputations 15 = .ok (.aload_n 0, 1) := by decide +kernel
theorem dX3_insertComputations_16 : decode cX3_insertComputations 16 = .ok (.getfield 21, 3) := by decide +kernel
theorem dX3_insertComputations_19 : decode cX3_insertComputations 19 = .ok (.getfield 155, 3) := by decide +kernel
theorem dX3_insertComputations_22 : decode cX3_insertComputations 22 = .ok (.iload_n 2, 1) := by decide +kernel
theorem dX3_insertComputations_23 : decode cX3_insertComputations 23 = .ok (.iaload, 1) := by decide +kernel
theorem dX3_insertComputations_24 : decode cX3_insertComputations 24 = .ok (.ifCond .eq 20, 3) := by decide +kernel
theorem dX3_insertComputations_27 : decode cX3_insertComputations 27 = .ok (.aload_n 0, 1) := by decide +kernel
theorem dX3_insertComputations_28 : decode cX3_insertComputations 28 = .ok (.getfield 10, 3) := by decide +kernel
theorem dX3_insertComputations_31 : decode cX3_insertComputations 31 = .ok (.iload_n 2, 1) := by decide +kernel
theorem dX3_insertComputations_32 : decode cX3_insertComputations 32 = .ok (.aload_n 0, 1) := by decide +kernel
theorem dX3_insertComputations_33 : decode cX3_insertComputations 33 = .ok (.getfield 21, 3) := by decide +kernel
theorem dX3_insertComputations_36 : decode cX3_insertComputations 36 = .ok (.getfield 155, 3) := by decide +kernel
theorem dX3_insertComputations_39 : decode cX3_insertComputations 39 = .ok (.iload_n 2, 1) := by decide +kernel
theorem dX3_insertComputations_40 : decode cX3_insertComputations 40 = .ok (.iaload, 1) := by decide +kernel
theorem dX3_insertComputations_41 : decode cX3_insertComputations 41 = .ok (.invokevirtual 210, 3) := by decide +kernel
theorem dX3_insertComputations_44 : decode cX3_insertComputations 44 = .ok (.iinc 2 1, 3) := by decide +kernel
theorem dX3_insertComputations_47 : decode cX3_insertComputations 47 = .ok (.goto (-37), 3) := by decide +kernel
theorem dX3_insertComputations_50 : decode cX3_insertComputations 50 = .ok (.return_, 1) := by decide +kernel
end
section
theorem dX4_init_0 : decode cX4_init 0 = .ok (.aload_n 0, 1) := by decide +kernel
theorem dX4_init_1 : decode cX4_init 1 = .ok (.invokespecial 1, 3) := by decide +kernel
theorem dX4_init_4 : decode cX4_init 4 = .ok (.aload_n 0, 1) := by decide +kernel
theorem dX4_init_5 : decode cX4_init 5 = .ok (.bipush 8, 2) := by decide +kernel
theorem dX4_init_7 : decode cX4_init 7 = .ok (.newarray .int, 2) := by decide +kernel
theorem dX4_init_9 : decode cX4_init 9 = .ok (.putfield 9, 3) := by decide +kernel
theorem dX4_init_12 : decode cX4_init 12 = .ok (.aload_n 0, 1) := by decide +kernel
theorem dX4_init_13 : decode cX4_init 13 = .ok (.iconst 1, 1) := by decide +kernel
theorem dX4_init_14 : decode cX4_init 14 = .ok (.putfield 13, 3) := by decide +kernel
theorem dX4_init_17 : decode cX4_init 17 = .ok (.aload_n 0, 1) := by decide +kernel
theorem dX4_init_18 : decode cX4_init 18 = .ok (.bipush 40, 2) := by decide +kernel
theorem dX4_init_20 : decode cX4_init 20 = .ok (.newarray .int, 2) := by decide +kernel
theorem dX4_init_22 : decode cX4_init 22 = .ok (.putfield 17, 3) := by decide +kernel
theorem dX4_init_25 : decode cX4_init 25 = .ok (.aload_n 0, 1) := by decide +kernel
theorem dX4_init_26 : decode cX4_init 26 = .ok (.sipush 480, 3) := by decide +kernel
theorem dX4_init_29 : decode cX4_init 29 = .ok (.newarray .int, 2) := by decide +kernel
theorem dX4_init_31 : decode cX4_init 31 = .ok (.putfield 20, 3) := by decide +kernel
theorem dX4_init_34 : decode cX4_init 34 = .ok (.aload_n 0, 1) := by decide +kernel
theorem dX4_init_35 : decode cX4_init 35 = .ok (.bipush 80, 2) := by decide +kernel
theorem dX4_init_37 : decode cX4_init 37 = .ok (.newarray .int, 2) := by decide +kernel
theorem dX4_init_39 : decode cX4_init 39 = .ok (.putfield 23, 3) := by decide +kernel
theorem dX4_init_42 : decode cX4_init 42 = .ok (.aload_n 0, 1) := by decide +kernel
theorem dX4_init_43 : decode cX4_init 43 = .ok (.bipush 80, 2) := by decide +kernel
theorem dX4_init_45 : decode cX4_init 45 = .ok (.newarray .int, 2) := by decide +kernel
theorem dX4_init_47 : decode cX4_init 47 = .ok (.putfield 26, 3) := by decide +kernel
theorem dX4_init_50 : decode cX4_init 50 = .ok (.aload_n 0, 1) := by decide +kernel
theorem dX4_init_51 : decode cX4_init 51 = .ok (.bipush 40, 2) := by decide +kernel
theorem dX4_init_53 : decode cX4_init 53 = .ok (.newarray .int, 2) := by decide +kernel
theorem dX4_init_55 : decode cX4_init 55 = .ok (.putfield 29, 3) := by decide +kernel
theorem dX4_init_58 : decode cX4_init 58 = .ok (.aload_n 0, 1) := by decide +kernel
theorem dX4_init_59 : decode cX4_init 59 = .ok (.bipush 40, 2) := by decide +kernel
theorem dX4_init_61 : decode cX4_init 61 = .ok (.newarray .int, 2) := by decide +kernel
theorem dX4_init_63 : decode cX4_init 63 = .ok (.putfield 32, 3) := by decide +kernel
theorem dX4_init_66 : decode cX4_init 66 = .ok (.aload_n 0, 1) := by decide +kernel
theorem dX4_init_67 : decode cX4_init 67 = .ok (.bipush 40, 2) := by decide +kernel
theorem dX4_init_69 : decode cX4_init 69 = .ok (.newarray .int, 2) := by decide +kernel
theorem dX4_init_71 : decode cX4_init 71 = .ok (.putfield 35, 3) := by decide +kernel
theorem dX4_init_74 : decode cX4_init 74 = .ok (.aload_n 0, 1) := by decide +kernel
theorem dX4_init_75 : decode cX4_init 75 = .ok (.bipush 40, 2) := by decide +kernel
theorem dX4_init_77 : decode cX4_init 77 = .ok (.newarray .int, 2) := by decide +kernel
theorem dX4_init_79 : decode cX4_init 79 = .ok (.putfield 38, 3) := by decide +kernel
theorem dX4_init_82 : decode cX4_init 82 = .ok (.aload_n 0, 1) := by decide +kernel
theorem dX4_init_83 : decode cX4_init 83 = .ok (.bipush 40, 2) := by decide +kernel
theorem dX4_init_85 : decode cX4_init 85 = .ok (.newarray .int, 2) := by decide +kernel
theorem dX4_init_87 : decode cX4_init 87 = .ok (.putfield 41, 3) := by decide +kernel
theorem dX4_init_90 : decode cX4_init 90 = .ok (.aload_n 0, 1) := by decide +kernel
theorem dX4_init_91 : decode cX4_init 91 = .ok (.bipush 8, 2) := by decide +kernel
theorem dX4_init_93 : decode cX4_init 93 = .ok (.newarray .int, 2) := by decide +kernel
theorem dX4_init_95 : decode cX4_init 95 = .ok (.putfield 44, 3) := by decide +kernel
theorem dX4_init_98 : decode cX4_init 98 = .ok (.aload_n 0, 1) := by decide +kernel
theorem dX4_init_99 : decode cX4_init 99 = .ok (.bipush 8, 2) := by decide +kernel
theorem dX4_init_101 : decode cX4_init 101 = .ok (.newarray .int, 2) := by decide +kernel
theorem dX4_init_103 : decode cX4_init 103 = .ok (.putfield 47, 3) := by decide +kernel
theorem dX4_init_106 : decode cX4_init 106 = .ok (.aload_n 0, 1) := by decide +kernel
theorem dX4_init_107 : decode cX4_init 107 = .ok (.iconst (-1), 1) := by decide +kernel
theorem dX4_init_108 : decode cX4_init 108 = .ok (.putfield 50, 3) := by decide +kernel
theorem dX4_init_111 : decode cX4_init 111 = .ok (.return_, 1) := by decide +kernel
theorem dX4_thrown_0 : decode cX4_thrown 0 = .ok (.aload_n 0, 1) := by decide +kernel
theorem dX4_thrown_1 : decode cX4_thrown 1 = .ok (.getfield 53, 3) := by decide +kernel
theorem dX4_thrown_4 : decode cX4_thrown 4 = .ok (.ireturn, 1) := by decide +kernel
theorem dX4_no_0 : decode cX4_no 0 = .ok (.aload_n 0, 1) := by decide +kernel
theorem dX4_no_1 : decode cX4_no 1 = .ok (.iload_n 1, 1) := by decide +kernel
theorem dX4_no_2 : decode cX4_no 2 = .ok (.putfield 53, 3) := by decide +kernel
theorem dX4_no_5 : decode cX4_no 5 = .ok (.iconst 0, 1) := by decide +kernel
theorem dX4_no_6 : decode cX4_no 6 = .ok (.ireturn, 1) := by decide +kernel
theorem dX4_isBlock_0 : decode cX4_isBlock 0 = .ok (.iload_n 1, 1) := by decide +kernel
theorem dX4_isBlock_1 : decode cX4_isBlock 1 = .ok (.ifCond .lt 15, 3) := by decide +kernel
theorem dX4_isBlock_4 : decode cX4_isBlock 4 = .ok (.iload_n 1, 1) := by decide +kernel
theorem dX4_isBlock_5 : decode cX4_isBlock 5 = .ok (.aload_n 0, 1) := by decide +kernel
theorem dX4_isBlock_6 : decode cX4_isBlock 6 = .ok (.getfield 13, 3) := by decide +kernel
theorem dX4_isBlock_9 : decode cX4_isBlock 9 = .ok (.if_icmp .ge 7, 3) := by decide +kernel
theorem dX4_isBlock_12 : decode cX4_isBlock 12 = .ok (.iconst 1, 1) := by decide +kernel
theorem dX4_isBlock_13 : decode cX4_isBlock 13 = .ok (.goto 4, 3) := by decide +kernel
theorem dX4_isBlock_16 : decode cX4_isBlock 16 = .ok (.iconst 0, 1) := by decide +kernel
theorem dX4_isBlock_17 : decode cX4_isBlock 17 = .ok (.ireturn, 1) := by decide +kernel
theorem dX4_isEdge_0 : decode cX4_isEdge 0 = .ok (.iload_n 1, 1) := by decide +kernel
theorem dX4_isEdge_1 : decode cX4_isEdge 1 = .ok (.ifCond .lt 15, 3) := by decide +kernel
theorem dX4_isEdge_4 : decode cX4_isEdge 4 = .ok (.iload_n 1, 1) := by decide +kernel
theorem dX4_isEdge_5 : decode cX4_isEdge 5 = .ok (.aload_n 0, 1) := by decide +kernel
theorem dX4_isEdge_6 : decode cX4_isEdge 6 = .ok (.getfield 56, 3) := by decide +kernel
theorem dX4_isEdge_9 : decode cX4_isEdge 9 = .ok (.if_icmp .ge 7, 3) := by decide +kernel
theorem dX4_isEdge_12 : decode cX4_isEdge 12 = .ok (.iconst 1, 1) := by decide +kernel
theorem dX4_isEdge_13 : decode cX4_isEdge 13 = .ok (.goto 4, 3) := by decide +kernel
theorem dX4_isEdge_16 : decode cX4_isEdge 16 = .ok (.iconst 0, 1) := by decide +kernel
theorem dX4_isEdge_17 : decode cX4_isEdge 17 = .ok (.ireturn, 1) := by decide +kernel
theorem dX4_isExpression_0 : decode cX4_isExpression 0 = .ok (.iload_n 1, 1) := by decide +kernel
theorem dX4_isExpression_1 : decode cX4_isExpression 1 = .ok (.ifCond .lt 15, 3) := by decide +kernel
theorem dX4_isExpression_4 : decode cX4_isExpression 4 = .ok (.iload_n 1, 1) := by decide +kernel
theorem dX4_isExpression_5 : decode cX4_isExpression 5 = .ok (.aload_n 0, 1) := by decide +kernel
theorem dX4_isExpression_6 : decode cX4_isExpression 6 = .ok (.getfield 59, 3) := by decide +kernel
theorem dX4_isExpression_9 : decode cX4_isExpression 9 = .ok (.if_icmp .ge 7, 3) := by decide +kernel
theorem dX4_isExpression_12 : decode cX4_isExpression 12 = .ok (.iconst 1, 1) := by decide +kernel
theorem dX4_isExpression_13 : decode cX4_isExpression 13 = .ok (.goto 4, 3) := by decide +kernel
theorem dX4_isExpression_16 : decode cX4_isExpression 16 = .ok (.iconst 0, 1) := by decide +kernel
theorem dX4_isExpression_17 : decode cX4_isExpression 17 = .ok (.ireturn, 1) := by decide +kernel
set_option maxRecDepth 20000 in
theorem ggX4_addExpression_X4_no : GoodIn wsX4_addExpression wsX4_no := goodIn_r _ [8, 1, 9, 10, 11, 12, 13, 14, 15, 16, 17, 18, 19, 20, 21, 22, 23, 24, 25, 26] (by decide +kernel) (by decide +kernel)
set_option maxRecDepth 20000 in
theorem gX4_addExpression_X4_no : GoodIn wsX4_addExpression (wsV RX4 62 RX4 yX4_no wsX4_no) := goodIn_app (goodIn_of _ (by decide +kernel)) ggX4_addExpression_X4_no
theorem dX4_addExpression_0 : decode cX4_addExpression 0 = .ok (.aload_n 0, 1) := by decide +kernel
theorem dX4_addExpression_1 : decode cX4_addExpression 1 = .ok (.iconst 0, 1) := by decide +kernel
theorem dX4_addExpression_2 : decode cX4_addExpression 2 = .ok (.putfield 53, 3) := by decide +kernel
theorem dX4_addExpression_5 : decode cX4_addExpression 5 = .ok (.iload_n 1, 1) := by decide +kernel
theorem dX4_addExpression_6 : decode cX4_addExpression 6 = .ok (.ifCond .lt 9, 3) := by decide +kernel
theorem dX4_addExpression_9 : decode cX4_addExpression 9 = .ok (.iload_n 1, 1) := by decide +kernel
theorem dX4_addExpression_10 : decode cX4_addExpression 10 = .ok (.bipush 63, 2) := by decide +kernel
theorem dX4_addExpression_12 : decode cX4_addExpression 12 = .ok (.if_icmp .le 9, 3) := by decide +kernel
theorem dX4_addExpression_15 : decode cX4_addExpression 15 = .ok (.aload_n 0, 1) := by decide +kernel
theorem dX4_addExpression_16 : decode cX4_addExpression 16 = .ok (.iconst 1, 1) := by decide +kernel
theorem dX4_addExpression_17 : decode cX4_addExpression 17 = .ok (.invokevirtual 62, 3) := by decide +kernel
theorem dX4_addExpression_20 : decode cX4_addExpression 20 = .ok (.ireturn, 1) := by decide +kernel
theorem dX4_addExpression_21 : decode cX4_addExpression 21 = .ok (.aload_n 0, 1) := by decide +kernel
theorem dX4_addExpression_22 : decode cX4_addExpression 22 = .ok (.getfield 59, 3) := by decide +kernel
theorem dX4_addExpression_25 : decode cX4_addExpression 25 = .ok (.bipush 8, 2) := by decide +kernel
theorem dX4_addExpression_27 : decode cX4_addExpression 27 = .ok (.if_icmp .ne 9, 3) := by decide +kernel
theorem dX4_addExpression_30 : decode cX4_addExpression 30 = .ok (.aload_n 0, 1) := by decide +kernel
theorem dX4_addExpression_31 : decode cX4_addExpression 31 = .ok (.iconst 2, 1) := by decide +kernel
theorem dX4_addExpression_32 : decode cX4_addExpression 32 = .ok (.invokevirtual 62, 3) := by decide +kernel
theorem dX4_addExpression_35 : decode cX4_addExpression 35 = .ok (.ireturn, 1) := by decide +kernel
theorem dX4_addExpression_36 : decode cX4_addExpression 36 = .ok (.aload_n 0, 1) := by decide +kernel
theorem dX4_addExpression_37 : decode cX4_addExpression 37 = .ok (.getfield 9, 3) := by decide +kernel
theorem dX4_addExpression_40 : decode cX4_addExpression 40 = .ok (.aload_n 0, 1) := by decide +kernel
theorem dX4_addExpression_41 : decode cX4_addExpression 41 = .ok (.getfield 59, 3) := by decide +kernel
theorem dX4_addExpression_44 : decode cX4_addExpression 44 = .ok (.iload_n 1, 1) := by decide +kernel
theorem dX4_addExpression_45 : decode cX4_addExpression 45 = .ok (.iastore, 1) := by decide +kernel
theorem dX4_addExpression_46 : decode cX4_addExpression 46 = .ok (.aload_n 0, 1) := by decide +kernel
theorem dX4_addExpression_47 : decode cX4_addExpression 47 = .ok (.dup, 1) := by decide +kernel
theorem dX4_addExpression_48 : decode cX4_addExpression 48 = .ok (.getfield 59, 3) := by decide +kernel
theorem dX4_addExpression_51 : decode cX4_addExpression 51 = .ok (.iconst 1, 1) := by decide +kernel
theorem dX4_addExpression_52 : decode cX4_addExpression 52 = .ok (.iadd, 1) := by decide +kernel
theorem dX4_addExpression_53 : decode cX4_addExpression 53 = .ok (.putfield 59, 3) := by decide +kernel
theorem dX4_addExpression_56 : decode cX4_addExpression 56 = .ok (.aload_n 0, 1) := by decide +kernel
theorem dX4_addExpression_57 : decode cX4_addExpression 57 = .ok (.getfield 59, 3) := by decide +kernel
theorem dX4_addExpression_60 : decode cX4_addExpression 60 = .ok (.iconst 1, 1) := by decide +kernel
theorem dX4_addExpression_61 : decode cX4_addExpression 61 = .ok (.isub, 1) := by decide +kernel
theorem dX4_addExpression_62 : decode cX4_addExpression 62 = .ok (.ireturn, 1) := by decide +kernel
set_option maxRecDepth 20000 in
theorem ggX4_addBlock_X4_no : GoodIn wsX4_addBlock wsX4_no := goodIn_r _ [7, 1, 8, 9, 10, 11, 12, 13, 14, 15, 16, 17, 18, 19, 20, 21, 22, 23, 24, 25] (by decide +kernel) (by decide +kernel)
set_option maxRecDepth 20000 in
theorem gX4_addBlock_X4_no : GoodIn wsX4_addBlock (wsV RX4 62 RX4 yX4_no wsX4_no) := goodIn_app (goodIn_of _ (by decide +kernel)) ggX4_addBlock_X4_no
theorem dX4_addBlock_0 : decode cX4_addBlock 0 = .ok (.aload_n 0, 1) := by decide +kernel
theorem dX4_addBlock_1 : decode cX4_addBlock 1 = .ok (.iconst 0, 1) := by decide +kernel
theorem dX4_addBlock_2 : decode cX4_addBlock 2 = .ok (.putfield 53, 3) := by decide +kernel
theorem dX4_addBlock_5 : decode cX4_addBlock 5 = .ok (.aload_n 0, 1) := by decide +kernel
theorem dX4_addBlock_6 : decode cX4_addBlock 6 = .ok (.getfield 13, 3) := by decide +kernel
theorem dX4_addBlock_9 : decode cX4_addBlock 9 = .ok (.bipush 40, 2) := by decide +kernel
theorem dX4_addBlock_11 : decode cX4_addBlock 11 = .ok (.if_icmp .ne 9, 3) := by decide +kernel
theorem dX4_addBlock_14 : decode cX4_addBlock 14 = .ok (.aload_n 0, 1) := by decide +kernel
theorem dX4_addBlock_15 : decode cX4_addBlock 15 = .ok (.iconst 1, 1) := by decide +kernel
theorem dX4_addBlock_16 : decode cX4_addBlock 16 = .ok (.invokevirtual 62, 3) := by decide +kernel
theorem dX4_addBlock_19 : decode cX4_addBlock 19 = .ok (.ireturn, 1) := by decide +kernel
theorem dX4_addBlock_20 : decode cX4_addBlock 20 = .ok (.aload_n 0, 1) := by decide +kernel
theorem dX4_addBlock_21 : decode cX4_addBlock 21 = .ok (.dup, 1) := by decide +kernel
theorem dX4_addBlock_22 : decode cX4_addBlock 22 = .ok (.getfield 13, 3) := by decide +kernel
theorem dX4_addBlock_25 : decode cX4_addBlock 25 = .ok (.iconst 1, 1) := by decide +kernel
theorem dX4_addBlock_26 : decode cX4_addBlock 26 = .ok (.iadd, 1) := by decide +kernel
theorem dX4_addBlock_27 : decode cX4_addBlock 27 = .ok (.putfield 13, 3) := by decide +kernel
theorem dX4_addBlock_30 : decode cX4_addBlock 30 = .ok (.aload_n 0, 1) := by decide +kernel
theorem dX4_addBlock_31 : decode cX4_addBlock 31 = .ok (.getfield 13, 3) := by decide +kernel
theorem dX4_addBlock_34 : decode cX4_addBlock 34 = .ok (.iconst 1, 1) := by decide +kernel
theorem dX4_addBlock_35 : decode cX4_addBlock 35 = .ok (.isub, 1) := by decide +kernel
theorem dX4_addBlock_36 : decode cX4_addBlock 36 = .ok (.ireturn, 1) := by decide +kernel
theorem dX4_exits_0 : decode cX4_exits 0 = .ok (.iconst 0, 1) := by decide +kernel
theorem dX4_exits_1 : decode cX4_exits 1 = .ok (.istore_n 2, 1) := by decide +kernel
theorem dX4_exits_2 : decode cX4_exits 2 = .ok (.iconst 0, 1) := by decide +kernel
theorem dX4_exits_3 : decode cX4_exits 3 = .ok (.istore_n 3, 1) := by decide +kernel
theorem dX4_exits_4 : decode cX4_exits 4 = .ok (.iload_n 3, 1) := by decide +kernel
theorem dX4_exits_5 : decode cX4_exits 5 = .ok (.aload_n 0, 1) := by decide +kernel
theorem dX4_exits_6 : decode cX4_exits 6 = .ok (.getfield 56, 3) := by decide +kernel
theorem dX4_exits_9 : decode cX4_exits 9 = .ok (.if_icmp .ge 27, 3) := by decide +kernel
theorem dX4_exits_12 : decode cX4_exits 12 = .ok (.iload_n 2, 1) := by decide +kernel
theorem dX4_exits_13 : decode cX4_exits 13 = .ok (.aload_n 0, 1) := by decide +kernel
theorem dX4_exits_14 : decode cX4_exits 14 = .ok (.getfield 23, 3) := by decide +kernel
theorem dX4_exits_17 : decode cX4_exits 17 = .ok (.iload_n 3, 1) := by decide +kernel
theorem dX4_exits_18 : decode cX4_exits 18 = .ok (.iaload, 1) := by decide +kernel
theorem dX4_exits_19 : decode cX4_exits 19 = .ok (.iload_n 1, 1) := by decide +kernel
theorem dX4_exits_20 : decode cX4_exits 20 = .ok (.if_icmp .ne 7, 3) := by decide +kernel
theorem dX4_exits_23 : decode cX4_exits 23 = .ok (.iconst 1, 1) := by decide +kernel
theorem dX4_exits_24 : decode cX4_exits 24 = .ok (.goto 4, 3) := by decide +kernel
theorem dX4_exits_27 : decode cX4_exits 27 = .ok (.iconst 0, 1) := by decide +kernel
theorem dX4_exits_28 : decode cX4_exits 28 = .ok (.iadd, 1) := by decide +kernel
theorem dX4_exits_29 : decode cX4_exits 29 = .ok (.istore_n 2, 1) := by decide +kernel
theorem dX4_exits_30 : decode cX4_exits 30 = .ok (.iinc 3 1, 3) := by decide +kernel
theorem dX4_exits_33 : decode cX4_exits 33 = .ok (.goto (-29), 3) := by decide +kernel
theorem dX4_exits_36 : decode cX4_exits 36 = .ok (.iload_n 2, 1) := by decide +kernel
theorem dX4_exits_37 : decode cX4_exits 37 = .ok (.ireturn, 1) := by decide +kernel
set_option maxRecDepth 20000 in
theorem ggX4_addEdge_X4_isBlock : GoodIn wsX4_addEdge wsX4_isBlock := goodIn_r _ [9, 10, 19, 20, 21, 22, 23, 24, 25, 26, 27, 28, 29, 30, 31, 32, 33, 34, 35, 36] (by decide +kernel) (by decide +kernel)
set_option maxRecDepth 20000 in
theorem gX4_addEdge_X4_isBlock : GoodIn wsX4_addEdge (wsV RX4 66 RX4 yX4_isBlock wsX4_isBlock) := goodIn_app (goodIn_of _ (by decide +kernel)) ggX4_addEdge_X4_isBlock
set_option maxRecDepth 20000 in
theorem ggX4_addEdge_X4_no : GoodIn wsX4_addEdge wsX4_no := goodIn_r _ [14, 1, 19, 20, 21, 22, 23, 24, 25, 26, 27, 28, 29, 30, 31, 32, 33, 34, 35, 36] (by decide +kernel) (by decide +kernel)
set_option maxRecDepth 20000 in
theorem gX4_addEdge_X4_no : GoodIn wsX4_addEdge (wsV RX4 62 RX4 yX4_no wsX4_no) := goodIn_app (goodIn_of _ (by decide +kernel)) ggX4_addEdge_X4_no
set_option maxRecDepth 20000 in
theorem ggX4_addEdge_X4_exits : GoodIn wsX4_addEdge wsX4_exits := goodIn_r _ [18, 2, 3, 19, 20, 21, 22, 23, 24, 25, 26, 27, 28, 29, 30, 31, 32, 33, 34, 35, 36] (by decide +kernel) (by decide +kernel)
set_option maxRecDepth 20000 in
theorem gX4_addEdge_X4_exits : GoodIn wsX4_addEdge (wsV RX4 70 RX4 yX4_exits wsX4_exits) := goodIn_app (goodIn_of _ (by decide +kernel)) ggX4_addEdge_X4_exits
theorem dX4_addEdge_0 : decode cX4_addEdge 0 = .ok (.aload_n 0, 1) := by decide +kernel
theorem dX4_addEdge_1 : decode cX4_addEdge 1 = .ok (.iconst 0, 1) := by decide +kernel
theorem dX4_addEdge_2 : decode cX4_addEdge 2 = .ok (.putfield 53, 3) := by decide +kernel
theorem dX4_addEdge_5 : decode cX4_addEdge 5 = .ok (.aload_n 0, 1) := by decide +kernel
theorem dX4_addEdge_6 : decode cX4_addEdge 6 = .ok (.iload_n 1, 1) := by decide +kernel
theorem dX4_addEdge_7 : decode cX4_addEdge 7 = .ok (.invokevirtual 66, 3) := by decide +kernel
theorem dX4_addEdge_10 : decode cX4_addEdge 10 = .ok (.ifCond .eq 11, 3) := by decide +kernel
theorem dX4_addEdge_13 : decode cX4_addEdge 13 = .ok (.aload_n 0, 1) := by decide +kernel
theorem dX4_addEdge_14 : decode cX4_addEdge 14 = .ok (.iload_n 2, 1) := by decide +kernel
theorem dX4_addEdge_15 : decode cX4_addEdge 15 = .ok (.invokevirtual 66, 3) := by decide +kernel
theorem dX4_addEdge_18 : decode cX4_addEdge 18 = .ok (.ifCond .ne 9, 3) := by decide +kernel
theorem dX4_addEdge_21 : decode cX4_addEdge 21 = .ok (.aload_n 0, 1) := by decide +kernel
theorem dX4_addEdge_22 : decode cX4_addEdge 22 = .ok (.iconst 1, 1) := by decide +kernel
theorem dX4_addEdge_23 : decode cX4_addEdge 23 = .ok (.invokevirtual 62, 3) := by decide +kernel
theorem dX4_addEdge_26 : decode cX4_addEdge 26 = .ok (.ireturn, 1) := by decide +kernel
theorem dX4_addEdge_27 : decode cX4_addEdge 27 = .ok (.iload_n 2, 1) := by decide +kernel
theorem dX4_addEdge_28 : decode cX4_addEdge 28 = .ok (.ifCond .ne 7, 3) := by decide +kernel
theorem dX4_addEdge_31 : decode cX4_addEdge 31 = .ok (.iconst 1, 1) := by decide +kernel
theorem dX4_addEdge_32 : decode cX4_addEdge 32 = .ok (.goto 4, 3) := by decide +kernel
theorem dX4_addEdge_35 : decode cX4_addEdge 35 = .ok (.iconst 0, 1) := by decide +kernel
theorem dX4_addEdge_36 : decode cX4_addEdge 36 = .ok (.istore_n 3, 1) := by decide +kernel
theorem dX4_addEdge_37 : decode cX4_addEdge 37 = .ok (.iconst 0, 1) := by decide +kernel
theorem dX4_addEdge_38 : decode cX4_addEdge 38 = .ok (.istore 4, 2) := by decide +kernel
theorem dX4_addEdge_40 : decode cX4_addEdge 40 = .ok (.iload 4, 2) := by decide +kernel
theorem dX4_addEdge_42 : decode cX4_addEdge 42 = .ok (.aload_n 0, 1) := by decide +kernel
theorem dX4_addEdge_43 : decode cX4_addEdge 43 = .ok (.getfield 56, 3) := by decide +kernel
theorem dX4_addEdge_46 : decode cX4_addEdge 46 = .ok (.if_icmp .ge 41, 3) := by decide +kernel
theorem dX4_addEdge_49 : decode cX4_addEdge 49 = .ok (.iload_n 3, 1) := by decide +kernel
theorem dX4_addEdge_50 : decode cX4_addEdge 50 = .ok (.ifCond .ne 25, 3) := by decide +kernel
theorem dX4_addEdge_53 : decode cX4_addEdge 53 = .ok (.aload_n 0, 1) := by decide +kernel
theorem dX4_addEdge_54 : decode cX4_addEdge 54 = .ok (.getfield 23, 3) := by decide +kernel
theorem dX4_addEdge_57 : decode cX4_addEdge 57 = .ok (.iload 4, 2) := by decide +kernel
theorem dX4_addEdge_59 : decode cX4_addEdge 59 = .ok (.iaload, 1) := by decide +kernel
theorem dX4_addEdge_60 : decode cX4_addEdge 60 = .ok (.iload_n 1, 1) := by decide +kernel
theorem dX4_addEdge_61 : decode cX4_addEdge 61 = .ok (.if_icmp .ne 18, 3) := by decide +kernel
theorem dX4_addEdge_64 : decode cX4_addEdge 64 = .ok (.aload_n 0, 1) := by decide +kernel
theorem dX4_addEdge_65 : decode cX4_addEdge 65 = .ok (.getfield 26, 3) := by decide +kernel
theorem dX4_addEdge_68 : decode cX4_addEdge 68 = .ok (.iload 4, 2) := by decide +kernel
theorem dX4_addEdge_70 : decode cX4_addEdge 70 = .ok (.iaload, 1) := by decide +kernel
theorem dX4_addEdge_71 : decode cX4_addEdge 71 = .ok (.iload_n 2, 1) := by decide +kernel
theorem dX4_addEdge_72 : decode cX4_addEdge 72 = .ok (.if_icmp .ne 7, 3) := by decide +kernel
theorem dX4_addEdge_75 : decode cX4_addEdge 75 = .ok (.iconst 1, 1) := by decide +kernel
theorem dX4_addEdge_76 : decode cX4_addEdge 76 = .ok (.goto 4, 3) := by decide +kernel
theorem dX4_addEdge_79 : decode cX4_addEdge 79 = .ok (.iconst 0, 1) := by decide +kernel
theorem dX4_addEdge_80 : decode cX4_addEdge 80 = .ok (.istore_n 3, 1) := by decide +kernel
theorem dX4_addEdge_81 : decode cX4_addEdge 81 = .ok (.iinc 4 1, 3) := by decide +kernel
theorem dX4_addEdge_84 : decode cX4_addEdge 84 = .ok (.goto (-44), 3) := by decide +kernel
theorem dX4_addEdge_87 : decode cX4_addEdge 87 = .ok (.iload_n 3, 1) := by decide +kernel
theorem dX4_addEdge_88 : decode cX4_addEdge 88 = .ok (.ifCond .eq 9, 3) := by decide +kernel
theorem dX4_addEdge_91 : decode cX4_addEdge 91 = .ok (.aload_n 0, 1) := by decide +kernel
theorem dX4_addEdge_92 : decode cX4_addEdge 92 = .ok (.iconst 2, 1) := by decide +kernel
theorem dX4_addEdge_93 : decode cX4_addEdge 93 = .ok (.invokevirtual 62, 3) := by decide +kernel
theorem dX4_addEdge_96 : decode cX4_addEdge 96 = .ok (.ireturn, 1) := by decide +kernel
theorem dX4_addEdge_97 : decode cX4_addEdge 97 = .ok (.aload_n 0, 1) := by decide +kernel
theorem dX4_addEdge_98 : decode cX4_addEdge 98 = .ok (.iload_n 1, 1) := by decide +kernel
theorem dX4_addEdge_99 : decode cX4_addEdge 99 = .ok (.invokevirtual 70, 3) := by decide +kernel
theorem dX4_addEdge_102 : decode cX4_addEdge 102 = .ok (.iconst 2, 1) := by decide +kernel
theorem dX4_addEdge_103 : decode cX4_addEdge 103 = .ok (.if_icmp .eq 12, 3) := by decide +kernel
theorem dX4_addEdge_106 : decode cX4_addEdge 106 = .ok (.aload_n 0, 1) := by decide +kernel
theorem dX4_addEdge_107 : decode cX4_addEdge 107 = .ok (.getfield 56, 3) := by decide +kernel
theorem dX4_addEdge_110 : decode cX4_addEdge 110 = .ok (.bipush 80, 2) := by decide +kernel
theorem dX4_addEdge_112 : decode cX4_addEdge 112 = .ok (.if_icmp .ne 9, 3) := by decide +kernel
theorem dX4_addEdge_115 : decode cX4_addEdge 115 = .ok (.aload_n 0, 1) := by decide +kernel
theorem dX4_addEdge_116 : decode cX4_addEdge 116 = .ok (.iconst 3, 1) := by decide +kernel
theorem dX4_addEdge_117 : decode cX4_addEdge 117 = .ok (.invokevirtual 62, 3) := by decide +kernel
theorem dX4_addEdge_120 : decode cX4_addEdge 120 = .ok (.ireturn, 1) := by decide +kernel
theorem dX4_addEdge_121 : decode cX4_addEdge 121 = .ok (.aload_n 0, 1) := by decide +kernel
theorem dX4_addEdge_122 : decode cX4_addEdge 122 = .ok (.getfield 23, 3) := by decide +kernel
theorem dX4_addEdge_125 : decode cX4_addEdge 125 = .ok (.aload_n 0, 1) := by decide +kernel
theorem dX4_addEdge_126 : decode cX4_addEdge 126 = .ok (.getfield 56, 3) := by decide +kernel
theorem dX4_addEdge_129 : decode cX4_addEdge 129 = .ok (.iload_n 1, 1) := by decide +kernel
theorem dX4_addEdge_130 : decode cX4_addEdge 130 = .ok (.iastore, 1) := by decide +kernel
theorem dX4_addEdge_131 : decode cX4_addEdge 131 = .ok (.aload_n 0, 1) := by decide +kernel
theorem dX4_addEdge_132 : decode cX4_addEdge 132 = .ok (.getfield 26, 3) := by decide +kernel
theorem dX4_addEdge_135 : decode cX4_addEdge 135 = .ok (.aload_n 0, 1) := by decide +kernel
theorem dX4_addEdge_136 : decode cX4_addEdge 136 = .ok (.getfield 56, 3) := by decide +kernel
theorem dX4_addEdge_139 : decode cX4_addEdge 139 = .ok (.iload_n 2, 1) := by decide +kernel
theorem dX4_addEdge_140 : decode cX4_addEdge 140 = .ok (.iastore, 1) := by decide +kernel
theorem dX4_addEdge_141 : decode cX4_addEdge 141 = .ok (.aload_n 0, 1) := by decide +kernel
theorem dX4_addEdge_142 : decode cX4_addEdge 142 = .ok (.dup, 1) := by decide +kernel
theorem dX4_addEdge_143 : decode cX4_addEdge 143 = .ok (.getfield 56, 3) := by decide +kernel
theorem dX4_addEdge_146 : decode cX4_addEdge 146 = .ok (.iconst 1, 1) := by decide +kernel
theorem dX4_addEdge_147 : decode cX4_addEdge 147 = .ok (.iadd, 1) := by decide +kernel
theorem dX4_addEdge_148 : decode cX4_addEdge 148 = .ok (.putfield 56, 3) := by decide +kernel
theorem dX4_addEdge_151 : decode cX4_addEdge 151 = .ok (.aload_n 0, 1) := by decide +kernel
theorem dX4_addEdge_152 : decode cX4_addEdge 152 = .ok (.getfield 56, 3) := by decide +kernel
theorem dX4_addEdge_155 : decode cX4_addEdge 155 = .ok (.iconst 1, 1) := by decide +kernel
theorem dX4_addEdge_156 : decode cX4_addEdge 156 = .ok (.isub, 1) := by decide +kernel
theorem dX4_addEdge_157 : decode cX4_addEdge 157 = .ok (.ireturn, 1) := by decide +kernel
set_option maxRecDepth 20000 in
theorem ggX4_append_X4_no : GoodIn wsX4_append wsX4_no := goodIn_r _ [7, 8, 9, 10, 11, 12, 13, 14, 15, 16, 17, 18, 19, 20, 21, 22, 23, 24, 25, 26] (by decide +kernel) (by decide +kernel)
set_option maxRecDepth 20000 in
theorem gX4_append_X4_no : GoodIn wsX4_append (wsV RX4 62 RX4 yX4_no wsX4_no) := goodIn_app (goodIn_of _ (by decide +kernel)) ggX4_append_X4_no
theorem dX4_append_0 : decode cX4_append 0 = .ok (.aload_n 0, 1) := by decide +kernel
theorem dX4_append_1 : decode cX4_append 1 = .ok (.getfield 17, 3) := by decide +kernel
theorem dX4_append_4 : decode cX4_append 4 = .ok (.iload_n 1, 1) := by decide +kernel
theorem dX4_append_5 : decode cX4_append 5 = .ok (.iaload, 1) := by decide +kernel
theorem dX4_append_6 : decode cX4_append 6 = .ok (.bipush 12, 2) := by decide +kernel
theorem dX4_append_8 : decode cX4_append 8 = .ok (.if_icmp .ne 9, 3) := by decide +kernel
theorem dX4_append_11 : decode cX4_append 11 = .ok (.aload_n 0, 1) := by decide +kernel
theorem dX4_append_12 : decode cX4_append 12 = .ok (.iconst 2, 1) := by decide +kernel
theorem dX4_append_13 : decode cX4_append 13 = .ok (.invokevirtual 62, 3) := by decide +kernel
theorem dX4_append_16 : decode cX4_append 16 = .ok (.ireturn, 1) := by decide +kernel
theorem dX4_append_17 : decode cX4_append 17 = .ok (.aload_n 0, 1) := by decide +kernel
theorem dX4_append_18 : decode cX4_append 18 = .ok (.getfield 20, 3) := by decide +kernel
theorem dX4_append_21 : decode cX4_append 21 = .ok (.bipush 12, 2) := by decide +kernel
theorem dX4_append_23 : decode cX4_append 23 = .ok (.iload_n 1, 1) := by decide +kernel
theorem dX4_append_24 : decode cX4_append 24 = .ok (.imul, 1) := by decide +kernel
theorem dX4_append_25 : decode cX4_append 25 = .ok (.aload_n 0, 1) := by decide +kernel
theorem dX4_append_26 : decode cX4_append 26 = .ok (.getfield 17, 3) := by decide +kernel
theorem dX4_append_29 : decode cX4_append 29 = .ok (.iload_n 1, 1) := by decide +kernel
theorem dX4_append_30 : decode cX4_append 30 = .ok (.iaload, 1) := by decide +kernel
theorem dX4_append_31 : decode cX4_append 31 = .ok (.iadd, 1) := by decide +kernel
theorem dX4_append_32 : decode cX4_append 32 = .ok (.iload_n 2, 1) := by decide +kernel
theorem dX4_append_33 : decode cX4_append 33 = .ok (.iastore, 1) := by decide +kernel
theorem dX4_append_34 : decode cX4_append 34 = .ok (.aload_n 0, 1) := by decide +kernel
theorem dX4_append_35 : decode cX4_append 35 = .ok (.getfield 17, 3) := by decide +kernel
theorem dX4_append_38 : decode cX4_append 38 = .ok (.iload_n 1, 1) := by decide +kernel
theorem dX4_append_39 : decode cX4_append 39 = .ok (.dup2, 1) := by decide +kernel
theorem dX4_append_40 : decode cX4_append 40 = .ok (.iaload, 1) := by decide +kernel
theorem dX4_append_41 : decode cX4_append 41 = .ok (.iconst 1, 1) := by decide +kernel
theorem dX4_append_42 : decode cX4_append 42 = .ok (.iadd, 1) := by decide +kernel
theorem dX4_append_43 : decode cX4_append 43 = .ok (.iastore, 1) := by decide +kernel
theorem dX4_append_44 : decode cX4_append 44 = .ok (.aload_n 0, 1) := by decide +kernel
theorem dX4_append_45 : decode cX4_append 45 = .ok (.getfield 17, 3) := by decide +kernel
theorem dX4_append_48 : decode cX4_append 48 = .ok (.iload_n 1, 1) := by decide +kernel
theorem dX4_append_49 : decode cX4_append 49 = .ok (.iaload, 1) := by decide +kernel
theorem dX4_append_50 : decode cX4_append 50 = .ok (.ireturn, 1) := by decide +kernel
set_option maxRecDepth 20000 in
theorem ggX4_compute_X4_isBlock : GoodIn wsX4_compute wsX4_isBlock := goodIn_r _ [6, 7, 23, 24, 25, 26, 27, 28, 29, 30, 31, 32, 33, 34, 35, 36, 37, 38, 39, 40] (by decide +kernel) (by decide +kernel)
set_option maxRecDepth 20000 in
theorem gX4_compute_X4_isBlock : GoodIn wsX4_compute (wsV RX4 66 RX4 yX4_isBlock wsX4_isBlock) := goodIn_app (goodIn_of _ (by decide +kernel)) ggX4_compute_X4_isBlock
set_option maxRecDepth 20000 in
theorem ggX4_compute_X4_isExpression : GoodIn wsX4_compute wsX4_isExpression := goodIn_r _ [11, 12, 23, 24, 25, 26, 27, 28, 29, 30, 31, 32, 33, 34, 35, 36, 37, 38, 39, 40] (by decide +kernel) (by decide +kernel)
set_option maxRecDepth 20000 in
theorem gX4_compute_X4_isExpression : GoodIn wsX4_compute (wsV RX4 73 RX4 yX4_isExpression wsX4_isExpression) := goodIn_app (goodIn_of _ (by decide +kernel)) ggX4_compute_X4_isExpression
set_option maxRecDepth 20000 in
theorem ggX4_compute_X4_append : GoodIn wsX4_compute wsX4_append := goodIn_r _ [16, 17, 18, 19, 20, 21, 5, 22, 1, 23, 24, 25, 26, 27, 28, 29, 30, 31, 32, 33, 34, 35, 36, 37, 38, 39, 40] (by decide +kernel) (by decide +kernel)
set_option maxRecDepth 20000 in
theorem gX4_compute_X4_append : GoodIn wsX4_compute (wsV RX4 76 RX4 yX4_append wsX4_append) := goodIn_app (goodIn_of _ (by decide +kernel)) ggX4_compute_X4_append
set_option maxRecDepth 20000 in
theorem ggX4_compute_X4_no : GoodIn wsX4_compute wsX4_no := goodIn_r _ [22, 1, 23, 24, 25, 26, 27, 28, 29, 30, 31, 32, 33, 34, 35, 36, 37, 38, 39, 40] (by decide +kernel) (by decide +kernel)
set_option maxRecDepth 20000 in
theorem gX4_compute_X4_no : GoodIn wsX4_compute (wsV RX4 62 RX4 yX4_no wsX4_no) := goodIn_app (goodIn_of _ (by decide +kernel)) ggX4_compute_X4_no
theorem dX4_compute_0 : decode cX4_compute 0 = .ok (.aload_n 0, 1) := by decide +kernel
theorem dX4_compute_1 : decode cX4_compute 1 = .ok (.iconst 0, 1) := by decide +kernel
theorem dX4_compute_2 : decode cX4_compute 2 = .ok (.putfield 53, 3) := by decide +kernel
theorem dX4_compute_5 : decode cX4_compute 5 = .ok (.aload_n 0, 1) := by decide +kernel
theorem dX4_compute_6 : decode cX4_compute 6 = .ok (.iload_n 1, 1) := by decide +kernel
theorem dX4_compute_7 : decode cX4_compute 7 = .ok (.invokevirtual 66, 3) := by decide +kernel
theorem dX4_compute_10 : decode cX4_compute 10 = .ok (.ifCond .eq 24, 3) := by decide +kernel
theorem dX4_compute_13 : decode cX4_compute 13 = .ok (.aload_n 0, 1) := by decide +kernel
theorem dX4_compute_14 : decode cX4_compute 14 = .ok (.iload_n 2, 1) := by decide +kernel
theorem dX4_compute_15 : decode cX4_compute 15 = .ok (.invokevirtual 73, 3) := by decide +kernel
theorem dX4_compute_18 : decode cX4_compute 18 = .ok (.ifCond .eq 16, 3) := by decide +kernel
theorem dX4_compute_21 : decode cX4_compute 21 = .ok (.aload_n 0, 1) := by decide +kernel
theorem dX4_compute_22 : decode cX4_compute 22 = .ok (.iload_n 1, 1) := by decide +kernel
theorem dX4_compute_23 : decode cX4_compute 23 = .ok (.iconst 3, 1) := by decide +kernel
theorem dX4_compute_24 : decode cX4_compute 24 = .ok (.iload_n 2, 1) := by decide +kernel
theorem dX4_compute_25 : decode cX4_compute 25 = .ok (.imul, 1) := by decide +kernel
theorem dX4_compute_26 : decode cX4_compute 26 = .ok (.iconst 0, 1) := by decide +kernel
theorem dX4_compute_27 : decode cX4_compute 27 = .ok (.iadd, 1) := by decide +kernel
theorem dX4_compute_28 : decode cX4_compute 28 = .ok (.invokevirtual 76, 3) := by decide +kernel
theorem dX4_compute_31 : decode cX4_compute 31 = .ok (.goto 8, 3) := by decide +kernel
theorem dX4_compute_34 : decode cX4_compute 34 = .ok (.aload_n 0, 1) := by decide +kernel
theorem dX4_compute_35 : decode cX4_compute 35 = .ok (.iconst 1, 1) := by decide +kernel
theorem dX4_compute_36 : decode cX4_compute 36 = .ok (.invokevirtual 62, 3) := by decide +kernel
theorem dX4_compute_39 : decode cX4_compute 39 = .ok (.ireturn, 1) := by decide +kernel
set_option maxRecDepth 20000 in
theorem ggX4_use_X4_isBlock : GoodIn wsX4_use wsX4_isBlock := goodIn_r _ [6, 7, 23, 24, 25, 26, 27, 28, 29, 30, 31, 32, 33, 34, 35, 36, 37, 38, 39, 40] (by decide +kernel) (by decide +kernel)
set_option maxRecDepth 20000 in
theorem gX4_use_X4_isBlock : GoodIn wsX4_use (wsV RX4 66 RX4 yX4_isBlock wsX4_isBlock) := goodIn_app (goodIn_of _ (by decide +kernel)) ggX4_use_X4_isBlock
set_option maxRecDepth 20000 in
theorem ggX4_use_X4_isExpression : GoodIn wsX4_use wsX4_isExpression := goodIn_r _ [11, 12, 23, 24, 25, 26, 27, 28, 29, 30, 31, 32, 33, 34, 35, 36, 37, 38, 39, 40] (by decide +kernel) (by decide +kernel)
set_option maxRecDepth 20000 in
theorem gX4_use_X4_isExpression : GoodIn wsX4_use (wsV RX4 73 RX4 yX4_isExpression wsX4_isExpression) := goodIn_app (goodIn_of _ (by decide +kernel)) ggX4_use_X4_isExpression
set_option maxRecDepth 20000 in
theorem ggX4_use_X4_append : GoodIn wsX4_use wsX4_append := goodIn_r _ [16, 17, 18, 19, 20, 21, 5, 22, 1, 23, 24, 25, 26, 27, 28, 29, 30, 31, 32, 33, 34, 35, 36, 37, 38, 39, 40] (by decide +kernel) (by decide +kernel)
set_option maxRecDepth 20000 in
theorem gX4_use_X4_append : GoodIn wsX4_use (wsV RX4 76 RX4 yX4_append wsX4_append) := goodIn_app (goodIn_of _ (by decide +kernel)) ggX4_use_X4_append
set_option maxRecDepth 20000 in
theorem ggX4_use_X4_no : GoodIn wsX4_use wsX4_no := goodIn_r _ [22, 1, 23, 24, 25, 26, 27, 28, 29, 30, 31, 32, 33, 34, 35, 36, 37, 38, 39, 40] (by decide +kernel) (by decide +kernel)
set_option maxRecDepth 20000 in
theorem gX4_use_X4_no : GoodIn wsX4_use (wsV RX4 62 RX4 yX4_no wsX4_no) := goodIn_app (goodIn_of _ (by decide +kernel)) ggX4_use_X4_no
theorem dX4_use_0 : decode cX4_use 0 = .ok (.aload_n 0, 1) := by decide +kernel
theorem dX4_use_1 : decode cX4_use 1 = .ok (.iconst 0, 1) := by decide +kernel
theorem dX4_use_2 : decode cX4_use 2 = .ok (.putfield 53, 3) := by decide +kernel
theorem dX4_use_5 : decode cX4_use 5 = .ok (.aload_n 0, 1) := by decide +kernel
theorem dX4_use_6 : decode cX4_use 6 = .ok (.iload_n 1, 1) := by decide +kernel
theorem dX4_use_7 : decode cX4_use 7 = .ok (.invokevirtual 66, 3) := by decide +kernel
theorem dX4_use_10 : decode cX4_use 10 = .ok (.ifCond .eq 24, 3) := by decide +kernel
theorem dX4_use_13 : decode cX4_use 13 = .ok (.aload_n 0, 1) := by decide +kernel
theorem dX4_use_14 : decode cX4_use 14 = .ok (.iload_n 2, 1) := by decide +kernel
theorem dX4_use_15 : decode cX4_use 15 = .ok (.invokevirtual 73, 3) := by decide +kernel
theorem dX4_use_18 : decode cX4_use 18 = .ok (.ifCond .eq 16, 3) := by decide +kernel
theorem dX4_use_21 : decode cX4_use 21 = .ok (.aload_n 0, 1) := by decide +kernel
theorem dX4_use_22 : decode cX4_use 22 = .ok (.iload_n 1, 1) := by decide +kernel
theorem dX4_use_23 : decode cX4_use 23 = .ok (.iconst 3, 1) := by decide +kernel
theorem dX4_use_24 : decode cX4_use 24 = .ok (.iload_n 2, 1) := by decide +kernel
theorem dX4_use_25 : decode cX4_use 25 = .ok (.imul, 1) := by decide +kernel
theorem dX4_use_26 : decode cX4_use 26 = .ok (.iconst 1, 1) := by decide +kernel
theorem dX4_use_27 : decode cX4_use 27 = .ok (.iadd, 1) := by decide +kernel
theorem dX4_use_28 : decode cX4_use 28 = .ok (.invokevirtual 76, 3) := by decide +kernel
theorem dX4_use_31 : decode cX4_use 31 = .ok (.goto 8, 3) := by decide +kernel
theorem dX4_use_34 : decode cX4_use 34 = .ok (.aload_n 0, 1) := by decide +kernel
theorem dX4_use_35 : decode cX4_use 35 = .ok (.iconst 1, 1) := by decide +kernel
theorem dX4_use_36 : decode cX4_use 36 = .ok (.invokevirtual 62, 3) := by decide +kernel
theorem dX4_use_39 : decode cX4_use 39 = .ok (.ireturn, 1) := by decide +kernel
set_option maxRecDepth 20000 in
theorem ggX4_assign_X4_isBlock : GoodIn wsX4_assign wsX4_isBlock := goodIn_r _ [6, 7, 18, 19, 20, 21, 22, 23, 24, 25, 26, 27, 28, 29, 30, 31, 32, 33, 34, 35] (by decide +kernel) (by decide +kernel)
set_option maxRecDepth 20000 in
theorem gX4_assign_X4_isBlock : GoodIn wsX4_assign (wsV RX4 66 RX4 yX4_isBlock wsX4_isBlock) := goodIn_app (goodIn_of _ (by decide +kernel)) ggX4_assign_X4_isBlock
set_option maxRecDepth 20000 in
theorem ggX4_assign_X4_append : GoodIn wsX4_assign wsX4_append := goodIn_r _ [11, 12, 13, 14, 15, 16, 5, 17, 1, 18, 19, 20, 21, 22, 23, 24, 25, 26, 27, 28, 29, 30, 31, 32, 33, 34, 35] (by decide +kernel) (by decide +kernel)
set_option maxRecDepth 20000 in
theorem gX4_assign_X4_append : GoodIn wsX4_assign (wsV RX4 76 RX4 yX4_append wsX4_append) := goodIn_app (goodIn_of _ (by decide +kernel)) ggX4_assign_X4_append
set_option maxRecDepth 20000 in
theorem ggX4_assign_X4_no : GoodIn wsX4_assign wsX4_no := goodIn_r _ [17, 1, 18, 19, 20, 21, 22, 23, 24, 25, 26, 27, 28, 29, 30, 31, 32, 33, 34, 35] (by decide +kernel) (by decide +kernel)
set_option maxRecDepth 20000 in
theorem gX4_assign_X4_no : GoodIn wsX4_assign (wsV RX4 62 RX4 yX4_no wsX4_no) := goodIn_app (goodIn_of _ (by decide +kernel)) ggX4_assign_X4_no
theorem dX4_assign_0 : decode cX4_assign 0 = .ok (.aload_n 0, 1) := by decide +kernel
theorem dX4_assign_1 : decode cX4_assign 1 = .ok (.iconst 0, 1) := by decide +kernel
theorem dX4_assign_2 : decode cX4_assign 2 = .ok (.putfield 53, 3) := by decide +kernel
theorem dX4_assign_5 : decode cX4_assign 5 = .ok (.aload_n 0, 1) := by decide +kernel
theorem dX4_assign_6 : decode cX4_assign 6 = .ok (.iload_n 1, 1) := by decide +kernel
theorem dX4_assign_7 : decode cX4_assign 7 = .ok (.invokevirtual 66, 3) := by decide +kernel
theorem dX4_assign_10 : decode cX4_assign 10 = .ok (.ifCond .eq 26, 3) := by decide +kernel
theorem dX4_assign_13 : decode cX4_assign 13 = .ok (.iload_n 2, 1) := by decide +kernel
theorem dX4_assign_14 : decode cX4_assign 14 = .ok (.ifCond .lt 22, 3) := by decide +kernel
theorem dX4_assign_17 : decode cX4_assign 17 = .ok (.iload_n 2, 1) := by decide +kernel
theorem dX4_assign_18 : decode cX4_assign 18 = .ok (.bipush 6, 2) := by decide +kernel
theorem dX4_assign_20 : decode cX4_assign 20 = .ok (.if_icmp .ge 16, 3) := by decide +kernel
theorem dX4_assign_23 : decode cX4_assign 23 = .ok (.aload_n 0, 1) := by decide +kernel
theorem dX4_assign_24 : decode cX4_assign 24 = .ok (.iload_n 1, 1) := by decide +kernel
theorem dX4_assign_25 : decode cX4_assign 25 = .ok (.iconst 3, 1) := by decide +kernel
theorem dX4_assign_26 : decode cX4_assign 26 = .ok (.iload_n 2, 1) := by decide +kernel
theorem dX4_assign_27 : decode cX4_assign 27 = .ok (.imul, 1) := by decide +kernel
theorem dX4_assign_28 : decode cX4_assign 28 = .ok (.iconst 2, 1) := by decide +kernel
theorem dX4_assign_29 : decode cX4_assign 29 = .ok (.iadd, 1) := by decide +kernel
theorem dX4_assign_30 : decode cX4_assign 30 = .ok (.invokevirtual 76, 3) := by decide +kernel
theorem dX4_assign_33 : decode cX4_assign 33 = .ok (.goto 8, 3) := by decide +kernel
theorem dX4_assign_36 : decode cX4_assign 36 = .ok (.aload_n 0, 1) := by decide +kernel
theorem dX4_assign_37 : decode cX4_assign 37 = .ok (.iconst 1, 1) := by decide +kernel
theorem dX4_assign_38 : decode cX4_assign 38 = .ok (.invokevirtual 62, 3) := by decide +kernel
theorem dX4_assign_41 : decode cX4_assign 41 = .ok (.ireturn, 1) := by decide +kernel
set_option maxRecDepth 20000 in
theorem ggX4_drop_X4_isBlock : GoodIn wsX4_drop wsX4_isBlock := goodIn_r _ [7, 8, 13, 14, 15, 16, 17, 18, 19, 20, 21, 22, 23, 24, 25, 26, 27, 28, 29, 30] (by decide +kernel) (by decide +kernel)
set_option maxRecDepth 20000 in
theorem gX4_drop_X4_isBlock : GoodIn wsX4_drop (wsV RX4 66 RX4 yX4_isBlock wsX4_isBlock) := goodIn_app (goodIn_of _ (by decide +kernel)) ggX4_drop_X4_isBlock
set_option maxRecDepth 20000 in
theorem ggX4_drop_X4_no : GoodIn wsX4_drop wsX4_no := goodIn_r _ [12, 1, 13, 14, 15, 16, 17, 18, 19, 20, 21, 22, 23, 24, 25, 26, 27, 28, 29, 30] (by decide +kernel) (by decide +kernel)
set_option maxRecDepth 20000 in
theorem gX4_drop_X4_no : GoodIn wsX4_drop (wsV RX4 62 RX4 yX4_no wsX4_no) := goodIn_app (goodIn_of _ (by decide +kernel)) ggX4_drop_X4_no
theorem dX4_drop_0 : decode cX4_drop 0 = .ok (.aload_n 0, 1) := by decide +kernel
theorem dX4_drop_1 : decode cX4_drop 1 = .ok (.iconst 0, 1) := by decide +kernel
theorem dX4_drop_2 : decode cX4_drop 2 = .ok (.putfield 53, 3) := by decide +kernel
theorem dX4_drop_5 : decode cX4_drop 5 = .ok (.aload_n 0, 1) := by decide +kernel
theorem dX4_drop_6 : decode cX4_drop 6 = .ok (.iload_n 1, 1) := by decide +kernel
theorem dX4_drop_7 : decode cX4_drop 7 = .ok (.invokevirtual 66, 3) := by decide +kernel
theorem dX4_drop_10 : decode cX4_drop 10 = .ok (.ifCond .ne 9, 3) := by decide +kernel
theorem dX4_drop_13 : decode cX4_drop 13 = .ok (.aload_n 0, 1) := by decide +kernel
theorem dX4_drop_14 : decode cX4_drop 14 = .ok (.iconst 1, 1) := by decide +kernel
theorem dX4_drop_15 : decode cX4_drop 15 = .ok (.invokevirtual 62, 3) := by decide +kernel
theorem dX4_drop_18 : decode cX4_drop 18 = .ok (.ireturn, 1) := by decide +kernel
theorem dX4_drop_19 : decode cX4_drop 19 = .ok (.aload_n 0, 1) := by decide +kernel
theorem dX4_drop_20 : decode cX4_drop 20 = .ok (.getfield 17, 3) := by decide +kernel
theorem dX4_drop_23 : decode cX4_drop 23 = .ok (.iload_n 1, 1) := by decide +kernel
theorem dX4_drop_24 : decode cX4_drop 24 = .ok (.iaload, 1) := by decide +kernel
theorem dX4_drop_25 : decode cX4_drop 25 = .ok (.ifCond .ne 9, 3) := by decide +kernel
theorem dX4_drop_28 : decode cX4_drop 28 = .ok (.aload_n 0, 1) := by decide +kernel
theorem dX4_drop_29 : decode cX4_drop 29 = .ok (.iconst 2, 1) := by decide +kernel
theorem dX4_drop_30 : decode cX4_drop 30 = .ok (.invokevirtual 62, 3) := by decide +kernel
theorem dX4_drop_33 : decode cX4_drop 33 = .ok (.ireturn, 1) := by decide +kernel
theorem dX4_drop_34 : decode cX4_drop 34 = .ok (.aload_n 0, 1) := by decide +kernel
theorem dX4_drop_35 : decode cX4_drop 35 = .ok (.getfield 17, 3) := by decide +kernel
theorem dX4_drop_38 : decode cX4_drop 38 = .ok (.iload_n 1, 1) := by decide +kernel
theorem dX4_drop_39 : decode cX4_drop 39 = .ok (.dup2, 1) := by decide +kernel
theorem dX4_drop_40 : decode cX4_drop 40 = .ok (.iaload, 1) := by decide +kernel
theorem dX4_drop_41 : decode cX4_drop 41 = .ok (.iconst 1, 1) := by decide +kernel
theorem dX4_drop_42 : decode cX4_drop 42 = .ok (.isub, 1) := by decide +kernel
theorem dX4_drop_43 : decode cX4_drop 43 = .ok (.iastore, 1) := by decide +kernel
theorem dX4_drop_44 : decode cX4_drop 44 = .ok (.aload_n 0, 1) := by decide +kernel
theorem dX4_drop_45 : decode cX4_drop 45 = .ok (.getfield 17, 3) := by decide +kernel
theorem dX4_drop_48 : decode cX4_drop 48 = .ok (.iload_n 1, 1) := by decide +kernel
theorem dX4_drop_49 : decode cX4_drop 49 = .ok (.iaload, 1) := by decide +kernel
theorem dX4_drop_50 : decode cX4_drop 50 = .ok (.ireturn, 1) := by decide +kernel
theorem dX4_blockCount_0 : decode cX4_blockCount 0 = .ok (.aload_n 0, 1) := by decide +kernel
theorem dX4_blockCount_1 : decode cX4_blockCount 1 = .ok (.iconst 0, 1) := by decide +kernel
theorem dX4_blockCount_2 : decode cX4_blockCount 2 = .ok (.putfield 53, 3) := by decide +kernel
theorem dX4_blockCount_5 : decode cX4_blockCount 5 = .ok (.aload_n 0, 1) := by decide +kernel
theorem dX4_blockCount_6 : decode cX4_blockCount 6 = .ok (.getfield 13, 3) := by decide +kernel
theorem dX4_blockCount_9 : decode cX4_blockCount 9 = .ok (.ireturn, 1) := by decide +kernel
theorem dX4_edgeCount_0 : decode cX4_edgeCount 0 = .ok (.aload_n 0, 1) := by decide +kernel
theorem dX4_edgeCount_1 : decode cX4_edgeCount 1 = .ok (.iconst 0, 1) := by decide +kernel
theorem dX4_edgeCount_2 : decode cX4_edgeCount 2 = .ok (.putfield 53, 3) := by decide +kernel
theorem dX4_edgeCount_5 : decode cX4_edgeCount 5 = .ok (.aload_n 0, 1) := by decide +kernel
theorem dX4_edgeCount_6 : decode cX4_edgeCount 6 = .ok (.getfield 56, 3) := by decide +kernel
theorem dX4_edgeCount_9 : decode cX4_edgeCount 9 = .ok (.ireturn, 1) := by decide +kernel
set_option maxRecDepth 20000 in
theorem ggX4_size_X4_isBlock : GoodIn wsX4_size wsX4_isBlock := goodIn_r _ [7, 8, 13, 14, 15, 16, 17, 18, 19, 20, 21, 22, 23, 24, 25, 26, 27, 28, 29, 30] (by decide +kernel) (by decide +kernel)
set_option maxRecDepth 20000 in
theorem gX4_size_X4_isBlock : GoodIn wsX4_size (wsV RX4 66 RX4 yX4_isBlock wsX4_isBlock) := goodIn_app (goodIn_of _ (by decide +kernel)) ggX4_size_X4_isBlock
set_option maxRecDepth 20000 in
theorem ggX4_size_X4_no : GoodIn wsX4_size wsX4_no := goodIn_r _ [12, 1, 13, 14, 15, 16, 17, 18, 19, 20, 21, 22, 23, 24, 25, 26, 27, 28, 29, 30] (by decide +kernel) (by decide +kernel)
set_option maxRecDepth 20000 in
theorem gX4_size_X4_no : GoodIn wsX4_size (wsV RX4 62 RX4 yX4_no wsX4_no) := goodIn_app (goodIn_of _ (by decide +kernel)) ggX4_size_X4_no
theorem dX4_size_0 : decode cX4_size 0 = .ok (.aload_n 0, 1) := by decide +kernel
theorem dX4_size_1 : decode cX4_size 1 = .ok (.iconst 0, 1) := by decide +kernel
theorem dX4_size_2 : decode cX4_size 2 = .ok (.putfield 53, 3) := by decide +kernel
theorem dX4_size_5 : decode cX4_size 5 = .ok (.aload_n 0, 1) := by decide +kernel
theorem dX4_size_6 : decode cX4_size 6 = .ok (.iload_n 1, 1) := by decide +kernel
theorem dX4_size_7 : decode cX4_size 7 = .ok (.invokevirtual 66, 3) := by decide +kernel
theorem dX4_size_10 : decode cX4_size 10 = .ok (.ifCond .eq 12, 3) := by decide +kernel
theorem dX4_size_13 : decode cX4_size 13 = .ok (.aload_n 0, 1) := by decide +kernel
theorem dX4_size_14 : decode cX4_size 14 = .ok (.getfield 17, 3) := by decide +kernel
theorem dX4_size_17 : decode cX4_size 17 = .ok (.iload_n 1, 1) := by decide +kernel
theorem dX4_size_18 : decode cX4_size 18 = .ok (.iaload, 1) := by decide +kernel
theorem dX4_size_19 : decode cX4_size 19 = .ok (.goto 8, 3) := by decide +kernel
theorem dX4_size_22 : decode cX4_size 22 = .ok (.aload_n 0, 1) := by decide +kernel
theorem dX4_size_23 : decode cX4_size 23 = .ok (.iconst 1, 1) := by decide +kernel
theorem dX4_size_24 : decode cX4_size 24 = .ok (.invokevirtual 62, 3) := by decide +kernel
theorem dX4_size_27 : decode cX4_size 27 = .ok (.ireturn, 1) := by decide +kernel
theorem dX4_at_0 : decode cX4_at 0 = .ok (.aload_n 0, 1) := by decide +kernel
theorem dX4_at_1 : decode cX4_at 1 = .ok (.getfield 20, 3) := by decide +kernel
theorem dX4_at_4 : decode cX4_at 4 = .ok (.bipush 12, 2) := by decide +kernel
theorem dX4_at_6 : decode cX4_at 6 = .ok (.iload_n 1, 1) := by decide +kernel
theorem dX4_at_7 : decode cX4_at 7 = .ok (.imul, 1) := by decide +kernel
theorem dX4_at_8 : decode cX4_at 8 = .ok (.iload_n 2, 1) := by decide +kernel
theorem dX4_at_9 : decode cX4_at 9 = .ok (.iadd, 1) := by decide +kernel
theorem dX4_at_10 : decode cX4_at 10 = .ok (.iaload, 1) := by decide +kernel
theorem dX4_at_11 : decode cX4_at 11 = .ok (.ireturn, 1) := by decide +kernel
set_option maxRecDepth 20000 in
theorem ggX4_instruction_X4_isBlock : GoodIn wsX4_instruction wsX4_isBlock := goodIn_r _ [7, 8, 18, 19, 20, 21, 22, 23, 24, 25, 26, 27, 28, 29, 30, 31, 32, 33, 34, 35] (by decide +kernel) (by decide +kernel)
set_option maxRecDepth 20000 in
theorem gX4_instruction_X4_isBlock : GoodIn wsX4_instruction (wsV RX4 66 RX4 yX4_isBlock wsX4_isBlock) := goodIn_app (goodIn_of _ (by decide +kernel)) ggX4_instruction_X4_isBlock
set_option maxRecDepth 20000 in
theorem ggX4_instruction_X4_at : GoodIn wsX4_instruction wsX4_at := goodIn_r _ [12, 13, 18, 19, 20, 21, 22, 23, 24, 25, 26, 27, 28, 29, 30, 31, 32, 33, 34, 35] (by decide +kernel) (by decide +kernel)
set_option maxRecDepth 20000 in
theorem gX4_instruction_X4_at : GoodIn wsX4_instruction (wsV RX4 80 RX4 yX4_at wsX4_at) := goodIn_app (goodIn_of _ (by decide +kernel)) ggX4_instruction_X4_at
set_option maxRecDepth 20000 in
theorem ggX4_instruction_X4_no : GoodIn wsX4_instruction wsX4_no := goodIn_r _ [17, 1, 18, 19, 20, 21, 22, 23, 24, 25, 26, 27, 28, 29, 30, 31, 32, 33, 34, 35] (by decide +kernel) (by decide +kernel)
set_option maxRecDepth 20000 in
theorem gX4_instruction_X4_no : GoodIn wsX4_instruction (wsV RX4 62 RX4 yX4_no wsX4_no) := goodIn_app (goodIn_of _ (by decide +kernel)) ggX4_instruction_X4_no
theorem dX4_instruction_0 : decode cX4_instruction 0 = .ok (.aload_n 0, 1) := by decide +kernel
theorem dX4_instruction_1 : decode cX4_instruction 1 = .ok (.iconst 0, 1) := by decide +kernel
theorem dX4_instruction_2 : decode cX4_instruction 2 = .ok (.putfield 53, 3) := by decide +kernel
theorem dX4_instruction_5 : decode cX4_instruction 5 = .ok (.aload_n 0, 1) := by decide +kernel
theorem dX4_instruction_6 : decode cX4_instruction 6 = .ok (.iload_n 1, 1) := by decide +kernel
theorem dX4_instruction_7 : decode cX4_instruction 7 = .ok (.invokevirtual 66, 3) := by decide +kernel
theorem dX4_instruction_10 : decode cX4_instruction 10 = .ok (.ifCond .eq 26, 3) := by decide +kernel
theorem dX4_instruction_13 : decode cX4_instruction 13 = .ok (.iload_n 2, 1) := by decide +kernel
theorem dX4_instruction_14 : decode cX4_instruction 14 = .ok (.ifCond .lt 22, 3) := by decide +kernel
theorem dX4_instruction_17 : decode cX4_instruction 17 = .ok (.iload_n 2, 1) := by decide +kernel
theorem dX4_instruction_18 : decode cX4_instruction 18 = .ok (.aload_n 0, 1) := by decide +kernel
theorem dX4_instruction_19 : decode cX4_instruction 19 = .ok (.getfield 17, 3) := by decide +kernel
theorem dX4_instruction_22 : decode cX4_instruction 22 = .ok (.iload_n 1, 1) := by decide +kernel
theorem dX4_instruction_23 : decode cX4_instruction 23 = .ok (.iaload, 1) := by decide +kernel
theorem dX4_instruction_24 : decode cX4_instruction 24 = .ok (.if_icmp .ge 12, 3) := by decide +kernel
theorem dX4_instruction_27 : decode cX4_instruction 27 = .ok (.aload_n 0, 1) := by decide +kernel
theorem dX4_instruction_28 : decode cX4_instruction 28 = .ok (.iload_n 1, 1) := by decide +kernel
theorem dX4_instruction_29 : decode cX4_instruction 29 = .ok (.iload_n 2, 1) := by decide +kernel
theorem dX4_instruction_30 : decode cX4_instruction 30 = .ok (.invokevirtual 80, 3) := by decide +kernel
theorem dX4_instruction_33 : decode cX4_instruction 33 = .ok (.goto 8, 3) := by decide +kernel
theorem dX4_instruction_36 : decode cX4_instruction 36 = .ok (.aload_n 0, 1) := by decide +kernel
theorem dX4_instruction_37 : decode cX4_instruction 37 = .ok (.iconst 1, 1) := by decide +kernel
theorem dX4_instruction_38 : decode cX4_instruction 38 = .ok (.invokevirtual 62, 3) := by decide +kernel
theorem dX4_instruction_41 : decode cX4_instruction 41 = .ok (.ireturn, 1) := by decide +kernel
set_option maxRecDepth 20000 in
theorem ggX4_ends_X4_isEdge : GoodIn wsX4_ends wsX4_isEdge := goodIn_r _ [8, 9, 14, 15, 16, 17, 18, 19, 20, 21, 22, 23, 24, 25, 26, 27, 28, 29, 30, 31] (by decide +kernel) (by decide +kernel)
set_option maxRecDepth 20000 in
theorem gX4_ends_X4_isEdge : GoodIn wsX4_ends (wsV RX4 83 RX4 yX4_isEdge wsX4_isEdge) := goodIn_app (goodIn_of _ (by decide +kernel)) ggX4_ends_X4_isEdge
set_option maxRecDepth 20000 in
theorem ggX4_ends_X4_no : GoodIn wsX4_ends wsX4_no := goodIn_r _ [13, 1, 14, 15, 16, 17, 18, 19, 20, 21, 22, 23, 24, 25, 26, 27, 28, 29, 30, 31] (by decide +kernel) (by decide +kernel)
set_option maxRecDepth 20000 in
theorem gX4_ends_X4_no : GoodIn wsX4_ends (wsV RX4 62 RX4 yX4_no wsX4_no) := goodIn_app (goodIn_of _ (by decide +kernel)) ggX4_ends_X4_no
theorem dX4_ends_0 : decode cX4_ends 0 = .ok (.aload_n 0, 1) := by decide +kernel
theorem dX4_ends_1 : decode cX4_ends 1 = .ok (.iconst 0, 1) := by decide +kernel
theorem dX4_ends_2 : decode cX4_ends 2 = .ok (.putfield 53, 3) := by decide +kernel
theorem dX4_ends_5 : decode cX4_ends 5 = .ok (.aload_n 0, 1) := by decide +kernel
theorem dX4_ends_6 : decode cX4_ends 6 = .ok (.iload_n 1, 1) := by decide +kernel
theorem dX4_ends_7 : decode cX4_ends 7 = .ok (.invokevirtual 83, 3) := by decide +kernel
theorem dX4_ends_10 : decode cX4_ends 10 = .ok (.ifCond .eq 22, 3) := by decide +kernel
theorem dX4_ends_13 : decode cX4_ends 13 = .ok (.bipush 40, 2) := by decide +kernel
theorem dX4_ends_15 : decode cX4_ends 15 = .ok (.aload_n 0, 1) := by decide +kernel
theorem dX4_ends_16 : decode cX4_ends 16 = .ok (.getfield 23, 3) := by decide +kernel
theorem dX4_ends_19 : decode cX4_ends 19 = .ok (.iload_n 1, 1) := by decide +kernel
theorem dX4_ends_20 : decode cX4_ends 20 = .ok (.iaload, 1) := by decide +kernel
theorem dX4_ends_21 : decode cX4_ends 21 = .ok (.imul, 1) := by decide +kernel
theorem dX4_ends_22 : decode cX4_ends 22 = .ok (.aload_n 0, 1) := by decide +kernel
theorem dX4_ends_23 : decode cX4_ends 23 = .ok (.getfield 26, 3) := by decide +kernel
theorem dX4_ends_26 : decode cX4_ends 26 = .ok (.iload_n 1, 1) := by decide +kernel
theorem dX4_ends_27 : decode cX4_ends 27 = .ok (.iaload, 1) := by decide +kernel
theorem dX4_ends_28 : decode cX4_ends 28 = .ok (.iadd, 1) := by decide +kernel
theorem dX4_ends_29 : decode cX4_ends 29 = .ok (.goto 8, 3) := by decide +kernel
theorem dX4_ends_32 : decode cX4_ends 32 = .ok (.aload_n 0, 1) := by decide +kernel
theorem dX4_ends_33 : decode cX4_ends 33 = .ok (.iconst 1, 1) := by decide +kernel
theorem dX4_ends_34 : decode cX4_ends 34 = .ok (.invokevirtual 62, 3) := by decide +kernel
theorem dX4_ends_37 : decode cX4_ends 37 = .ok (.ireturn, 1) := by decide +kernel
theorem dX4_all_0 : decode cX4_all 0 = .ok (.iconst 1, 1) := by decide +kernel
theorem dX4_all_1 : decode cX4_all 1 = .ok (.aload_n 0, 1) := by decide +kernel
theorem dX4_all_2 : decode cX4_all 2 = .ok (.getfield 59, 3) := by decide +kernel
theorem dX4_all_5 : decode cX4_all 5 = .ok (.ishl, 1) := by decide +kernel
theorem dX4_all_6 : decode cX4_all 6 = .ok (.iconst 1, 1) := by decide +kernel
theorem dX4_all_7 : decode cX4_all 7 = .ok (.isub, 1) := by decide +kernel
theorem dX4_all_8 : decode cX4_all 8 = .ok (.ireturn, 1) := by decide +kernel
theorem dX4_dependent_0 : decode cX4_dependent 0 = .ok (.iconst 0, 1) := by decide +kernel
theorem dX4_dependent_1 : decode cX4_dependent 1 = .ok (.istore_n 2, 1) := by decide +kernel
theorem dX4_dependent_2 : decode cX4_dependent 2 = .ok (.iconst 0, 1) := by decide +kernel
theorem dX4_dependent_3 : decode cX4_dependent 3 = .ok (.istore_n 3, 1) := by decide +kernel
theorem dX4_dependent_4 : decode cX4_dependent 4 = .ok (.iload_n 3, 1) := by decide +kernel
theorem dX4_dependent_5 : decode cX4_dependent 5 = .ok (.aload_n 0, 1) := by decide +kernel
theorem dX4_dependent_6 : decode cX4_dependent 6 = .ok (.getfield 59, 3) := by decide +kernel
theorem dX4_dependent_9 : decode cX4_dependent 9 = .ok (.if_icmp .ge 29, 3) := by decide +kernel
theorem dX4_dependent_12 : decode cX4_dependent 12 = .ok (.aload_n 0, 1) := by decide +kernel
theorem dX4_dependent_13 : decode cX4_dependent 13 = .ok (.getfield 9, 3) := by decide +kernel
theorem dX4_dependent_16 : decode cX4_dependent 16 = .ok (.iload_n 3, 1) := by decide +kernel
theorem dX4_dependent_17 : decode cX4_dependent 17 = .ok (.iaload, 1) := by decide +kernel
theorem dX4_dependent_18 : decode cX4_dependent 18 = .ok (.iload_n 1, 1) := by decide +kernel
theorem dX4_dependent_19 : decode cX4_dependent 19 = .ok (.ishr, 1) := by decide +kernel
theorem dX4_dependent_20 : decode cX4_dependent 20 = .ok (.iconst 1, 1) := by decide +kernel
theorem dX4_dependent_21 : decode cX4_dependent 21 = .ok (.iand, 1) := by decide +kernel
theorem dX4_dependent_22 : decode cX4_dependent 22 = .ok (.iconst 1, 1) := by decide +kernel
theorem dX4_dependent_23 : decode cX4_dependent 23 = .ok (.if_icmp .ne 9, 3) := by decide +kernel
theorem dX4_dependent_26 : decode cX4_dependent 26 = .ok (.iload_n 2, 1) := by decide +kernel
theorem dX4_dependent_27 : decode cX4_dependent 27 = .ok (.iconst 1, 1) := by decide +kernel
theorem dX4_dependent_28 : decode cX4_dependent 28 = .ok (.iload_n 3, 1) := by decide +kernel
theorem dX4_dependent_29 : decode cX4_dependent 29 = .ok (.ishl, 1) := by decide +kernel
theorem dX4_dependent_30 : decode cX4_dependent 30 = .ok (.ior, 1) := by decide +kernel
theorem dX4_dependent_31 : decode cX4_dependent 31 = .ok (.istore_n 2, 1) := by decide +kernel
theorem dX4_dependent_32 : decode cX4_dependent 32 = .ok (.iinc 3 1, 3) := by decide +kernel
theorem dX4_dependent_35 : decode cX4_dependent 35 = .ok (.goto (-31), 3) := by decide +kernel
theorem dX4_dependent_38 : decode cX4_dependent 38 = .ok (.iload_n 2, 1) := by decide +kernel
theorem dX4_dependent_39 : decode cX4_dependent 39 = .ok (.ireturn, 1) := by decide +kernel
set_option maxRecDepth 20000 in
theorem ggX4_keptBy_X4_all : GoodIn wsX4_keptBy wsX4_all := goodIn_r _ [6, 7, 18, 19, 20, 21, 22, 23, 24, 25, 26, 27, 28, 29, 30, 31, 32, 33, 34, 35] (by decide +kernel) (by decide +kernel)
set_option maxRecDepth 20000 in
theorem gX4_keptBy_X4_all : GoodIn wsX4_keptBy (wsV RX4 86 RX4 yX4_all wsX4_all) := goodIn_app (goodIn_of _ (by decide +kernel)) ggX4_keptBy_X4_all
set_option maxRecDepth 20000 in
theorem ggX4_keptBy_X4_at : GoodIn wsX4_keptBy wsX4_at := goodIn_r _ [11, 12, 18, 19, 20, 21, 22, 23, 24, 25, 26, 27, 28, 29, 30, 31, 32, 33, 34, 35] (by decide +kernel) (by decide +kernel)
set_option maxRecDepth 20000 in
theorem gX4_keptBy_X4_at : GoodIn wsX4_keptBy (wsV RX4 80 RX4 yX4_at wsX4_at) := goodIn_app (goodIn_of _ (by decide +kernel)) ggX4_keptBy_X4_at
set_option maxRecDepth 20000 in
theorem ggX4_keptBy_X4_dependent : GoodIn wsX4_keptBy wsX4_dependent := goodIn_r _ [16, 7, 17, 18, 19, 20, 21, 22, 23, 24, 25, 26, 27, 28, 29, 30, 31, 32, 33, 34, 35] (by decide +kernel) (by decide +kernel)
set_option maxRecDepth 20000 in
theorem gX4_keptBy_X4_dependent : GoodIn wsX4_keptBy (wsV RX4 90 RX4 yX4_dependent wsX4_dependent) := goodIn_app (goodIn_of _ (by decide +kernel)) ggX4_keptBy_X4_dependent
theorem dX4_keptBy_0 : decode cX4_keptBy 0 = .ok (.aload_n 0, 1) := by decide +kernel
theorem dX4_keptBy_1 : decode cX4_keptBy 1 = .ok (.invokevirtual 86, 3) := by decide +kernel
theorem dX4_keptBy_4 : decode cX4_keptBy 4 = .ok (.istore_n 2, 1) := by decide +kernel
theorem dX4_keptBy_5 : decode cX4_keptBy 5 = .ok (.iconst 0, 1) := by decide +kernel
theorem dX4_keptBy_6 : decode cX4_keptBy 6 = .ok (.istore_n 3, 1) := by decide +kernel
theorem dX4_keptBy_7 : decode cX4_keptBy 7 = .ok (.iload_n 3, 1) := by decide +kernel
theorem dX4_keptBy_8 : decode cX4_keptBy 8 = .ok (.aload_n 0, 1) := by decide +kernel
theorem dX4_keptBy_9 : decode cX4_keptBy 9 = .ok (.getfield 17, 3) := by decide +kernel
theorem dX4_keptBy_12 : decode cX4_keptBy 12 = .ok (.iload_n 1, 1) := by decide +kernel
theorem dX4_keptBy_13 : decode cX4_keptBy 13 = .ok (.iaload, 1) := by decide +kernel
theorem dX4_keptBy_14 : decode cX4_keptBy 14 = .ok (.if_icmp .ge 38, 3) := by decide +kernel
theorem dX4_keptBy_17 : decode cX4_keptBy 17 = .ok (.aload_n 0, 1) := by decide +kernel
theorem dX4_keptBy_18 : decode cX4_keptBy 18 = .ok (.iload_n 1, 1) := by decide +kernel
theorem dX4_keptBy_19 : decode cX4_keptBy 19 = .ok (.iload_n 3, 1) := by decide +kernel
theorem dX4_keptBy_20 : decode cX4_keptBy 20 = .ok (.invokevirtual 80, 3) := by decide +kernel
theorem dX4_keptBy_23 : decode cX4_keptBy 23 = .ok (.iconst 3, 1) := by decide +kernel
theorem dX4_keptBy_24 : decode cX4_keptBy 24 = .ok (.irem, 1) := by decide +kernel
theorem dX4_keptBy_25 : decode cX4_keptBy 25 = .ok (.iconst 2, 1) := by decide +kernel
theorem dX4_keptBy_26 : decode cX4_keptBy 26 = .ok (.if_icmp .ne 20, 3) := by decide +kernel
theorem dX4_keptBy_29 : decode cX4_keptBy 29 = .ok (.iload_n 2, 1) := by decide +kernel
theorem dX4_keptBy_30 : decode cX4_keptBy 30 = .ok (.aload_n 0, 1) := by decide +kernel
theorem dX4_keptBy_31 : decode cX4_keptBy 31 = .ok (.aload_n 0, 1) := by decide +kernel
theorem dX4_keptBy_32 : decode cX4_keptBy 32 = .ok (.iload_n 1, 1) := by decide +kernel
theorem dX4_keptBy_33 : decode cX4_keptBy 33 = .ok (.iload_n 3, 1) := by decide +kernel
theorem dX4_keptBy_34 : decode cX4_keptBy 34 = .ok (.invokevirtual 80, 3) := by decide +kernel
theorem dX4_keptBy_37 : decode cX4_keptBy 37 = .ok (.iconst 3, 1) := by decide +kernel
theorem dX4_keptBy_38 : decode cX4_keptBy 38 = .ok (.idiv, 1) := by decide +kernel
theorem dX4_keptBy_39 : decode cX4_keptBy 39 = .ok (.invokevirtual 90, 3) := by decide +kernel
theorem dX4_keptBy_42 : decode cX4_keptBy 42 = .ok (.iconst (-1), 1) := by decide +kernel
theorem dX4_keptBy_43 : decode cX4_keptBy 43 = .ok (.ixor, 1) := by decide +kernel
theorem dX4_keptBy_44 : decode cX4_keptBy 44 = .ok (.iand, 1) := by decide +kernel
theorem dX4_keptBy_45 : decode cX4_keptBy 45 = .ok (.istore_n 2, 1) := by decide +kernel
theorem dX4_keptBy_46 : decode cX4_keptBy 46 = .ok (.iinc 3 1, 3) := by decide +kernel
theorem dX4_keptBy_49 : decode cX4_keptBy 49 = .ok (.goto (-42), 3) := by decide +kernel
theorem dX4_keptBy_52 : decode cX4_keptBy 52 = .ok (.iload_n 2, 1) := by decide +kernel
theorem dX4_keptBy_53 : decode cX4_keptBy 53 = .ok (.ireturn, 1) := by decide +kernel
set_option maxRecDepth 20000 in
theorem ggX4_earlyIn_X4_at : GoodIn wsX4_earlyIn wsX4_at := goodIn_r _ [6, 7, 14, 15, 16, 17, 18, 19, 20, 21, 22, 23, 24, 25, 26, 27, 28, 29, 30, 31] (by decide +kernel) (by decide +kernel)
set_option maxRecDepth 20000 in
theorem gX4_earlyIn_X4_at : GoodIn wsX4_earlyIn (wsV RX4 80 RX4 yX4_at wsX4_at) := goodIn_app (goodIn_of _ (by decide +kernel)) ggX4_earlyIn_X4_at
set_option maxRecDepth 20000 in
theorem ggX4_earlyIn_X4_dependent : GoodIn wsX4_earlyIn wsX4_dependent := goodIn_r _ [11, 12, 13, 14, 15, 16, 17, 18, 19, 20, 21, 22, 23, 24, 25, 26, 27, 28, 29, 30, 31] (by decide +kernel) (by decide +kernel)
set_option maxRecDepth 20000 in
theorem gX4_earlyIn_X4_dependent : GoodIn wsX4_earlyIn (wsV RX4 90 RX4 yX4_dependent wsX4_dependent) := goodIn_app (goodIn_of _ (by decide +kernel)) ggX4_earlyIn_X4_dependent
theorem dX4_earlyIn_0 : decode cX4_earlyIn 0 = .ok (.iconst 0, 1) := by decide +kernel
theorem dX4_earlyIn_1 : decode cX4_earlyIn 1 = .ok (.istore_n 2, 1) := by decide +kernel
theorem dX4_earlyIn_2 : decode cX4_earlyIn 2 = .ok (.iconst 0, 1) := by decide +kernel
theorem dX4_earlyIn_3 : decode cX4_earlyIn 3 = .ok (.istore_n 3, 1) := by decide +kernel
theorem dX4_earlyIn_4 : decode cX4_earlyIn 4 = .ok (.iconst 0, 1) := by decide +kernel
theorem dX4_earlyIn_5 : decode cX4_earlyIn 5 = .ok (.istore 4, 2) := by decide +kernel
theorem dX4_earlyIn_7 : decode cX4_earlyIn 7 = .ok (.iload 4, 2) := by decide +kernel
theorem dX4_earlyIn_9 : decode cX4_earlyIn 9 = .ok (.aload_n 0, 1) := by decide +kernel
theorem dX4_earlyIn_10 : decode cX4_earlyIn 10 = .ok (.getfield 17, 3) := by decide +kernel
theorem dX4_earlyIn_13 : decode cX4_earlyIn 13 = .ok (.iload_n 1, 1) := by decide +kernel
theorem dX4_earlyIn_14 : decode cX4_earlyIn 14 = .ok (.iaload, 1) := by decide +kernel
theorem dX4_earlyIn_15 : decode cX4_earlyIn 15 = .ok (.if_icmp .ge 57, 3) := by decide +kernel
theorem dX4_earlyIn_18 : decode cX4_earlyIn 18 = .ok (.aload_n 0, 1) := by decide +kernel
theorem dX4_earlyIn_19 : decode cX4_earlyIn 19 = .ok (.iload_n 1, 1) := by decide +kernel
theorem dX4_earlyIn_20 : decode cX4_earlyIn 20 = .ok (.iload 4, 2) := by decide +kernel
theorem dX4_earlyIn_22 : decode cX4_earlyIn 22 = .ok (.invokevirtual 80, 3) := by decide +kernel
theorem dX4_earlyIn_25 : decode cX4_earlyIn 25 = .ok (.istore 5, 2) := by decide +kernel
theorem dX4_earlyIn_27 : decode cX4_earlyIn 27 = .ok (.iload 5, 2) := by decide +kernel
theorem dX4_earlyIn_29 : decode cX4_earlyIn 29 = .ok (.iconst 3, 1) := by decide +kernel
theorem dX4_earlyIn_30 : decode cX4_earlyIn 30 = .ok (.irem, 1) := by decide +kernel
theorem dX4_earlyIn_31 : decode cX4_earlyIn 31 = .ok (.iconst 2, 1) := by decide +kernel
theorem dX4_earlyIn_32 : decode cX4_earlyIn 32 = .ok (.if_icmp .ne 14, 3) := by decide +kernel
theorem dX4_earlyIn_35 : decode cX4_earlyIn 35 = .ok (.iload_n 3, 1) := by decide +kernel
theorem dX4_earlyIn_36 : decode cX4_earlyIn 36 = .ok (.aload_n 0, 1) := by decide +kernel
theorem dX4_earlyIn_37 : decode cX4_earlyIn 37 = .ok (.iload 5, 2) := by decide +kernel
theorem dX4_earlyIn_39 : decode cX4_earlyIn 39 = .ok (.iconst 3, 1) := by decide +kernel
theorem dX4_earlyIn_40 : decode cX4_earlyIn 40 = .ok (.idiv, 1) := by decide +kernel
theorem dX4_earlyIn_41 : decode cX4_earlyIn 41 = .ok (.invokevirtual 90, 3) := by decide +kernel
theorem dX4_earlyIn_44 : decode cX4_earlyIn 44 = .ok (.ior, 1) := by decide +kernel
theorem dX4_earlyIn_45 : decode cX4_earlyIn 45 = .ok (.istore_n 3, 1) := by decide +kernel
theorem dX4_earlyIn_46 : decode cX4_earlyIn 46 = .ok (.iload 5, 2) := by decide +kernel
theorem dX4_earlyIn_48 : decode cX4_earlyIn 48 = .ok (.iconst 3, 1) := by decide +kernel
theorem dX4_earlyIn_49 : decode cX4_earlyIn 49 = .ok (.irem, 1) := by decide +kernel
theorem dX4_earlyIn_50 : decode cX4_earlyIn 50 = .ok (.ifCond .ne 16, 3) := by decide +kernel
theorem dX4_earlyIn_53 : decode cX4_earlyIn 53 = .ok (.iload_n 2, 1) := by decide +kernel
theorem dX4_earlyIn_54 : decode cX4_earlyIn 54 = .ok (.iconst 1, 1) := by decide +kernel
theorem dX4_earlyIn_55 : decode cX4_earlyIn 55 = .ok (.iload 5, 2) := by decide +kernel
theorem dX4_earlyIn_57 : decode cX4_earlyIn 57 = .ok (.iconst 3, 1) := by decide +kernel
theorem dX4_earlyIn_58 : decode cX4_earlyIn 58 = .ok (.idiv, 1) := by decide +kernel
theorem dX4_earlyIn_59 : decode cX4_earlyIn 59 = .ok (.ishl, 1) := by decide +kernel
theorem dX4_earlyIn_60 : decode cX4_earlyIn 60 = .ok (.iload_n 3, 1) := by decide +kernel
theorem dX4_earlyIn_61 : decode cX4_earlyIn 61 = .ok (.iconst (-1), 1) := by decide +kernel
theorem dX4_earlyIn_62 : decode cX4_earlyIn 62 = .ok (.ixor, 1) := by decide +kernel
theorem dX4_earlyIn_63 : decode cX4_earlyIn 63 = .ok (.iand, 1) := by decide +kernel
theorem dX4_earlyIn_64 : decode cX4_earlyIn 64 = .ok (.ior, 1) := by decide +kernel
theorem dX4_earlyIn_65 : decode cX4_earlyIn 65 = .ok (.istore_n 2, 1) := by decide +kernel
theorem dX4_earlyIn_66 : decode cX4_earlyIn 66 = .ok (.iinc 4 1, 3) := by decide +kernel
theorem dX4_earlyIn_69 : decode cX4_earlyIn 69 = .ok (.goto (-62), 3) := by decide +kernel
theorem dX4_earlyIn_72 : decode cX4_earlyIn 72 = .ok (.iload_n 2, 1) := by decide +kernel
theorem dX4_earlyIn_73 : decode cX4_earlyIn 73 = .ok (.ireturn, 1) := by decide +kernel
set_option maxRecDepth 20000 in
theorem ggX4_lateIn_X4_at : GoodIn wsX4_lateIn wsX4_at := goodIn_r _ [6, 7, 14, 15, 16, 17, 18, 19, 20, 21, 22, 23, 24, 25, 26, 27, 28, 29, 30, 31] (by decide +kernel) (by decide +kernel)
set_option maxRecDepth 20000 in
theorem gX4_lateIn_X4_at : GoodIn wsX4_lateIn (wsV RX4 80 RX4 yX4_at wsX4_at) := goodIn_app (goodIn_of _ (by decide +kernel)) ggX4_lateIn_X4_at
set_option maxRecDepth 20000 in
theorem ggX4_lateIn_X4_dependent : GoodIn wsX4_lateIn wsX4_dependent := goodIn_r _ [11, 12, 13, 14, 15, 16, 17, 18, 19, 20, 21, 22, 23, 24, 25, 26, 27, 28, 29, 30, 31] (by decide +kernel) (by decide +kernel)
set_option maxRecDepth 20000 in
theorem gX4_lateIn_X4_dependent : GoodIn wsX4_lateIn (wsV RX4 90 RX4 yX4_dependent wsX4_dependent) := goodIn_app (goodIn_of _ (by decide +kernel)) ggX4_lateIn_X4_dependent
theorem dX4_lateIn_0 : decode cX4_lateIn 0 = .ok (.iconst 0, 1) := by decide +kernel
theorem dX4_lateIn_1 : decode cX4_lateIn 1 = .ok (.istore_n 2, 1) := by decide +kernel
theorem dX4_lateIn_2 : decode cX4_lateIn 2 = .ok (.iconst 0, 1) := by decide +kernel
theorem dX4_lateIn_3 : decode cX4_lateIn 3 = .ok (.istore_n 3, 1) := by decide +kernel
theorem dX4_lateIn_4 : decode cX4_lateIn 4 = .ok (.iload_n 3, 1) := by decide +kernel
theorem dX4_lateIn_5 : decode cX4_lateIn 5 = .ok (.aload_n 0, 1) := by decide +kernel
theorem dX4_lateIn_6 : decode cX4_lateIn 6 = .ok (.getfield 17, 3) := by decide +kernel
theorem dX4_lateIn_9 : decode cX4_lateIn 9 = .ok (.iload_n 1, 1) := by decide +kernel
theorem dX4_lateIn_10 : decode cX4_lateIn 10 = .ok (.iaload, 1) := by decide +kernel
theorem dX4_lateIn_11 : decode cX4_lateIn 11 = .ok (.if_icmp .ge 54, 3) := by decide +kernel
theorem dX4_lateIn_14 : decode cX4_lateIn 14 = .ok (.aload_n 0, 1) := by decide +kernel
theorem dX4_lateIn_15 : decode cX4_lateIn 15 = .ok (.iload_n 1, 1) := by decide +kernel
theorem dX4_lateIn_16 : decode cX4_lateIn 16 = .ok (.iload_n 3, 1) := by decide +kernel
theorem dX4_lateIn_17 : decode cX4_lateIn 17 = .ok (.invokevirtual 80, 3) := by decide +kernel
theorem dX4_lateIn_20 : decode cX4_lateIn 20 = .ok (.istore 4, 2) := by decide +kernel
theorem dX4_lateIn_22 : decode cX4_lateIn 22 = .ok (.iload 4, 2) := by decide +kernel
theorem dX4_lateIn_24 : decode cX4_lateIn 24 = .ok (.iconst 3, 1) := by decide +kernel
theorem dX4_lateIn_25 : decode cX4_lateIn 25 = .ok (.irem, 1) := by decide +kernel
theorem dX4_lateIn_26 : decode cX4_lateIn 26 = .ok (.iconst 2, 1) := by decide +kernel
theorem dX4_lateIn_27 : decode cX4_lateIn 27 = .ok (.if_icmp .ne 16, 3) := by decide +kernel
theorem dX4_lateIn_30 : decode cX4_lateIn 30 = .ok (.iload_n 2, 1) := by decide +kernel
theorem dX4_lateIn_31 : decode cX4_lateIn 31 = .ok (.aload_n 0, 1) := by decide +kernel
theorem dX4_lateIn_32 : decode cX4_lateIn 32 = .ok (.iload 4, 2) := by decide +kernel
theorem dX4_lateIn_34 : decode cX4_lateIn 34 = .ok (.iconst 3, 1) := by decide +kernel
theorem dX4_lateIn_35 : decode cX4_lateIn 35 = .ok (.idiv, 1) := by decide +kernel
theorem dX4_lateIn_36 : decode cX4_lateIn 36 = .ok (.invokevirtual 90, 3) := by decide +kernel
theorem dX4_lateIn_39 : decode cX4_lateIn 39 = .ok (.iconst (-1), 1) := by decide +kernel
theorem dX4_lateIn_40 : decode cX4_lateIn 40 = .ok (.ixor, 1) := by decide +kernel
theorem dX4_lateIn_41 : decode cX4_lateIn 41 = .ok (.iand, 1) := by decide +kernel
theorem dX4_lateIn_42 : decode cX4_lateIn 42 = .ok (.istore_n 2, 1) := by decide +kernel
theorem dX4_lateIn_43 : decode cX4_lateIn 43 = .ok (.iload 4, 2) := by decide +kernel
theorem dX4_lateIn_45 : decode cX4_lateIn 45 = .ok (.iconst 3, 1) := by decide +kernel
theorem dX4_lateIn_46 : decode cX4_lateIn 46 = .ok (.irem, 1) := by decide +kernel
theorem dX4_lateIn_47 : decode cX4_lateIn 47 = .ok (.ifCond .ne 12, 3) := by decide +kernel
theorem dX4_lateIn_50 : decode cX4_lateIn 50 = .ok (.iload_n 2, 1) := by decide +kernel
theorem dX4_lateIn_51 : decode cX4_lateIn 51 = .ok (.iconst 1, 1) := by decide +kernel
theorem dX4_lateIn_52 : decode cX4_lateIn 52 = .ok (.iload 4, 2) := by decide +kernel
theorem dX4_lateIn_54 : decode cX4_lateIn 54 = .ok (.iconst 3, 1) := by decide +kernel
theorem dX4_lateIn_55 : decode cX4_lateIn 55 = .ok (.idiv, 1) := by decide +kernel
theorem dX4_lateIn_56 : decode cX4_lateIn 56 = .ok (.ishl, 1) := by decide +kernel
theorem dX4_lateIn_57 : decode cX4_lateIn 57 = .ok (.ior, 1) := by decide +kernel
theorem dX4_lateIn_58 : decode cX4_lateIn 58 = .ok (.istore_n 2, 1) := by decide +kernel
theorem dX4_lateIn_59 : decode cX4_lateIn 59 = .ok (.iinc 3 1, 3) := by decide +kernel
theorem dX4_lateIn_62 : decode cX4_lateIn 62 = .ok (.goto (-58), 3) := by decide +kernel
theorem dX4_lateIn_65 : decode cX4_lateIn 65 = .ok (.iload_n 2, 1) := by decide +kernel
theorem dX4_lateIn_66 : decode cX4_lateIn 66 = .ok (.ireturn, 1) := by decide +kernel
set_option maxRecDepth 20000 in
theorem ggX4_find_X4_all : GoodIn wsX4_find wsX4_all := goodIn_r _ [11, 12, 59, 60, 61, 62, 63, 64, 65, 66, 67, 68, 69, 70, 71, 72, 73, 74, 75, 76] (by decide +kernel) (by decide +kernel)
set_option maxRecDepth 20000 in
theorem gX4_find_X4_all : GoodIn wsX4_find (wsV RX4 86 RX4 yX4_all wsX4_all) := goodIn_app (goodIn_of _ (by decide +kernel)) ggX4_find_X4_all
set_option maxRecDepth 20000 in
theorem ggX4_find_X4_findNeeded : GoodIn wsX4_find wsX4_findNeeded := goodIn_r _ [16, 5, 17, 2, 6, 18, 19, 20, 21, 10, 22, 7, 8, 9, 11, 12, 23, 24, 25, 26, 27, 28, 29, 30, 31, 32, 33, 34, 35, 36, 37, 38, 39, 40, 41, 59, 60, 61, 62, 63, 64, 65, 66, 67, 68, 69, 70, 71, 72, 73, 74, 75, 76] (by decide +kernel) (by decide +kernel)
set_option maxRecDepth 20000 in
theorem gX4_find_X4_findNeeded : GoodIn wsX4_find (wsV RX4 93 RX4 yX4_findNeeded wsX4_findNeeded) := goodIn_app (goodIn_of _ (by decide +kernel)) ggX4_find_X4_findNeeded
set_option maxRecDepth 20000 in
theorem ggX4_find_X4_findThere : GoodIn wsX4_find wsX4_findThere := goodIn_r _ [45, 5, 6, 3, 17, 46, 7, 8, 9, 10, 11, 12, 47, 48, 49, 50, 27, 28, 29, 30, 31, 32, 33, 34, 35, 36, 37, 38, 39, 40, 41, 59, 60, 61, 62, 63, 64, 65, 66, 67, 68, 69, 70, 71, 72, 73, 74, 75, 76] (by decide +kernel) (by decide +kernel)
set_option maxRecDepth 20000 in
theorem gX4_find_X4_findThere : GoodIn wsX4_find (wsV RX4 96 RX4 yX4_findThere wsX4_findThere) := goodIn_app (goodIn_of _ (by decide +kernel)) ggX4_find_X4_findThere
set_option maxRecDepth 20000 in
theorem ggX4_find_X4_delayedAlong : GoodIn wsX4_find wsX4_delayedAlong := goodIn_r _ [54, 4, 17, 55, 56, 57, 10, 58, 2, 6, 3, 18, 38, 39, 40, 41, 27, 7, 8, 9, 11, 12, 28, 29, 30, 31, 32, 33, 34, 35, 36, 37, 23, 24, 25, 26, 59, 60, 61, 62, 63, 64, 65, 66, 67, 68, 69, 70, 71, 72, 73, 74, 75, 76] (by decide +kernel) (by decide +kernel)
set_option maxRecDepth 20000 in
theorem gX4_find_X4_delayedAlong : GoodIn wsX4_find (wsV RX4 99 RX4 yX4_delayedAlong wsX4_delayedAlong) := goodIn_app (goodIn_of _ (by decide +kernel)) ggX4_find_X4_delayedAlong
theorem dX4_find_0 : decode cX4_find 0 = .ok (.iconst 0, 1) := by decide +kernel
theorem dX4_find_1 : decode cX4_find 1 = .ok (.istore_n 1, 1) := by decide +kernel
theorem dX4_find_2 : decode cX4_find 2 = .ok (.iload_n 1, 1) := by decide +kernel
theorem dX4_find_3 : decode cX4_find 3 = .ok (.aload_n 0, 1) := by decide +kernel
theorem dX4_find_4 : decode cX4_find 4 = .ok (.getfield 13, 3) := by decide +kernel
theorem dX4_find_7 : decode cX4_find 7 = .ok (.if_icmp .ge 33, 3) := by decide +kernel
theorem dX4_find_10 : decode cX4_find 10 = .ok (.aload_n 0, 1) := by decide +kernel
theorem dX4_find_11 : decode cX4_find 11 = .ok (.getfield 29, 3) := by decide +kernel
theorem dX4_find_14 : decode cX4_find 14 = .ok (.iload_n 1, 1) := by decide +kernel
theorem dX4_find_15 : decode cX4_find 15 = .ok (.aload_n 0, 1) := by decide +kernel
theorem dX4_find_16 : decode cX4_find 16 = .ok (.getfield 38, 3) := by decide +kernel
theorem dX4_find_19 : decode cX4_find 19 = .ok (.iload_n 1, 1) := by decide +kernel
theorem dX4_find_20 : decode cX4_find 20 = .ok (.aload_n 0, 1) := by decide +kernel
theorem dX4_find_21 : decode cX4_find 21 = .ok (.getfield 41, 3) := by decide +kernel
theorem dX4_find_24 : decode cX4_find 24 = .ok (.iload_n 1, 1) := by decide +kernel
theorem dX4_find_25 : decode cX4_find 25 = .ok (.aload_n 0, 1) := by decide +kernel
theorem dX4_find_26 : decode cX4_find 26 = .ok (.invokevirtual 86, 3) := by decide +kernel
theorem dX4_find_29 : decode cX4_find 29 = .ok (.dup_x2, 1) := by decide +kernel
theorem dX4_find_30 : decode cX4_find 30 = .ok (.iastore, 1) := by decide +kernel
theorem dX4_find_31 : decode cX4_find 31 = .ok (.dup_x2, 1) := by decide +kernel
theorem dX4_find_32 : decode cX4_find 32 = .ok (.iastore, 1) := by decide +kernel
theorem dX4_find_33 : decode cX4_find 33 = .ok (.iastore, 1) := by decide +kernel
theorem dX4_find_34 : decode cX4_find 34 = .ok (.iinc 1 1, 3) := by decide +kernel
theorem dX4_find_37 : decode cX4_find 37 = .ok (.goto (-35), 3) := by decide +kernel
theorem dX4_find_40 : decode cX4_find 40 = .ok (.iconst 1, 1) := by decide +kernel
theorem dX4_find_41 : decode cX4_find 41 = .ok (.istore_n 1, 1) := by decide +kernel
theorem dX4_find_42 : decode cX4_find 42 = .ok (.iload_n 1, 1) := by decide +kernel
theorem dX4_find_43 : decode cX4_find 43 = .ok (.ifCond .eq 38, 3) := by decide +kernel
theorem dX4_find_46 : decode cX4_find 46 = .ok (.iconst 0, 1) := by decide +kernel
theorem dX4_find_47 : decode cX4_find 47 = .ok (.istore_n 1, 1) := by decide +kernel
theorem dX4_find_48 : decode cX4_find 48 = .ok (.iconst 0, 1) := by decide +kernel
theorem dX4_find_49 : decode cX4_find 49 = .ok (.istore_n 2, 1) := by decide +kernel
theorem dX4_find_50 : decode cX4_find 50 = .ok (.iload_n 2, 1) := by decide +kernel
theorem dX4_find_51 : decode cX4_find 51 = .ok (.aload_n 0, 1) := by decide +kernel
theorem dX4_find_52 : decode cX4_find 52 = .ok (.getfield 13, 3) := by decide +kernel
theorem dX4_find_55 : decode cX4_find 55 = .ok (.if_icmp .ge 23, 3) := by decide +kernel
theorem dX4_find_58 : decode cX4_find 58 = .ok (.iload_n 1, 1) := by decide +kernel
theorem dX4_find_59 : decode cX4_find 59 = .ok (.aload_n 0, 1) := by decide +kernel
theorem dX4_find_60 : decode cX4_find 60 = .ok (.iload_n 2, 1) := by decide +kernel
theorem dX4_find_61 : decode cX4_find 61 = .ok (.invokevirtual 93, 3) := by decide +kernel
theorem dX4_find_64 : decode cX4_find 64 = .ok (.aload_n 0, 1) := by decide +kernel
theorem dX4_find_65 : decode cX4_find 65 = .ok (.iload_n 2, 1) := by decide +kernel
theorem dX4_find_66 : decode cX4_find 66 = .ok (.invokevirtual 96, 3) := by decide +kernel
theorem dX4_find_69 : decode cX4_find 69 = .ok (.ior, 1) := by decide +kernel
theorem dX4_find_70 : decode cX4_find 70 = .ok (.ior, 1) := by decide +kernel
theorem dX4_find_71 : decode cX4_find 71 = .ok (.istore_n 1, 1) := by decide +kernel
theorem dX4_find_72 : decode cX4_find 72 = .ok (.iinc 2 1, 3) := by decide +kernel
theorem dX4_find_75 : decode cX4_find 75 = .ok (.goto (-25), 3) := by decide +kernel
theorem dX4_find_78 : decode cX4_find 78 = .ok (.goto (-36), 3) := by decide +kernel
theorem dX4_find_81 : decode cX4_find 81 = .ok (.iconst 1, 1) := by decide +kernel
theorem dX4_find_82 : decode cX4_find 82 = .ok (.istore_n 1, 1) := by decide +kernel
theorem dX4_find_83 : decode cX4_find 83 = .ok (.iload_n 1, 1) := by decide +kernel
theorem dX4_find_84 : decode cX4_find 84 = .ok (.ifCond .eq 129, 3) := by decide +kernel
theorem dX4_find_87 : decode cX4_find 87 = .ok (.iconst 0, 1) := by decide +kernel
theorem dX4_find_88 : decode cX4_find 88 = .ok (.istore_n 1, 1) := by decide +kernel
theorem dX4_find_89 : decode cX4_find 89 = .ok (.iconst 0, 1) := by decide +kernel
theorem dX4_find_90 : decode cX4_find 90 = .ok (.istore_n 2, 1) := by decide +kernel
theorem dX4_find_91 : decode cX4_find 91 = .ok (.iload_n 2, 1) := by decide +kernel
theorem dX4_find_92 : decode cX4_find 92 = .ok (.aload_n 0, 1) := by decide +kernel
theorem dX4_find_93 : decode cX4_find 93 = .ok (.getfield 13, 3) := by decide +kernel
theorem dX4_find_96 : decode cX4_find 96 = .ok (.if_icmp .ge 114, 3) := by decide +kernel
theorem dX4_find_99 : decode cX4_find 99 = .ok (.iload_n 2, 1) := by decide +kernel
theorem dX4_find_100 : decode cX4_find 100 = .ok (.ifCond .ne 12, 3) := by decide +kernel
theorem dX4_find_103 : decode cX4_find 103 = .ok (.aload_n 0, 1) := by decide +kernel
theorem dX4_find_104 : decode cX4_find 104 = .ok (.getfield 29, 3) := by decide +kernel
theorem dX4_find_107 : decode cX4_find 107 = .ok (.iconst 0, 1) := by decide +kernel
theorem dX4_find_108 : decode cX4_find 108 = .ok (.iaload, 1) := by decide +kernel
theorem dX4_find_109 : decode cX4_find 109 = .ok (.goto 7, 3) := by decide +kernel
theorem dX4_find_112 : decode cX4_find 112 = .ok (.aload_n 0, 1) := by decide +kernel
theorem dX4_find_113 : decode cX4_find 113 = .ok (.invokevirtual 86, 3) := by decide +kernel
theorem dX4_find_116 : decode cX4_find 116 = .ok (.istore_n 3, 1) := by decide +kernel
theorem dX4_find_117 : decode cX4_find 117 = .ok (.iload_n 2, 1) := by decide +kernel
theorem dX4_find_118 : decode cX4_find 118 = .ok (.ifCond .ne 7, 3) := by decide +kernel
theorem dX4_find_121 : decode cX4_find 121 = .ok (.iconst 1, 1) := by decide +kernel
theorem dX4_find_122 : decode cX4_find 122 = .ok (.goto 4, 3) := by decide +kernel
theorem dX4_find_125 : decode cX4_find 125 = .ok (.iconst 0, 1) := by decide +kernel
theorem dX4_find_126 : decode cX4_find 126 = .ok (.istore 4, 2) := by decide +kernel
theorem dX4_find_128 : decode cX4_find 128 = .ok (.iconst 0, 1) := by decide +kernel
theorem dX4_find_129 : decode cX4_find 129 = .ok (.istore 5, 2) := by decide +kernel
theorem dX4_find_131 : decode cX4_find 131 = .ok (.iload 5, 2) := by decide +kernel
theorem dX4_find_133 : decode cX4_find 133 = .ok (.aload_n 0, 1) := by decide +kernel
theorem dX4_find_134 : decode cX4_find 134 = .ok (.getfield 56, 3) := by decide +kernel
theorem dX4_find_137 : decode cX4_find 137 = .ok (.if_icmp .ge 35, 3) := by decide +kernel
theorem dX4_find_140 : decode cX4_find 140 = .ok (.aload_n 0, 1) := by decide +kernel
theorem dX4_find_141 : decode cX4_find 141 = .ok (.getfield 26, 3) := by decide +kernel
theorem dX4_find_144 : decode cX4_find 144 = .ok (.iload 5, 2) := by decide +kernel
theorem dX4_find_146 : decode cX4_find 146 = .ok (.iaload, 1) := by decide +kernel
theorem dX4_find_147 : decode cX4_find 147 = .ok (.iload_n 2, 1) := by decide +kernel
theorem dX4_find_148 : decode cX4_find 148 = .ok (.if_icmp .eq 6, 3) := by decide +kernel
theorem dX4_find_151 : decode cX4_find 151 = .ok (.goto 15, 3) := by decide +kernel
theorem dX4_find_154 : decode cX4_find 154 = .ok (.iconst 1, 1) := by decide +kernel
theorem dX4_find_155 : decode cX4_find 155 = .ok (.istore 4, 2) := by decide +kernel
theorem dX4_find_157 : decode cX4_find 157 = .ok (.iload_n 3, 1) := by decide +kernel
theorem dX4_find_158 : decode cX4_find 158 = .ok (.aload_n 0, 1) := by decide +kernel
theorem dX4_find_159 : decode cX4_find 159 = .ok (.iload 5, 2) := by decide +kernel
theorem dX4_find_161 : decode cX4_find 161 = .ok (.invokevirtual 99, 3) := by decide +kernel
theorem dX4_find_164 : decode cX4_find 164 = .ok (.iand, 1) := by decide +kernel
theorem dX4_find_165 : decode cX4_find 165 = .ok (.istore_n 3, 1) := by decide +kernel
theorem dX4_find_166 : decode cX4_find 166 = .ok (.iinc 5 1, 3) := by decide +kernel
theorem dX4_find_169 : decode cX4_find 169 = .ok (.goto (-38), 3) := by decide +kernel
theorem dX4_find_172 : decode cX4_find 172 = .ok (.iload 4, 2) := by decide +kernel
theorem dX4_find_174 : decode cX4_find 174 = .ok (.ifCond .ne 5, 3) := by decide +kernel
theorem dX4_find_177 : decode cX4_find 177 = .ok (.iconst 0, 1) := by decide +kernel
theorem dX4_find_178 : decode cX4_find 178 = .ok (.istore_n 3, 1) := by decide +kernel
theorem dX4_find_179 : decode cX4_find 179 = .ok (.iload_n 1, 1) := by decide +kernel
theorem dX4_find_180 : decode cX4_find 180 = .ok (.aload_n 0, 1) := by decide +kernel
theorem dX4_find_181 : decode cX4_find 181 = .ok (.getfield 41, 3) := by decide +kernel
theorem dX4_find_184 : decode cX4_find 184 = .ok (.iload_n 2, 1) := by decide +kernel
theorem dX4_find_185 : decode cX4_find 185 = .ok (.iaload, 1) := by decide +kernel
theorem dX4_find_186 : decode cX4_find 186 = .ok (.iload_n 3, 1) := by decide +kernel
theorem dX4_find_187 : decode cX4_find 187 = .ok (.if_icmp .eq 7, 3) := by decide +kernel
theorem dX4_find_190 : decode cX4_find 190 = .ok (.iconst 1, 1) := by decide +kernel
theorem dX4_find_191 : decode cX4_find 191 = .ok (.goto 4, 3) := by decide +kernel
theorem dX4_find_194 : decode cX4_find 194 = .ok (.iconst 0, 1) := by decide +kernel
theorem dX4_find_195 : decode cX4_find 195 = .ok (.ior, 1) := by decide +kernel
theorem dX4_find_196 : decode cX4_find 196 = .ok (.istore_n 1, 1) := by decide +kernel
theorem dX4_find_197 : decode cX4_find 197 = .ok (.aload_n 0, 1) := by decide +kernel
theorem dX4_find_198 : decode cX4_find 198 = .ok (.getfield 41, 3) := by decide +kernel
theorem dX4_find_201 : decode cX4_find 201 = .ok (.iload_n 2, 1) := by decide +kernel
theorem dX4_find_202 : decode cX4_find 202 = .ok (.iload_n 3, 1) := by decide +kernel
theorem dX4_find_203 : decode cX4_find 203 = .ok (.iastore, 1) := by decide +kernel
theorem dX4_find_204 : decode cX4_find 204 = .ok (.iinc 2 1, 3) := by decide +kernel
theorem dX4_find_207 : decode cX4_find 207 = .ok (.goto (-116), 3) := by decide +kernel
theorem dX4_find_210 : decode cX4_find 210 = .ok (.goto (-127), 3) := by decide +kernel
theorem dX4_find_213 : decode cX4_find 213 = .ok (.return_, 1) := by decide +kernel
set_option maxRecDepth 20000 in
theorem ggX4_findNeeded_X4_exits : GoodIn wsX4_findNeeded wsX4_exits := goodIn_r _ [10, 1, 2, 35, 36, 37, 38, 39, 40, 41, 42, 43, 44, 45, 46, 47, 48, 49, 50, 51, 52] (by decide +kernel) (by decide +kernel)
set_option maxRecDepth 20000 in
theorem gX4_findNeeded_X4_exits : GoodIn wsX4_findNeeded (wsV RX4 70 RX4 yX4_exits wsX4_exits) := goodIn_app (goodIn_of _ (by decide +kernel)) ggX4_findNeeded_X4_exits
set_option maxRecDepth 20000 in
theorem ggX4_findNeeded_X4_all : GoodIn wsX4_findNeeded wsX4_all := goodIn_r _ [14, 15, 35, 36, 37, 38, 39, 40, 41, 42, 43, 44, 45, 46, 47, 48, 49, 50, 51, 52] (by decide +kernel) (by decide +kernel)
set_option maxRecDepth 20000 in
theorem gX4_findNeeded_X4_all : GoodIn wsX4_findNeeded (wsV RX4 86 RX4 yX4_all wsX4_all) := goodIn_app (goodIn_of _ (by decide +kernel)) ggX4_findNeeded_X4_all
set_option maxRecDepth 20000 in
theorem ggX4_findNeeded_X4_earlyIn : GoodIn wsX4_findNeeded wsX4_earlyIn := goodIn_r _ [19, 20, 21, 22, 23, 9, 24, 25, 26, 27, 28, 29, 15, 30, 35, 36, 37, 38, 39, 40, 41, 42, 43, 44, 45, 46, 47, 48, 49, 50, 51, 52] (by decide +kernel) (by decide +kernel)
set_option maxRecDepth 20000 in
theorem gX4_findNeeded_X4_earlyIn : GoodIn wsX4_findNeeded (wsV RX4 102 RX4 yX4_earlyIn wsX4_earlyIn) := goodIn_app (goodIn_of _ (by decide +kernel)) ggX4_findNeeded_X4_earlyIn
set_option maxRecDepth 20000 in
theorem ggX4_findNeeded_X4_keptBy : GoodIn wsX4_findNeeded wsX4_keptBy := goodIn_r _ [34, 20, 11, 12, 13, 9, 14, 15, 21, 22, 23, 24, 25, 26, 27, 28, 29, 30, 35, 36, 37, 38, 39, 40, 41, 42, 43, 44, 45, 46, 47, 48, 49, 50, 51, 52] (by decide +kernel) (by decide +kernel)
set_option maxRecDepth 20000 in
theorem gX4_findNeeded_X4_keptBy : GoodIn wsX4_findNeeded (wsV RX4 105 RX4 yX4_keptBy wsX4_keptBy) := goodIn_app (goodIn_of _ (by decide +kernel)) ggX4_findNeeded_X4_keptBy
theorem dX4_findNeeded_0 : decode cX4_findNeeded 0 = .ok (.aload_n 0, 1) := by decide +kernel
theorem dX4_findNeeded_1 : decode cX4_findNeeded 1 = .ok (.iload_n 1, 1) := by decide +kernel
theorem dX4_findNeeded_2 : decode cX4_findNeeded 2 = .ok (.invokevirtual 70, 3) := by decide +kernel
theorem dX4_findNeeded_5 : decode cX4_findNeeded 5 = .ok (.ifCond .ne 7, 3) := by decide +kernel
theorem dX4_findNeeded_8 : decode cX4_findNeeded 8 = .ok (.iconst 0, 1) := by decide +kernel
theorem dX4_findNeeded_9 : decode cX4_findNeeded 9 = .ok (.goto 7, 3) := by decide +kernel
theorem dX4_findNeeded_12 : decode cX4_findNeeded 12 = .ok (.aload_n 0, 1) := by decide +kernel
theorem dX4_findNeeded_13 : decode cX4_findNeeded 13 = .ok (.invokevirtual 86, 3) := by decide +kernel
theorem dX4_findNeeded_16 : decode cX4_findNeeded 16 = .ok (.istore_n 2, 1) := by decide +kernel
theorem dX4_findNeeded_17 : decode cX4_findNeeded 17 = .ok (.iconst 0, 1) := by decide +kernel
theorem dX4_findNeeded_18 : decode cX4_findNeeded 18 = .ok (.istore_n 3, 1) := by decide +kernel
theorem dX4_findNeeded_19 : decode cX4_findNeeded 19 = .ok (.iload_n 3, 1) := by decide +kernel
theorem dX4_findNeeded_20 : decode cX4_findNeeded 20 = .ok (.aload_n 0, 1) := by decide +kernel
theorem dX4_findNeeded_21 : decode cX4_findNeeded 21 = .ok (.getfield 56, 3) := by decide +kernel
theorem dX4_findNeeded_24 : decode cX4_findNeeded 24 = .ok (.if_icmp .ge 33, 3) := by decide +kernel
theorem dX4_findNeeded_27 : decode cX4_findNeeded 27 = .ok (.aload_n 0, 1) := by decide +kernel
theorem dX4_findNeeded_28 : decode cX4_findNeeded 28 = .ok (.getfield 23, 3) := by decide +kernel
theorem dX4_findNeeded_31 : decode cX4_findNeeded 31 = .ok (.iload_n 3, 1) := by decide +kernel
theorem dX4_findNeeded_32 : decode cX4_findNeeded 32 = .ok (.iaload, 1) := by decide +kernel
theorem dX4_findNeeded_33 : decode cX4_findNeeded 33 = .ok (.iload_n 1, 1) := by decide +kernel
theorem dX4_findNeeded_34 : decode cX4_findNeeded 34 = .ok (.if_icmp .ne 17, 3) := by decide +kernel
theorem dX4_findNeeded_37 : decode cX4_findNeeded 37 = .ok (.iload_n 2, 1) := by decide +kernel
theorem dX4_findNeeded_38 : decode cX4_findNeeded 38 = .ok (.aload_n 0, 1) := by decide +kernel
theorem dX4_findNeeded_39 : decode cX4_findNeeded 39 = .ok (.getfield 29, 3) := by decide +kernel
theorem dX4_findNeeded_42 : decode cX4_findNeeded 42 = .ok (.aload_n 0, 1) := by decide +kernel
theorem dX4_findNeeded_43 : decode cX4_findNeeded 43 = .ok (.getfield 26, 3) := by decide +kernel
theorem dX4_findNeeded_46 : decode cX4_findNeeded 46 = .ok (.iload_n 3, 1) := by decide +kernel
theorem dX4_findNeeded_47 : decode cX4_findNeeded 47 = .ok (.iaload, 1) := by decide +kernel
theorem dX4_findNeeded_48 : decode cX4_findNeeded 48 = .ok (.iaload, 1) := by decide +kernel
theorem dX4_findNeeded_49 : decode cX4_findNeeded 49 = .ok (.iand, 1) := by decide +kernel
theorem dX4_findNeeded_50 : decode cX4_findNeeded 50 = .ok (.istore_n 2, 1) := by decide +kernel
theorem dX4_findNeeded_51 : decode cX4_findNeeded 51 = .ok (.iinc 3 1, 3) := by decide +kernel
theorem dX4_findNeeded_54 : decode cX4_findNeeded 54 = .ok (.goto (-35), 3) := by decide +kernel
theorem dX4_findNeeded_57 : decode cX4_findNeeded 57 = .ok (.aload_n 0, 1) := by decide +kernel
theorem dX4_findNeeded_58 : decode cX4_findNeeded 58 = .ok (.getfield 32, 3) := by decide +kernel
theorem dX4_findNeeded_61 : decode cX4_findNeeded 61 = .ok (.iload_n 1, 1) := by decide +kernel
theorem dX4_findNeeded_62 : decode cX4_findNeeded 62 = .ok (.iload_n 2, 1) := by decide +kernel
theorem dX4_findNeeded_63 : decode cX4_findNeeded 63 = .ok (.iastore, 1) := by decide +kernel
theorem dX4_findNeeded_64 : decode cX4_findNeeded 64 = .ok (.aload_n 0, 1) := by decide +kernel
theorem dX4_findNeeded_65 : decode cX4_findNeeded 65 = .ok (.getfield 29, 3) := by decide +kernel
theorem dX4_findNeeded_68 : decode cX4_findNeeded 68 = .ok (.iload_n 1, 1) := by decide +kernel
theorem dX4_findNeeded_69 : decode cX4_findNeeded 69 = .ok (.iaload, 1) := by decide +kernel
theorem dX4_findNeeded_70 : decode cX4_findNeeded 70 = .ok (.istore_n 3, 1) := by decide +kernel
theorem dX4_findNeeded_71 : decode cX4_findNeeded 71 = .ok (.aload_n 0, 1) := by decide +kernel
theorem dX4_findNeeded_72 : decode cX4_findNeeded 72 = .ok (.getfield 29, 3) := by decide +kernel
theorem dX4_findNeeded_75 : decode cX4_findNeeded 75 = .ok (.iload_n 1, 1) := by decide +kernel
theorem dX4_findNeeded_76 : decode cX4_findNeeded 76 = .ok (.aload_n 0, 1) := by decide +kernel
theorem dX4_findNeeded_77 : decode cX4_findNeeded 77 = .ok (.iload_n 1, 1) := by decide +kernel
theorem dX4_findNeeded_78 : decode cX4_findNeeded 78 = .ok (.invokevirtual 102, 3) := by decide +kernel
theorem dX4_findNeeded_81 : decode cX4_findNeeded 81 = .ok (.aload_n 0, 1) := by decide +kernel
theorem dX4_findNeeded_82 : decode cX4_findNeeded 82 = .ok (.iload_n 1, 1) := by decide +kernel
theorem dX4_findNeeded_83 : decode cX4_findNeeded 83 = .ok (.invokevirtual 105, 3) := by decide +kernel
theorem dX4_findNeeded_86 : decode cX4_findNeeded 86 = .ok (.iload_n 2, 1) := by decide +kernel
theorem dX4_findNeeded_87 : decode cX4_findNeeded 87 = .ok (.iand, 1) := by decide +kernel
theorem dX4_findNeeded_88 : decode cX4_findNeeded 88 = .ok (.ior, 1) := by decide +kernel
theorem dX4_findNeeded_89 : decode cX4_findNeeded 89 = .ok (.iastore, 1) := by decide +kernel
theorem dX4_findNeeded_90 : decode cX4_findNeeded 90 = .ok (.aload_n 0, 1) := by decide +kernel
theorem dX4_findNeeded_91 : decode cX4_findNeeded 91 = .ok (.getfield 29, 3) := by decide +kernel
theorem dX4_findNeeded_94 : decode cX4_findNeeded 94 = .ok (.iload_n 1, 1) := by decide +kernel
theorem dX4_findNeeded_95 : decode cX4_findNeeded 95 = .ok (.iaload, 1) := by decide +kernel
theorem dX4_findNeeded_96 : decode cX4_findNeeded 96 = .ok (.iload_n 3, 1) := by decide +kernel
theorem dX4_findNeeded_97 : decode cX4_findNeeded 97 = .ok (.if_icmp .eq 7, 3) := by decide +kernel
theorem dX4_findNeeded_100 : decode cX4_findNeeded 100 = .ok (.iconst 1, 1) := by decide +kernel
theorem dX4_findNeeded_101 : decode cX4_findNeeded 101 = .ok (.goto 4, 3) := by decide +kernel
theorem dX4_findNeeded_104 : decode cX4_findNeeded 104 = .ok (.iconst 0, 1) := by decide +kernel
theorem dX4_findNeeded_105 : decode cX4_findNeeded 105 = .ok (.ireturn, 1) := by decide +kernel
set_option maxRecDepth 20000 in
theorem ggX4_findThere_X4_all : GoodIn wsX4_findThere wsX4_all := goodIn_r _ [10, 11, 31, 32, 33, 34, 35, 36, 37, 38, 39, 40, 41, 42, 43, 44, 45, 46, 47, 48] (by decide +kernel) (by decide +kernel)
set_option maxRecDepth 20000 in
theorem gX4_findThere_X4_all : GoodIn wsX4_findThere (wsV RX4 86 RX4 yX4_all wsX4_all) := goodIn_app (goodIn_of _ (by decide +kernel)) ggX4_findThere_X4_all
set_option maxRecDepth 20000 in
theorem ggX4_findThere_X4_lateIn : GoodIn wsX4_findThere wsX4_lateIn := goodIn_r _ [15, 16, 17, 18, 19, 9, 20, 21, 22, 23, 24, 25, 11, 26, 31, 32, 33, 34, 35, 36, 37, 38, 39, 40, 41, 42, 43, 44, 45, 46, 47, 48] (by decide +kernel) (by decide +kernel)
set_option maxRecDepth 20000 in
theorem gX4_findThere_X4_lateIn : GoodIn wsX4_findThere (wsV RX4 108 RX4 yX4_lateIn wsX4_lateIn) := goodIn_app (goodIn_of _ (by decide +kernel)) ggX4_findThere_X4_lateIn
set_option maxRecDepth 20000 in
theorem ggX4_findThere_X4_keptBy : GoodIn wsX4_findThere wsX4_keptBy := goodIn_r _ [30, 16, 6, 7, 8, 9, 10, 11, 17, 18, 19, 20, 21, 22, 23, 24, 25, 26, 31, 32, 33, 34, 35, 36, 37, 38, 39, 40, 41, 42, 43, 44, 45, 46, 47, 48] (by decide +kernel) (by decide +kernel)
set_option maxRecDepth 20000 in
theorem gX4_findThere_X4_keptBy : GoodIn wsX4_findThere (wsV RX4 105 RX4 yX4_keptBy wsX4_keptBy) := goodIn_app (goodIn_of _ (by decide +kernel)) ggX4_findThere_X4_keptBy
theorem dX4_findThere_0 : decode cX4_findThere 0 = .ok (.aload_n 0, 1) := by decide +kernel
theorem dX4_findThere_1 : decode cX4_findThere 1 = .ok (.invokevirtual 86, 3) := by decide +kernel
theorem dX4_findThere_4 : decode cX4_findThere 4 = .ok (.istore_n 2, 1) := by decide +kernel
theorem dX4_findThere_5 : decode cX4_findThere 5 = .ok (.iconst 0, 1) := by decide +kernel
theorem dX4_findThere_6 : decode cX4_findThere 6 = .ok (.istore_n 3, 1) := by decide +kernel
theorem dX4_findThere_7 : decode cX4_findThere 7 = .ok (.iconst 0, 1) := by decide +kernel
theorem dX4_findThere_8 : decode cX4_findThere 8 = .ok (.istore 4, 2) := by decide +kernel
theorem dX4_findThere_10 : decode cX4_findThere 10 = .ok (.iload 4, 2) := by decide +kernel
theorem dX4_findThere_12 : decode cX4_findThere 12 = .ok (.aload_n 0, 1) := by decide +kernel
theorem dX4_findThere_13 : decode cX4_findThere 13 = .ok (.getfield 56, 3) := by decide +kernel
theorem dX4_findThere_16 : decode cX4_findThere 16 = .ok (.if_icmp .ge 40, 3) := by decide +kernel
theorem dX4_findThere_19 : decode cX4_findThere 19 = .ok (.aload_n 0, 1) := by decide +kernel
theorem dX4_findThere_20 : decode cX4_findThere 20 = .ok (.getfield 26, 3) := by decide +kernel
theorem dX4_findThere_23 : decode cX4_findThere 23 = .ok (.iload 4, 2) := by decide +kernel
theorem dX4_findThere_25 : decode cX4_findThere 25 = .ok (.iaload, 1) := by decide +kernel
theorem dX4_findThere_26 : decode cX4_findThere 26 = .ok (.iload_n 1, 1) := by decide +kernel
theorem dX4_findThere_27 : decode cX4_findThere 27 = .ok (.if_icmp .eq 6, 3) := by decide +kernel
theorem dX4_findThere_30 : decode cX4_findThere 30 = .ok (.goto 20, 3) := by decide +kernel
theorem dX4_findThere_33 : decode cX4_findThere 33 = .ok (.iconst 1, 1) := by decide +kernel
theorem dX4_findThere_34 : decode cX4_findThere 34 = .ok (.istore_n 3, 1) := by decide +kernel
theorem dX4_findThere_35 : decode cX4_findThere 35 = .ok (.iload_n 2, 1) := by decide +kernel
theorem dX4_findThere_36 : decode cX4_findThere 36 = .ok (.aload_n 0, 1) := by decide +kernel
theorem dX4_findThere_37 : decode cX4_findThere 37 = .ok (.getfield 38, 3) := by decide +kernel
theorem dX4_findThere_40 : decode cX4_findThere 40 = .ok (.aload_n 0, 1) := by decide +kernel
theorem dX4_findThere_41 : decode cX4_findThere 41 = .ok (.getfield 23, 3) := by decide +kernel
theorem dX4_findThere_44 : decode cX4_findThere 44 = .ok (.iload 4, 2) := by decide +kernel
theorem dX4_findThere_46 : decode cX4_findThere 46 = .ok (.iaload, 1) := by decide +kernel
theorem dX4_findThere_47 : decode cX4_findThere 47 = .ok (.iaload, 1) := by decide +kernel
theorem dX4_findThere_48 : decode cX4_findThere 48 = .ok (.iand, 1) := by decide +kernel
theorem dX4_findThere_49 : decode cX4_findThere 49 = .ok (.istore_n 2, 1) := by decide +kernel
theorem dX4_findThere_50 : decode cX4_findThere 50 = .ok (.iinc 4 1, 3) := by decide +kernel
theorem dX4_findThere_53 : decode cX4_findThere 53 = .ok (.goto (-43), 3) := by decide +kernel
theorem dX4_findThere_56 : decode cX4_findThere 56 = .ok (.aload_n 0, 1) := by decide +kernel
theorem dX4_findThere_57 : decode cX4_findThere 57 = .ok (.getfield 35, 3) := by decide +kernel
theorem dX4_findThere_60 : decode cX4_findThere 60 = .ok (.iload_n 1, 1) := by decide +kernel
theorem dX4_findThere_61 : decode cX4_findThere 61 = .ok (.iload_n 3, 1) := by decide +kernel
theorem dX4_findThere_62 : decode cX4_findThere 62 = .ok (.ifCond .eq 7, 3) := by decide +kernel
theorem dX4_findThere_65 : decode cX4_findThere 65 = .ok (.iload_n 2, 1) := by decide +kernel
theorem dX4_findThere_66 : decode cX4_findThere 66 = .ok (.goto 4, 3) := by decide +kernel
theorem dX4_findThere_69 : decode cX4_findThere 69 = .ok (.iconst 0, 1) := by decide +kernel
theorem dX4_findThere_70 : decode cX4_findThere 70 = .ok (.iastore, 1) := by decide +kernel
theorem dX4_findThere_71 : decode cX4_findThere 71 = .ok (.aload_n 0, 1) := by decide +kernel
theorem dX4_findThere_72 : decode cX4_findThere 72 = .ok (.getfield 38, 3) := by decide +kernel
theorem dX4_findThere_75 : decode cX4_findThere 75 = .ok (.iload_n 1, 1) := by decide +kernel
theorem dX4_findThere_76 : decode cX4_findThere 76 = .ok (.iaload, 1) := by decide +kernel
theorem dX4_findThere_77 : decode cX4_findThere 77 = .ok (.istore 4, 2) := by decide +kernel
theorem dX4_findThere_79 : decode cX4_findThere 79 = .ok (.aload_n 0, 1) := by decide +kernel
theorem dX4_findThere_80 : decode cX4_findThere 80 = .ok (.getfield 38, 3) := by decide +kernel
theorem dX4_findThere_83 : decode cX4_findThere 83 = .ok (.iload_n 1, 1) := by decide +kernel
theorem dX4_findThere_84 : decode cX4_findThere 84 = .ok (.aload_n 0, 1) := by decide +kernel
theorem dX4_findThere_85 : decode cX4_findThere 85 = .ok (.iload_n 1, 1) := by decide +kernel
theorem dX4_findThere_86 : decode cX4_findThere 86 = .ok (.invokevirtual 108, 3) := by decide +kernel
theorem dX4_findThere_89 : decode cX4_findThere 89 = .ok (.aload_n 0, 1) := by decide +kernel
theorem dX4_findThere_90 : decode cX4_findThere 90 = .ok (.iload_n 1, 1) := by decide +kernel
theorem dX4_findThere_91 : decode cX4_findThere 91 = .ok (.invokevirtual 105, 3) := by decide +kernel
theorem dX4_findThere_94 : decode cX4_findThere 94 = .ok (.aload_n 0, 1) := by decide +kernel
theorem dX4_findThere_95 : decode cX4_findThere 95 = .ok (.getfield 35, 3) := by decide +kernel
theorem dX4_findThere_98 : decode cX4_findThere 98 = .ok (.iload_n 1, 1) := by decide +kernel
theorem dX4_findThere_99 : decode cX4_findThere 99 = .ok (.iaload, 1) := by decide +kernel
theorem dX4_findThere_100 : decode cX4_findThere 100 = .ok (.iand, 1) := by decide +kernel
theorem dX4_findThere_101 : decode cX4_findThere 101 = .ok (.ior, 1) := by decide +kernel
theorem dX4_findThere_102 : decode cX4_findThere 102 = .ok (.iastore, 1) := by decide +kernel
theorem dX4_findThere_103 : decode cX4_findThere 103 = .ok (.aload_n 0, 1) := by decide +kernel
theorem dX4_findThere_104 : decode cX4_findThere 104 = .ok (.getfield 38, 3) := by decide +kernel
theorem dX4_findThere_107 : decode cX4_findThere 107 = .ok (.iload_n 1, 1) := by decide +kernel
theorem dX4_findThere_108 : decode cX4_findThere 108 = .ok (.iaload, 1) := by decide +kernel
theorem dX4_findThere_109 : decode cX4_findThere 109 = .ok (.iload 4, 2) := by decide +kernel
theorem dX4_findThere_111 : decode cX4_findThere 111 = .ok (.if_icmp .eq 7, 3) := by decide +kernel
theorem dX4_findThere_114 : decode cX4_findThere 114 = .ok (.iconst 1, 1) := by decide +kernel
theorem dX4_findThere_115 : decode cX4_findThere 115 = .ok (.goto 4, 3) := by decide +kernel
theorem dX4_findThere_118 : decode cX4_findThere 118 = .ok (.iconst 0, 1) := by decide +kernel
theorem dX4_findThere_119 : decode cX4_findThere 119 = .ok (.ireturn, 1) := by decide +kernel
set_option maxRecDepth 20000 in
theorem ggX4_earliestFor_X4_keptBy : GoodIn wsX4_earliestFor wsX4_keptBy := goodIn_r _ [10, 11, 12, 13, 14, 9, 15, 16, 17, 18, 19, 20, 21, 22, 23, 24, 25, 26, 27, 28, 29, 30, 31, 32, 33, 34, 35, 36, 37, 38, 39, 40, 41, 42, 43, 44] (by decide +kernel) (by decide +kernel)
set_option maxRecDepth 20000 in
theorem gX4_earliestFor_X4_keptBy : GoodIn wsX4_earliestFor (wsV RX4 105 RX4 yX4_keptBy wsX4_keptBy) := goodIn_app (goodIn_of _ (by decide +kernel)) ggX4_earliestFor_X4_keptBy
theorem dX4_earliestFor_0 : decode cX4_earliestFor 0 = .ok (.aload_n 0, 1) := by decide +kernel
theorem dX4_earliestFor_1 : decode cX4_earliestFor 1 = .ok (.getfield 29, 3) := by decide +kernel
theorem dX4_earliestFor_4 : decode cX4_earliestFor 4 = .ok (.aload_n 0, 1) := by decide +kernel
theorem dX4_earliestFor_5 : decode cX4_earliestFor 5 = .ok (.getfield 26, 3) := by decide +kernel
theorem dX4_earliestFor_8 : decode cX4_earliestFor 8 = .ok (.iload_n 1, 1) := by decide +kernel
theorem dX4_earliestFor_9 : decode cX4_earliestFor 9 = .ok (.iaload, 1) := by decide +kernel
theorem dX4_earliestFor_10 : decode cX4_earliestFor 10 = .ok (.iaload, 1) := by decide +kernel
theorem dX4_earliestFor_11 : decode cX4_earliestFor 11 = .ok (.aload_n 0, 1) := by decide +kernel
theorem dX4_earliestFor_12 : decode cX4_earliestFor 12 = .ok (.getfield 38, 3) := by decide +kernel
theorem dX4_earliestFor_15 : decode cX4_earliestFor 15 = .ok (.aload_n 0, 1) := by decide +kernel
theorem dX4_earliestFor_16 : decode cX4_earliestFor 16 = .ok (.getfield 23, 3) := by decide +kernel
theorem dX4_earliestFor_19 : decode cX4_earliestFor 19 = .ok (.iload_n 1, 1) := by decide +kernel
theorem dX4_earliestFor_20 : decode cX4_earliestFor 20 = .ok (.iaload, 1) := by decide +kernel
theorem dX4_earliestFor_21 : decode cX4_earliestFor 21 = .ok (.iaload, 1) := by decide +kernel
theorem dX4_earliestFor_22 : decode cX4_earliestFor 22 = .ok (.iconst (-1), 1) := by decide +kernel
theorem dX4_earliestFor_23 : decode cX4_earliestFor 23 = .ok (.ixor, 1) := by decide +kernel
theorem dX4_earliestFor_24 : decode cX4_earliestFor 24 = .ok (.iand, 1) := by decide +kernel
theorem dX4_earliestFor_25 : decode cX4_earliestFor 25 = .ok (.aload_n 0, 1) := by decide +kernel
theorem dX4_earliestFor_26 : decode cX4_earliestFor 26 = .ok (.aload_n 0, 1) := by decide +kernel
theorem dX4_earliestFor_27 : decode cX4_earliestFor 27 = .ok (.getfield 23, 3) := by decide +kernel
theorem dX4_earliestFor_30 : decode cX4_earliestFor 30 = .ok (.iload_n 1, 1) := by decide +kernel
theorem dX4_earliestFor_31 : decode cX4_earliestFor 31 = .ok (.iaload, 1) := by decide +kernel
theorem dX4_earliestFor_32 : decode cX4_earliestFor 32 = .ok (.invokevirtual 105, 3) := by decide +kernel
theorem dX4_earliestFor_35 : decode cX4_earliestFor 35 = .ok (.aload_n 0, 1) := by decide +kernel
theorem dX4_earliestFor_36 : decode cX4_earliestFor 36 = .ok (.getfield 32, 3) := by decide +kernel
theorem dX4_earliestFor_39 : decode cX4_earliestFor 39 = .ok (.aload_n 0, 1) := by decide +kernel
theorem dX4_earliestFor_40 : decode cX4_earliestFor 40 = .ok (.getfield 23, 3) := by decide +kernel
theorem dX4_earliestFor_43 : decode cX4_earliestFor 43 = .ok (.iload_n 1, 1) := by decide +kernel
theorem dX4_earliestFor_44 : decode cX4_earliestFor 44 = .ok (.iaload, 1) := by decide +kernel
theorem dX4_earliestFor_45 : decode cX4_earliestFor 45 = .ok (.iaload, 1) := by decide +kernel
theorem dX4_earliestFor_46 : decode cX4_earliestFor 46 = .ok (.iand, 1) := by decide +kernel
theorem dX4_earliestFor_47 : decode cX4_earliestFor 47 = .ok (.iconst (-1), 1) := by decide +kernel
theorem dX4_earliestFor_48 : decode cX4_earliestFor 48 = .ok (.ixor, 1) := by decide +kernel
theorem dX4_earliestFor_49 : decode cX4_earliestFor 49 = .ok (.iand, 1) := by decide +kernel
theorem dX4_earliestFor_50 : decode cX4_earliestFor 50 = .ok (.ireturn, 1) := by decide +kernel
set_option maxRecDepth 20000 in
theorem ggX4_delayedAlong_X4_earliestFor : GoodIn wsX4_delayedAlong wsX4_earliestFor := goodIn_r _ [7, 8, 9, 10, 2, 11, 12, 13, 14, 6, 15, 16, 17, 18, 19, 20, 21, 22, 23, 24, 25, 26, 27, 28, 29, 30, 31, 36, 37, 38, 39, 40, 41, 42, 43, 44, 45, 46, 47, 48, 49, 50, 51, 52, 53] (by decide +kernel) (by decide +kernel)
set_option maxRecDepth 20000 in
theorem gX4_delayedAlong_X4_earliestFor : GoodIn wsX4_delayedAlong (wsV RX4 111 RX4 yX4_earliestFor wsX4_earliestFor) := goodIn_app (goodIn_of _ (by decide +kernel)) ggX4_delayedAlong_X4_earliestFor
set_option maxRecDepth 20000 in
theorem ggX4_delayedAlong_X4_earlyIn : GoodIn wsX4_delayedAlong wsX4_earlyIn := goodIn_r _ [35, 16, 22, 23, 24, 6, 25, 26, 27, 28, 29, 30, 21, 31, 36, 37, 38, 39, 40, 41, 42, 43, 44, 45, 46, 47, 48, 49, 50, 51, 52, 53] (by decide +kernel) (by decide +kernel)
set_option maxRecDepth 20000 in
theorem gX4_delayedAlong_X4_earlyIn : GoodIn wsX4_delayedAlong (wsV RX4 102 RX4 yX4_earlyIn wsX4_earlyIn) := goodIn_app (goodIn_of _ (by decide +kernel)) ggX4_delayedAlong_X4_earlyIn
theorem dX4_delayedAlong_0 : decode cX4_delayedAlong 0 = .ok (.aload_n 0, 1) := by decide +kernel
theorem dX4_delayedAlong_1 : decode cX4_delayedAlong 1 = .ok (.iload_n 1, 1) := by decide +kernel
theorem dX4_delayedAlong_2 : decode cX4_delayedAlong 2 = .ok (.invokevirtual 111, 3) := by decide +kernel
theorem dX4_delayedAlong_5 : decode cX4_delayedAlong 5 = .ok (.aload_n 0, 1) := by decide +kernel
theorem dX4_delayedAlong_6 : decode cX4_delayedAlong 6 = .ok (.getfield 41, 3) := by decide +kernel
theorem dX4_delayedAlong_9 : decode cX4_delayedAlong 9 = .ok (.aload_n 0, 1) := by decide +kernel
theorem dX4_delayedAlong_10 : decode cX4_delayedAlong 10 = .ok (.getfield 23, 3) := by decide +kernel
theorem dX4_delayedAlong_13 : decode cX4_delayedAlong 13 = .ok (.iload_n 1, 1) := by decide +kernel
theorem dX4_delayedAlong_14 : decode cX4_delayedAlong 14 = .ok (.iaload, 1) := by decide +kernel
theorem dX4_delayedAlong_15 : decode cX4_delayedAlong 15 = .ok (.iaload, 1) := by decide +kernel
theorem dX4_delayedAlong_16 : decode cX4_delayedAlong 16 = .ok (.aload_n 0, 1) := by decide +kernel
theorem dX4_delayedAlong_17 : decode cX4_delayedAlong 17 = .ok (.aload_n 0, 1) := by decide +kernel
theorem dX4_delayedAlong_18 : decode cX4_delayedAlong 18 = .ok (.getfield 23, 3) := by decide +kernel
theorem dX4_delayedAlong_21 : decode cX4_delayedAlong 21 = .ok (.iload_n 1, 1) := by decide +kernel
theorem dX4_delayedAlong_22 : decode cX4_delayedAlong 22 = .ok (.iaload, 1) := by decide +kernel
theorem dX4_delayedAlong_23 : decode cX4_delayedAlong 23 = .ok (.invokevirtual 102, 3) := by decide +kernel
theorem dX4_delayedAlong_26 : decode cX4_delayedAlong 26 = .ok (.iconst (-1), 1) := by decide +kernel
theorem dX4_delayedAlong_27 : decode cX4_delayedAlong 27 = .ok (.ixor, 1) := by decide +kernel
theorem dX4_delayedAlong_28 : decode cX4_delayedAlong 28 = .ok (.iand, 1) := by decide +kernel
theorem dX4_delayedAlong_29 : decode cX4_delayedAlong 29 = .ok (.ior, 1) := by decide +kernel
theorem dX4_delayedAlong_30 : decode cX4_delayedAlong 30 = .ok (.ireturn, 1) := by decide +kernel
set_option maxRecDepth 20000 in
theorem ggX4_insertedOn_X4_delayedAlong : GoodIn wsX4_insertedOn wsX4_delayedAlong := goodIn_r _ [7, 1, 8, 9, 10, 11, 6, 12, 13, 2, 14, 15, 16, 17, 18, 19, 20, 21, 22, 23, 24, 25, 26, 27, 28, 29, 30, 31, 32, 33, 34, 35, 36, 37, 38, 39, 40, 41, 42, 43, 44, 45, 46, 47, 48, 49, 50, 51, 52, 53, 54, 55, 56, 57] (by decide +kernel) (by decide +kernel)
set_option maxRecDepth 20000 in
theorem gX4_insertedOn_X4_delayedAlong : GoodIn wsX4_insertedOn (wsV RX4 99 RX4 yX4_delayedAlong wsX4_delayedAlong) := goodIn_app (goodIn_of _ (by decide +kernel)) ggX4_insertedOn_X4_delayedAlong
theorem dX4_insertedOn_0 : decode cX4_insertedOn 0 = .ok (.aload_n 0, 1) := by decide +kernel
theorem dX4_insertedOn_1 : decode cX4_insertedOn 1 = .ok (.iload_n 1, 1) := by decide +kernel
theorem dX4_insertedOn_2 : decode cX4_insertedOn 2 = .ok (.invokevirtual 99, 3) := by decide +kernel
theorem dX4_insertedOn_5 : decode cX4_insertedOn 5 = .ok (.aload_n 0, 1) := by decide +kernel
theorem dX4_insertedOn_6 : decode cX4_insertedOn 6 = .ok (.getfield 41, 3) := by decide +kernel
theorem dX4_insertedOn_9 : decode cX4_insertedOn 9 = .ok (.aload_n 0, 1) := by decide +kernel
theorem dX4_insertedOn_10 : decode cX4_insertedOn 10 = .ok (.getfield 26, 3) := by decide +kernel
theorem dX4_insertedOn_13 : decode cX4_insertedOn 13 = .ok (.iload_n 1, 1) := by decide +kernel
theorem dX4_insertedOn_14 : decode cX4_insertedOn 14 = .ok (.iaload, 1) := by decide +kernel
theorem dX4_insertedOn_15 : decode cX4_insertedOn 15 = .ok (.iaload, 1) := by decide +kernel
theorem dX4_insertedOn_16 : decode cX4_insertedOn 16 = .ok (.iconst (-1), 1) := by decide +kernel
theorem dX4_insertedOn_17 : decode cX4_insertedOn 17 = .ok (.ixor, 1) := by decide +kernel
theorem dX4_insertedOn_18 : decode cX4_insertedOn 18 = .ok (.iand, 1) := by decide +kernel
theorem dX4_insertedOn_19 : decode cX4_insertedOn 19 = .ok (.ireturn, 1) := by decide +kernel
set_option maxRecDepth 20000 in
theorem ggX4_deletedIn_X4_earlyIn : GoodIn wsX4_deletedIn wsX4_earlyIn := goodIn_r _ [6, 7, 8, 9, 10, 5, 11, 12, 13, 14, 15, 16, 17, 18, 19, 20, 21, 22, 23, 24, 25, 26, 27, 28, 29, 30, 31, 32, 33, 34, 35, 36] (by decide +kernel) (by decide +kernel)
set_option maxRecDepth 20000 in
theorem gX4_deletedIn_X4_earlyIn : GoodIn wsX4_deletedIn (wsV RX4 102 RX4 yX4_earlyIn wsX4_earlyIn) := goodIn_app (goodIn_of _ (by decide +kernel)) ggX4_deletedIn_X4_earlyIn
theorem dX4_deletedIn_0 : decode cX4_deletedIn 0 = .ok (.aload_n 0, 1) := by decide +kernel
theorem dX4_deletedIn_1 : decode cX4_deletedIn 1 = .ok (.iload_n 1, 1) := by decide +kernel
theorem dX4_deletedIn_2 : decode cX4_deletedIn 2 = .ok (.invokevirtual 102, 3) := by decide +kernel
theorem dX4_deletedIn_5 : decode cX4_deletedIn 5 = .ok (.aload_n 0, 1) := by decide +kernel
theorem dX4_deletedIn_6 : decode cX4_deletedIn 6 = .ok (.getfield 41, 3) := by decide +kernel
theorem dX4_deletedIn_9 : decode cX4_deletedIn 9 = .ok (.iload_n 1, 1) := by decide +kernel
theorem dX4_deletedIn_10 : decode cX4_deletedIn 10 = .ok (.iaload, 1) := by decide +kernel
theorem dX4_deletedIn_11 : decode cX4_deletedIn 11 = .ok (.iconst (-1), 1) := by decide +kernel
theorem dX4_deletedIn_12 : decode cX4_deletedIn 12 = .ok (.ixor, 1) := by decide +kernel
theorem dX4_deletedIn_13 : decode cX4_deletedIn 13 = .ok (.iand, 1) := by decide +kernel
theorem dX4_deletedIn_14 : decode cX4_deletedIn 14 = .ok (.ireturn, 1) := by decide +kernel
set_option maxRecDepth 20000 in
theorem ggX4_asks_X4_find : GoodIn wsX4_asks wsX4_find := goodIn_r _ [6, 7, 8, 9, 10, 11, 12, 13, 14, 15, 5, 16, 17, 18, 19, 20, 21, 22, 23, 24, 25, 26, 27, 28, 29, 30, 31, 32, 33, 34, 35, 36, 37, 38, 39, 40, 41, 42, 43, 44, 45, 46, 47, 48, 49, 50, 51, 52, 53, 54, 55, 56, 57, 58, 59, 60, 61, 62, 63, 64, 65, 66, 67, 68, 69, 70, 71, 72, 73, 74, 75, 76, 77, 78, 79, 80, 81] (by decide +kernel) (by decide +kernel)
set_option maxRecDepth 20000 in
theorem gX4_asks_X4_find : GoodIn wsX4_asks (wsV RX4 114 RX4 yX4_find wsX4_find) := goodIn_app (goodIn_of _ (by decide +kernel)) ggX4_asks_X4_find
theorem dX4_asks_0 : decode cX4_asks 0 = .ok (.aload_n 0, 1) := by decide +kernel
theorem dX4_asks_1 : decode cX4_asks 1 = .ok (.iload_n 1, 1) := by decide +kernel
theorem dX4_asks_2 : decode cX4_asks 2 = .ok (.ifCond .eq 7, 3) := by decide +kernel
theorem dX4_asks_5 : decode cX4_asks 5 = .ok (.iconst 0, 1) := by decide +kernel
theorem dX4_asks_6 : decode cX4_asks 6 = .ok (.goto 4, 3) := by decide +kernel
theorem dX4_asks_9 : decode cX4_asks 9 = .ok (.iconst 1, 1) := by decide +kernel
theorem dX4_asks_10 : decode cX4_asks 10 = .ok (.putfield 53, 3) := by decide +kernel
theorem dX4_asks_13 : decode cX4_asks 13 = .ok (.iload_n 1, 1) := by decide +kernel
theorem dX4_asks_14 : decode cX4_asks 14 = .ok (.ifCond .eq 7, 3) := by decide +kernel
theorem dX4_asks_17 : decode cX4_asks 17 = .ok (.aload_n 0, 1) := by decide +kernel
theorem dX4_asks_18 : decode cX4_asks 18 = .ok (.invokevirtual 114, 3) := by decide +kernel
theorem dX4_asks_21 : decode cX4_asks 21 = .ok (.iload_n 1, 1) := by decide +kernel
theorem dX4_asks_22 : decode cX4_asks 22 = .ok (.ireturn, 1) := by decide +kernel
set_option maxRecDepth 20000 in
theorem ggX4_kept_X4_isBlock : GoodIn wsX4_kept wsX4_isBlock := goodIn_r _ [5, 6, 72, 73, 74, 75, 76, 77, 78, 79, 80, 81, 82, 83, 84, 85, 86, 87, 88, 89] (by decide +kernel) (by decide +kernel)
set_option maxRecDepth 20000 in
theorem gX4_kept_X4_isBlock : GoodIn wsX4_kept (wsV RX4 66 RX4 yX4_isBlock wsX4_isBlock) := goodIn_app (goodIn_of _ (by decide +kernel)) ggX4_kept_X4_isBlock
set_option maxRecDepth 20000 in
theorem ggX4_kept_X4_asks : GoodIn wsX4_kept wsX4_asks := goodIn_r _ [10, 11, 12, 13, 14, 4, 15, 6, 16, 17, 18, 19, 20, 21, 22, 23, 24, 25, 26, 27, 28, 29, 30, 31, 32, 33, 34, 35, 36, 37, 38, 39, 40, 41, 42, 43, 44, 45, 46, 47, 48, 49, 50, 51, 52, 53, 54, 55, 56, 57, 58, 59, 60, 61, 62, 63, 64, 65, 66, 67, 68, 69, 70, 71, 72, 73, 74, 75, 76, 77, 78, 79, 80, 81, 82, 83, 84, 85, 86, 87, 88, 89] (by decide +kernel) (by decide +kernel)
set_option maxRecDepth 20000 in
theorem gX4_kept_X4_asks : GoodIn wsX4_kept (wsV RX4 117 RX4 yX4_asks wsX4_asks) := goodIn_app (goodIn_of _ (by decide +kernel)) ggX4_kept_X4_asks
set_option maxRecDepth 20000 in
theorem ggX4_kept_X4_keptBy : GoodIn wsX4_kept wsX4_keptBy := goodIn_r _ [54, 40, 21, 22, 23, 4, 24, 25, 41, 42, 43, 44, 45, 46, 47, 48, 49, 50, 72, 73, 74, 75, 76, 77, 78, 79, 80, 81, 82, 83, 84, 85, 86, 87, 88, 89] (by decide +kernel) (by decide +kernel)
set_option maxRecDepth 20000 in
theorem gX4_kept_X4_keptBy : GoodIn wsX4_kept (wsV RX4 105 RX4 yX4_keptBy wsX4_keptBy) := goodIn_app (goodIn_of _ (by decide +kernel)) ggX4_kept_X4_keptBy
theorem dX4_kept_0 : decode cX4_kept 0 = .ok (.aload_n 0, 1) := by decide +kernel
theorem dX4_kept_1 : decode cX4_kept 1 = .ok (.aload_n 0, 1) := by decide +kernel
theorem dX4_kept_2 : decode cX4_kept 2 = .ok (.iload_n 1, 1) := by decide +kernel
theorem dX4_kept_3 : decode cX4_kept 3 = .ok (.invokevirtual 66, 3) := by decide +kernel
theorem dX4_kept_6 : decode cX4_kept 6 = .ok (.invokevirtual 117, 3) := by decide +kernel
theorem dX4_kept_9 : decode cX4_kept 9 = .ok (.ifCond .eq 11, 3) := by decide +kernel
theorem dX4_kept_12 : decode cX4_kept 12 = .ok (.aload_n 0, 1) := by decide +kernel
theorem dX4_kept_13 : decode cX4_kept 13 = .ok (.iload_n 1, 1) := by decide +kernel
theorem dX4_kept_14 : decode cX4_kept 14 = .ok (.invokevirtual 105, 3) := by decide +kernel
theorem dX4_kept_17 : decode cX4_kept 17 = .ok (.goto 4, 3) := by decide +kernel
theorem dX4_kept_20 : decode cX4_kept 20 = .ok (.iconst 0, 1) := by decide +kernel
theorem dX4_kept_21 : decode cX4_kept 21 = .ok (.ireturn, 1) := by decide +kernel
set_option maxRecDepth 20000 in
theorem ggX4_early_X4_isBlock : GoodIn wsX4_early wsX4_isBlock := goodIn_r _ [5, 6, 72, 73, 74, 75, 76, 77, 78, 79, 80, 81, 82, 83, 84, 85, 86, 87, 88, 89] (by decide +kernel) (by decide +kernel)
set_option maxRecDepth 20000 in
theorem gX4_early_X4_isBlock : GoodIn wsX4_early (wsV RX4 66 RX4 yX4_isBlock wsX4_isBlock) := goodIn_app (goodIn_of _ (by decide +kernel)) ggX4_early_X4_isBlock
set_option maxRecDepth 20000 in
theorem ggX4_early_X4_asks : GoodIn wsX4_early wsX4_asks := goodIn_r _ [10, 11, 12, 13, 14, 4, 15, 6, 16, 17, 18, 19, 20, 21, 22, 23, 24, 25, 26, 27, 28, 29, 30, 31, 32, 33, 34, 35, 36, 37, 38, 39, 40, 41, 42, 43, 44, 45, 46, 47, 48, 49, 50, 51, 52, 53, 54, 55, 56, 57, 58, 59, 60, 61, 62, 63, 64, 65, 66, 67, 68, 69, 70, 71, 72, 73, 74, 75, 76, 77, 78, 79, 80, 81, 82, 83, 84, 85, 86, 87, 88, 89] (by decide +kernel) (by decide +kernel)
set_option maxRecDepth 20000 in
theorem gX4_early_X4_asks : GoodIn wsX4_early (wsV RX4 117 RX4 yX4_asks wsX4_asks) := goodIn_app (goodIn_of _ (by decide +kernel)) ggX4_early_X4_asks
set_option maxRecDepth 20000 in
theorem ggX4_early_X4_earlyIn : GoodIn wsX4_early wsX4_earlyIn := goodIn_r _ [39, 40, 41, 42, 43, 4, 44, 45, 46, 47, 48, 49, 25, 50, 72, 73, 74, 75, 76, 77, 78, 79, 80, 81, 82, 83, 84, 85, 86, 87, 88, 89] (by decide +kernel) (by decide +kernel)
set_option maxRecDepth 20000 in
theorem gX4_early_X4_earlyIn : GoodIn wsX4_early (wsV RX4 102 RX4 yX4_earlyIn wsX4_earlyIn) := goodIn_app (goodIn_of _ (by decide +kernel)) ggX4_early_X4_earlyIn
theorem dX4_early_0 : decode cX4_early 0 = .ok (.aload_n 0, 1) := by decide +kernel
theorem dX4_early_1 : decode cX4_early 1 = .ok (.aload_n 0, 1) := by decide +kernel
theorem dX4_early_2 : decode cX4_early 2 = .ok (.iload_n 1, 1) := by decide +kernel
theorem dX4_early_3 : decode cX4_early 3 = .ok (.invokevirtual 66, 3) := by decide +kernel
theorem dX4_early_6 : decode cX4_early 6 = .ok (.invokevirtual 117, 3) := by decide +kernel
theorem dX4_early_9 : decode cX4_early 9 = .ok (.ifCond .eq 11, 3) := by decide +kernel
theorem dX4_early_12 : decode cX4_early 12 = .ok (.aload_n 0, 1) := by decide +kernel
theorem dX4_early_13 : decode cX4_early 13 = .ok (.iload_n 1, 1) := by decide +kernel
theorem dX4_early_14 : decode cX4_early 14 = .ok (.invokevirtual 102, 3) := by decide +kernel
theorem dX4_early_17 : decode cX4_early 17 = .ok (.goto 4, 3) := by decide +kernel
theorem dX4_early_20 : decode cX4_early 20 = .ok (.iconst 0, 1) := by decide +kernel
theorem dX4_early_21 : decode cX4_early 21 = .ok (.ireturn, 1) := by decide +kernel
set_option maxRecDepth 20000 in
theorem ggX4_late_X4_isBlock : GoodIn wsX4_late wsX4_isBlock := goodIn_r _ [5, 6, 72, 73, 74, 75, 76, 77, 78, 79, 80, 81, 82, 83, 84, 85, 86, 87, 88, 89] (by decide +kernel) (by decide +kernel)
set_option maxRecDepth 20000 in
theorem gX4_late_X4_isBlock : GoodIn wsX4_late (wsV RX4 66 RX4 yX4_isBlock wsX4_isBlock) := goodIn_app (goodIn_of _ (by decide +kernel)) ggX4_late_X4_isBlock
set_option maxRecDepth 20000 in
theorem ggX4_late_X4_asks : GoodIn wsX4_late wsX4_asks := goodIn_r _ [10, 11, 12, 13, 14, 4, 15, 6, 16, 17, 18, 19, 20, 21, 22, 23, 24, 25, 26, 27, 28, 29, 30, 31, 32, 33, 34, 35, 36, 37, 38, 39, 40, 41, 42, 43, 44, 45, 46, 47, 48, 49, 50, 51, 52, 53, 54, 55, 56, 57, 58, 59, 60, 61, 62, 63, 64, 65, 66, 67, 68, 69, 70, 71, 72, 73, 74, 75, 76, 77, 78, 79, 80, 81, 82, 83, 84, 85, 86, 87, 88, 89] (by decide +kernel) (by decide +kernel)
set_option maxRecDepth 20000 in
theorem gX4_late_X4_asks : GoodIn wsX4_late (wsV RX4 117 RX4 yX4_asks wsX4_asks) := goodIn_app (goodIn_of _ (by decide +kernel)) ggX4_late_X4_asks
set_option maxRecDepth 20000 in
theorem ggX4_late_X4_lateIn : GoodIn wsX4_late wsX4_lateIn := goodIn_r _ [63, 40, 41, 42, 43, 4, 44, 45, 46, 47, 48, 49, 25, 50, 72, 73, 74, 75, 76, 77, 78, 79, 80, 81, 82, 83, 84, 85, 86, 87, 88, 89] (by decide +kernel) (by decide +kernel)
set_option maxRecDepth 20000 in
theorem gX4_late_X4_lateIn : GoodIn wsX4_late (wsV RX4 108 RX4 yX4_lateIn wsX4_lateIn) := goodIn_app (goodIn_of _ (by decide +kernel)) ggX4_late_X4_lateIn
theorem dX4_late_0 : decode cX4_late 0 = .ok (.aload_n 0, 1) := by decide +kernel
theorem dX4_late_1 : decode cX4_late 1 = .ok (.aload_n 0, 1) := by decide +kernel
theorem dX4_late_2 : decode cX4_late 2 = .ok (.iload_n 1, 1) := by decide +kernel
theorem dX4_late_3 : decode cX4_late 3 = .ok (.invokevirtual 66, 3) := by decide +kernel
theorem dX4_late_6 : decode cX4_late 6 = .ok (.invokevirtual 117, 3) := by decide +kernel
theorem dX4_late_9 : decode cX4_late 9 = .ok (.ifCond .eq 11, 3) := by decide +kernel
theorem dX4_late_12 : decode cX4_late 12 = .ok (.aload_n 0, 1) := by decide +kernel
theorem dX4_late_13 : decode cX4_late 13 = .ok (.iload_n 1, 1) := by decide +kernel
theorem dX4_late_14 : decode cX4_late 14 = .ok (.invokevirtual 108, 3) := by decide +kernel
theorem dX4_late_17 : decode cX4_late 17 = .ok (.goto 4, 3) := by decide +kernel
theorem dX4_late_20 : decode cX4_late 20 = .ok (.iconst 0, 1) := by decide +kernel
theorem dX4_late_21 : decode cX4_late 21 = .ok (.ireturn, 1) := by decide +kernel
set_option maxRecDepth 20000 in
theorem ggX4_needed_X4_isBlock : GoodIn wsX4_needed wsX4_isBlock := goodIn_r _ [7, 8, 72, 73, 74, 75, 76, 77, 78, 79, 80, 81, 82, 83, 84, 85, 86, 87, 88, 89] (by decide +kernel) (by decide +kernel)
set_option maxRecDepth 20000 in
theorem gX4_needed_X4_isBlock : GoodIn wsX4_needed (wsV RX4 66 RX4 yX4_isBlock wsX4_isBlock) := goodIn_app (goodIn_of _ (by decide +kernel)) ggX4_needed_X4_isBlock
set_option maxRecDepth 20000 in
theorem ggX4_needed_X4_asks : GoodIn wsX4_needed wsX4_asks := goodIn_r _ [12, 13, 14, 15, 16, 6, 17, 8, 2, 18, 19, 20, 21, 22, 23, 24, 25, 26, 27, 28, 29, 30, 31, 1, 32, 33, 34, 35, 36, 37, 38, 39, 40, 41, 42, 43, 44, 45, 46, 47, 48, 49, 50, 51, 52, 53, 54, 55, 56, 57, 58, 59, 60, 61, 62, 63, 64, 65, 66, 67, 68, 69, 70, 71, 72, 73, 74, 75, 76, 77, 78, 79, 80, 81, 82, 83, 84, 85, 86, 87, 88, 89] (by decide +kernel) (by decide +kernel)
set_option maxRecDepth 20000 in
theorem gX4_needed_X4_asks : GoodIn wsX4_needed (wsV RX4 117 RX4 yX4_asks wsX4_asks) := goodIn_app (goodIn_of _ (by decide +kernel)) ggX4_needed_X4_asks
theorem dX4_needed_0 : decode cX4_needed 0 = .ok (.aload_n 0, 1) := by decide +kernel
theorem dX4_needed_1 : decode cX4_needed 1 = .ok (.aload_n 0, 1) := by decide +kernel
theorem dX4_needed_2 : decode cX4_needed 2 = .ok (.iload_n 1, 1) := by decide +kernel
theorem dX4_needed_3 : decode cX4_needed 3 = .ok (.invokevirtual 66, 3) := by decide +kernel
theorem dX4_needed_6 : decode cX4_needed 6 = .ok (.invokevirtual 117, 3) := by decide +kernel
theorem dX4_needed_9 : decode cX4_needed 9 = .ok (.ifCond .ne 7, 3) := by decide +kernel
theorem dX4_needed_12 : decode cX4_needed 12 = .ok (.iconst 0, 1) := by decide +kernel
theorem dX4_needed_13 : decode cX4_needed 13 = .ok (.goto 22, 3) := by decide +kernel
theorem dX4_needed_16 : decode cX4_needed 16 = .ok (.iload_n 2, 1) := by decide +kernel
theorem dX4_needed_17 : decode cX4_needed 17 = .ok (.ifCond .eq 12, 3) := by decide +kernel
theorem dX4_needed_20 : decode cX4_needed 20 = .ok (.aload_n 0, 1) := by decide +kernel
theorem dX4_needed_21 : decode cX4_needed 21 = .ok (.getfield 32, 3) := by decide +kernel
theorem dX4_needed_24 : decode cX4_needed 24 = .ok (.iload_n 1, 1) := by decide +kernel
theorem dX4_needed_25 : decode cX4_needed 25 = .ok (.iaload, 1) := by decide +kernel
theorem dX4_needed_26 : decode cX4_needed 26 = .ok (.goto 9, 3) := by decide +kernel
theorem dX4_needed_29 : decode cX4_needed 29 = .ok (.aload_n 0, 1) := by decide +kernel
theorem dX4_needed_30 : decode cX4_needed 30 = .ok (.getfield 29, 3) := by decide +kernel
theorem dX4_needed_33 : decode cX4_needed 33 = .ok (.iload_n 1, 1) := by decide +kernel
theorem dX4_needed_34 : decode cX4_needed 34 = .ok (.iaload, 1) := by decide +kernel
theorem dX4_needed_35 : decode cX4_needed 35 = .ok (.ireturn, 1) := by decide +kernel
set_option maxRecDepth 20000 in
theorem ggX4_there_X4_isBlock : GoodIn wsX4_there wsX4_isBlock := goodIn_r _ [7, 8, 72, 73, 74, 75, 76, 77, 78, 79, 80, 81, 82, 83, 84, 85, 86, 87, 88, 89] (by decide +kernel) (by decide +kernel)
set_option maxRecDepth 20000 in
theorem gX4_there_X4_isBlock : GoodIn wsX4_there (wsV RX4 66 RX4 yX4_isBlock wsX4_isBlock) := goodIn_app (goodIn_of _ (by decide +kernel)) ggX4_there_X4_isBlock
set_option maxRecDepth 20000 in
theorem ggX4_there_X4_asks : GoodIn wsX4_there wsX4_asks := goodIn_r _ [12, 13, 14, 15, 16, 6, 17, 8, 18, 1, 19, 20, 21, 22, 23, 24, 25, 26, 27, 28, 29, 30, 31, 32, 33, 34, 35, 36, 37, 38, 39, 40, 41, 42, 43, 44, 45, 46, 47, 48, 49, 50, 51, 52, 53, 54, 55, 56, 57, 58, 59, 2, 60, 61, 62, 63, 64, 65, 66, 67, 68, 69, 70, 71, 72, 73, 74, 75, 76, 77, 78, 79, 80, 81, 82, 83, 84, 85, 86, 87, 88, 89] (by decide +kernel) (by decide +kernel)
set_option maxRecDepth 20000 in
theorem gX4_there_X4_asks : GoodIn wsX4_there (wsV RX4 117 RX4 yX4_asks wsX4_asks) := goodIn_app (goodIn_of _ (by decide +kernel)) ggX4_there_X4_asks
theorem dX4_there_0 : decode cX4_there 0 = .ok (.aload_n 0, 1) := by decide +kernel
theorem dX4_there_1 : decode cX4_there 1 = .ok (.aload_n 0, 1) := by decide +kernel
theorem dX4_there_2 : decode cX4_there 2 = .ok (.iload_n 1, 1) := by decide +kernel
theorem dX4_there_3 : decode cX4_there 3 = .ok (.invokevirtual 66, 3) := by decide +kernel
theorem dX4_there_6 : decode cX4_there 6 = .ok (.invokevirtual 117, 3) := by decide +kernel
theorem dX4_there_9 : decode cX4_there 9 = .ok (.ifCond .ne 7, 3) := by decide +kernel
theorem dX4_there_12 : decode cX4_there 12 = .ok (.iconst 0, 1) := by decide +kernel
theorem dX4_there_13 : decode cX4_there 13 = .ok (.goto 22, 3) := by decide +kernel
theorem dX4_there_16 : decode cX4_there 16 = .ok (.iload_n 2, 1) := by decide +kernel
theorem dX4_there_17 : decode cX4_there 17 = .ok (.ifCond .eq 12, 3) := by decide +kernel
theorem dX4_there_20 : decode cX4_there 20 = .ok (.aload_n 0, 1) := by decide +kernel
theorem dX4_there_21 : decode cX4_there 21 = .ok (.getfield 38, 3) := by decide +kernel
theorem dX4_there_24 : decode cX4_there 24 = .ok (.iload_n 1, 1) := by decide +kernel
theorem dX4_there_25 : decode cX4_there 25 = .ok (.iaload, 1) := by decide +kernel
theorem dX4_there_26 : decode cX4_there 26 = .ok (.goto 9, 3) := by decide +kernel
theorem dX4_there_29 : decode cX4_there 29 = .ok (.aload_n 0, 1) := by decide +kernel
theorem dX4_there_30 : decode cX4_there 30 = .ok (.getfield 35, 3) := by decide +kernel
theorem dX4_there_33 : decode cX4_there 33 = .ok (.iload_n 1, 1) := by decide +kernel
theorem dX4_there_34 : decode cX4_there 34 = .ok (.iaload, 1) := by decide +kernel
theorem dX4_there_35 : decode cX4_there 35 = .ok (.ireturn, 1) := by decide +kernel
set_option maxRecDepth 20000 in
theorem ggX4_earliest_X4_isEdge : GoodIn wsX4_earliest wsX4_isEdge := goodIn_r _ [5, 6, 72, 73, 74, 75, 76, 77, 78, 79, 80, 81, 82, 83, 84, 85, 86, 87, 88, 89] (by decide +kernel) (by decide +kernel)
set_option maxRecDepth 20000 in
theorem gX4_earliest_X4_isEdge : GoodIn wsX4_earliest (wsV RX4 83 RX4 yX4_isEdge wsX4_isEdge) := goodIn_app (goodIn_of _ (by decide +kernel)) ggX4_earliest_X4_isEdge
set_option maxRecDepth 20000 in
theorem ggX4_earliest_X4_asks : GoodIn wsX4_earliest wsX4_asks := goodIn_r _ [10, 11, 12, 13, 14, 4, 15, 16, 17, 18, 19, 6, 20, 21, 22, 23, 24, 25, 26, 27, 28, 29, 30, 31, 32, 33, 34, 35, 36, 37, 38, 39, 40, 41, 42, 43, 44, 45, 46, 47, 48, 49, 50, 51, 52, 53, 54, 55, 56, 57, 58, 59, 60, 61, 62, 63, 64, 65, 66, 67, 68, 69, 70, 71, 72, 73, 74, 75, 76, 77, 78, 79, 80, 81, 82, 83, 84, 85, 86, 87, 88, 89] (by decide +kernel) (by decide +kernel)
set_option maxRecDepth 20000 in
theorem gX4_earliest_X4_asks : GoodIn wsX4_earliest (wsV RX4 117 RX4 yX4_asks wsX4_asks) := goodIn_app (goodIn_of _ (by decide +kernel)) ggX4_earliest_X4_asks
set_option maxRecDepth 20000 in
theorem ggX4_earliest_X4_earliestFor : GoodIn wsX4_earliest wsX4_earliestFor := goodIn_r _ [71, 17, 20, 18, 30, 31, 51, 52, 53, 4, 54, 40, 21, 22, 23, 24, 25, 41, 42, 43, 44, 45, 46, 47, 48, 49, 50, 72, 73, 74, 75, 76, 77, 78, 79, 80, 81, 82, 83, 84, 85, 86, 87, 88, 89] (by decide +kernel) (by decide +kernel)
set_option maxRecDepth 20000 in
theorem gX4_earliest_X4_earliestFor : GoodIn wsX4_earliest (wsV RX4 111 RX4 yX4_earliestFor wsX4_earliestFor) := goodIn_app (goodIn_of _ (by decide +kernel)) ggX4_earliest_X4_earliestFor
theorem dX4_earliest_0 : decode cX4_earliest 0 = .ok (.aload_n 0, 1) := by decide +kernel
theorem dX4_earliest_1 : decode cX4_earliest 1 = .ok (.aload_n 0, 1) := by decide +kernel
theorem dX4_earliest_2 : decode cX4_earliest 2 = .ok (.iload_n 1, 1) := by decide +kernel
theorem dX4_earliest_3 : decode cX4_earliest 3 = .ok (.invokevirtual 83, 3) := by decide +kernel
theorem dX4_earliest_6 : decode cX4_earliest 6 = .ok (.invokevirtual 117, 3) := by decide +kernel
theorem dX4_earliest_9 : decode cX4_earliest 9 = .ok (.ifCond .eq 11, 3) := by decide +kernel
theorem dX4_earliest_12 : decode cX4_earliest 12 = .ok (.aload_n 0, 1) := by decide +kernel
theorem dX4_earliest_13 : decode cX4_earliest 13 = .ok (.iload_n 1, 1) := by decide +kernel
theorem dX4_earliest_14 : decode cX4_earliest 14 = .ok (.invokevirtual 111, 3) := by decide +kernel
theorem dX4_earliest_17 : decode cX4_earliest 17 = .ok (.goto 4, 3) := by decide +kernel
theorem dX4_earliest_20 : decode cX4_earliest 20 = .ok (.iconst 0, 1) := by decide +kernel
theorem dX4_earliest_21 : decode cX4_earliest 21 = .ok (.ireturn, 1) := by decide +kernel
set_option maxRecDepth 20000 in
theorem ggX4_delayedOn_X4_isEdge : GoodIn wsX4_delayedOn wsX4_isEdge := goodIn_r _ [5, 6, 72, 73, 74, 75, 76, 77, 78, 79, 80, 81, 82, 83, 84, 85, 86, 87, 88, 89] (by decide +kernel) (by decide +kernel)
set_option maxRecDepth 20000 in
theorem gX4_delayedOn_X4_isEdge : GoodIn wsX4_delayedOn (wsV RX4 83 RX4 yX4_isEdge wsX4_isEdge) := goodIn_app (goodIn_of _ (by decide +kernel)) ggX4_delayedOn_X4_isEdge
set_option maxRecDepth 20000 in
theorem ggX4_delayedOn_X4_asks : GoodIn wsX4_delayedOn wsX4_asks := goodIn_r _ [10, 11, 12, 13, 14, 4, 15, 16, 17, 18, 19, 6, 20, 21, 22, 23, 24, 25, 26, 27, 28, 29, 30, 31, 32, 33, 34, 35, 36, 37, 38, 39, 40, 41, 42, 43, 44, 45, 46, 47, 48, 49, 50, 51, 52, 53, 54, 55, 56, 57, 58, 59, 60, 61, 62, 63, 64, 65, 66, 67, 68, 69, 70, 71, 72, 73, 74, 75, 76, 77, 78, 79, 80, 81, 82, 83, 84, 85, 86, 87, 88, 89] (by decide +kernel) (by decide +kernel)
set_option maxRecDepth 20000 in
theorem gX4_delayedOn_X4_asks : GoodIn wsX4_delayedOn (wsV RX4 117 RX4 yX4_asks wsX4_asks) := goodIn_app (goodIn_of _ (by decide +kernel)) ggX4_delayedOn_X4_asks
set_option maxRecDepth 20000 in
theorem ggX4_delayedOn_X4_delayedAlong : GoodIn wsX4_delayedOn wsX4_delayedAlong := goodIn_r _ [67, 19, 30, 68, 69, 70, 4, 71, 17, 20, 18, 31, 51, 52, 53, 54, 40, 21, 22, 23, 24, 25, 41, 42, 43, 44, 45, 46, 47, 48, 49, 50, 36, 37, 38, 39, 72, 73, 74, 75, 76, 77, 78, 79, 80, 81, 82, 83, 84, 85, 86, 87, 88, 89] (by decide +kernel) (by decide +kernel)
set_option maxRecDepth 20000 in
theorem gX4_delayedOn_X4_delayedAlong : GoodIn wsX4_delayedOn (wsV RX4 99 RX4 yX4_delayedAlong wsX4_delayedAlong) := goodIn_app (goodIn_of _ (by decide +kernel)) ggX4_delayedOn_X4_delayedAlong
theorem dX4_delayedOn_0 : decode cX4_delayedOn 0 = .ok (.aload_n 0, 1) := by decide +kernel
theorem dX4_delayedOn_1 : decode cX4_delayedOn 1 = .ok (.aload_n 0, 1) := by decide +kernel
theorem dX4_delayedOn_2 : decode cX4_delayedOn 2 = .ok (.iload_n 1, 1) := by decide +kernel
theorem dX4_delayedOn_3 : decode cX4_delayedOn 3 = .ok (.invokevirtual 83, 3) := by decide +kernel
theorem dX4_delayedOn_6 : decode cX4_delayedOn 6 = .ok (.invokevirtual 117, 3) := by decide +kernel
theorem dX4_delayedOn_9 : decode cX4_delayedOn 9 = .ok (.ifCond .eq 11, 3) := by decide +kernel
theorem dX4_delayedOn_12 : decode cX4_delayedOn 12 = .ok (.aload_n 0, 1) := by decide +kernel
theorem dX4_delayedOn_13 : decode cX4_delayedOn 13 = .ok (.iload_n 1, 1) := by decide +kernel
theorem dX4_delayedOn_14 : decode cX4_delayedOn 14 = .ok (.invokevirtual 99, 3) := by decide +kernel
theorem dX4_delayedOn_17 : decode cX4_delayedOn 17 = .ok (.goto 4, 3) := by decide +kernel
theorem dX4_delayedOn_20 : decode cX4_delayedOn 20 = .ok (.iconst 0, 1) := by decide +kernel
theorem dX4_delayedOn_21 : decode cX4_delayedOn 21 = .ok (.ireturn, 1) := by decide +kernel
set_option maxRecDepth 20000 in
theorem ggX4_delayedAt_X4_isBlock : GoodIn wsX4_delayedAt wsX4_isBlock := goodIn_r _ [6, 7, 72, 73, 74, 75, 76, 77, 78, 79, 80, 81, 82, 83, 84, 85, 86, 87, 88, 89] (by decide +kernel) (by decide +kernel)
set_option maxRecDepth 20000 in
theorem gX4_delayedAt_X4_isBlock : GoodIn wsX4_delayedAt (wsV RX4 66 RX4 yX4_isBlock wsX4_isBlock) := goodIn_app (goodIn_of _ (by decide +kernel)) ggX4_delayedAt_X4_isBlock
set_option maxRecDepth 20000 in
theorem ggX4_delayedAt_X4_asks : GoodIn wsX4_delayedAt wsX4_asks := goodIn_r _ [11, 12, 13, 14, 15, 5, 16, 7, 17, 18, 1, 19, 20, 21, 22, 23, 24, 25, 26, 27, 28, 29, 30, 31, 32, 33, 34, 35, 36, 37, 38, 39, 40, 41, 42, 43, 44, 45, 46, 47, 48, 49, 50, 51, 52, 53, 54, 55, 56, 57, 58, 59, 60, 61, 62, 63, 64, 65, 66, 67, 68, 69, 70, 71, 72, 73, 74, 75, 76, 77, 78, 79, 80, 81, 82, 83, 84, 85, 86, 87, 88, 89] (by decide +kernel) (by decide +kernel)
set_option maxRecDepth 20000 in
theorem gX4_delayedAt_X4_asks : GoodIn wsX4_delayedAt (wsV RX4 117 RX4 yX4_asks wsX4_asks) := goodIn_app (goodIn_of _ (by decide +kernel)) ggX4_delayedAt_X4_asks
theorem dX4_delayedAt_0 : decode cX4_delayedAt 0 = .ok (.aload_n 0, 1) := by decide +kernel
theorem dX4_delayedAt_1 : decode cX4_delayedAt 1 = .ok (.aload_n 0, 1) := by decide +kernel
theorem dX4_delayedAt_2 : decode cX4_delayedAt 2 = .ok (.iload_n 1, 1) := by decide +kernel
theorem dX4_delayedAt_3 : decode cX4_delayedAt 3 = .ok (.invokevirtual 66, 3) := by decide +kernel
theorem dX4_delayedAt_6 : decode cX4_delayedAt 6 = .ok (.invokevirtual 117, 3) := by decide +kernel
theorem dX4_delayedAt_9 : decode cX4_delayedAt 9 = .ok (.ifCond .eq 12, 3) := by decide +kernel
theorem dX4_delayedAt_12 : decode cX4_delayedAt 12 = .ok (.aload_n 0, 1) := by decide +kernel
theorem dX4_delayedAt_13 : decode cX4_delayedAt 13 = .ok (.getfield 41, 3) := by decide +kernel
theorem dX4_delayedAt_16 : decode cX4_delayedAt 16 = .ok (.iload_n 1, 1) := by decide +kernel
theorem dX4_delayedAt_17 : decode cX4_delayedAt 17 = .ok (.iaload, 1) := by decide +kernel
theorem dX4_delayedAt_18 : decode cX4_delayedAt 18 = .ok (.goto 4, 3) := by decide +kernel
theorem dX4_delayedAt_21 : decode cX4_delayedAt 21 = .ok (.iconst 0, 1) := by decide +kernel
theorem dX4_delayedAt_22 : decode cX4_delayedAt 22 = .ok (.ireturn, 1) := by decide +kernel
set_option maxRecDepth 20000 in
theorem ggX4_insertions_X4_isEdge : GoodIn wsX4_insertions wsX4_isEdge := goodIn_r _ [5, 6, 76, 77, 78, 79, 80, 81, 82, 83, 84, 85, 86, 87, 88, 89, 90, 91, 92, 93] (by decide +kernel) (by decide +kernel)
set_option maxRecDepth 20000 in
theorem gX4_insertions_X4_isEdge : GoodIn wsX4_insertions (wsV RX4 83 RX4 yX4_isEdge wsX4_isEdge) := goodIn_app (goodIn_of _ (by decide +kernel)) ggX4_insertions_X4_isEdge
set_option maxRecDepth 20000 in
theorem ggX4_insertions_X4_asks : GoodIn wsX4_insertions wsX4_asks := goodIn_r _ [10, 11, 12, 13, 14, 4, 15, 16, 17, 18, 19, 6, 20, 21, 22, 23, 24, 25, 26, 27, 28, 29, 30, 31, 32, 33, 34, 35, 36, 37, 38, 39, 40, 41, 42, 43, 44, 45, 46, 47, 48, 49, 50, 51, 52, 53, 54, 55, 56, 57, 58, 59, 60, 61, 62, 63, 64, 65, 66, 67, 68, 69, 70, 71, 76, 77, 78, 79, 80, 81, 82, 83, 84, 85, 86, 87, 88, 89, 90, 91, 92, 93] (by decide +kernel) (by decide +kernel)
set_option maxRecDepth 20000 in
theorem gX4_insertions_X4_asks : GoodIn wsX4_insertions (wsV RX4 117 RX4 yX4_asks wsX4_asks) := goodIn_app (goodIn_of _ (by decide +kernel)) ggX4_insertions_X4_asks
set_option maxRecDepth 20000 in
theorem ggX4_insertions_X4_insertedOn : GoodIn wsX4_insertions wsX4_insertedOn := goodIn_r _ [75, 19, 20, 64, 65, 66, 4, 67, 30, 68, 69, 70, 71, 17, 18, 31, 51, 52, 53, 54, 40, 21, 22, 23, 24, 25, 41, 42, 43, 44, 45, 46, 47, 48, 49, 50, 36, 37, 38, 39, 76, 77, 78, 79, 80, 81, 82, 83, 84, 85, 86, 87, 88, 89, 90, 91, 92, 93] (by decide +kernel) (by decide +kernel)
set_option maxRecDepth 20000 in
theorem gX4_insertions_X4_insertedOn : GoodIn wsX4_insertions (wsV RX4 121 RX4 yX4_insertedOn wsX4_insertedOn) := goodIn_app (goodIn_of _ (by decide +kernel)) ggX4_insertions_X4_insertedOn
theorem dX4_insertions_0 : decode cX4_insertions 0 = .ok (.aload_n 0, 1) := by decide +kernel
theorem dX4_insertions_1 : decode cX4_insertions 1 = .ok (.aload_n 0, 1) := by decide +kernel
theorem dX4_insertions_2 : decode cX4_insertions 2 = .ok (.iload_n 1, 1) := by decide +kernel
theorem dX4_insertions_3 : decode cX4_insertions 3 = .ok (.invokevirtual 83, 3) := by decide +kernel
theorem dX4_insertions_6 : decode cX4_insertions 6 = .ok (.invokevirtual 117, 3) := by decide +kernel
theorem dX4_insertions_9 : decode cX4_insertions 9 = .ok (.ifCond .eq 11, 3) := by decide +kernel
theorem dX4_insertions_12 : decode cX4_insertions 12 = .ok (.aload_n 0, 1) := by decide +kernel
theorem dX4_insertions_13 : decode cX4_insertions 13 = .ok (.iload_n 1, 1) := by decide +kernel
theorem dX4_insertions_14 : decode cX4_insertions 14 = .ok (.invokevirtual 121, 3) := by decide +kernel
theorem dX4_insertions_17 : decode cX4_insertions 17 = .ok (.goto 4, 3) := by decide +kernel
theorem dX4_insertions_20 : decode cX4_insertions 20 = .ok (.iconst 0, 1) := by decide +kernel
theorem dX4_insertions_21 : decode cX4_insertions 21 = .ok (.ireturn, 1) := by decide +kernel
set_option maxRecDepth 20000 in
theorem ggX4_deletions_X4_isBlock : GoodIn wsX4_deletions wsX4_isBlock := goodIn_r _ [5, 6, 76, 77, 78, 79, 80, 81, 82, 83, 84, 85, 86, 87, 88, 89, 90, 91, 92, 93] (by decide +kernel) (by decide +kernel)
set_option maxRecDepth 20000 in
theorem gX4_deletions_X4_isBlock : GoodIn wsX4_deletions (wsV RX4 66 RX4 yX4_isBlock wsX4_isBlock) := goodIn_app (goodIn_of _ (by decide +kernel)) ggX4_deletions_X4_isBlock
set_option maxRecDepth 20000 in
theorem ggX4_deletions_X4_asks : GoodIn wsX4_deletions wsX4_asks := goodIn_r _ [10, 11, 12, 13, 14, 4, 15, 6, 16, 17, 18, 19, 20, 21, 22, 23, 24, 25, 26, 27, 28, 29, 30, 31, 32, 33, 34, 35, 36, 37, 38, 39, 40, 41, 42, 43, 44, 45, 46, 47, 48, 49, 50, 51, 52, 53, 54, 55, 56, 57, 58, 59, 60, 61, 62, 63, 64, 65, 66, 67, 68, 69, 70, 71, 76, 77, 78, 79, 80, 81, 82, 83, 84, 85, 86, 87, 88, 89, 90, 91, 92, 93] (by decide +kernel) (by decide +kernel)
set_option maxRecDepth 20000 in
theorem gX4_deletions_X4_asks : GoodIn wsX4_deletions (wsV RX4 117 RX4 yX4_asks wsX4_asks) := goodIn_app (goodIn_of _ (by decide +kernel)) ggX4_deletions_X4_asks
set_option maxRecDepth 20000 in
theorem ggX4_deletions_X4_deletedIn : GoodIn wsX4_deletions wsX4_deletedIn := goodIn_r _ [75, 18, 36, 37, 38, 4, 39, 40, 41, 42, 43, 44, 45, 46, 47, 48, 49, 25, 50, 76, 77, 78, 79, 80, 81, 82, 83, 84, 85, 86, 87, 88, 89, 90, 91, 92, 93] (by decide +kernel) (by decide +kernel)
set_option maxRecDepth 20000 in
theorem gX4_deletions_X4_deletedIn : GoodIn wsX4_deletions (wsV RX4 124 RX4 yX4_deletedIn wsX4_deletedIn) := goodIn_app (goodIn_of _ (by decide +kernel)) ggX4_deletions_X4_deletedIn
theorem dX4_deletions_0 : decode cX4_deletions 0 = .ok (.aload_n 0, 1) := by decide +kernel
theorem dX4_deletions_1 : decode cX4_deletions 1 = .ok (.aload_n 0, 1) := by decide +kernel
theorem dX4_deletions_2 : decode cX4_deletions 2 = .ok (.iload_n 1, 1) := by decide +kernel
theorem dX4_deletions_3 : decode cX4_deletions 3 = .ok (.invokevirtual 66, 3) := by decide +kernel
theorem dX4_deletions_6 : decode cX4_deletions 6 = .ok (.invokevirtual 117, 3) := by decide +kernel
theorem dX4_deletions_9 : decode cX4_deletions 9 = .ok (.ifCond .eq 11, 3) := by decide +kernel
theorem dX4_deletions_12 : decode cX4_deletions 12 = .ok (.aload_n 0, 1) := by decide +kernel
theorem dX4_deletions_13 : decode cX4_deletions 13 = .ok (.iload_n 1, 1) := by decide +kernel
theorem dX4_deletions_14 : decode cX4_deletions 14 = .ok (.invokevirtual 124, 3) := by decide +kernel
theorem dX4_deletions_17 : decode cX4_deletions 17 = .ok (.goto 4, 3) := by decide +kernel
theorem dX4_deletions_20 : decode cX4_deletions 20 = .ok (.iconst 0, 1) := by decide +kernel
theorem dX4_deletions_21 : decode cX4_deletions 21 = .ok (.ireturn, 1) := by decide +kernel
set_option maxRecDepth 20000 in
theorem ggX4_move_X4_find : GoodIn wsX4_move wsX4_find := goodIn_r _ [9, 4, 10, 11, 12, 3, 13, 14, 15, 16, 8, 17, 18, 19, 20, 21, 22, 23, 24, 25, 26, 27, 28, 29, 30, 31, 32, 33, 34, 35, 36, 37, 38, 39, 40, 41, 42, 43, 44, 45, 46, 47, 48, 49, 50, 51, 52, 53, 54, 55, 56, 57, 58, 59, 60, 61, 62, 63, 64, 89, 90, 91, 92, 93, 94, 95, 96, 97, 98, 99, 100, 101, 102, 103, 104, 105, 106] (by decide +kernel) (by decide +kernel)
set_option maxRecDepth 20000 in
theorem gX4_move_X4_find : GoodIn wsX4_move (wsV RX4 114 RX4 yX4_find wsX4_find) := goodIn_app (goodIn_of _ (by decide +kernel)) ggX4_move_X4_find
set_option maxRecDepth 20000 in
theorem ggX4_move_X4_insertedOn : GoodIn wsX4_move wsX4_insertedOn := goodIn_r _ [68, 12, 13, 57, 58, 59, 8, 60, 23, 61, 62, 63, 64, 10, 11, 24, 44, 45, 46, 47, 33, 14, 15, 16, 17, 18, 34, 35, 36, 37, 38, 39, 40, 41, 42, 43, 29, 30, 31, 32, 89, 90, 91, 92, 93, 94, 95, 96, 97, 98, 99, 100, 101, 102, 103, 104, 105, 106] (by decide +kernel) (by decide +kernel)
set_option maxRecDepth 20000 in
theorem gX4_move_X4_insertedOn : GoodIn wsX4_move (wsV RX4 121 RX4 yX4_insertedOn wsX4_insertedOn) := goodIn_app (goodIn_of _ (by decide +kernel)) ggX4_move_X4_insertedOn
set_option maxRecDepth 20000 in
theorem ggX4_move_X4_no : GoodIn wsX4_move wsX4_no := goodIn_r _ [72, 1, 89, 90, 91, 92, 93, 94, 95, 96, 97, 98, 99, 100, 101, 102, 103, 104, 105, 106] (by decide +kernel) (by decide +kernel)
set_option maxRecDepth 20000 in
theorem gX4_move_X4_no : GoodIn wsX4_move (wsV RX4 62 RX4 yX4_no wsX4_no) := goodIn_app (goodIn_of _ (by decide +kernel)) ggX4_move_X4_no
set_option maxRecDepth 20000 in
theorem ggX4_move_X4_deletedIn : GoodIn wsX4_move wsX4_deletedIn := goodIn_r _ [76, 12, 29, 30, 31, 8, 32, 33, 34, 35, 36, 37, 38, 39, 40, 41, 42, 18, 43, 89, 90, 91, 92, 93, 94, 95, 96, 97, 98, 99, 100, 101, 102, 103, 104, 105, 106] (by decide +kernel) (by decide +kernel)
set_option maxRecDepth 20000 in
theorem gX4_move_X4_deletedIn : GoodIn wsX4_move (wsV RX4 124 RX4 yX4_deletedIn wsX4_deletedIn) := goodIn_app (goodIn_of _ (by decide +kernel)) ggX4_move_X4_deletedIn
set_option maxRecDepth 20000 in
theorem ggX4_move_X4_delete : GoodIn wsX4_move wsX4_delete := goodIn_r _ [80, 33, 38, 34, 35, 36, 8, 37, 89, 90, 91, 92, 93, 94, 95, 96, 97, 98, 99, 100, 101, 102, 103, 104, 105, 106] (by decide +kernel) (by decide +kernel)
set_option maxRecDepth 20000 in
theorem gX4_move_X4_delete : GoodIn wsX4_move (wsV RX4 127 RX4 yX4_delete wsX4_delete) := goodIn_app (goodIn_of _ (by decide +kernel)) ggX4_move_X4_delete
set_option maxRecDepth 20000 in
theorem ggX4_move_X4_insert : GoodIn wsX4_move wsX4_insert := goodIn_r _ [84, 4, 33, 18, 23, 3, 13, 85, 86, 87, 8, 88, 38, 69, 70, 71, 72, 1, 89, 90, 91, 92, 93, 94, 95, 96, 97, 98, 99, 100, 101, 102, 103, 104, 105, 106] (by decide +kernel) (by decide +kernel)
set_option maxRecDepth 20000 in
theorem gX4_move_X4_insert : GoodIn wsX4_move (wsV RX4 131 RX4 yX4_insert wsX4_insert) := goodIn_app (goodIn_of _ (by decide +kernel)) ggX4_move_X4_insert
theorem dX4_move_0 : decode cX4_move 0 = .ok (.aload_n 0, 1) := by decide +kernel
theorem dX4_move_1 : decode cX4_move 1 = .ok (.iconst 0, 1) := by decide +kernel
theorem dX4_move_2 : decode cX4_move 2 = .ok (.putfield 53, 3) := by decide +kernel
theorem dX4_move_5 : decode cX4_move 5 = .ok (.aload_n 0, 1) := by decide +kernel
theorem dX4_move_6 : decode cX4_move 6 = .ok (.invokevirtual 114, 3) := by decide +kernel
theorem dX4_move_9 : decode cX4_move 9 = .ok (.bipush 80, 2) := by decide +kernel
theorem dX4_move_11 : decode cX4_move 11 = .ok (.newarray .int, 2) := by decide +kernel
theorem dX4_move_13 : decode cX4_move 13 = .ok (.astore_n 1, 1) := by decide +kernel
theorem dX4_move_14 : decode cX4_move 14 = .ok (.iconst 0, 1) := by decide +kernel
theorem dX4_move_15 : decode cX4_move 15 = .ok (.istore_n 2, 1) := by decide +kernel
theorem dX4_move_16 : decode cX4_move 16 = .ok (.iconst 0, 1) := by decide +kernel
theorem dX4_move_17 : decode cX4_move 17 = .ok (.istore_n 3, 1) := by decide +kernel
theorem dX4_move_18 : decode cX4_move 18 = .ok (.iload_n 3, 1) := by decide +kernel
theorem dX4_move_19 : decode cX4_move 19 = .ok (.aload_n 0, 1) := by decide +kernel
theorem dX4_move_20 : decode cX4_move 20 = .ok (.getfield 56, 3) := by decide +kernel
theorem dX4_move_23 : decode cX4_move 23 = .ok (.if_icmp .ge 31, 3) := by decide +kernel
theorem dX4_move_26 : decode cX4_move 26 = .ok (.aload_n 1, 1) := by decide +kernel
theorem dX4_move_27 : decode cX4_move 27 = .ok (.iload_n 3, 1) := by decide +kernel
theorem dX4_move_28 : decode cX4_move 28 = .ok (.aload_n 0, 1) := by decide +kernel
theorem dX4_move_29 : decode cX4_move 29 = .ok (.iload_n 3, 1) := by decide +kernel
theorem dX4_move_30 : decode cX4_move 30 = .ok (.invokevirtual 121, 3) := by decide +kernel
theorem dX4_move_33 : decode cX4_move 33 = .ok (.iastore, 1) := by decide +kernel
theorem dX4_move_34 : decode cX4_move 34 = .ok (.iload_n 2, 1) := by decide +kernel
theorem dX4_move_35 : decode cX4_move 35 = .ok (.aload_n 1, 1) := by decide +kernel
theorem dX4_move_36 : decode cX4_move 36 = .ok (.iload_n 3, 1) := by decide +kernel
theorem dX4_move_37 : decode cX4_move 37 = .ok (.iaload, 1) := by decide +kernel
theorem dX4_move_38 : decode cX4_move 38 = .ok (.ifCond .ne 7, 3) := by decide +kernel
theorem dX4_move_41 : decode cX4_move 41 = .ok (.iconst 0, 1) := by decide +kernel
theorem dX4_move_42 : decode cX4_move 42 = .ok (.goto 4, 3) := by decide +kernel
theorem dX4_move_45 : decode cX4_move 45 = .ok (.iconst 1, 1) := by decide +kernel
theorem dX4_move_46 : decode cX4_move 46 = .ok (.iadd, 1) := by decide +kernel
theorem dX4_move_47 : decode cX4_move 47 = .ok (.istore_n 2, 1) := by decide +kernel
theorem dX4_move_48 : decode cX4_move 48 = .ok (.iinc 3 1, 3) := by decide +kernel
theorem dX4_move_51 : decode cX4_move 51 = .ok (.goto (-33), 3) := by decide +kernel
theorem dX4_move_54 : decode cX4_move 54 = .ok (.aload_n 0, 1) := by decide +kernel
theorem dX4_move_55 : decode cX4_move 55 = .ok (.getfield 13, 3) := by decide +kernel
theorem dX4_move_58 : decode cX4_move 58 = .ok (.iload_n 2, 1) := by decide +kernel
theorem dX4_move_59 : decode cX4_move 59 = .ok (.iadd, 1) := by decide +kernel
theorem dX4_move_60 : decode cX4_move 60 = .ok (.bipush 40, 2) := by decide +kernel
theorem dX4_move_62 : decode cX4_move 62 = .ok (.if_icmp .gt 14, 3) := by decide +kernel
theorem dX4_move_65 : decode cX4_move 65 = .ok (.aload_n 0, 1) := by decide +kernel
theorem dX4_move_66 : decode cX4_move 66 = .ok (.getfield 56, 3) := by decide +kernel
theorem dX4_move_69 : decode cX4_move 69 = .ok (.iload_n 2, 1) := by decide +kernel
theorem dX4_move_70 : decode cX4_move 70 = .ok (.iadd, 1) := by decide +kernel
theorem dX4_move_71 : decode cX4_move 71 = .ok (.bipush 80, 2) := by decide +kernel
theorem dX4_move_73 : decode cX4_move 73 = .ok (.if_icmp .le 9, 3) := by decide +kernel
theorem dX4_move_76 : decode cX4_move 76 = .ok (.aload_n 0, 1) := by decide +kernel
theorem dX4_move_77 : decode cX4_move 77 = .ok (.iconst 1, 1) := by decide +kernel
theorem dX4_move_78 : decode cX4_move 78 = .ok (.invokevirtual 62, 3) := by decide +kernel
theorem dX4_move_81 : decode cX4_move 81 = .ok (.ireturn, 1) := by decide +kernel
theorem dX4_move_82 : decode cX4_move 82 = .ok (.bipush 40, 2) := by decide +kernel
theorem dX4_move_84 : decode cX4_move 84 = .ok (.newarray .int, 2) := by decide +kernel
theorem dX4_move_86 : decode cX4_move 86 = .ok (.astore_n 3, 1) := by decide +kernel
theorem dX4_move_87 : decode cX4_move 87 = .ok (.iconst 0, 1) := by decide +kernel
theorem dX4_move_88 : decode cX4_move 88 = .ok (.istore 4, 2) := by decide +kernel
theorem dX4_move_90 : decode cX4_move 90 = .ok (.iload 4, 2) := by decide +kernel
theorem dX4_move_92 : decode cX4_move 92 = .ok (.aload_n 0, 1) := by decide +kernel
theorem dX4_move_93 : decode cX4_move 93 = .ok (.getfield 13, 3) := by decide +kernel
theorem dX4_move_96 : decode cX4_move 96 = .ok (.if_icmp .ge 19, 3) := by decide +kernel
theorem dX4_move_99 : decode cX4_move 99 = .ok (.aload_n 3, 1) := by decide +kernel
theorem dX4_move_100 : decode cX4_move 100 = .ok (.iload 4, 2) := by decide +kernel
theorem dX4_move_102 : decode cX4_move 102 = .ok (.aload_n 0, 1) := by decide +kernel
theorem dX4_move_103 : decode cX4_move 103 = .ok (.iload 4, 2) := by decide +kernel
theorem dX4_move_105 : decode cX4_move 105 = .ok (.invokevirtual 124, 3) := by decide +kernel
theorem dX4_move_108 : decode cX4_move 108 = .ok (.iastore, 1) := by decide +kernel
theorem dX4_move_109 : decode cX4_move 109 = .ok (.iinc 4 1, 3) := by decide +kernel
theorem dX4_move_112 : decode cX4_move 112 = .ok (.goto (-22), 3) := by decide +kernel
theorem dX4_move_115 : decode cX4_move 115 = .ok (.iconst 0, 1) := by decide +kernel
theorem dX4_move_116 : decode cX4_move 116 = .ok (.istore 4, 2) := by decide +kernel
theorem dX4_move_118 : decode cX4_move 118 = .ok (.iload 4, 2) := by decide +kernel
theorem dX4_move_120 : decode cX4_move 120 = .ok (.aload_n 0, 1) := by decide +kernel
theorem dX4_move_121 : decode cX4_move 121 = .ok (.getfield 13, 3) := by decide +kernel
theorem dX4_move_124 : decode cX4_move 124 = .ok (.if_icmp .ge 19, 3) := by decide +kernel
theorem dX4_move_127 : decode cX4_move 127 = .ok (.aload_n 0, 1) := by decide +kernel
theorem dX4_move_128 : decode cX4_move 128 = .ok (.iload 4, 2) := by decide +kernel
theorem dX4_move_130 : decode cX4_move 130 = .ok (.aload_n 3, 1) := by decide +kernel
theorem dX4_move_131 : decode cX4_move 131 = .ok (.iload 4, 2) := by decide +kernel
theorem dX4_move_133 : decode cX4_move 133 = .ok (.iaload, 1) := by decide +kernel
theorem dX4_move_134 : decode cX4_move 134 = .ok (.invokevirtual 127, 3) := by decide +kernel
theorem dX4_move_137 : decode cX4_move 137 = .ok (.iinc 4 1, 3) := by decide +kernel
theorem dX4_move_140 : decode cX4_move 140 = .ok (.goto (-22), 3) := by decide +kernel
theorem dX4_move_143 : decode cX4_move 143 = .ok (.aload_n 0, 1) := by decide +kernel
theorem dX4_move_144 : decode cX4_move 144 = .ok (.getfield 56, 3) := by decide +kernel
theorem dX4_move_147 : decode cX4_move 147 = .ok (.istore 4, 2) := by decide +kernel
theorem dX4_move_149 : decode cX4_move 149 = .ok (.iconst 0, 1) := by decide +kernel
theorem dX4_move_150 : decode cX4_move 150 = .ok (.istore 5, 2) := by decide +kernel
theorem dX4_move_152 : decode cX4_move 152 = .ok (.iload 5, 2) := by decide +kernel
theorem dX4_move_154 : decode cX4_move 154 = .ok (.iload 4, 2) := by decide +kernel
theorem dX4_move_156 : decode cX4_move 156 = .ok (.if_icmp .ge 26, 3) := by decide +kernel
theorem dX4_move_159 : decode cX4_move 159 = .ok (.aload_n 1, 1) := by decide +kernel
theorem dX4_move_160 : decode cX4_move 160 = .ok (.iload 5, 2) := by decide +kernel
theorem dX4_move_162 : decode cX4_move 162 = .ok (.iaload, 1) := by decide +kernel
theorem dX4_move_163 : decode cX4_move 163 = .ok (.ifCond .eq 13, 3) := by decide +kernel
theorem dX4_move_166 : decode cX4_move 166 = .ok (.aload_n 0, 1) := by decide +kernel
theorem dX4_move_167 : decode cX4_move 167 = .ok (.iload 5, 2) := by decide +kernel
theorem dX4_move_169 : decode cX4_move 169 = .ok (.aload_n 1, 1) := by decide +kernel
theorem dX4_move_170 : decode cX4_move 170 = .ok (.iload 5, 2) := by decide +kernel
theorem dX4_move_172 : decode cX4_move 172 = .ok (.iaload, 1) := by decide +kernel
theorem dX4_move_173 : decode cX4_move 173 = .ok (.invokevirtual 131, 3) := by decide +kernel
theorem dX4_move_176 : decode cX4_move 176 = .ok (.iinc 5 1, 3) := by decide +kernel
theorem dX4_move_179 : decode cX4_move 179 = .ok (.goto (-27), 3) := by decide +kernel
theorem dX4_move_182 : decode cX4_move 182 = .ok (.iload_n 2, 1) := by decide +kernel
theorem dX4_move_183 : decode cX4_move 183 = .ok (.ireturn, 1) := by decide +kernel
set_option maxRecDepth 20000 in
theorem ggX4_delete_X4_at : GoodIn wsX4_delete wsX4_at := goodIn_r _ [7, 2, 8, 9, 10, 11, 12, 13, 14, 15, 16, 17, 18, 19, 20, 21, 22, 23, 24, 25] (by decide +kernel) (by decide +kernel)
set_option maxRecDepth 20000 in
theorem gX4_delete_X4_at : GoodIn wsX4_delete (wsV RX4 80 RX4 yX4_at wsX4_at) := goodIn_app (goodIn_of _ (by decide +kernel)) ggX4_delete_X4_at
theorem dX4_delete_0 : decode cX4_delete 0 = .ok (.iload_n 2, 1) := by decide +kernel
theorem dX4_delete_1 : decode cX4_delete 1 = .ok (.istore_n 3, 1) := by decide +kernel
theorem dX4_delete_2 : decode cX4_delete 2 = .ok (.iconst 0, 1) := by decide +kernel
theorem dX4_delete_3 : decode cX4_delete 3 = .ok (.istore 4, 2) := by decide +kernel
theorem dX4_delete_5 : decode cX4_delete 5 = .ok (.iload 4, 2) := by decide +kernel
theorem dX4_delete_7 : decode cX4_delete 7 = .ok (.aload_n 0, 1) := by decide +kernel
theorem dX4_delete_8 : decode cX4_delete 8 = .ok (.getfield 17, 3) := by decide +kernel
theorem dX4_delete_11 : decode cX4_delete 11 = .ok (.iload_n 1, 1) := by decide +kernel
theorem dX4_delete_12 : decode cX4_delete 12 = .ok (.iaload, 1) := by decide +kernel
theorem dX4_delete_13 : decode cX4_delete 13 = .ok (.if_icmp .ge 66, 3) := by decide +kernel
theorem dX4_delete_16 : decode cX4_delete 16 = .ok (.aload_n 0, 1) := by decide +kernel
theorem dX4_delete_17 : decode cX4_delete 17 = .ok (.iload_n 1, 1) := by decide +kernel
theorem dX4_delete_18 : decode cX4_delete 18 = .ok (.iload 4, 2) := by decide +kernel
theorem dX4_delete_20 : decode cX4_delete 20 = .ok (.invokevirtual 80, 3) := by decide +kernel
theorem dX4_delete_23 : decode cX4_delete 23 = .ok (.istore 5, 2) := by decide +kernel
theorem dX4_delete_25 : decode cX4_delete 25 = .ok (.iload 5, 2) := by decide +kernel
theorem dX4_delete_27 : decode cX4_delete 27 = .ok (.iconst 3, 1) := by decide +kernel
theorem dX4_delete_28 : decode cX4_delete 28 = .ok (.irem, 1) := by decide +kernel
theorem dX4_delete_29 : decode cX4_delete 29 = .ok (.ifCond .ne 44, 3) := by decide +kernel
theorem dX4_delete_32 : decode cX4_delete 32 = .ok (.iload_n 3, 1) := by decide +kernel
theorem dX4_delete_33 : decode cX4_delete 33 = .ok (.iload 5, 2) := by decide +kernel
theorem dX4_delete_35 : decode cX4_delete 35 = .ok (.iconst 3, 1) := by decide +kernel
theorem dX4_delete_36 : decode cX4_delete 36 = .ok (.idiv, 1) := by decide +kernel
theorem dX4_delete_37 : decode cX4_delete 37 = .ok (.ishr, 1) := by decide +kernel
theorem dX4_delete_38 : decode cX4_delete 38 = .ok (.iconst 1, 1) := by decide +kernel
theorem dX4_delete_39 : decode cX4_delete 39 = .ok (.iand, 1) := by decide +kernel
theorem dX4_delete_40 : decode cX4_delete 40 = .ok (.ifCond .ne 6, 3) := by decide +kernel
theorem dX4_delete_43 : decode cX4_delete 43 = .ok (.goto 30, 3) := by decide +kernel
theorem dX4_delete_46 : decode cX4_delete 46 = .ok (.iload_n 3, 1) := by decide +kernel
theorem dX4_delete_47 : decode cX4_delete 47 = .ok (.iconst 1, 1) := by decide +kernel
theorem dX4_delete_48 : decode cX4_delete 48 = .ok (.iload 5, 2) := by decide +kernel
theorem dX4_delete_50 : decode cX4_delete 50 = .ok (.iconst 3, 1) := by decide +kernel
theorem dX4_delete_51 : decode cX4_delete 51 = .ok (.idiv, 1) := by decide +kernel
theorem dX4_delete_52 : decode cX4_delete 52 = .ok (.ishl, 1) := by decide +kernel
theorem dX4_delete_53 : decode cX4_delete 53 = .ok (.iconst (-1), 1) := by decide +kernel
theorem dX4_delete_54 : decode cX4_delete 54 = .ok (.ixor, 1) := by decide +kernel
theorem dX4_delete_55 : decode cX4_delete 55 = .ok (.iand, 1) := by decide +kernel
theorem dX4_delete_56 : decode cX4_delete 56 = .ok (.istore_n 3, 1) := by decide +kernel
theorem dX4_delete_57 : decode cX4_delete 57 = .ok (.aload_n 0, 1) := by decide +kernel
theorem dX4_delete_58 : decode cX4_delete 58 = .ok (.getfield 20, 3) := by decide +kernel
theorem dX4_delete_61 : decode cX4_delete 61 = .ok (.bipush 12, 2) := by decide +kernel
theorem dX4_delete_63 : decode cX4_delete 63 = .ok (.iload_n 1, 1) := by decide +kernel
theorem dX4_delete_64 : decode cX4_delete 64 = .ok (.imul, 1) := by decide +kernel
theorem dX4_delete_65 : decode cX4_delete 65 = .ok (.iload 4, 2) := by decide +kernel
theorem dX4_delete_67 : decode cX4_delete 67 = .ok (.iadd, 1) := by decide +kernel
theorem dX4_delete_68 : decode cX4_delete 68 = .ok (.iload 5, 2) := by decide +kernel
theorem dX4_delete_70 : decode cX4_delete 70 = .ok (.iconst 1, 1) := by decide +kernel
theorem dX4_delete_71 : decode cX4_delete 71 = .ok (.iadd, 1) := by decide +kernel
theorem dX4_delete_72 : decode cX4_delete 72 = .ok (.iastore, 1) := by decide +kernel
theorem dX4_delete_73 : decode cX4_delete 73 = .ok (.iinc 4 1, 3) := by decide +kernel
theorem dX4_delete_76 : decode cX4_delete 76 = .ok (.goto (-71), 3) := by decide +kernel
theorem dX4_delete_79 : decode cX4_delete 79 = .ok (.return_, 1) := by decide +kernel
set_option maxRecDepth 20000 in
theorem ggX4_insert_X4_append : GoodIn wsX4_insert wsX4_append := goodIn_r _ [11, 2, 12, 13, 14, 15, 10, 16, 17, 18, 19, 20, 21, 22, 23, 24, 25, 26, 27, 28, 29, 30, 31, 32, 33, 34, 35] (by decide +kernel) (by decide +kernel)
set_option maxRecDepth 20000 in
theorem gX4_insert_X4_append : GoodIn wsX4_insert (wsV RX4 76 RX4 yX4_append wsX4_append) := goodIn_app (goodIn_of _ (by decide +kernel)) ggX4_insert_X4_append
theorem dX4_insert_0 : decode cX4_insert 0 = .ok (.aload_n 0, 1) := by decide +kernel
theorem dX4_insert_1 : decode cX4_insert 1 = .ok (.getfield 13, 3) := by decide +kernel
theorem dX4_insert_4 : decode cX4_insert 4 = .ok (.istore_n 3, 1) := by decide +kernel
theorem dX4_insert_5 : decode cX4_insert 5 = .ok (.aload_n 0, 1) := by decide +kernel
theorem dX4_insert_6 : decode cX4_insert 6 = .ok (.dup, 1) := by decide +kernel
theorem dX4_insert_7 : decode cX4_insert 7 = .ok (.getfield 13, 3) := by decide +kernel
theorem dX4_insert_10 : decode cX4_insert 10 = .ok (.iconst 1, 1) := by decide +kernel
theorem dX4_insert_11 : decode cX4_insert 11 = .ok (.iadd, 1) := by decide +kernel
theorem dX4_insert_12 : decode cX4_insert 12 = .ok (.putfield 13, 3) := by decide +kernel
theorem dX4_insert_15 : decode cX4_insert 15 = .ok (.aload_n 0, 1) := by decide +kernel
theorem dX4_insert_16 : decode cX4_insert 16 = .ok (.getfield 17, 3) := by decide +kernel
theorem dX4_insert_19 : decode cX4_insert 19 = .ok (.iload_n 3, 1) := by decide +kernel
theorem dX4_insert_20 : decode cX4_insert 20 = .ok (.iconst 0, 1) := by decide +kernel
theorem dX4_insert_21 : decode cX4_insert 21 = .ok (.iastore, 1) := by decide +kernel
theorem dX4_insert_22 : decode cX4_insert 22 = .ok (.iconst 0, 1) := by decide +kernel
theorem dX4_insert_23 : decode cX4_insert 23 = .ok (.istore 4, 2) := by decide +kernel
theorem dX4_insert_25 : decode cX4_insert 25 = .ok (.iload 4, 2) := by decide +kernel
theorem dX4_insert_27 : decode cX4_insert 27 = .ok (.aload_n 0, 1) := by decide +kernel
theorem dX4_insert_28 : decode cX4_insert 28 = .ok (.getfield 59, 3) := by decide +kernel
theorem dX4_insert_31 : decode cX4_insert 31 = .ok (.if_icmp .ge 31, 3) := by decide +kernel
theorem dX4_insert_34 : decode cX4_insert 34 = .ok (.iload_n 2, 1) := by decide +kernel
theorem dX4_insert_35 : decode cX4_insert 35 = .ok (.iload 4, 2) := by decide +kernel
theorem dX4_insert_37 : decode cX4_insert 37 = .ok (.ishr, 1) := by decide +kernel
theorem dX4_insert_38 : decode cX4_insert 38 = .ok (.iconst 1, 1) := by decide +kernel
theorem dX4_insert_39 : decode cX4_insert 39 = .ok (.iand, 1) := by decide +kernel
theorem dX4_insert_40 : decode cX4_insert 40 = .ok (.iconst 1, 1) := by decide +kernel
theorem dX4_insert_41 : decode cX4_insert 41 = .ok (.if_icmp .ne 15, 3) := by decide +kernel
theorem dX4_insert_44 : decode cX4_insert 44 = .ok (.aload_n 0, 1) := by decide +kernel
theorem dX4_insert_45 : decode cX4_insert 45 = .ok (.iload_n 3, 1) := by decide +kernel
theorem dX4_insert_46 : decode cX4_insert 46 = .ok (.iconst 3, 1) := by decide +kernel
theorem dX4_insert_47 : decode cX4_insert 47 = .ok (.iload 4, 2) := by decide +kernel
theorem dX4_insert_49 : decode cX4_insert 49 = .ok (.imul, 1) := by decide +kernel
theorem dX4_insert_50 : decode cX4_insert 50 = .ok (.iconst 0, 1) := by decide +kernel
theorem dX4_insert_51 : decode cX4_insert 51 = .ok (.iadd, 1) := by decide +kernel
theorem dX4_insert_52 : decode cX4_insert 52 = .ok (.invokevirtual 76, 3) := by decide +kernel
theorem dX4_insert_55 : decode cX4_insert 55 = .ok (.pop, 1) := by decide +kernel
theorem dX4_insert_56 : decode cX4_insert 56 = .ok (.iinc 4 1, 3) := by decide +kernel
theorem dX4_insert_59 : decode cX4_insert 59 = .ok (.goto (-34), 3) := by decide +kernel
theorem dX4_insert_62 : decode cX4_insert 62 = .ok (.aload_n 0, 1) := by decide +kernel
theorem dX4_insert_63 : decode cX4_insert 63 = .ok (.getfield 23, 3) := by decide +kernel
theorem dX4_insert_66 : decode cX4_insert 66 = .ok (.aload_n 0, 1) := by decide +kernel
theorem dX4_insert_67 : decode cX4_insert 67 = .ok (.getfield 56, 3) := by decide +kernel
theorem dX4_insert_70 : decode cX4_insert 70 = .ok (.iload_n 3, 1) := by decide +kernel
theorem dX4_insert_71 : decode cX4_insert 71 = .ok (.iastore, 1) := by decide +kernel
theorem dX4_insert_72 : decode cX4_insert 72 = .ok (.aload_n 0, 1) := by decide +kernel
theorem dX4_insert_73 : decode cX4_insert 73 = .ok (.getfield 26, 3) := by decide +kernel
theorem dX4_insert_76 : decode cX4_insert 76 = .ok (.aload_n 0, 1) := by decide +kernel
theorem dX4_insert_77 : decode cX4_insert 77 = .ok (.getfield 56, 3) := by decide +kernel
theorem dX4_insert_80 : decode cX4_insert 80 = .ok (.aload_n 0, 1) := by decide +kernel
theorem dX4_insert_81 : decode cX4_insert 81 = .ok (.getfield 26, 3) := by decide +kernel
theorem dX4_insert_84 : decode cX4_insert 84 = .ok (.iload_n 1, 1) := by decide +kernel
theorem dX4_insert_85 : decode cX4_insert 85 = .ok (.iaload, 1) := by decide +kernel
theorem dX4_insert_86 : decode cX4_insert 86 = .ok (.iastore, 1) := by decide +kernel
theorem dX4_insert_87 : decode cX4_insert 87 = .ok (.aload_n 0, 1) := by decide +kernel
theorem dX4_insert_88 : decode cX4_insert 88 = .ok (.dup, 1) := by decide +kernel
theorem dX4_insert_89 : decode cX4_insert 89 = .ok (.getfield 56, 3) := by decide +kernel
theorem dX4_insert_92 : decode cX4_insert 92 = .ok (.iconst 1, 1) := by decide +kernel
theorem dX4_insert_93 : decode cX4_insert 93 = .ok (.iadd, 1) := by decide +kernel
theorem dX4_insert_94 : decode cX4_insert 94 = .ok (.putfield 56, 3) := by decide +kernel
theorem dX4_insert_97 : decode cX4_insert 97 = .ok (.aload_n 0, 1) := by decide +kernel
theorem dX4_insert_98 : decode cX4_insert 98 = .ok (.getfield 26, 3) := by decide +kernel
theorem dX4_insert_101 : decode cX4_insert 101 = .ok (.iload_n 1, 1) := by decide +kernel
theorem dX4_insert_102 : decode cX4_insert 102 = .ok (.iload_n 3, 1) := by decide +kernel
theorem dX4_insert_103 : decode cX4_insert 103 = .ok (.iastore, 1) := by decide +kernel
theorem dX4_insert_104 : decode cX4_insert 104 = .ok (.return_, 1) := by decide +kernel
set_option maxRecDepth 20000 in
theorem ggX4_walk_X4_no : GoodIn wsX4_walk wsX4_no := goodIn_r _ [11, 1, 34, 35, 36, 37, 38, 39, 40, 41, 42, 43, 44, 45, 46, 47, 48, 49, 50, 51] (by decide +kernel) (by decide +kernel)
set_option maxRecDepth 20000 in
theorem gX4_walk_X4_no : GoodIn wsX4_walk (wsV RX4 62 RX4 yX4_no wsX4_no) := goodIn_app (goodIn_of _ (by decide +kernel)) ggX4_walk_X4_no
set_option maxRecDepth 20000 in
theorem ggX4_walk_X4_at : GoodIn wsX4_walk wsX4_at := goodIn_r _ [15, 16, 34, 35, 36, 37, 38, 39, 40, 41, 42, 43, 44, 45, 46, 47, 48, 49, 50, 51] (by decide +kernel) (by decide +kernel)
set_option maxRecDepth 20000 in
theorem gX4_walk_X4_at : GoodIn wsX4_walk (wsV RX4 80 RX4 yX4_at wsX4_at) := goodIn_app (goodIn_of _ (by decide +kernel)) ggX4_walk_X4_at
set_option maxRecDepth 20000 in
theorem ggX4_walk_X4_go : GoodIn wsX4_walk wsX4_go := goodIn_r _ [20, 21, 3, 4, 2, 22, 23, 24, 10, 25, 26, 34, 35, 36, 37, 38, 39, 40, 41, 42, 43, 44, 45, 46, 47, 48, 49, 50, 51] (by decide +kernel) (by decide +kernel)
set_option maxRecDepth 20000 in
theorem gX4_walk_X4_go : GoodIn wsX4_walk (wsV RX4 137 RX4 yX4_go wsX4_go) := goodIn_app (goodIn_of _ (by decide +kernel)) ggX4_walk_X4_go
set_option maxRecDepth 20000 in
theorem ggX4_walk_X4_exit : GoodIn wsX4_walk wsX4_exit := goodIn_r _ [30, 31, 32, 33, 34, 35, 36, 37, 38, 39, 40, 41, 42, 43, 44, 45, 46, 47, 48, 49, 50, 51] (by decide +kernel) (by decide +kernel)
set_option maxRecDepth 20000 in
theorem gX4_walk_X4_exit : GoodIn wsX4_walk (wsV RX4 140 RX4 yX4_exit wsX4_exit) := goodIn_app (goodIn_of _ (by decide +kernel)) ggX4_walk_X4_exit
theorem dX4_walk_0 : decode cX4_walk 0 = .ok (.aload_n 0, 1) := by decide +kernel
theorem dX4_walk_1 : decode cX4_walk 1 = .ok (.iconst 0, 1) := by decide +kernel
theorem dX4_walk_2 : decode cX4_walk 2 = .ok (.putfield 53, 3) := by decide +kernel
theorem dX4_walk_5 : decode cX4_walk 5 = .ok (.iload_n 3, 1) := by decide +kernel
theorem dX4_walk_6 : decode cX4_walk 6 = .ok (.iconst 1, 1) := by decide +kernel
theorem dX4_walk_7 : decode cX4_walk 7 = .ok (.if_icmp .lt 10, 3) := by decide +kernel
theorem dX4_walk_10 : decode cX4_walk 10 = .ok (.iload_n 3, 1) := by decide +kernel
theorem dX4_walk_11 : decode cX4_walk 11 = .ok (.sipush 1000, 3) := by decide +kernel
theorem dX4_walk_14 : decode cX4_walk 14 = .ok (.if_icmp .le 9, 3) := by decide +kernel
theorem dX4_walk_17 : decode cX4_walk 17 = .ok (.aload_n 0, 1) := by decide +kernel
theorem dX4_walk_18 : decode cX4_walk 18 = .ok (.iconst 1, 1) := by decide +kernel
theorem dX4_walk_19 : decode cX4_walk 19 = .ok (.invokevirtual 62, 3) := by decide +kernel
theorem dX4_walk_22 : decode cX4_walk 22 = .ok (.ireturn, 1) := by decide +kernel
theorem dX4_walk_23 : decode cX4_walk 23 = .ok (.iconst 0, 1) := by decide +kernel
theorem dX4_walk_24 : decode cX4_walk 24 = .ok (.istore 4, 2) := by decide +kernel
theorem dX4_walk_26 : decode cX4_walk 26 = .ok (.iload 4, 2) := by decide +kernel
theorem dX4_walk_28 : decode cX4_walk 28 = .ok (.bipush 8, 2) := by decide +kernel
theorem dX4_walk_30 : decode cX4_walk 30 = .ok (.if_icmp .ge 25, 3) := by decide +kernel
theorem dX4_walk_33 : decode cX4_walk 33 = .ok (.aload_n 0, 1) := by decide +kernel
theorem dX4_walk_34 : decode cX4_walk 34 = .ok (.getfield 44, 3) := by decide +kernel
theorem dX4_walk_37 : decode cX4_walk 37 = .ok (.iload 4, 2) := by decide +kernel
theorem dX4_walk_39 : decode cX4_walk 39 = .ok (.iconst 0, 1) := by decide +kernel
theorem dX4_walk_40 : decode cX4_walk 40 = .ok (.iastore, 1) := by decide +kernel
theorem dX4_walk_41 : decode cX4_walk 41 = .ok (.aload_n 0, 1) := by decide +kernel
theorem dX4_walk_42 : decode cX4_walk 42 = .ok (.getfield 47, 3) := by decide +kernel
theorem dX4_walk_45 : decode cX4_walk 45 = .ok (.iload 4, 2) := by decide +kernel
theorem dX4_walk_47 : decode cX4_walk 47 = .ok (.iconst 0, 1) := by decide +kernel
theorem dX4_walk_48 : decode cX4_walk 48 = .ok (.iastore, 1) := by decide +kernel
theorem dX4_walk_49 : decode cX4_walk 49 = .ok (.iinc 4 1, 3) := by decide +kernel
theorem dX4_walk_52 : decode cX4_walk 52 = .ok (.goto (-26), 3) := by decide +kernel
theorem dX4_walk_55 : decode cX4_walk 55 = .ok (.aload_n 0, 1) := by decide +kernel
theorem dX4_walk_56 : decode cX4_walk 56 = .ok (.iconst 0, 1) := by decide +kernel
theorem dX4_walk_57 : decode cX4_walk 57 = .ok (.putfield 134, 3) := by decide +kernel
theorem dX4_walk_60 : decode cX4_walk 60 = .ok (.iconst 0, 1) := by decide +kernel
theorem dX4_walk_61 : decode cX4_walk 61 = .ok (.istore 4, 2) := by decide +kernel
theorem dX4_walk_63 : decode cX4_walk 63 = .ok (.iconst 0, 1) := by decide +kernel
theorem dX4_walk_64 : decode cX4_walk 64 = .ok (.istore 5, 2) := by decide +kernel
theorem dX4_walk_66 : decode cX4_walk 66 = .ok (.iconst 0, 1) := by decide +kernel
theorem dX4_walk_67 : decode cX4_walk 67 = .ok (.istore 6, 2) := by decide +kernel
theorem dX4_walk_69 : decode cX4_walk 69 = .ok (.iconst 0, 1) := by decide +kernel
theorem dX4_walk_70 : decode cX4_walk 70 = .ok (.istore 7, 2) := by decide +kernel
theorem dX4_walk_72 : decode cX4_walk 72 = .ok (.iload 7, 2) := by decide +kernel
theorem dX4_walk_74 : decode cX4_walk 74 = .ok (.iconst (-1), 1) := by decide +kernel
theorem dX4_walk_75 : decode cX4_walk 75 = .ok (.if_icmp .eq 121, 3) := by decide +kernel
theorem dX4_walk_78 : decode cX4_walk 78 = .ok (.iload 6, 2) := by decide +kernel
theorem dX4_walk_80 : decode cX4_walk 80 = .ok (.iload_n 3, 1) := by decide +kernel
theorem dX4_walk_81 : decode cX4_walk 81 = .ok (.if_icmp .ge 115, 3) := by decide +kernel
theorem dX4_walk_84 : decode cX4_walk 84 = .ok (.aload_n 0, 1) := by decide +kernel
theorem dX4_walk_85 : decode cX4_walk 85 = .ok (.iload 7, 2) := by decide +kernel
theorem dX4_walk_87 : decode cX4_walk 87 = .ok (.putfield 50, 3) := by decide +kernel
theorem dX4_walk_90 : decode cX4_walk 90 = .ok (.iinc 6 1, 3) := by decide +kernel
theorem dX4_walk_93 : decode cX4_walk 93 = .ok (.iconst 0, 1) := by decide +kernel
theorem dX4_walk_94 : decode cX4_walk 94 = .ok (.istore 8, 2) := by decide +kernel
theorem dX4_walk_96 : decode cX4_walk 96 = .ok (.iload 8, 2) := by decide +kernel
theorem dX4_walk_98 : decode cX4_walk 98 = .ok (.aload_n 0, 1) := by decide +kernel
theorem dX4_walk_99 : decode cX4_walk 99 = .ok (.getfield 17, 3) := by decide +kernel
theorem dX4_walk_102 : decode cX4_walk 102 = .ok (.aload_n 0, 1) := by decide +kernel
theorem dX4_walk_103 : decode cX4_walk 103 = .ok (.getfield 50, 3) := by decide +kernel
theorem dX4_walk_106 : decode cX4_walk 106 = .ok (.iaload, 1) := by decide +kernel
theorem dX4_walk_107 : decode cX4_walk 107 = .ok (.if_icmp .ge 27, 3) := by decide +kernel
theorem dX4_walk_110 : decode cX4_walk 110 = .ok (.aload_n 0, 1) := by decide +kernel
theorem dX4_walk_111 : decode cX4_walk 111 = .ok (.aload_n 0, 1) := by decide +kernel
theorem dX4_walk_112 : decode cX4_walk 112 = .ok (.aload_n 0, 1) := by decide +kernel
theorem dX4_walk_113 : decode cX4_walk 113 = .ok (.getfield 50, 3) := by decide +kernel
theorem dX4_walk_116 : decode cX4_walk 116 = .ok (.iload 8, 2) := by decide +kernel
theorem dX4_walk_118 : decode cX4_walk 118 = .ok (.invokevirtual 80, 3) := by decide +kernel
theorem dX4_walk_121 : decode cX4_walk 121 = .ok (.iload 4, 2) := by decide +kernel
theorem dX4_walk_123 : decode cX4_walk 123 = .ok (.invokevirtual 137, 3) := by decide +kernel
theorem dX4_walk_126 : decode cX4_walk 126 = .ok (.istore 4, 2) := by decide +kernel
theorem dX4_walk_128 : decode cX4_walk 128 = .ok (.iinc 8 1, 3) := by decide +kernel
theorem dX4_walk_131 : decode cX4_walk 131 = .ok (.goto (-35), 3) := by decide +kernel
theorem dX4_walk_134 : decode cX4_walk 134 = .ok (.aload_n 0, 1) := by decide +kernel
theorem dX4_walk_135 : decode cX4_walk 135 = .ok (.aload_n 0, 1) := by decide +kernel
theorem dX4_walk_136 : decode cX4_walk 136 = .ok (.getfield 50, 3) := by decide +kernel
theorem dX4_walk_139 : decode cX4_walk 139 = .ok (.iconst 0, 1) := by decide +kernel
theorem dX4_walk_140 : decode cX4_walk 140 = .ok (.invokevirtual 140, 3) := by decide +kernel
theorem dX4_walk_143 : decode cX4_walk 143 = .ok (.istore 8, 2) := by decide +kernel
theorem dX4_walk_145 : decode cX4_walk 145 = .ok (.aload_n 0, 1) := by decide +kernel
theorem dX4_walk_146 : decode cX4_walk 146 = .ok (.aload_n 0, 1) := by decide +kernel
theorem dX4_walk_147 : decode cX4_walk 147 = .ok (.getfield 50, 3) := by decide +kernel
theorem dX4_walk_150 : decode cX4_walk 150 = .ok (.iconst 1, 1) := by decide +kernel
theorem dX4_walk_151 : decode cX4_walk 151 = .ok (.invokevirtual 140, 3) := by decide +kernel
theorem dX4_walk_154 : decode cX4_walk 154 = .ok (.istore 9, 2) := by decide +kernel
theorem dX4_walk_156 : decode cX4_walk 156 = .ok (.iload 8, 2) := by decide +kernel
theorem dX4_walk_158 : decode cX4_walk 158 = .ok (.istore 7, 2) := by decide +kernel
theorem dX4_walk_160 : decode cX4_walk 160 = .ok (.iload 9, 2) := by decide +kernel
theorem dX4_walk_162 : decode cX4_walk 162 = .ok (.iconst (-1), 1) := by decide +kernel
theorem dX4_walk_163 : decode cX4_walk 163 = .ok (.if_icmp .ne 6, 3) := by decide +kernel
theorem dX4_walk_166 : decode cX4_walk 166 = .ok (.goto (-94), 3) := by decide +kernel
theorem dX4_walk_169 : decode cX4_walk 169 = .ok (.lload_n 1, 1) := by decide +kernel
theorem dX4_walk_170 : decode cX4_walk 170 = .ok (.iload 5, 2) := by decide +kernel
theorem dX4_walk_172 : decode cX4_walk 172 = .ok (.lshr, 1) := by decide +kernel
theorem dX4_walk_173 : decode cX4_walk 173 = .ok (.lconst 1, 1) := by decide +kernel
theorem dX4_walk_174 : decode cX4_walk 174 = .ok (.land, 1) := by decide +kernel
theorem dX4_walk_175 : decode cX4_walk 175 = .ok (.lconst 1, 1) := by decide +kernel
theorem dX4_walk_176 : decode cX4_walk 176 = .ok (.lcmp, 1) := by decide +kernel
theorem dX4_walk_177 : decode cX4_walk 177 = .ok (.ifCond .ne 7, 3) := by decide +kernel
theorem dX4_walk_180 : decode cX4_walk 180 = .ok (.iload 9, 2) := by decide +kernel
theorem dX4_walk_182 : decode cX4_walk 182 = .ok (.istore 7, 2) := by decide +kernel
theorem dX4_walk_184 : decode cX4_walk 184 = .ok (.iload 5, 2) := by decide +kernel
theorem dX4_walk_186 : decode cX4_walk 186 = .ok (.iconst 1, 1) := by decide +kernel
theorem dX4_walk_187 : decode cX4_walk 187 = .ok (.iadd, 1) := by decide +kernel
theorem dX4_walk_188 : decode cX4_walk 188 = .ok (.bipush 64, 2) := by decide +kernel
theorem dX4_walk_190 : decode cX4_walk 190 = .ok (.irem, 1) := by decide +kernel
theorem dX4_walk_191 : decode cX4_walk 191 = .ok (.istore 5, 2) := by decide +kernel
theorem dX4_walk_193 : decode cX4_walk 193 = .ok (.goto (-121), 3) := by decide +kernel
theorem dX4_walk_196 : decode cX4_walk 196 = .ok (.iload 6, 2) := by decide +kernel
theorem dX4_walk_198 : decode cX4_walk 198 = .ok (.ireturn, 1) := by decide +kernel
set_option maxRecDepth 20000 in
theorem ggX4_go_X4_dependent : GoodIn wsX4_go wsX4_dependent := goodIn_r _ [9, 1, 10, 11, 12, 13, 14, 15, 16, 17, 18, 19, 20, 21, 22, 23, 24, 25, 26, 27, 28] (by decide +kernel) (by decide +kernel)
set_option maxRecDepth 20000 in
theorem gX4_go_X4_dependent : GoodIn wsX4_go (wsV RX4 90 RX4 yX4_dependent wsX4_dependent) := goodIn_app (goodIn_of _ (by decide +kernel)) ggX4_go_X4_dependent
theorem dX4_go_0 : decode cX4_go 0 = .ok (.iconst 0, 1) := by decide +kernel
theorem dX4_go_1 : decode cX4_go 1 = .ok (.istore_n 3, 1) := by decide +kernel
theorem dX4_go_2 : decode cX4_go 2 = .ok (.iload_n 3, 1) := by decide +kernel
theorem dX4_go_3 : decode cX4_go 3 = .ok (.aload_n 0, 1) := by decide +kernel
theorem dX4_go_4 : decode cX4_go 4 = .ok (.getfield 59, 3) := by decide +kernel
theorem dX4_go_7 : decode cX4_go 7 = .ok (.if_icmp .ge 23, 3) := by decide +kernel
theorem dX4_go_10 : decode cX4_go 10 = .ok (.aload_n 0, 1) := by decide +kernel
theorem dX4_go_11 : decode cX4_go 11 = .ok (.getfield 47, 3) := by decide +kernel
theorem dX4_go_14 : decode cX4_go 14 = .ok (.iload_n 3, 1) := by decide +kernel
theorem dX4_go_15 : decode cX4_go 15 = .ok (.dup2, 1) := by decide +kernel
theorem dX4_go_16 : decode cX4_go 16 = .ok (.iaload, 1) := by decide +kernel
theorem dX4_go_17 : decode cX4_go 17 = .ok (.iload_n 2, 1) := by decide +kernel
theorem dX4_go_18 : decode cX4_go 18 = .ok (.iload_n 3, 1) := by decide +kernel
theorem dX4_go_19 : decode cX4_go 19 = .ok (.ishr, 1) := by decide +kernel
theorem dX4_go_20 : decode cX4_go 20 = .ok (.iconst 1, 1) := by decide +kernel
theorem dX4_go_21 : decode cX4_go 21 = .ok (.iand, 1) := by decide +kernel
theorem dX4_go_22 : decode cX4_go 22 = .ok (.iadd, 1) := by decide +kernel
theorem dX4_go_23 : decode cX4_go 23 = .ok (.iastore, 1) := by decide +kernel
theorem dX4_go_24 : decode cX4_go 24 = .ok (.iinc 3 1, 3) := by decide +kernel
theorem dX4_go_27 : decode cX4_go 27 = .ok (.goto (-25), 3) := by decide +kernel
theorem dX4_go_30 : decode cX4_go 30 = .ok (.iload_n 1, 1) := by decide +kernel
theorem dX4_go_31 : decode cX4_go 31 = .ok (.iconst 3, 1) := by decide +kernel
theorem dX4_go_32 : decode cX4_go 32 = .ok (.irem, 1) := by decide +kernel
theorem dX4_go_33 : decode cX4_go 33 = .ok (.iconst 2, 1) := by decide +kernel
theorem dX4_go_34 : decode cX4_go 34 = .ok (.if_icmp .ne 15, 3) := by decide +kernel
theorem dX4_go_37 : decode cX4_go 37 = .ok (.iload_n 2, 1) := by decide +kernel
theorem dX4_go_38 : decode cX4_go 38 = .ok (.aload_n 0, 1) := by decide +kernel
theorem dX4_go_39 : decode cX4_go 39 = .ok (.iload_n 1, 1) := by decide +kernel
theorem dX4_go_40 : decode cX4_go 40 = .ok (.iconst 3, 1) := by decide +kernel
theorem dX4_go_41 : decode cX4_go 41 = .ok (.idiv, 1) := by decide +kernel
theorem dX4_go_42 : decode cX4_go 42 = .ok (.invokevirtual 90, 3) := by decide +kernel
theorem dX4_go_45 : decode cX4_go 45 = .ok (.iconst (-1), 1) := by decide +kernel
theorem dX4_go_46 : decode cX4_go 46 = .ok (.ixor, 1) := by decide +kernel
theorem dX4_go_47 : decode cX4_go 47 = .ok (.iand, 1) := by decide +kernel
theorem dX4_go_48 : decode cX4_go 48 = .ok (.ireturn, 1) := by decide +kernel
theorem dX4_go_49 : decode cX4_go 49 = .ok (.iload_n 1, 1) := by decide +kernel
theorem dX4_go_50 : decode cX4_go 50 = .ok (.iconst 3, 1) := by decide +kernel
theorem dX4_go_51 : decode cX4_go 51 = .ok (.irem, 1) := by decide +kernel
theorem dX4_go_52 : decode cX4_go 52 = .ok (.iconst 1, 1) := by decide +kernel
theorem dX4_go_53 : decode cX4_go 53 = .ok (.if_icmp .ne 29, 3) := by decide +kernel
theorem dX4_go_56 : decode cX4_go 56 = .ok (.aload_n 0, 1) := by decide +kernel
theorem dX4_go_57 : decode cX4_go 57 = .ok (.dup, 1) := by decide +kernel
theorem dX4_go_58 : decode cX4_go 58 = .ok (.getfield 134, 3) := by decide +kernel
theorem dX4_go_61 : decode cX4_go 61 = .ok (.iload_n 2, 1) := by decide +kernel
theorem dX4_go_62 : decode cX4_go 62 = .ok (.iload_n 1, 1) := by decide +kernel
theorem dX4_go_63 : decode cX4_go 63 = .ok (.iconst 3, 1) := by decide +kernel
theorem dX4_go_64 : decode cX4_go 64 = .ok (.idiv, 1) := by decide +kernel
theorem dX4_go_65 : decode cX4_go 65 = .ok (.ishr, 1) := by decide +kernel
theorem dX4_go_66 : decode cX4_go 66 = .ok (.iconst 1, 1) := by decide +kernel
theorem dX4_go_67 : decode cX4_go 67 = .ok (.iand, 1) := by decide +kernel
theorem dX4_go_68 : decode cX4_go 68 = .ok (.ifCond .ne 7, 3) := by decide +kernel
theorem dX4_go_71 : decode cX4_go 71 = .ok (.iconst 1, 1) := by decide +kernel
theorem dX4_go_72 : decode cX4_go 72 = .ok (.goto 4, 3) := by decide +kernel
theorem dX4_go_75 : decode cX4_go 75 = .ok (.iconst 0, 1) := by decide +kernel
theorem dX4_go_76 : decode cX4_go 76 = .ok (.iadd, 1) := by decide +kernel
theorem dX4_go_77 : decode cX4_go 77 = .ok (.putfield 134, 3) := by decide +kernel
theorem dX4_go_80 : decode cX4_go 80 = .ok (.iload_n 2, 1) := by decide +kernel
theorem dX4_go_81 : decode cX4_go 81 = .ok (.ireturn, 1) := by decide +kernel
theorem dX4_go_82 : decode cX4_go 82 = .ok (.aload_n 0, 1) := by decide +kernel
theorem dX4_go_83 : decode cX4_go 83 = .ok (.getfield 44, 3) := by decide +kernel
theorem dX4_go_86 : decode cX4_go 86 = .ok (.iload_n 1, 1) := by decide +kernel
theorem dX4_go_87 : decode cX4_go 87 = .ok (.iconst 3, 1) := by decide +kernel
theorem dX4_go_88 : decode cX4_go 88 = .ok (.idiv, 1) := by decide +kernel
theorem dX4_go_89 : decode cX4_go 89 = .ok (.dup2, 1) := by decide +kernel
theorem dX4_go_90 : decode cX4_go 90 = .ok (.iaload, 1) := by decide +kernel
theorem dX4_go_91 : decode cX4_go 91 = .ok (.iconst 1, 1) := by decide +kernel
theorem dX4_go_92 : decode cX4_go 92 = .ok (.iadd, 1) := by decide +kernel
theorem dX4_go_93 : decode cX4_go 93 = .ok (.iastore, 1) := by decide +kernel
theorem dX4_go_94 : decode cX4_go 94 = .ok (.iload_n 2, 1) := by decide +kernel
theorem dX4_go_95 : decode cX4_go 95 = .ok (.iconst 1, 1) := by decide +kernel
theorem dX4_go_96 : decode cX4_go 96 = .ok (.iload_n 1, 1) := by decide +kernel
theorem dX4_go_97 : decode cX4_go 97 = .ok (.iconst 3, 1) := by decide +kernel
theorem dX4_go_98 : decode cX4_go 98 = .ok (.idiv, 1) := by decide +kernel
theorem dX4_go_99 : decode cX4_go 99 = .ok (.ishl, 1) := by decide +kernel
theorem dX4_go_100 : decode cX4_go 100 = .ok (.ior, 1) := by decide +kernel
theorem dX4_go_101 : decode cX4_go 101 = .ok (.ireturn, 1) := by decide +kernel
theorem dX4_exit_0 : decode cX4_exit 0 = .ok (.iload_n 2, 1) := by decide +kernel
theorem dX4_exit_1 : decode cX4_exit 1 = .ok (.istore_n 3, 1) := by decide +kernel
theorem dX4_exit_2 : decode cX4_exit 2 = .ok (.iconst 0, 1) := by decide +kernel
theorem dX4_exit_3 : decode cX4_exit 3 = .ok (.istore 4, 2) := by decide +kernel
theorem dX4_exit_5 : decode cX4_exit 5 = .ok (.iload 4, 2) := by decide +kernel
theorem dX4_exit_7 : decode cX4_exit 7 = .ok (.aload_n 0, 1) := by decide +kernel
theorem dX4_exit_8 : decode cX4_exit 8 = .ok (.getfield 56, 3) := by decide +kernel
theorem dX4_exit_11 : decode cX4_exit 11 = .ok (.if_icmp .ge 38, 3) := by decide +kernel
theorem dX4_exit_14 : decode cX4_exit 14 = .ok (.aload_n 0, 1) := by decide +kernel
theorem dX4_exit_15 : decode cX4_exit 15 = .ok (.getfield 23, 3) := by decide +kernel
theorem dX4_exit_18 : decode cX4_exit 18 = .ok (.iload 4, 2) := by decide +kernel
theorem dX4_exit_20 : decode cX4_exit 20 = .ok (.iaload, 1) := by decide +kernel
theorem dX4_exit_21 : decode cX4_exit 21 = .ok (.iload_n 1, 1) := by decide +kernel
theorem dX4_exit_22 : decode cX4_exit 22 = .ok (.if_icmp .eq 6, 3) := by decide +kernel
theorem dX4_exit_25 : decode cX4_exit 25 = .ok (.goto 18, 3) := by decide +kernel
theorem dX4_exit_28 : decode cX4_exit 28 = .ok (.iload_n 3, 1) := by decide +kernel
theorem dX4_exit_29 : decode cX4_exit 29 = .ok (.ifCond .ne 11, 3) := by decide +kernel
theorem dX4_exit_32 : decode cX4_exit 32 = .ok (.aload_n 0, 1) := by decide +kernel
theorem dX4_exit_33 : decode cX4_exit 33 = .ok (.getfield 26, 3) := by decide +kernel
theorem dX4_exit_36 : decode cX4_exit 36 = .ok (.iload 4, 2) := by decide +kernel
theorem dX4_exit_38 : decode cX4_exit 38 = .ok (.iaload, 1) := by decide +kernel
theorem dX4_exit_39 : decode cX4_exit 39 = .ok (.ireturn, 1) := by decide +kernel
theorem dX4_exit_40 : decode cX4_exit 40 = .ok (.iinc 3 (-1), 3) := by decide +kernel
theorem dX4_exit_43 : decode cX4_exit 43 = .ok (.iinc 4 1, 3) := by decide +kernel
theorem dX4_exit_46 : decode cX4_exit 46 = .ok (.goto (-41), 3) := by decide +kernel
theorem dX4_exit_49 : decode cX4_exit 49 = .ok (.iconst (-1), 1) := by decide +kernel
theorem dX4_exit_50 : decode cX4_exit 50 = .ok (.ireturn, 1) := by decide +kernel
set_option maxRecDepth 20000 in
theorem ggX4_computed_X4_isExpression : GoodIn wsX4_computed wsX4_isExpression := goodIn_r _ [7, 8, 13, 14, 15, 16, 17, 18, 19, 20, 21, 22, 23, 24, 25, 26, 27, 28, 29, 30] (by decide +kernel) (by decide +kernel)
set_option maxRecDepth 20000 in
theorem gX4_computed_X4_isExpression : GoodIn wsX4_computed (wsV RX4 73 RX4 yX4_isExpression wsX4_isExpression) := goodIn_app (goodIn_of _ (by decide +kernel)) ggX4_computed_X4_isExpression
set_option maxRecDepth 20000 in
theorem ggX4_computed_X4_no : GoodIn wsX4_computed wsX4_no := goodIn_r _ [12, 1, 13, 14, 15, 16, 17, 18, 19, 20, 21, 22, 23, 24, 25, 26, 27, 28, 29, 30] (by decide +kernel) (by decide +kernel)
set_option maxRecDepth 20000 in
theorem gX4_computed_X4_no : GoodIn wsX4_computed (wsV RX4 62 RX4 yX4_no wsX4_no) := goodIn_app (goodIn_of _ (by decide +kernel)) ggX4_computed_X4_no
theorem dX4_computed_0 : decode cX4_computed 0 = .ok (.aload_n 0, 1) := by decide +kernel
theorem dX4_computed_1 : decode cX4_computed 1 = .ok (.iconst 0, 1) := by decide +kernel
theorem dX4_computed_2 : decode cX4_computed 2 = .ok (.putfield 53, 3) := by decide +kernel
theorem dX4_computed_5 : decode cX4_computed 5 = .ok (.aload_n 0, 1) := by decide +kernel
theorem dX4_computed_6 : decode cX4_computed 6 = .ok (.iload_n 1, 1) := by decide +kernel
theorem dX4_computed_7 : decode cX4_computed 7 = .ok (.invokevirtual 73, 3) := by decide +kernel
theorem dX4_computed_10 : decode cX4_computed 10 = .ok (.ifCond .eq 12, 3) := by decide +kernel
theorem dX4_computed_13 : decode cX4_computed 13 = .ok (.aload_n 0, 1) := by decide +kernel
theorem dX4_computed_14 : decode cX4_computed 14 = .ok (.getfield 44, 3) := by decide +kernel
theorem dX4_computed_17 : decode cX4_computed 17 = .ok (.iload_n 1, 1) := by decide +kernel
theorem dX4_computed_18 : decode cX4_computed 18 = .ok (.iaload, 1) := by decide +kernel
theorem dX4_computed_19 : decode cX4_computed 19 = .ok (.goto 8, 3) := by decide +kernel
theorem dX4_computed_22 : decode cX4_computed 22 = .ok (.aload_n 0, 1) := by decide +kernel
theorem dX4_computed_23 : decode cX4_computed 23 = .ok (.iconst 1, 1) := by decide +kernel
theorem dX4_computed_24 : decode cX4_computed 24 = .ok (.invokevirtual 62, 3) := by decide +kernel
theorem dX4_computed_27 : decode cX4_computed 27 = .ok (.ireturn, 1) := by decide +kernel
theorem dX4_misses_0 : decode cX4_misses 0 = .ok (.aload_n 0, 1) := by decide +kernel
theorem dX4_misses_1 : decode cX4_misses 1 = .ok (.iconst 0, 1) := by decide +kernel
theorem dX4_misses_2 : decode cX4_misses 2 = .ok (.putfield 53, 3) := by decide +kernel
theorem dX4_misses_5 : decode cX4_misses 5 = .ok (.aload_n 0, 1) := by decide +kernel
theorem dX4_misses_6 : decode cX4_misses 6 = .ok (.getfield 134, 3) := by decide +kernel
theorem dX4_misses_9 : decode cX4_misses 9 = .ok (.ireturn, 1) := by decide +kernel
theorem dX4_lastBlock_0 : decode cX4_lastBlock 0 = .ok (.aload_n 0, 1) := by decide +kernel
theorem dX4_lastBlock_1 : decode cX4_lastBlock 1 = .ok (.iconst 0, 1) := by decide +kernel
theorem dX4_lastBlock_2 : decode cX4_lastBlock 2 = .ok (.putfield 53, 3) := by decide +kernel
theorem dX4_lastBlock_5 : decode cX4_lastBlock 5 = .ok (.aload_n 0, 1) := by decide +kernel
theorem dX4_lastBlock_6 : decode cX4_lastBlock 6 = .ok (.getfield 50, 3) := by decide +kernel
theorem dX4_lastBlock_9 : decode cX4_lastBlock 9 = .ok (.ireturn, 1) := by decide +kernel
set_option maxRecDepth 20000 in
theorem ggX4_heldFor_X4_isExpression : GoodIn wsX4_heldFor wsX4_isExpression := goodIn_r _ [7, 8, 13, 14, 15, 16, 17, 18, 19, 20, 21, 22, 23, 24, 25, 26, 27, 28, 29, 30] (by decide +kernel) (by decide +kernel)
set_option maxRecDepth 20000 in
theorem gX4_heldFor_X4_isExpression : GoodIn wsX4_heldFor (wsV RX4 73 RX4 yX4_isExpression wsX4_isExpression) := goodIn_app (goodIn_of _ (by decide +kernel)) ggX4_heldFor_X4_isExpression
set_option maxRecDepth 20000 in
theorem ggX4_heldFor_X4_no : GoodIn wsX4_heldFor wsX4_no := goodIn_r _ [12, 1, 13, 14, 15, 16, 17, 18, 19, 20, 21, 22, 23, 24, 25, 26, 27, 28, 29, 30] (by decide +kernel) (by decide +kernel)
set_option maxRecDepth 20000 in
theorem gX4_heldFor_X4_no : GoodIn wsX4_heldFor (wsV RX4 62 RX4 yX4_no wsX4_no) := goodIn_app (goodIn_of _ (by decide +kernel)) ggX4_heldFor_X4_no
theorem dX4_heldFor_0 : decode cX4_heldFor 0 = .ok (.aload_n 0, 1) := by decide +kernel
theorem dX4_heldFor_1 : decode cX4_heldFor 1 = .ok (.iconst 0, 1) := by decide +kernel
theorem dX4_heldFor_2 : decode cX4_heldFor 2 = .ok (.putfield 53, 3) := by decide +kernel
theorem dX4_heldFor_5 : decode cX4_heldFor 5 = .ok (.aload_n 0, 1) := by decide +kernel
theorem dX4_heldFor_6 : decode cX4_heldFor 6 = .ok (.iload_n 1, 1) := by decide +kernel
theorem dX4_heldFor_7 : decode cX4_heldFor 7 = .ok (.invokevirtual 73, 3) := by decide +kernel
theorem dX4_heldFor_10 : decode cX4_heldFor 10 = .ok (.ifCond .eq 12, 3) := by decide +kernel
theorem dX4_heldFor_13 : decode cX4_heldFor 13 = .ok (.aload_n 0, 1) := by decide +kernel
theorem dX4_heldFor_14 : decode cX4_heldFor 14 = .ok (.getfield 47, 3) := by decide +kernel
theorem dX4_heldFor_17 : decode cX4_heldFor 17 = .ok (.iload_n 1, 1) := by decide +kernel
theorem dX4_heldFor_18 : decode cX4_heldFor 18 = .ok (.iaload, 1) := by decide +kernel
theorem dX4_heldFor_19 : decode cX4_heldFor 19 = .ok (.goto 8, 3) := by decide +kernel
theorem dX4_heldFor_22 : decode cX4_heldFor 22 = .ok (.aload_n 0, 1) := by decide +kernel
theorem dX4_heldFor_23 : decode cX4_heldFor 23 = .ok (.iconst 1, 1) := by decide +kernel
theorem dX4_heldFor_24 : decode cX4_heldFor 24 = .ok (.invokevirtual 62, 3) := by decide +kernel
theorem dX4_heldFor_27 : decode cX4_heldFor 27 = .ok (.ireturn, 1) := by decide +kernel
set_option maxRecDepth 20000 in
theorem ggX4_digest_X4_at : GoodIn wsX4_digest wsX4_at := goodIn_r _ [17, 18, 19, 20, 21, 22, 23, 24, 25, 26, 27, 28, 29, 30, 31, 32, 33, 34, 35, 36] (by decide +kernel) (by decide +kernel)
set_option maxRecDepth 20000 in
theorem gX4_digest_X4_at : GoodIn wsX4_digest (wsV RX4 80 RX4 yX4_at wsX4_at) := goodIn_app (goodIn_of _ (by decide +kernel)) ggX4_digest_X4_at
theorem dX4_digest_0 : decode cX4_digest 0 = .ok (.aload_n 0, 1) := by decide +kernel
theorem dX4_digest_1 : decode cX4_digest 1 = .ok (.iconst 0, 1) := by decide +kernel
theorem dX4_digest_2 : decode cX4_digest 2 = .ok (.putfield 53, 3) := by decide +kernel
theorem dX4_digest_5 : decode cX4_digest 5 = .ok (.ldc2_w 143, 3) := by decide +kernel
theorem dX4_digest_8 : decode cX4_digest 8 = .ok (.aload_n 0, 1) := by decide +kernel
theorem dX4_digest_9 : decode cX4_digest 9 = .ok (.getfield 59, 3) := by decide +kernel
theorem dX4_digest_12 : decode cX4_digest 12 = .ok (.i2l, 1) := by decide +kernel
theorem dX4_digest_13 : decode cX4_digest 13 = .ok (.ladd, 1) := by decide +kernel
theorem dX4_digest_14 : decode cX4_digest 14 = .ok (.lstore_n 1, 1) := by decide +kernel
theorem dX4_digest_15 : decode cX4_digest 15 = .ok (.iconst 0, 1) := by decide +kernel
theorem dX4_digest_16 : decode cX4_digest 16 = .ok (.istore_n 3, 1) := by decide +kernel
theorem dX4_digest_17 : decode cX4_digest 17 = .ok (.iload_n 3, 1) := by decide +kernel
theorem dX4_digest_18 : decode cX4_digest 18 = .ok (.aload_n 0, 1) := by decide +kernel
theorem dX4_digest_19 : decode cX4_digest 19 = .ok (.getfield 59, 3) := by decide +kernel
theorem dX4_digest_22 : decode cX4_digest 22 = .ok (.if_icmp .ge 23, 3) := by decide +kernel
theorem dX4_digest_25 : decode cX4_digest 25 = .ok (.lload_n 1, 1) := by decide +kernel
theorem dX4_digest_26 : decode cX4_digest 26 = .ok (.ldc2_w 145, 3) := by decide +kernel
theorem dX4_digest_29 : decode cX4_digest 29 = .ok (.lmul, 1) := by decide +kernel
theorem dX4_digest_30 : decode cX4_digest 30 = .ok (.aload_n 0, 1) := by decide +kernel
theorem dX4_digest_31 : decode cX4_digest 31 = .ok (.getfield 9, 3) := by decide +kernel
theorem dX4_digest_34 : decode cX4_digest 34 = .ok (.iload_n 3, 1) := by decide +kernel
theorem dX4_digest_35 : decode cX4_digest 35 = .ok (.iaload, 1) := by decide +kernel
theorem dX4_digest_36 : decode cX4_digest 36 = .ok (.i2l, 1) := by decide +kernel
theorem dX4_digest_37 : decode cX4_digest 37 = .ok (.ladd, 1) := by decide +kernel
theorem dX4_digest_38 : decode cX4_digest 38 = .ok (.lstore_n 1, 1) := by decide +kernel
theorem dX4_digest_39 : decode cX4_digest 39 = .ok (.iinc 3 1, 3) := by decide +kernel
theorem dX4_digest_42 : decode cX4_digest 42 = .ok (.goto (-25), 3) := by decide +kernel
theorem dX4_digest_45 : decode cX4_digest 45 = .ok (.lload_n 1, 1) := by decide +kernel
theorem dX4_digest_46 : decode cX4_digest 46 = .ok (.ldc2_w 145, 3) := by decide +kernel
theorem dX4_digest_49 : decode cX4_digest 49 = .ok (.lmul, 1) := by decide +kernel
theorem dX4_digest_50 : decode cX4_digest 50 = .ok (.aload_n 0, 1) := by decide +kernel
theorem dX4_digest_51 : decode cX4_digest 51 = .ok (.getfield 13, 3) := by decide +kernel
theorem dX4_digest_54 : decode cX4_digest 54 = .ok (.i2l, 1) := by decide +kernel
theorem dX4_digest_55 : decode cX4_digest 55 = .ok (.ladd, 1) := by decide +kernel
theorem dX4_digest_56 : decode cX4_digest 56 = .ok (.lstore_n 1, 1) := by decide +kernel
theorem dX4_digest_57 : decode cX4_digest 57 = .ok (.iconst 0, 1) := by decide +kernel
theorem dX4_digest_58 : decode cX4_digest 58 = .ok (.istore_n 3, 1) := by decide +kernel
theorem dX4_digest_59 : decode cX4_digest 59 = .ok (.iload_n 3, 1) := by decide +kernel
theorem dX4_digest_60 : decode cX4_digest 60 = .ok (.aload_n 0, 1) := by decide +kernel
theorem dX4_digest_61 : decode cX4_digest 61 = .ok (.getfield 13, 3) := by decide +kernel
theorem dX4_digest_64 : decode cX4_digest 64 = .ok (.if_icmp .ge 58, 3) := by decide +kernel
theorem dX4_digest_67 : decode cX4_digest 67 = .ok (.lload_n 1, 1) := by decide +kernel
theorem dX4_digest_68 : decode cX4_digest 68 = .ok (.ldc2_w 145, 3) := by decide +kernel
theorem dX4_digest_71 : decode cX4_digest 71 = .ok (.lmul, 1) := by decide +kernel
theorem dX4_digest_72 : decode cX4_digest 72 = .ok (.aload_n 0, 1) := by decide +kernel
theorem dX4_digest_73 : decode cX4_digest 73 = .ok (.getfield 17, 3) := by decide +kernel
theorem dX4_digest_76 : decode cX4_digest 76 = .ok (.iload_n 3, 1) := by decide +kernel
theorem dX4_digest_77 : decode cX4_digest 77 = .ok (.iaload, 1) := by decide +kernel
theorem dX4_digest_78 : decode cX4_digest 78 = .ok (.i2l, 1) := by decide +kernel
theorem dX4_digest_79 : decode cX4_digest 79 = .ok (.ladd, 1) := by decide +kernel
theorem dX4_digest_80 : decode cX4_digest 80 = .ok (.lstore_n 1, 1) := by decide +kernel
theorem dX4_digest_81 : decode cX4_digest 81 = .ok (.iconst 0, 1) := by decide +kernel
theorem dX4_digest_82 : decode cX4_digest 82 = .ok (.istore 4, 2) := by decide +kernel
theorem dX4_digest_84 : decode cX4_digest 84 = .ok (.iload 4, 2) := by decide +kernel
theorem dX4_digest_86 : decode cX4_digest 86 = .ok (.aload_n 0, 1) := by decide +kernel
theorem dX4_digest_87 : decode cX4_digest 87 = .ok (.getfield 17, 3) := by decide +kernel
theorem dX4_digest_90 : decode cX4_digest 90 = .ok (.iload_n 3, 1) := by decide +kernel
theorem dX4_digest_91 : decode cX4_digest 91 = .ok (.iaload, 1) := by decide +kernel
theorem dX4_digest_92 : decode cX4_digest 92 = .ok (.if_icmp .ge 24, 3) := by decide +kernel
theorem dX4_digest_95 : decode cX4_digest 95 = .ok (.lload_n 1, 1) := by decide +kernel
theorem dX4_digest_96 : decode cX4_digest 96 = .ok (.ldc2_w 145, 3) := by decide +kernel
theorem dX4_digest_99 : decode cX4_digest 99 = .ok (.lmul, 1) := by decide +kernel
theorem dX4_digest_100 : decode cX4_digest 100 = .ok (.aload_n 0, 1) := by decide +kernel
theorem dX4_digest_101 : decode cX4_digest 101 = .ok (.iload_n 3, 1) := by decide +kernel
theorem dX4_digest_102 : decode cX4_digest 102 = .ok (.iload 4, 2) := by decide +kernel
theorem dX4_digest_104 : decode cX4_digest 104 = .ok (.invokevirtual 80, 3) := by decide +kernel
theorem dX4_digest_107 : decode cX4_digest 107 = .ok (.i2l, 1) := by decide +kernel
theorem dX4_digest_108 : decode cX4_digest 108 = .ok (.ladd, 1) := by decide +kernel
theorem dX4_digest_109 : decode cX4_digest 109 = .ok (.lstore_n 1, 1) := by decide +kernel
theorem dX4_digest_110 : decode cX4_digest 110 = .ok (.iinc 4 1, 3) := by decide +kernel
theorem dX4_digest_113 : decode cX4_digest 113 = .ok (.goto (-29), 3) := by decide +kernel
theorem dX4_digest_116 : decode cX4_digest 116 = .ok (.iinc 3 1, 3) := by decide +kernel
theorem dX4_digest_119 : decode cX4_digest 119 = .ok (.goto (-60), 3) := by decide +kernel
theorem dX4_digest_122 : decode cX4_digest 122 = .ok (.lload_n 1, 1) := by decide +kernel
theorem dX4_digest_123 : decode cX4_digest 123 = .ok (.ldc2_w 145, 3) := by decide +kernel
theorem dX4_digest_126 : decode cX4_digest 126 = .ok (.lmul, 1) := by decide +kernel
theorem dX4_digest_127 : decode cX4_digest 127 = .ok (.aload_n 0, 1) := by decide +kernel
theorem dX4_digest_128 : decode cX4_digest 128 = .ok (.getfield 56, 3) := by decide +kernel
theorem dX4_digest_131 : decode cX4_digest 131 = .ok (.i2l, 1) := by decide +kernel
theorem dX4_digest_132 : decode cX4_digest 132 = .ok (.ladd, 1) := by decide +kernel
theorem dX4_digest_133 : decode cX4_digest 133 = .ok (.lstore_n 1, 1) := by decide +kernel
theorem dX4_digest_134 : decode cX4_digest 134 = .ok (.iconst 0, 1) := by decide +kernel
theorem dX4_digest_135 : decode cX4_digest 135 = .ok (.istore_n 3, 1) := by decide +kernel
theorem dX4_digest_136 : decode cX4_digest 136 = .ok (.iload_n 3, 1) := by decide +kernel
theorem dX4_digest_137 : decode cX4_digest 137 = .ok (.aload_n 0, 1) := by decide +kernel
theorem dX4_digest_138 : decode cX4_digest 138 = .ok (.getfield 56, 3) := by decide +kernel
theorem dX4_digest_141 : decode cX4_digest 141 = .ok (.if_icmp .ge 33, 3) := by decide +kernel
theorem dX4_digest_144 : decode cX4_digest 144 = .ok (.lload_n 1, 1) := by decide +kernel
theorem dX4_digest_145 : decode cX4_digest 145 = .ok (.ldc2_w 145, 3) := by decide +kernel
theorem dX4_digest_148 : decode cX4_digest 148 = .ok (.lmul, 1) := by decide +kernel
theorem dX4_digest_149 : decode cX4_digest 149 = .ok (.bipush 40, 2) := by decide +kernel
theorem dX4_digest_151 : decode cX4_digest 151 = .ok (.aload_n 0, 1) := by decide +kernel
theorem dX4_digest_152 : decode cX4_digest 152 = .ok (.getfield 23, 3) := by decide +kernel
theorem dX4_digest_155 : decode cX4_digest 155 = .ok (.iload_n 3, 1) := by decide +kernel
theorem dX4_digest_156 : decode cX4_digest 156 = .ok (.iaload, 1) := by decide +kernel
theorem dX4_digest_157 : decode cX4_digest 157 = .ok (.imul, 1) := by decide +kernel
theorem dX4_digest_158 : decode cX4_digest 158 = .ok (.aload_n 0, 1) := by decide +kernel
theorem dX4_digest_159 : decode cX4_digest 159 = .ok (.getfield 26, 3) := by decide +kernel
theorem dX4_digest_162 : decode cX4_digest 162 = .ok (.iload_n 3, 1) := by decide +kernel
theorem dX4_digest_163 : decode cX4_digest 163 = .ok (.iaload, 1) := by decide +kernel
theorem dX4_digest_164 : decode cX4_digest 164 = .ok (.iadd, 1) := by decide +kernel
theorem dX4_digest_165 : decode cX4_digest 165 = .ok (.i2l, 1) := by decide +kernel
theorem dX4_digest_166 : decode cX4_digest 166 = .ok (.ladd, 1) := by decide +kernel
theorem dX4_digest_167 : decode cX4_digest 167 = .ok (.lstore_n 1, 1) := by decide +kernel
theorem dX4_digest_168 : decode cX4_digest 168 = .ok (.iinc 3 1, 3) := by decide +kernel
theorem dX4_digest_171 : decode cX4_digest 171 = .ok (.goto (-35), 3) := by decide +kernel
theorem dX4_digest_174 : decode cX4_digest 174 = .ok (.lload_n 1, 1) := by decide +kernel
theorem dX4_digest_175 : decode cX4_digest 175 = .ok (.ldc2_w 145, 3) := by decide +kernel
theorem dX4_digest_178 : decode cX4_digest 178 = .ok (.lmul, 1) := by decide +kernel
theorem dX4_digest_179 : decode cX4_digest 179 = .ok (.aload_n 0, 1) := by decide +kernel
theorem dX4_digest_180 : decode cX4_digest 180 = .ok (.getfield 134, 3) := by decide +kernel
theorem dX4_digest_183 : decode cX4_digest 183 = .ok (.i2l, 1) := by decide +kernel
theorem dX4_digest_184 : decode cX4_digest 184 = .ok (.ladd, 1) := by decide +kernel
theorem dX4_digest_185 : decode cX4_digest 185 = .ok (.ldc2_w 145, 3) := by decide +kernel
theorem dX4_digest_188 : decode cX4_digest 188 = .ok (.lmul, 1) := by decide +kernel
theorem dX4_digest_189 : decode cX4_digest 189 = .ok (.aload_n 0, 1) := by decide +kernel
theorem dX4_digest_190 : decode cX4_digest 190 = .ok (.getfield 50, 3) := by decide +kernel
theorem dX4_digest_193 : decode cX4_digest 193 = .ok (.i2l, 1) := by decide +kernel
theorem dX4_digest_194 : decode cX4_digest 194 = .ok (.ladd, 1) := by decide +kernel
theorem dX4_digest_195 : decode cX4_digest 195 = .ok (.lreturn, 1) := by decide +kernel
set_option maxRecDepth 20000 in
theorem ggL_addExpression_X3_addExpression : GoodIn wsL_addExpression wsX3_addExpression := goodIn_ca (goodIn_ca (goodIn_r _ [7, 8, 9, 10, 11, 12, 13, 14, 15, 16, 17, 18, 19, 20, 21, 22, 23, 24, 25, 26, 27, 28, 29, 30, 31, 32, 33, 34, 35, 36, 37] (by decide +kernel) (by decide +kernel)) (goodIn_sub (fun _ h => List.mem_cons_of_mem _ (List.mem_append_left _ (List.mem_append_right _ h))) (by decide +kernel))) (goodIn_sub (fun _ h => List.mem_cons_of_mem _ (List.mem_append_right _ h)) (by decide +kernel))
set_option maxRecDepth 20000 in
theorem gL_addExpression_X3_addExpression : GoodIn wsL_addExpression (wsV RL 7 RX3 yX3_addExpression wsX3_addExpression) := goodIn_app (goodIn_of _ (by decide +kernel)) ggL_addExpression_X3_addExpression
end
section
/-! A layer over the kit's rows: the judgement yW speaks of a world (a list of cells), a pc, the listed locals and the stack alone -/
section YLA
variable {p : Program} {l : Launch} {e : Env} {R : Room} {s : State} {m : MethodId} {args : Array Value} {below : List Frame} {meth : Method} {c : Code} {Q : State → Prop} {cells slots : Nat}
variable {cc : ByteArray} {nL : Nat} {own : String} {Ts : List Cond} {D : va_G} {tys : List (ClassId × FieldType)} {A : Nat → Prop} {rt : Option FieldType}
variable {ws ws' : va_W} {pc : Nat} {lv lv' : List (Nat × Value)} {st : List Value}
/-- what stays fixed while a body is walked -/
def yC (p : Program) (s : State) (m : MethodId) (args : Array Value) (meth : Method) (c : Code) (cc : ByteArray) (nL : Nat) (own : String) (Ts : List Cond) (D : va_G) (tys : List (ClassId × FieldType)) (A : Nat → Prop) (rt : Option FieldType) : Prop :=
  (p.tables.exec = Jvm.exec ∧ c.code = cc ∧ c.maxLocals = nL ∧ s.vm.findClass own = some m.cls ∧ ∀ w ∈ Ts, w.before args s = true) ∧ va_K D vwCl tys s ∧ meth.locks = false ∧ meth.sig.returnType = rt ∧ ∀ q, s.heap.size ≤ q → A q
theorem yC.x (C : yC p s m args meth c cc nL own Ts D tys A rt) : p.tables.exec = Jvm.exec := C.1.1
theorem yC.b (C : yC p s m args meth c cc nL own Ts D tys A rt) : c.code = cc := C.1.2.1
theorem yC.ml (C : yC p s m args meth c cc nL own Ts D tys A rt) : c.maxLocals = nL := C.1.2.2.1
theorem yC.ow (C : yC p s m args meth c cc nL own Ts D tys A rt) : s.vm.findClass own = some m.cls := C.1.2.2.2.1
theorem yC.ts (C : yC p s m args meth c cc nL own Ts D tys A rt) : ∀ w ∈ Ts, w.before args s = true := C.1.2.2.2.2
theorem yC.k (C : yC p s m args meth c cc nL own Ts D tys A rt) : va_K D vwCl tys s := C.2.1
theorem yC.lk (C : yC p s m args meth c cc nL own Ts D tys A rt) : meth.locks = false := C.2.2.1
theorem yC.rr (C : yC p s m args meth c cc nL own Ts D tys A rt) : meth.sig.returnType = rt := C.2.2.2.1
theorem yC.a (C : yC p s m args meth c cc nL own Ts D tys A rt) : ∀ q, s.heap.size ≤ q → A q := C.2.2.2.2
def yW (p : Program) (l : Launch) (e : Env) (R : Room) (s : State) (m : MethodId) (args : Array Value) (below : List Frame) (meth : Method) (c : Code) (nL : Nat) (D : va_G) (A : Nat → Prop) (Q : State → Prop) (cells slots : Nat) (ws : va_W) (pc : Nat) (lv : List (Nat × Value)) (st : List Value) : Prop :=
  ∀ (H : Heap) (locs : List Loc) (ls : Array Slot), va_P D vwCl ws H → va_D A ws → va_S A s.heap H locs → lv_has ls nL lv → W p l e R s m args below meth c H locs cells slots Q (F0 m pc ls st)
theorem y_iconst (C : yC p s m args meth c cc nL own Ts D tys A rt) {n : Int} {v : Int32} (hdg : decode cc pc = .ok (.iconst n, 1)) (hv : Int32.ofInt n = v) (kk : yW p l e R s m args below meth c nL D A Q cells slots ws (pc + 1) lv (.int v :: st)) : yW p l e R s m args below meth c nL D A Q cells slots ws pc lv (st) := fun H locs ls hP hD hS hl => lv_iconst C.x C.b hdg hv (kk H locs ls hP hD hS hl)
theorem y_bipush (C : yC p s m args meth c cc nL own Ts D tys A rt) {n : Int} {v : Int32} (hdg : decode cc pc = .ok (.bipush n, 2)) (hv : (Int8.ofInt n).toInt32 = v) (kk : yW p l e R s m args below meth c nL D A Q cells slots ws (pc + 2) lv (.int v :: st)) : yW p l e R s m args below meth c nL D A Q cells slots ws pc lv (st) := fun H locs ls hP hD hS hl => lv_bipush C.x C.b hdg hv (kk H locs ls hP hD hS hl)
theorem y_sipush (C : yC p s m args meth c cc nL own Ts D tys A rt) {n : Int} {v : Int32} (hdg : decode cc pc = .ok (.sipush n, 3)) (hv : (Int16.ofInt n).toInt32 = v) (kk : yW p l e R s m args below meth c nL D A Q cells slots ws (pc + 3) lv (.int v :: st)) : yW p l e R s m args below meth c nL D A Q cells slots ws pc lv (st) := fun H locs ls hP hD hS hl => lv_sipush C.x C.b hdg hv (kk H locs ls hP hD hS hl)
theorem y_lconst (C : yC p s m args meth c cc nL own Ts D tys A rt) {n : Fin 2} {v : Int64} (hdg : decode cc pc = .ok (.lconst n, 1)) (hv : Int64.ofNat (n : Nat) = v) (kk : yW p l e R s m args below meth c nL D A Q cells slots ws (pc + 1) lv (.long v :: st)) : yW p l e R s m args below meth c nL D A Q cells slots ws pc lv (st) := fun H locs ls hP hD hS hl => lv_lconst C.x C.b hdg hv (kk H locs ls hP hD hS hl)
theorem y_iadd (C : yC p s m args meth c cc nL own Ts D tys A rt) {x y : Int32} (hdg : decode cc pc = .ok (.iadd, 1))  (kk : yW p l e R s m args below meth c nL D A Q cells slots ws (pc + 1) lv (.int (x + y) :: st)) : yW p l e R s m args below meth c nL D A Q cells slots ws pc lv (.int y :: .int x :: st) := fun H locs ls hP hD hS hl => lv_iadd C.x C.b hdg  (kk H locs ls hP hD hS hl)
theorem y_isub (C : yC p s m args meth c cc nL own Ts D tys A rt) {x y : Int32} (hdg : decode cc pc = .ok (.isub, 1))  (kk : yW p l e R s m args below meth c nL D A Q cells slots ws (pc + 1) lv (.int (x - y) :: st)) : yW p l e R s m args below meth c nL D A Q cells slots ws pc lv (.int y :: .int x :: st) := fun H locs ls hP hD hS hl => lv_isub C.x C.b hdg  (kk H locs ls hP hD hS hl)
theorem y_imul (C : yC p s m args meth c cc nL own Ts D tys A rt) {x y : Int32} (hdg : decode cc pc = .ok (.imul, 1))  (kk : yW p l e R s m args below meth c nL D A Q cells slots ws (pc + 1) lv (.int (x * y) :: st)) : yW p l e R s m args below meth c nL D A Q cells slots ws pc lv (.int y :: .int x :: st) := fun H locs ls hP hD hS hl => lv_imul C.x C.b hdg  (kk H locs ls hP hD hS hl)
theorem y_iand (C : yC p s m args meth c cc nL own Ts D tys A rt) {x y : Int32} (hdg : decode cc pc = .ok (.iand, 1))  (kk : yW p l e R s m args below meth c nL D A Q cells slots ws (pc + 1) lv (.int (x &&& y) :: st)) : yW p l e R s m args below meth c nL D A Q cells slots ws pc lv (.int y :: .int x :: st) := fun H locs ls hP hD hS hl => lv_iand C.x C.b hdg  (kk H locs ls hP hD hS hl)
theorem y_ior (C : yC p s m args meth c cc nL own Ts D tys A rt) {x y : Int32} (hdg : decode cc pc = .ok (.ior, 1))  (kk : yW p l e R s m args below meth c nL D A Q cells slots ws (pc + 1) lv (.int (x ||| y) :: st)) : yW p l e R s m args below meth c nL D A Q cells slots ws pc lv (.int y :: .int x :: st) := fun H locs ls hP hD hS hl => lv_ior C.x C.b hdg  (kk H locs ls hP hD hS hl)
theorem y_ixor (C : yC p s m args meth c cc nL own Ts D tys A rt) {x y : Int32} (hdg : decode cc pc = .ok (.ixor, 1))  (kk : yW p l e R s m args below meth c nL D A Q cells slots ws (pc + 1) lv (.int (x ^^^ y) :: st)) : yW p l e R s m args below meth c nL D A Q cells slots ws pc lv (.int y :: .int x :: st) := fun H locs ls hP hD hS hl => lv_ixor C.x C.b hdg  (kk H locs ls hP hD hS hl)
theorem y_ishl (C : yC p s m args meth c cc nL own Ts D tys A rt) {x y : Int32} (hdg : decode cc pc = .ok (.ishl, 1))  (kk : yW p l e R s m args below meth c nL D A Q cells slots ws (pc + 1) lv (.int (x <<< (y &&& 31)) :: st)) : yW p l e R s m args below meth c nL D A Q cells slots ws pc lv (.int y :: .int x :: st) := fun H locs ls hP hD hS hl => lv_ishl C.x C.b hdg  (kk H locs ls hP hD hS hl)
theorem y_ishr (C : yC p s m args meth c cc nL own Ts D tys A rt) {x y : Int32} (hdg : decode cc pc = .ok (.ishr, 1))  (kk : yW p l e R s m args below meth c nL D A Q cells slots ws (pc + 1) lv (.int (x >>> (y &&& 31)) :: st)) : yW p l e R s m args below meth c nL D A Q cells slots ws pc lv (.int y :: .int x :: st) := fun H locs ls hP hD hS hl => lv_ishr C.x C.b hdg  (kk H locs ls hP hD hS hl)
theorem y_idiv (C : yC p s m args meth c cc nL own Ts D tys A rt) {x y : Int32} (hdg : decode cc pc = .ok (.idiv, 1)) (hne : ¬ y = 0) (kk : yW p l e R s m args below meth c nL D A Q cells slots ws (pc + 1) lv (.int (x / y) :: st)) : yW p l e R s m args below meth c nL D A Q cells slots ws pc lv (.int y :: .int x :: st) := fun H locs ls hP hD hS hl => lv_idiv C.x C.b hdg hne (kk H locs ls hP hD hS hl)
theorem y_irem (C : yC p s m args meth c cc nL own Ts D tys A rt) {x y : Int32} (hdg : decode cc pc = .ok (.irem, 1)) (hne : ¬ y = 0) (kk : yW p l e R s m args below meth c nL D A Q cells slots ws (pc + 1) lv (.int (x - x / y * y) :: st)) : yW p l e R s m args below meth c nL D A Q cells slots ws pc lv (.int y :: .int x :: st) := fun H locs ls hP hD hS hl => lv_irem C.x C.b hdg hne (kk H locs ls hP hD hS hl)
theorem y_ladd (C : yC p s m args meth c cc nL own Ts D tys A rt) {x y : Int64} (hdg : decode cc pc = .ok (.ladd, 1))  (kk : yW p l e R s m args below meth c nL D A Q cells slots ws (pc + 1) lv (.long (x + y) :: st)) : yW p l e R s m args below meth c nL D A Q cells slots ws pc lv (.long y :: .long x :: st) := fun H locs ls hP hD hS hl => lv_ladd C.x C.b hdg  (kk H locs ls hP hD hS hl)
theorem y_lmul (C : yC p s m args meth c cc nL own Ts D tys A rt) {x y : Int64} (hdg : decode cc pc = .ok (.lmul, 1))  (kk : yW p l e R s m args below meth c nL D A Q cells slots ws (pc + 1) lv (.long (x * y) :: st)) : yW p l e R s m args below meth c nL D A Q cells slots ws pc lv (.long y :: .long x :: st) := fun H locs ls hP hD hS hl => lv_lmul C.x C.b hdg  (kk H locs ls hP hD hS hl)
theorem y_land (C : yC p s m args meth c cc nL own Ts D tys A rt) {x y : Int64} (hdg : decode cc pc = .ok (.land, 1))  (kk : yW p l e R s m args below meth c nL D A Q cells slots ws (pc + 1) lv (.long (x &&& y) :: st)) : yW p l e R s m args below meth c nL D A Q cells slots ws pc lv (.long y :: .long x :: st) := fun H locs ls hP hD hS hl => lv_land C.x C.b hdg  (kk H locs ls hP hD hS hl)
theorem y_lor (C : yC p s m args meth c cc nL own Ts D tys A rt) {x y : Int64} (hdg : decode cc pc = .ok (.lor, 1))  (kk : yW p l e R s m args below meth c nL D A Q cells slots ws (pc + 1) lv (.long (x ||| y) :: st)) : yW p l e R s m args below meth c nL D A Q cells slots ws pc lv (.long y :: .long x :: st) := fun H locs ls hP hD hS hl => lv_lor C.x C.b hdg  (kk H locs ls hP hD hS hl)
theorem y_i2l (C : yC p s m args meth c cc nL own Ts D tys A rt) {x : Int32} {v : Int64} (hdg : decode cc pc = .ok (.i2l, 1)) (hv : x.toInt64 = v) (kk : yW p l e R s m args below meth c nL D A Q cells slots ws (pc + 1) lv (.long v :: st)) : yW p l e R s m args below meth c nL D A Q cells slots ws pc lv (.int x :: st) := fun H locs ls hP hD hS hl => lv_i2l C.x C.b hdg hv (kk H locs ls hP hD hS hl)
theorem y_lushr (C : yC p s m args meth c cc nL own Ts D tys A rt) {x v : Int64} {y : Int32} (hdg : decode cc pc = .ok (.lushr, 1)) (hv : (x.toUInt64 >>> (y.toInt64.toUInt64 &&& Int64.toUInt64 63)).toInt64 = v) (kk : yW p l e R s m args below meth c nL D A Q cells slots ws (pc + 1) lv (.long v :: st)) : yW p l e R s m args below meth c nL D A Q cells slots ws pc lv (.int y :: .long x :: st) := fun H locs ls hP hD hS hl => lv_lushr C.x C.b hdg hv (kk H locs ls hP hD hS hl)
theorem y_lshl (C : yC p s m args meth c cc nL own Ts D tys A rt) {x v : Int64} {y : Int32} (hdg : decode cc pc = .ok (.lshl, 1)) (hv : x <<< (y.toInt64 &&& 63) = v) (kk : yW p l e R s m args below meth c nL D A Q cells slots ws (pc + 1) lv (.long v :: st)) : yW p l e R s m args below meth c nL D A Q cells slots ws pc lv (.int y :: .long x :: st) := fun H locs ls hP hD hS hl => lv_lshl C.x C.b hdg hv (kk H locs ls hP hD hS hl)
theorem y_lshr (C : yC p s m args meth c cc nL own Ts D tys A rt) {x v : Int64} {y : Int32} (hdg : decode cc pc = .ok (.lshr, 1)) (hv : x >>> (y.toInt64 &&& 63) = v) (kk : yW p l e R s m args below meth c nL D A Q cells slots ws (pc + 1) lv (.long v :: st)) : yW p l e R s m args below meth c nL D A Q cells slots ws pc lv (.int y :: .long x :: st) := fun H locs ls hP hD hS hl => lv_lshr C.x C.b hdg hv (kk H locs ls hP hD hS hl)
theorem y_dup (C : yC p s m args meth c cc nL own Ts D tys A rt) {va : Value} (hdg : decode cc pc = .ok (.dup, 1)) (hva : va.category = 1) (kk : yW p l e R s m args below meth c nL D A Q cells slots ws (pc + 1) lv (va :: va :: st)) : yW p l e R s m args below meth c nL D A Q cells slots ws pc lv (va :: st) := fun H locs ls hP hD hS hl => lv_dup C.x C.b hdg hva (kk H locs ls hP hD hS hl)
theorem y_pop (C : yC p s m args meth c cc nL own Ts D tys A rt) {va : Value} (hdg : decode cc pc = .ok (.pop, 1)) (hva : va.category = 1) (kk : yW p l e R s m args below meth c nL D A Q cells slots ws (pc + 1) lv (st)) : yW p l e R s m args below meth c nL D A Q cells slots ws pc lv (va :: st) := fun H locs ls hP hD hS hl => lv_pop C.x C.b hdg hva (kk H locs ls hP hD hS hl)
theorem y_dup2_11 (C : yC p s m args meth c cc nL own Ts D tys A rt) {va vb : Value} (hdg : decode cc pc = .ok (.dup2, 1)) (hva : va.category = 1) (hvb : vb.category = 1) (kk : yW p l e R s m args below meth c nL D A Q cells slots ws (pc + 1) lv (va :: vb :: va :: vb :: st)) : yW p l e R s m args below meth c nL D A Q cells slots ws pc lv (va :: vb :: st) := fun H locs ls hP hD hS hl => lv_dup2_11 C.x C.b hdg hva hvb (kk H locs ls hP hD hS hl)
theorem y_dup_x2 (C : yC p s m args meth c cc nL own Ts D tys A rt) {va vb vd : Value} (hdg : decode cc pc = .ok (.dup_x2, 1)) (hva : va.category = 1) (hvb : vb.category = 1) (hvd : vd.category = 1) (kk : yW p l e R s m args below meth c nL D A Q cells slots ws (pc + 1) lv (va :: vb :: vd :: va :: st)) : yW p l e R s m args below meth c nL D A Q cells slots ws pc lv (va :: vb :: vd :: st) := fun H locs ls hP hD hS hl => lv_dup_x2 C.x C.b hdg hva hvb hvd (kk H locs ls hP hD hS hl)
theorem y_iload_n (C : yC p s m args meth c cc nL own Ts D tys A rt) {k : Fin 4} {i : Nat} {x : Int32} (q : Nat) (hdg : decode cc pc = .ok (.iload_n k, 1)) (hi : (k : Nat) = i) (hq : lv[q]? = some (i, .int x)) (kk : yW p l e R s m args below meth c nL D A Q cells slots ws (pc + 1) lv (.int x :: st)) : yW p l e R s m args below meth c nL D A Q cells slots ws pc lv st := fun H locs ls hP hD hS hl => lv_iload_n C.x C.b hdg hi (lv_at hl q hq) (kk H locs ls hP hD hS hl)
theorem y_iload (C : yC p s m args meth c cc nL own Ts D tys A rt) {i : Nat} {x : Int32} (q : Nat) (hdg : decode cc pc = .ok (.iload i, 2)) (hq : lv[q]? = some (i, .int x)) (kk : yW p l e R s m args below meth c nL D A Q cells slots ws (pc + 2) lv (.int x :: st)) : yW p l e R s m args below meth c nL D A Q cells slots ws pc lv st := fun H locs ls hP hD hS hl => lv_iload C.x C.b hdg (lv_at hl q hq) (kk H locs ls hP hD hS hl)
theorem y_lload_n (C : yC p s m args meth c cc nL own Ts D tys A rt) {k : Fin 4} {i : Nat} {x : Int64} (q : Nat) (hdg : decode cc pc = .ok (.lload_n k, 1)) (hi : (k : Nat) = i) (hq : lv[q]? = some (i, .long x)) (kk : yW p l e R s m args below meth c nL D A Q cells slots ws (pc + 1) lv (.long x :: st)) : yW p l e R s m args below meth c nL D A Q cells slots ws pc lv st := fun H locs ls hP hD hS hl => lv_lload_n C.x C.b hdg hi (lv_at hl q hq) (kk H locs ls hP hD hS hl)
theorem y_lload (C : yC p s m args meth c cc nL own Ts D tys A rt) {i : Nat} {x : Int64} (q : Nat) (hdg : decode cc pc = .ok (.lload i, 2)) (hq : lv[q]? = some (i, .long x)) (kk : yW p l e R s m args below meth c nL D A Q cells slots ws (pc + 2) lv (.long x :: st)) : yW p l e R s m args below meth c nL D A Q cells slots ws pc lv st := fun H locs ls hP hD hS hl => lv_lload C.x C.b hdg (lv_at hl q hq) (kk H locs ls hP hD hS hl)
theorem y_aload_n (C : yC p s m args meth c cc nL own Ts D tys A rt) {k : Fin 4} {i : Nat} {x : Nat} (q : Nat) (hdg : decode cc pc = .ok (.aload_n k, 1)) (hi : (k : Nat) = i) (hq : lv[q]? = some (i, .ref x)) (kk : yW p l e R s m args below meth c nL D A Q cells slots ws (pc + 1) lv (.ref x :: st)) : yW p l e R s m args below meth c nL D A Q cells slots ws pc lv st := fun H locs ls hP hD hS hl => lv_aload_n C.x C.b hdg hi (lv_at hl q hq) (kk H locs ls hP hD hS hl)
theorem y_aload (C : yC p s m args meth c cc nL own Ts D tys A rt) {i : Nat} {x : Nat} (q : Nat) (hdg : decode cc pc = .ok (.aload i, 2)) (hq : lv[q]? = some (i, .ref x)) (kk : yW p l e R s m args below meth c nL D A Q cells slots ws (pc + 2) lv (.ref x :: st)) : yW p l e R s m args below meth c nL D A Q cells slots ws pc lv st := fun H locs ls hP hD hS hl => lv_aload C.x C.b hdg (lv_at hl q hq) (kk H locs ls hP hD hS hl)
theorem y_istore_n (C : yC p s m args meth c cc nL own Ts D tys A rt) {k : Fin 4} {i : Nat} {x : Int32} (hdg : decode cc pc = .ok (.istore_n k, 1)) (hi : (k : Nat) = i) (hn : i < nL) (hq : (i, Value.int x) :: lv.filter (fun q => !(q.1 == i) && !(q.1 + 1 == i && q.2.category == 2)) = lv') (kk : yW p l e R s m args below meth c nL D A Q cells slots ws (pc + 1) lv' st) : yW p l e R s m args below meth c nL D A Q cells slots ws pc lv (.int x :: st) := fun H locs ls hP hD hS hl => lv_istore_n C.x C.b hdg hi hl hn hq (fun ls hl => kk H locs ls hP hD hS hl)
theorem y_istore (C : yC p s m args meth c cc nL own Ts D tys A rt) {i : Nat} {x : Int32} (hdg : decode cc pc = .ok (.istore i, 2)) (hn : i < nL) (hq : (i, Value.int x) :: lv.filter (fun q => !(q.1 == i) && !(q.1 + 1 == i && q.2.category == 2)) = lv') (kk : yW p l e R s m args below meth c nL D A Q cells slots ws (pc + 2) lv' st) : yW p l e R s m args below meth c nL D A Q cells slots ws pc lv (.int x :: st) := fun H locs ls hP hD hS hl => lv_istore C.x C.b hdg hl hn hq (fun ls hl => kk H locs ls hP hD hS hl)
theorem y_astore_n (C : yC p s m args meth c cc nL own Ts D tys A rt) {k : Fin 4} {i : Nat} {x : Nat} (hdg : decode cc pc = .ok (.astore_n k, 1)) (hi : (k : Nat) = i) (hn : i < nL) (hq : (i, Value.ref x) :: lv.filter (fun q => !(q.1 == i) && !(q.1 + 1 == i && q.2.category == 2)) = lv') (kk : yW p l e R s m args below meth c nL D A Q cells slots ws (pc + 1) lv' st) : yW p l e R s m args below meth c nL D A Q cells slots ws pc lv (.ref x :: st) := fun H locs ls hP hD hS hl => lv_astore_n C.x C.b hdg hi hl hn hq (fun ls hl => kk H locs ls hP hD hS hl)
theorem y_astore (C : yC p s m args meth c cc nL own Ts D tys A rt) {i : Nat} {x : Nat} (hdg : decode cc pc = .ok (.astore i, 2)) (hn : i < nL) (hq : (i, Value.ref x) :: lv.filter (fun q => !(q.1 == i) && !(q.1 + 1 == i && q.2.category == 2)) = lv') (kk : yW p l e R s m args below meth c nL D A Q cells slots ws (pc + 2) lv' st) : yW p l e R s m args below meth c nL D A Q cells slots ws pc lv (.ref x :: st) := fun H locs ls hP hD hS hl => lv_astore C.x C.b hdg hl hn hq (fun ls hl => kk H locs ls hP hD hS hl)
theorem y_lstore_n (C : yC p s m args meth c cc nL own Ts D tys A rt) {k : Fin 4} {i : Nat} {x : Int64} (hdg : decode cc pc = .ok (.lstore_n k, 1)) (hi : (k : Nat) = i) (hn : i + 1 < nL) (hq : (i, Value.long x) :: lv.filter (fun q => !(q.1 == i) && (!(q.1 == i + 1) && !(q.1 + 1 == i && q.2.category == 2))) = lv') (kk : yW p l e R s m args below meth c nL D A Q cells slots ws (pc + 1) lv' st) : yW p l e R s m args below meth c nL D A Q cells slots ws pc lv (.long x :: st) := fun H locs ls hP hD hS hl => lv_lstore_n C.x C.b hdg hi hl hn hq (fun ls hl => kk H locs ls hP hD hS hl)
theorem y_iinc (C : yC p s m args meth c cc nL own Ts D tys A rt) {i k : Nat} {n : Int} {x v : Int32} (hdg : decode cc pc = .ok (.iinc i n, 3)) (hk : lv[k]? = some (i, .int x)) (hv : x + Int32.ofInt n = v) (hn : i < nL) (hq : (i, Value.int v) :: lv.filter (fun q => !(q.1 == i) && !(q.1 + 1 == i && q.2.category == 2)) = lv') (kk : yW p l e R s m args below meth c nL D A Q cells slots ws (pc + 3) lv' st) : yW p l e R s m args below meth c nL D A Q cells slots ws pc lv st := fun H locs ls hP hD hS hl => lv_iinc C.x C.b hdg hl hk hv hn hq (fun ls hl => kk H locs ls hP hD hS hl)
theorem y_goto (C : yC p s m args meth c cc nL own Ts D tys A rt) {off : Int} {tgt : Nat} (hdg : decode cc pc = .ok (.goto off, 3)) (ht : (pc : Int) + off = (tgt : Int)) (kk : yW p l e R s m args below meth c nL D A Q cells slots ws tgt lv st) : yW p l e R s m args below meth c nL D A Q cells slots ws pc lv st := fun H locs ls hP hD hS hl => lv_goto C.x C.b hdg ht (kk H locs ls hP hD hS hl)
theorem y_icmp_eq (C : yC p s m args meth c cc nL own Ts D tys A rt) {x y : Int32} {off : Int} {tgt : Nat} (hdg : decode cc pc = .ok (.if_icmp .eq off, 3)) (ht : (pc : Int) + off = (tgt : Int)) (kt : x = y → yW p l e R s m args below meth c nL D A Q cells slots ws tgt lv st) (kf : ¬ x = y → yW p l e R s m args below meth c nL D A Q cells slots ws (pc + 3) lv st) : yW p l e R s m args below meth c nL D A Q cells slots ws pc lv (.int y :: .int x :: st) := fun H locs ls hP hD hS hl => lv_icmp_eq C.x C.b hdg ht (fun h => kt h H locs ls hP hD hS hl) (fun h => kf h H locs ls hP hD hS hl)
theorem y_icmp_ne (C : yC p s m args meth c cc nL own Ts D tys A rt) {x y : Int32} {off : Int} {tgt : Nat} (hdg : decode cc pc = .ok (.if_icmp .ne off, 3)) (ht : (pc : Int) + off = (tgt : Int)) (kt : ¬ x = y → yW p l e R s m args below meth c nL D A Q cells slots ws tgt lv st) (kf : x = y → yW p l e R s m args below meth c nL D A Q cells slots ws (pc + 3) lv st) : yW p l e R s m args below meth c nL D A Q cells slots ws pc lv (.int y :: .int x :: st) := fun H locs ls hP hD hS hl => lv_icmp_ne C.x C.b hdg ht (fun h => kt h H locs ls hP hD hS hl) (fun h => kf h H locs ls hP hD hS hl)
theorem y_icmp_lt (C : yC p s m args meth c cc nL own Ts D tys A rt) {x y : Int32} {off : Int} {tgt : Nat} (hdg : decode cc pc = .ok (.if_icmp .lt off, 3)) (ht : (pc : Int) + off = (tgt : Int)) (kt : x < y → yW p l e R s m args below meth c nL D A Q cells slots ws tgt lv st) (kf : ¬ x < y → yW p l e R s m args below meth c nL D A Q cells slots ws (pc + 3) lv st) : yW p l e R s m args below meth c nL D A Q cells slots ws pc lv (.int y :: .int x :: st) := fun H locs ls hP hD hS hl => lv_icmp_lt C.x C.b hdg ht (fun h => kt h H locs ls hP hD hS hl) (fun h => kf h H locs ls hP hD hS hl)
theorem y_icmp_ge (C : yC p s m args meth c cc nL own Ts D tys A rt) {x y : Int32} {off : Int} {tgt : Nat} (hdg : decode cc pc = .ok (.if_icmp .ge off, 3)) (ht : (pc : Int) + off = (tgt : Int)) (kt : y ≤ x → yW p l e R s m args below meth c nL D A Q cells slots ws tgt lv st) (kf : ¬ y ≤ x → yW p l e R s m args below meth c nL D A Q cells slots ws (pc + 3) lv st) : yW p l e R s m args below meth c nL D A Q cells slots ws pc lv (.int y :: .int x :: st) := fun H locs ls hP hD hS hl => lv_icmp_ge C.x C.b hdg ht (fun h => kt h H locs ls hP hD hS hl) (fun h => kf h H locs ls hP hD hS hl)
theorem y_icmp_gt (C : yC p s m args meth c cc nL own Ts D tys A rt) {x y : Int32} {off : Int} {tgt : Nat} (hdg : decode cc pc = .ok (.if_icmp .gt off, 3)) (ht : (pc : Int) + off = (tgt : Int)) (kt : y < x → yW p l e R s m args below meth c nL D A Q cells slots ws tgt lv st) (kf : ¬ y < x → yW p l e R s m args below meth c nL D A Q cells slots ws (pc + 3) lv st) : yW p l e R s m args below meth c nL D A Q cells slots ws pc lv (.int y :: .int x :: st) := fun H locs ls hP hD hS hl => lv_icmp_gt C.x C.b hdg ht (fun h => kt h H locs ls hP hD hS hl) (fun h => kf h H locs ls hP hD hS hl)
theorem y_icmp_le (C : yC p s m args meth c cc nL own Ts D tys A rt) {x y : Int32} {off : Int} {tgt : Nat} (hdg : decode cc pc = .ok (.if_icmp .le off, 3)) (ht : (pc : Int) + off = (tgt : Int)) (kt : x ≤ y → yW p l e R s m args below meth c nL D A Q cells slots ws tgt lv st) (kf : ¬ x ≤ y → yW p l e R s m args below meth c nL D A Q cells slots ws (pc + 3) lv st) : yW p l e R s m args below meth c nL D A Q cells slots ws pc lv (.int y :: .int x :: st) := fun H locs ls hP hD hS hl => lv_icmp_le C.x C.b hdg ht (fun h => kt h H locs ls hP hD hS hl) (fun h => kf h H locs ls hP hD hS hl)
theorem y_if_eq (C : yC p s m args meth c cc nL own Ts D tys A rt) {x : Int32} {off : Int} {tgt : Nat} (hdg : decode cc pc = .ok (.ifCond .eq off, 3)) (ht : (pc : Int) + off = (tgt : Int)) (kt : x = 0 → yW p l e R s m args below meth c nL D A Q cells slots ws tgt lv st) (kf : ¬ x = 0 → yW p l e R s m args below meth c nL D A Q cells slots ws (pc + 3) lv st) : yW p l e R s m args below meth c nL D A Q cells slots ws pc lv (.int x :: st) := fun H locs ls hP hD hS hl => lv_if_eq C.x C.b hdg ht (fun h => kt h H locs ls hP hD hS hl) (fun h => kf h H locs ls hP hD hS hl)
theorem y_if_ne (C : yC p s m args meth c cc nL own Ts D tys A rt) {x : Int32} {off : Int} {tgt : Nat} (hdg : decode cc pc = .ok (.ifCond .ne off, 3)) (ht : (pc : Int) + off = (tgt : Int)) (kt : ¬ x = 0 → yW p l e R s m args below meth c nL D A Q cells slots ws tgt lv st) (kf : x = 0 → yW p l e R s m args below meth c nL D A Q cells slots ws (pc + 3) lv st) : yW p l e R s m args below meth c nL D A Q cells slots ws pc lv (.int x :: st) := fun H locs ls hP hD hS hl => lv_if_ne C.x C.b hdg ht (fun h => kt h H locs ls hP hD hS hl) (fun h => kf h H locs ls hP hD hS hl)
theorem y_if_lt (C : yC p s m args meth c cc nL own Ts D tys A rt) {x : Int32} {off : Int} {tgt : Nat} (hdg : decode cc pc = .ok (.ifCond .lt off, 3)) (ht : (pc : Int) + off = (tgt : Int)) (kt : x < 0 → yW p l e R s m args below meth c nL D A Q cells slots ws tgt lv st) (kf : ¬ x < 0 → yW p l e R s m args below meth c nL D A Q cells slots ws (pc + 3) lv st) : yW p l e R s m args below meth c nL D A Q cells slots ws pc lv (.int x :: st) := fun H locs ls hP hD hS hl => lv_if_lt C.x C.b hdg ht (fun h => kt h H locs ls hP hD hS hl) (fun h => kf h H locs ls hP hD hS hl)
theorem y_topN  {x : Int32} {j : Nat} (h : x = nI j) (kk : yW p l e R s m args below meth c nL D A Q cells slots ws pc lv (.int (nI j) :: st)) : yW p l e R s m args below meth c nL D A Q cells slots ws pc lv (.int x :: st) := by rw [h]; exact kk
theorem y_topE {x y : Int32} (h : x = y) (kk : yW p l e R s m args below meth c nL D A Q cells slots ws pc lv (.int y :: st)) : yW p l e R s m args below meth c nL D A Q cells slots ws pc lv (.int x :: st) := by rw [h]; exact kk
theorem y_topL {x y : Int64} (h : x = y) (kk : yW p l e R s m args below meth c nL D A Q cells slots ws pc lv (.long y :: st)) : yW p l e R s m args below meth c nL D A Q cells slots ws pc lv (.long x :: st) := by rw [h]; exact kk
theorem y_iaddN (C : yC p s m args meth c cc nL own Ts D tys A rt) {a b : Nat} (hdg : decode cc pc = .ok (.iadd, 1)) (kk : yW p l e R s m args below meth c nL D A Q cells slots ws (pc + 1) lv (.int (nI (a + b)) :: st)) : yW p l e R s m args below meth c nL D A Q cells slots ws pc lv (.int (nI b) :: .int (nI a) :: st) := y_iadd C hdg (by rw [nI_add]; exact kk)
theorem y_isubN (C : yC p s m args meth c cc nL own Ts D tys A rt) {a b : Nat} (hdg : decode cc pc = .ok (.isub, 1)) (h : b ≤ a) (kk : yW p l e R s m args below meth c nL D A Q cells slots ws (pc + 1) lv (.int (nI (a - b)) :: st)) : yW p l e R s m args below meth c nL D A Q cells slots ws pc lv (.int (nI b) :: .int (nI a) :: st) := y_isub C hdg (by rw [pk_sub h]; exact kk)
theorem y_imulN (C : yC p s m args meth c cc nL own Ts D tys A rt) {a b : Nat} (hdg : decode cc pc = .ok (.imul, 1)) (kk : yW p l e R s m args below meth c nL D A Q cells slots ws (pc + 1) lv (.int (nI (a * b)) :: st)) : yW p l e R s m args below meth c nL D A Q cells slots ws pc lv (.int (nI b) :: .int (nI a) :: st) := y_imul C hdg (by rw [pk_mul]; exact kk)
theorem y_idivN (C : yC p s m args meth c cc nL own Ts D tys A rt) {a b : Nat} (hdg : decode cc pc = .ok (.idiv, 1)) (ha : a < 2 ^ 31) (h0 : 0 < b) (hb : b < 2 ^ 31) (kk : yW p l e R s m args below meth c nL D A Q cells slots ws (pc + 1) lv (.int (nI (a / b)) :: st)) : yW p l e R s m args below meth c nL D A Q cells slots ws pc lv (.int (nI b) :: .int (nI a) :: st) := y_idiv C hdg (nI_ne0 h0 hb) (by rw [pk_div ha h0 hb]; exact kk)
theorem y_iremN (C : yC p s m args meth c cc nL own Ts D tys A rt) {a b : Nat} (hdg : decode cc pc = .ok (.irem, 1)) (ha : a < 2 ^ 31) (h0 : 0 < b) (hb : b < 2 ^ 31) (kk : yW p l e R s m args below meth c nL D A Q cells slots ws (pc + 1) lv (.int (nI (a % b)) :: st)) : yW p l e R s m args below meth c nL D A Q cells slots ws pc lv (.int (nI b) :: .int (nI a) :: st) := y_irem C hdg (nI_ne0 h0 hb) (by rw [pk_rem ha h0 hb]; exact kk)
theorem yn_inc {n : Int} {x k : Nat} (h : n = (k : Int)) : nI x + Int32.ofInt n = nI (x + k) := by subst h; exact nI_add x k
theorem y_icmpN_eq (C : yC p s m args meth c cc nL own Ts D tys A rt) {a b : Nat} {off : Int} {tgt : Nat} (hdg : decode cc pc = .ok (.if_icmp .eq off, 3)) (ht : (pc : Int) + off = (tgt : Int)) (ha : a < 2 ^ 31) (hb : b < 2 ^ 31) (kt : a = b → yW p l e R s m args below meth c nL D A Q cells slots ws tgt lv st) (kf : a ≠ b → yW p l e R s m args below meth c nL D A Q cells slots ws (pc + 3) lv st) : yW p l e R s m args below meth c nL D A Q cells slots ws pc lv (.int (nI b) :: .int (nI a) :: st) := y_icmp_eq C hdg ht (fun h => kt ((nI_eq ha hb).mp h)) (fun h => kf (fun q => h ((nI_eq ha hb).mpr q)))
theorem y_icmpN_ne (C : yC p s m args meth c cc nL own Ts D tys A rt) {a b : Nat} {off : Int} {tgt : Nat} (hdg : decode cc pc = .ok (.if_icmp .ne off, 3)) (ht : (pc : Int) + off = (tgt : Int)) (ha : a < 2 ^ 31) (hb : b < 2 ^ 31) (kt : a ≠ b → yW p l e R s m args below meth c nL D A Q cells slots ws tgt lv st) (kf : a = b → yW p l e R s m args below meth c nL D A Q cells slots ws (pc + 3) lv st) : yW p l e R s m args below meth c nL D A Q cells slots ws pc lv (.int (nI b) :: .int (nI a) :: st) := y_icmp_ne C hdg ht (fun h => kt (fun q => h ((nI_eq ha hb).mpr q))) (fun h => kf ((nI_eq ha hb).mp h))
theorem y_icmpN_lt (C : yC p s m args meth c cc nL own Ts D tys A rt) {a b : Nat} {off : Int} {tgt : Nat} (hdg : decode cc pc = .ok (.if_icmp .lt off, 3)) (ht : (pc : Int) + off = (tgt : Int)) (ha : a < 2 ^ 31) (hb : b < 2 ^ 31) (kt : a < b → yW p l e R s m args below meth c nL D A Q cells slots ws tgt lv st) (kf : b ≤ a → yW p l e R s m args below meth c nL D A Q cells slots ws (pc + 3) lv st) : yW p l e R s m args below meth c nL D A Q cells slots ws pc lv (.int (nI b) :: .int (nI a) :: st) := y_icmp_lt C hdg ht (fun h => kt ((nI_ltI ha hb).mp h)) (fun h => kf (Nat.le_of_not_lt (fun q => h ((nI_ltI ha hb).mpr q))))
theorem y_icmpN_ge (C : yC p s m args meth c cc nL own Ts D tys A rt) {a b : Nat} {off : Int} {tgt : Nat} (hdg : decode cc pc = .ok (.if_icmp .ge off, 3)) (ht : (pc : Int) + off = (tgt : Int)) (ha : a < 2 ^ 31) (hb : b < 2 ^ 31) (kt : b ≤ a → yW p l e R s m args below meth c nL D A Q cells slots ws tgt lv st) (kf : a < b → yW p l e R s m args below meth c nL D A Q cells slots ws (pc + 3) lv st) : yW p l e R s m args below meth c nL D A Q cells slots ws pc lv (.int (nI b) :: .int (nI a) :: st) := y_icmp_ge C hdg ht (fun h => kt ((nI_leI hb ha).mp h)) (fun h => kf (Nat.lt_of_not_le (fun q => h ((nI_leI hb ha).mpr q))))
theorem y_icmpN_gt (C : yC p s m args meth c cc nL own Ts D tys A rt) {a b : Nat} {off : Int} {tgt : Nat} (hdg : decode cc pc = .ok (.if_icmp .gt off, 3)) (ht : (pc : Int) + off = (tgt : Int)) (ha : a < 2 ^ 31) (hb : b < 2 ^ 31) (kt : b < a → yW p l e R s m args below meth c nL D A Q cells slots ws tgt lv st) (kf : a ≤ b → yW p l e R s m args below meth c nL D A Q cells slots ws (pc + 3) lv st) : yW p l e R s m args below meth c nL D A Q cells slots ws pc lv (.int (nI b) :: .int (nI a) :: st) := y_icmp_gt C hdg ht (fun h => kt ((nI_ltI hb ha).mp h)) (fun h => kf (Nat.le_of_not_lt (fun q => h ((nI_ltI hb ha).mpr q))))
theorem y_icmpN_le (C : yC p s m args meth c cc nL own Ts D tys A rt) {a b : Nat} {off : Int} {tgt : Nat} (hdg : decode cc pc = .ok (.if_icmp .le off, 3)) (ht : (pc : Int) + off = (tgt : Int)) (ha : a < 2 ^ 31) (hb : b < 2 ^ 31) (kt : a ≤ b → yW p l e R s m args below meth c nL D A Q cells slots ws tgt lv st) (kf : b < a → yW p l e R s m args below meth c nL D A Q cells slots ws (pc + 3) lv st) : yW p l e R s m args below meth c nL D A Q cells slots ws pc lv (.int (nI b) :: .int (nI a) :: st) := y_icmp_le C hdg ht (fun h => kt ((nI_leI ha hb).mp h)) (fun h => kf (Nat.lt_of_not_le (fun q => h ((nI_leI ha hb).mpr q))))
theorem yn_0 {a : Nat} (ha : a < 2 ^ 31) : nI a = 0 ↔ a = 0 := by rw [← nI_0]; exact nI_eq ha (by decide)
theorem y_ifN_eq (C : yC p s m args meth c cc nL own Ts D tys A rt) {a : Nat} {off : Int} {tgt : Nat} (hdg : decode cc pc = .ok (.ifCond .eq off, 3)) (ht : (pc : Int) + off = (tgt : Int)) (ha : a < 2 ^ 31) (kt : a = 0 → yW p l e R s m args below meth c nL D A Q cells slots ws tgt lv st) (kf : a ≠ 0 → yW p l e R s m args below meth c nL D A Q cells slots ws (pc + 3) lv st) : yW p l e R s m args below meth c nL D A Q cells slots ws pc lv (.int (nI a) :: st) := y_if_eq C hdg ht (fun h => kt ((yn_0 ha).mp h)) (fun h => kf (fun q => h ((yn_0 ha).mpr q)))
theorem y_ifN_ne (C : yC p s m args meth c cc nL own Ts D tys A rt) {a : Nat} {off : Int} {tgt : Nat} (hdg : decode cc pc = .ok (.ifCond .ne off, 3)) (ht : (pc : Int) + off = (tgt : Int)) (ha : a < 2 ^ 31) (kt : a ≠ 0 → yW p l e R s m args below meth c nL D A Q cells slots ws tgt lv st) (kf : a = 0 → yW p l e R s m args below meth c nL D A Q cells slots ws (pc + 3) lv st) : yW p l e R s m args below meth c nL D A Q cells slots ws pc lv (.int (nI a) :: st) := y_if_ne C hdg ht (fun h => kt (fun q => h ((yn_0 ha).mpr q))) (fun h => kf ((yn_0 ha).mp h))
theorem y_ifN_lt (C : yC p s m args meth c cc nL own Ts D tys A rt) {a : Nat} {off : Int} (hdg : decode cc pc = .ok (.ifCond .lt off, 3)) {tgt : Nat} (ht : (pc : Int) + off = (tgt : Int)) (ha : a < 2 ^ 31) (kf : yW p l e R s m args below meth c nL D A Q cells slots ws (pc + 3) lv st) : yW p l e R s m args below meth c nL D A Q cells slots ws pc lv (.int (nI a) :: st) := y_if_lt C hdg ht (fun h => absurd h (nI_pos ha)) (fun _ => kf)
theorem y_lv (h : lv = lv') (kk : yW p l e R s m args below meth c nL D A Q cells slots ws pc lv' st) : yW p l e R s m args below meth c nL D A Q cells slots ws pc lv st := by subst h; exact kk
theorem y_sub (ks : List Nat) (h : lv_pick lv ks = lv') (kk : yW p l e R s m args below meth c nL D A Q cells slots ws pc lv' st) : yW p l e R s m args below meth c nL D A Q cells slots ws pc lv st := fun H locs ls hP hD hS hl => kk H locs ls hP hD hS (lv_sub hl ks h)
theorem y_ws (h : ws = ws') (kk : yW p l e R s m args below meth c nL D A Q cells slots ws' pc lv st) : yW p l e R s m args below meth c nL D A Q cells slots ws pc lv st := by subst h; exact kk
theorem y_perm (is : List Nat) (hn : va_nd is = true) (h : is.map (fun i => ws[i]?) = ws'.map some) (kk : yW p l e R s m args below meth c nL D A Q cells slots ws' pc lv st) : yW p l e R s m args below meth c nL D A Q cells slots ws pc lv st := fun H locs ls hP hD hS hl => kk H locs ls (hP.sub is (by rw [show is.filterMap (fun i => ws[i]?) = (is.map (fun i => ws[i]?)).filterMap id from by rw [List.filterMap_map]; rfl, h, List.filterMap_map]; exact List.filterMap_some)) (hD.sub is hn h) hS hl
theorem y_widen {k n : Nat} (h1 : cells ≤ k) (h2 : slots ≤ n) (kk : yW p l e R s m args below meth c nL D A Q k n ws pc lv st) : yW p l e R s m args below meth c nL D A Q cells slots ws pc lv st := fun H locs ls hP hD hS hl => W.widen h1 h2 (kk H locs ls hP hD hS hl)
theorem y_get (C : yC p s m args meth c cc nL own Ts D tys A rt) {cN : String} {T : u_T} {N ci index : Nat} (hin : ∀ w ∈ u_ws cN T N, w ∈ Ts) (hc : vwCl[ci]? = some (cN, T, N)) (k : Nat) (hk : k < N) (hlink : Cond.fieldLink own index (T k).1 (T k).2.1 (T k).2.2.1 ∈ Ts) (q0 : Nat) {a : Nat} {fs : List Value} {v : Value} (he : ws[q0]? = some (a, .inr (ci, fs))) (hv : fs[k]? = some v) (hdg : decode cc pc = .ok (.getfield index, 3)) (kk : yW p l e R s m args below meth c nL D A Q cells slots ws (pc + 3) lv (v :: st)) : yW p l e R s m args below meth c nL D A Q cells slots ws pc lv (.ref a :: st) := fun H locs ls hP hD hS hl => va_get (D := D) C.x C.b C.ts hin C.ow C.k hP q0 he hc k hk (C.ts _ hlink) (fun _ h => h) hv hdg (kk H locs ls hP hD hS hl)
theorem y_put (C : yC p s m args meth c cc nL own Ts D tys A rt) {cN : String} {T : u_T} {N ci index : Nat} (hin : ∀ w ∈ u_ws cN T N, w ∈ Ts) (ty0 : Nat → FieldType) (hty : ∀ k, k < N → parseFieldDescriptor (T k).2.2.1 = some (ty0 k)) (hnm : ∀ a, a < N → ∀ b, b < N → a ≠ b → (T a).2.1 ≠ (T b).2.1) (hc : vwCl[ci]? = some (cN, T, N)) (k : Nat) (hk : k < N) (hfin : (T k).2.2.2 = false) (hlink : Cond.fieldLink own index (T k).1 (T k).2.1 (T k).2.2.1 ∈ Ts) (q0 : Nat) {a : Nat} {fs : List Value} {v : Value} (he : ws[q0]? = some (a, .inr (ci, fs))) (hn : narrow (ty0 k) v = v) (hfit : fits (ty0 k) v = true) (hl0 : k < fs.length) (hw : ws.set q0 (a, .inr (ci, fs.set k v)) = ws') (hdg : decode cc pc = .ok (.putfield index, 3)) (kk : yW p l e R s m args below meth c nL D A Q cells slots ws' (pc + 3) lv st) : yW p l e R s m args below meth c nL D A Q cells slots ws pc lv (v :: .ref a :: st) := fun H locs ls hP hD hS hl => va_put (D := D) C.x C.b C.ts hin ty0 hty hnm C.ow C.k hP hD hS q0 he hc k hk (C.ts _ hlink) (fun _ h => h) hfin (hty k hk) hn hfit hl0 hdg (fun H locs hP hD hS => kk H locs ls (by rw [← hw]; exact hP) (by rw [← hw]; exact hD) hS hl)
theorem y_putF (C : yC p s m args meth c cc nL own Ts D tys A rt) {cN : String} {T : u_T} {N ci index : Nat} (hin : ∀ w ∈ u_ws cN T N, w ∈ Ts) (ty0 : Nat → FieldType) (hty : ∀ k, k < N → parseFieldDescriptor (T k).2.2.1 = some (ty0 k)) (hnm : ∀ a, a < N → ∀ b, b < N → a ≠ b → (T a).2.1 ≠ (T b).2.1) (hc : vwCl[ci]? = some (cN, T, N)) (k : Nat) (hk : k < N) (hfin : (T k).2.2.2 = true) (hinit : meth.name = "<init>") (hdecl : (T k).1 = own) (hlink : Cond.fieldLink own index (T k).1 (T k).2.1 (T k).2.2.1 ∈ Ts) (q0 : Nat) {a : Nat} {fs : List Value} {v : Value} (he : ws[q0]? = some (a, .inr (ci, fs))) (hn : narrow (ty0 k) v = v) (hfit : fits (ty0 k) v = true) (hl0 : k < fs.length) (hw : ws.set q0 (a, .inr (ci, fs.set k v)) = ws') (hdg : decode cc pc = .ok (.putfield index, 3)) (kk : yW p l e R s m args below meth c nL D A Q cells slots ws' (pc + 3) lv st) : yW p l e R s m args below meth c nL D A Q cells slots ws pc lv (v :: .ref a :: st) := fun H locs ls hP hD hS hl => va_putF (D := D) C.x C.b C.ts hin ty0 hty hnm C.ow C.k hP hD hS q0 he hc k hk (C.ts _ hlink) (fun _ h => h) hfin hinit hdecl (hty k hk) hn hfit hl0 hdg (fun H locs hP hD hS => kk H locs ls (by rw [← hw]; exact hP) (by rw [← hw]; exact hD) hS hl)
def nA (f : Nat → Nat) : Nat → Int32 := fun j => nI (f j)
def upN (f : Nat → Nat) (k x : Nat) : Nat → Nat := fun j => if j = k then x else f j
theorem nA_upd (f : Nat → Nat) (k x : Nat) : upd (nA f) k (nI x) = nA (upN f k x) := by
  funext j
  by_cases h : j = k <;> simp [upd, nA, upN, h]
theorem nA_0 : (fun _ => (0 : Int32)) = nA (fun _ => 0) := funext fun _ => nI_0.symm
theorem y_iald (C : yC p s m args meth c cc nL own Ts D tys A rt) {q0 t0 : Nat} {cA : ClassId} {a n j : Nat} {f : Nat → Int32} (ha : ws[q0]? = some (a, .inl (cA, n, .inl f))) (ht : tys[t0]? = some (cA, .int)) (hn : n < 2 ^ 31) (hj : j < n) (hdg : decode cc pc = .ok (.iaload, 1)) (kk : yW p l e R s m args below meth c nL D A Q cells slots ws (pc + 1) lv (.int (f j) :: st)) : yW p l e R s m args below meth c nL D A Q cells slots ws pc lv (.int (nI j) :: .ref a :: st) := fun H locs ls hP hD hS hl => va_iald (D := D) C.x C.b C.k hP q0 t0 ha ht (vp_in_nI hj hn) hdg (by rw [nI_clamp (Nat.lt_trans hj hn)]; exact kk H locs ls hP hD hS hl)
theorem y_ialdA (C : yC p s m args meth c cc nL own Ts D tys A rt) {q0 t0 : Nat} {cA : ClassId} {a n j : Nat} {f : Nat → Nat} (ha : ws[q0]? = some (a, .inl (cA, n, .inl (nA f)))) (ht : tys[t0]? = some (cA, .int)) (hn : n < 2 ^ 31) (hj : j < n) (hdg : decode cc pc = .ok (.iaload, 1)) (kk : yW p l e R s m args below meth c nL D A Q cells slots ws (pc + 1) lv (.int (nI (f j)) :: st)) : yW p l e R s m args below meth c nL D A Q cells slots ws pc lv (.int (nI j) :: .ref a :: st) := y_iald C ha ht hn hj hdg kk
theorem y_iast (C : yC p s m args meth c cc nL own Ts D tys A rt) {q0 t0 : Nat} {cA : ClassId} {a n j : Nat} {f : Nat → Int32} {x : Int32} (ha : ws[q0]? = some (a, .inl (cA, n, .inl f))) (ht : tys[t0]? = some (cA, .int)) (hn : n < 2 ^ 31) (hj : j < n) (hw : ws.set q0 (a, .inl (cA, n, .inl (upd f j x))) = ws') (hdg : decode cc pc = .ok (.iastore, 1)) (kk : yW p l e R s m args below meth c nL D A Q cells slots ws' (pc + 1) lv st) : yW p l e R s m args below meth c nL D A Q cells slots ws pc lv (.int x :: .int (nI j) :: .ref a :: st) := fun H locs ls hP hD hS hl => va_iast (D := D) C.x C.b C.k hP hD hS q0 t0 ha ht (vp_in_nI hj hn) hdg (fun H locs hP hD hS => by
  rw [nI_clamp (Nat.lt_trans hj hn), hw] at hP hD
  exact kk H locs ls hP hD hS hl)
theorem y_iastA (C : yC p s m args meth c cc nL own Ts D tys A rt) {q0 t0 : Nat} {cA : ClassId} {a n j v : Nat} {f : Nat → Nat} (ha : ws[q0]? = some (a, .inl (cA, n, .inl (nA f)))) (ht : tys[t0]? = some (cA, .int)) (hn : n < 2 ^ 31) (hj : j < n) (hw : ws.set q0 (a, .inl (cA, n, .inl (nA (upN f j v)))) = ws') (hdg : decode cc pc = .ok (.iastore, 1)) (kk : yW p l e R s m args below meth c nL D A Q cells slots ws' (pc + 1) lv st) : yW p l e R s m args below meth c nL D A Q cells slots ws pc lv (.int (nI v) :: .int (nI j) :: .ref a :: st) := y_iast C ha ht hn hj (by rw [nA_upd]; exact hw) hdg kk
theorem y_newi (C : yC p s m args meth c cc nL own Ts D tys A rt) {n t0 : Nat} {cI : ClassId} (ht : tys[t0]? = some (cI, .int)) (harr : Cond.arrayClass .int ∈ Ts) (hn : n < 2 ^ 20) (hcells : cells + 1 ≤ R.cells) (hslots : slots + n ≤ R.slots) (hdg : decode cc pc = .ok (.newarray .int, 2)) (kk : ∀ q : Nat, yW p l e R s m args below meth c nL D A Q (cells + 1) (slots + n) (ws ++ [(q, .inl (cI, n, .inl (fun _ => 0)))]) (pc + 2) lv (.ref q :: st)) : yW p l e R s m args below meth c nL D A Q cells slots ws pc lv (.int (nI n) :: st) := by
  intro H locs ls hP hD hS hl
  have h1 : n < 2 ^ 31 := Nat.lt_trans hn (by decide)
  refine va_newaK (atype := .int) C.x C.b (C.ts _ harr) rfl hdg rfl (nI_pos h1) (nI_clamp h1) (by show n * 4 ≤ 536870912; omega) hcells hslots rfl (fun H1 cA e1 z1 o1 hAr hNm => ?_)
  have hI : s.vm.findClass ("[" ++ FieldType.int.toString) = some cI := (C.k.2 t0 _ ht).2
  cases Option.some.inj (hNm.symm.trans hI)
  have hk : ∀ (k : Nat) (x : Nat × va_E), ws[k]? = some x → H1[x.1]? = H[x.1]? := fun k x hx => o1 x.1 ((hP k x hx).lt)
  refine kk H.size H1 locs ls ((hP.kept hk).app (fun k x hx => ?_)) (hD.push hP rfl (C.a _ hS.1)) ⟨Nat.le_trans hS.1 (by omega), fun x h1 h2 => (o1 x (Nat.lt_of_lt_of_le h1 hS.1)).trans (hS.2.1 x h1 h2), hS.2.2⟩ hl
  have hz : k < 1 := (List.getElem?_eq_some_iff.mp hx).1
  obtain rfl : k = 0 := by omega
  cases hx
  exact e1
theorem y_ldc2 (C : yC p s m args meth c cc nL own Ts D tys A rt) {index : Nat} {v : Int64} (hc : Cond.constantLong own index v ∈ Ts) (hdg : decode cc pc = .ok (.ldc2_w index, 3)) (kk : yW p l e R s m args below meth c nL D A Q cells slots ws (pc + 3) lv (.long v :: st)) : yW p l e R s m args below meth c nL D A Q cells slots ws pc lv st := fun H locs ls hP hD hS hl => lv_ldc2 C.x C.b C.ow (C.ts _ hc) hdg (kk H locs ls hP hD hS hl)
end YLA
/-! contracts: deterministic ones; the world behind is named -/
/-- the room of a method at depth d -/
abbrev rmD (d mc ms : Nat) : Room := { frames := d, cells := mc, slots := ms, locals := 30 * d }
def yPre (D : va_G) (tys : List (ClassId × FieldType)) (av : List Value) (wc : va_W) (sz : Nat) : Array Value → State → Prop :=
  va_Pc av (fun U => U.heap.size = sz ∧ va_P D vwCl wc U.heap ∧ va_K D vwCl tys U ∧ va_D (fun _ => True) wc)
def yB (D : va_G) (tys : List (ClassId × FieldType)) (wc wc' : va_W) (sz : Nat) (_ : Unit) (t : State) : Prop := va_P D vwCl wc' t.heap ∧ va_K D vwCl tys t ∧ va_D (va_A wc sz) wc'
def ctI (l : Launch) (y : MethodName) (w : List Cond) (rm : Room) (D : va_G) (tys : List (ClassId × FieldType)) (av : List Value) (wc wc' : va_W) (r : Int32) (mc ms : Nat) : Prop :=
  ∀ sz : Nat, Met l y w rm (yPre D tys av wc sz) (va_Qi (fun r' (_ : Unit) => r' = r) (yB D tys wc wc' sz) (va_A wc sz)) mc ms (va_A wc sz)
def ctL (l : Launch) (y : MethodName) (w : List Cond) (rm : Room) (D : va_G) (tys : List (ClassId × FieldType)) (av : List Value) (wc wc' : va_W) (r : Int64) (mc ms : Nat) : Prop :=
  ∀ sz : Nat, Met l y w rm (yPre D tys av wc sz) (va_Ql (fun r' (_ : Unit) => r' = r) (yB D tys wc wc' sz) (va_A wc sz)) mc ms (va_A wc sz)
def ctV (l : Launch) (y : MethodName) (w : List Cond) (rm : Room) (D : va_G) (tys : List (ClassId × FieldType)) (av : List Value) (wc wc' : va_W) (mc ms : Nat) : Prop :=
  ∀ sz : Nat, Met l y w rm (yPre D tys av wc sz) (va_Qv (fun (_ : Unit) => True) (yB D tys wc wc' sz) (va_A wc sz)) mc ms (va_A wc sz)
theorem ct_of {l : Launch} {y : MethodName} {w w' : List Cond} {rm : Room} {D : va_G} {tys : List (ClassId × FieldType)} {av : List Value} {wc : va_W} {mc ms sz : Nat} {cc : ByteArray} {maxL : Nat} {ret : Option FieldType} {Qc : Array Value → State → Outcome → State → Prop} (hy : plainName y.cls = true) (hw : w = Cond.code y cc maxL ret :: w') (hn : (lg_sl av).length ≤ maxL)
    (body : ∀ p e s m below meth c, yC p s m av.toArray meth c cc maxL y.cls w D tys (va_A wc s.heap.size) ret → meth.name = y.name → s.heap.size = sz → yW p l e rm s m av.toArray below meth c maxL D (va_A wc s.heap.size) (MQ below Qc av.toArray s mc ms (va_A wc sz)) 0 0 wc 0 (lv_args 0 av) []) :
    Met l y w rm (yPre D tys av wc sz) Qc mc ms (va_A wc sz) := by
  refine Met.ofW (cc := cc) (maxL := maxL) (ret := ret) hy hw ?_
  intro p e s m args below meth c s₁ B hml hv
  obtain ⟨rfl, hsz, hP, hK, hD0⟩ := hv
  have hts := atoms_spec (ws := w) B.pre
  have hown : s.vm.findClass y.cls = some m.cls := findClass_of_methodNamed B.named
  have hD := hD0.self (sz := s.heap.size)
  have hl := lv_entry av (n := maxL) hn
  rw [lg_entry_eq]
  exact body p e s m below meth c ⟨⟨B.exec, B.bytes, hml, hown, hts⟩, hK, B.notSynchronized, B.returns, fun q h => Or.inr h⟩ (name_of_methodNamed B.named B.method).1 hsz s.heap [] _ hP hD va_S.rf hl
section YLB
variable {p : Program} {l : Launch} {e : Env} {R : Room} {s : State} {m : MethodId} {args : Array Value} {below : List Frame} {meth : Method} {c : Code} {Q : State → Prop} {cells slots : Nat}
variable {cc : ByteArray} {nL : Nat} {own : String} {Ts : List Cond} {D : va_G} {tys : List (ClassId × FieldType)} {A : Nat → Prop} {rt : Option FieldType}
variable {ws ws' : va_W} {pc : Nat} {lv lv' : List (Nat × Value)} {st : List Value} {wc wc' wr : va_W} {mc ms sz : Nat}
theorem y_iret (C : yC p s m args meth c cc nL own Ts D tys (va_A wc s.heap.size) (some .int)) {r v : Int32} (hdg : decode cc pc = .ok (.ireturn, 1)) (hsz : s.heap.size = sz) (hr : v = r) (hw : ws = wc') (hc : cells ≤ mc) (hs : slots ≤ ms) : yW p l e R s m args below meth c nL D (va_A wc s.heap.size) (MQ below (va_Qi (fun r' (_ : Unit) => r' = r) (yB D tys wc wc' sz) (va_A wc sz)) args s mc ms (va_A wc sz)) cells slots ws pc lv [.int v] := by
  subst hsz hr hw
  exact fun H locs ls hP hD hS hl => W.widen hc hs (W.iret C.x C.b C.rr (fun t ht hW => ⟨⟨_, (), rfl, rfl, by rw [ht]; exact hP, va_K.moved hW.alike C.k, hD⟩, hS.F ht⟩) hS.2.2 hdg C.lk)
theorem y_zret (C : yC p s m args meth c cc nL own Ts D tys (va_A wc s.heap.size) (some .boolean)) {r v : Int32} (hdg : decode cc pc = .ok (.ireturn, 1)) (hsz : s.heap.size = sz) (hr : v = r) (hn : narrow .boolean (.int v) = .int v) (hw : ws = wc') (hc : cells ≤ mc) (hs : slots ≤ ms) : yW p l e R s m args below meth c nL D (va_A wc s.heap.size) (MQ below (va_Qi (fun r' (_ : Unit) => r' = r) (yB D tys wc wc' sz) (va_A wc sz)) args s mc ms (va_A wc sz)) cells slots ws pc lv [.int v] := by
  subst hsz hr hw
  exact fun H locs ls hP hD hS hl => W.widen hc hs (W.zret C.x C.b C.rr hn (fun t ht hW => ⟨⟨_, (), rfl, rfl, by rw [ht]; exact hP, va_K.moved hW.alike C.k, hD⟩, hS.F ht⟩) hS.2.2 hdg C.lk)
theorem y_lret (C : yC p s m args meth c cc nL own Ts D tys (va_A wc s.heap.size) (some .long)) {r v : Int64} (hdg : decode cc pc = .ok (.lreturn, 1)) (hsz : s.heap.size = sz) (hr : v = r) (hw : ws = wc') (hc : cells ≤ mc) (hs : slots ≤ ms) : yW p l e R s m args below meth c nL D (va_A wc s.heap.size) (MQ below (va_Ql (fun r' (_ : Unit) => r' = r) (yB D tys wc wc' sz) (va_A wc sz)) args s mc ms (va_A wc sz)) cells slots ws pc lv [.long v] := by
  subst hsz hr hw
  exact fun H locs ls hP hD hS hl => W.widen hc hs (W.lret C.x C.b C.rr (fun t ht hW => ⟨⟨_, (), rfl, rfl, by rw [ht]; exact hP, va_K.moved hW.alike C.k, hD⟩, hS.F ht⟩) hS.2.2 hdg C.lk)
theorem y_vret (C : yC p s m args meth c cc nL own Ts D tys (va_A wc s.heap.size) none) (hdg : decode cc pc = .ok (.return_, 1)) (hsz : s.heap.size = sz) (hw : ws = wc') (hc : cells ≤ mc) (hs : slots ≤ ms) : yW p l e R s m args below meth c nL D (va_A wc s.heap.size) (MQ below (va_Qv (fun (_ : Unit) => True) (yB D tys wc wc' sz) (va_A wc sz)) args s mc ms (va_A wc sz)) cells slots ws pc lv [] := by
  subst hsz hw
  exact fun H locs ls hP hD hS hl => W.widen hc hs (W.vret C.x C.b C.rr (fun t ht hW => ⟨⟨(), rfl, trivial, by rw [ht]; exact hP, va_K.moved hW.alike C.k, hD⟩, hS.F ht⟩) hS.2.2 hdg C.lk)
/-- the callee's part of a world, and the rest -/
theorem yw_r {k : Nat} {q : Nat × va_E} (h : wc[k]? = some q) : (wr ++ wc)[wr.length + k]? = some q := by
  rw [List.getElem?_append_right (Nat.le_add_right _ _), Nat.add_sub_cancel_left]
  exact h
theorem yw_l {k : Nat} {q : Nat × va_E} (h : wr[k]? = some q) : (wr ++ wc)[k]? = some q := by
  rw [List.getElem?_append_left (List.getElem?_eq_some_iff.mp h).1]
  exact h
theorem yw_part {H : Heap} (hP : va_P D vwCl (wr ++ wc) H) : va_P D vwCl wc H := fun _ q h => hP _ q (yw_r h)
theorem yw_partD (hD : va_D A (wr ++ wc)) : va_D A wc := ⟨fun i j p q hi hj e => by have := hD.1 _ _ p q (yw_r hi) (yw_r hj) e; omega, fun _ q h => hD.2 _ q (yw_r h)⟩
theorem yw_free {H0 H : Heap} {locs : List Loc} (hD : va_D A (wr ++ wc)) (hS : va_S A H0 H locs) (hA : ∀ q, H0.size ≤ q → A q) : ∀ q, va_A wc H.size q → A q := by
  intro q h
  rcases h with ⟨k, e, h⟩ | h
  · exact hD.2 _ _ (yw_r h)
  · exact hA q (Nat.le_trans hS.1 h)
theorem yw_join {A0 : Nat → Prop} {H H1 : Heap} {w1 : va_W} (hP : va_P D vwCl (wr ++ wc) H) (hD : va_D A0 (wr ++ wc)) (hk : ∀ q : Nat, q < H.size → ¬ va_A wc H.size q → H1[q]? = H[q]?) (hF : ∀ q, va_A wc H.size q → A0 q) (hP1 : va_P D vwCl w1 H1) (hD1 : va_D (va_A wc H.size) w1) : va_P D vwCl (wr ++ w1) H1 ∧ va_D A0 (wr ++ w1) := by
  have apart : ∀ (k : Nat) (q : Nat × va_E), wr[k]? = some q → q.1 < H.size ∧ ¬ va_A wc H.size q.1 := by
    intro k q h
    have hl := (hP k q (yw_l h)).lt
    refine ⟨hl, fun ha => ?_⟩
    rcases ha with ⟨k2, e, h2⟩ | h2
    · have h3 := hD.1 k (wr.length + k2) q (q.1, e) (yw_l h) (yw_r h2) rfl
      have h4 := (List.getElem?_eq_some_iff.mp h).1
      omega
    · omega
  constructor
  · intro k q h
    by_cases hkl : k < wr.length
    · rw [List.getElem?_append_left hkl] at h
      exact (hP k q (yw_l h)).kept (hk q.1 (apart k q h).1 (apart k q h).2)
    · rw [List.getElem?_append_right (by omega)] at h
      exact hP1 _ q h
  · refine ⟨fun i j p q hi hj hpq => ?_, fun k q h => ?_⟩
    · by_cases hil : i < wr.length <;> by_cases hjl : j < wr.length
      · rw [List.getElem?_append_left hil] at hi
        rw [List.getElem?_append_left hjl] at hj
        exact hD.1 i j p q (yw_l hi) (yw_l hj) hpq
      · rw [List.getElem?_append_left hil] at hi
        rw [List.getElem?_append_right (by omega)] at hj
        exact absurd (by rw [hpq]; exact hD1.2 _ q hj) (apart i p hi).2
      · rw [List.getElem?_append_right (by omega)] at hi
        rw [List.getElem?_append_left hjl] at hj
        exact absurd (by rw [← hpq]; exact hD1.2 _ p hi) (apart j q hj).2
      · rw [List.getElem?_append_right (by omega)] at hi hj
        have := hD1.1 _ _ p q hi hj hpq
        omega
    · by_cases hkl : k < wr.length
      · rw [List.getElem?_append_left hkl] at h
        exact hD.2 k q (yw_l h)
      · rw [List.getElem?_append_right (by omega)] at h
        exact hF _ (hD1.2 _ q h)
theorem yBlind {av : List Value} : FrameBlind (yPre D tys av wc sz) := fun a U g mk q => by
  obtain ⟨q0, q1, qP, qK, qD⟩ := q
  exact ⟨q0, q1, qP, va_K.moved (u := U) (U := U.calling g mk a) (Vm.Alike.refl U.vm) qK, qD⟩
theorem y_callI (C : yC p s m args meth c cc nL own Ts D tys A rt) {y : MethodName} {w w' : List Cond} {rm : Room} {bytes : ByteArray} {maxL index b : Nat} {ret' : Option FieldType} {As st0 : List Value} {r : Int32} {q0 ci N : Nat} {fs : List Value} {T : u_T} (n : Nat) (hM : ctI l y w rm D tys (.ref b :: As) wc wc' r mc ms) (hG : GoodIn Ts (wsV own index y.cls y w)) (hw : w = Cond.code y bytes maxL ret' :: w') (hrc : rm.cells = mc) (hrs : rm.slots = ms) (hd : y.cls = y.cls ∧ y.cls ≠ "java/lang/invoke/MethodHandle" ∧ y.cls ≠ "java/lang/invoke/VarHandle" ∧ (parseMethodDescriptor y.desc).map (fun d => d.parameters.length) = some n) (hR : rm.frames + 1 ≤ R.frames ∧ 8 + (maxL + 11) + rm.locals ≤ R.locals) (hq : wc[q0]? = some (b, .inr (ci, fs))) (hci : vwCl[ci]? = some (y.cls, T, N)) (hws : ws = wr ++ wc) (hst : st0 = As.reverse ++ .ref b :: st) (hn : As.length = n) (hcat : (st.map fun v => v.category).sum ≤ 8) (hdg : decode cc pc = .ok (.invokevirtual index, 3)) (hf : cells + mc ≤ R.cells ∧ slots + ms ≤ R.slots) (kk : yW p l e R s m args below meth c nL D A Q (cells + mc) (slots + ms) (wr ++ wc') (pc + 3) lv (.int r :: st)) : yW p l e R s m args below meth c nL D A Q cells slots ws pc lv st0 := by
  subst hws hst
  intro H locs ls hP hD hS hl
  have hPc := yw_part hP
  have hDc : va_D A wc := yw_partD hD
  have hFc : ∀ q, va_A wc H.size q → A q := yw_free hD hS C.a
  refine va_calli (va_runV (As := As) (rest := st) C.1 (hM H.size) (cwV n C.ts hG hw hrc hrs hd hR) ⟨yBlind, va_recv C.k hPc hci hq, fun U hU hW => ⟨rfl, by rw [hU], by rw [hU]; exact hPc, va_K.moved hW.alike C.k, hDc.weaken (fun _ _ _ _ => trivial)⟩⟩ rfl hn hl.1 rfl (lv_room hcat) hdg hf) hS (fun q _ h => hFc q h) hFc (fun r1 u t H1 locs1 ht hvm hw1 hB hz1 hk1 hS => ?_)
  obtain ⟨hP1, hK1, hD1⟩ := hB
  rw [ht] at hP1
  obtain ⟨hP, hD⟩ := yw_join hP hD hk1 hFc hP1 hD1
  subst hw1
  exact kk H1 locs1 ls hP hD hS hl
theorem y_callL (C : yC p s m args meth c cc nL own Ts D tys A rt) {y : MethodName} {w w' : List Cond} {rm : Room} {bytes : ByteArray} {maxL index b : Nat} {ret' : Option FieldType} {As st0 : List Value} {r : Int64} {q0 ci N : Nat} {fs : List Value} {T : u_T} (n : Nat) (hM : ctL l y w rm D tys (.ref b :: As) wc wc' r mc ms) (hG : GoodIn Ts (wsV own index y.cls y w)) (hw : w = Cond.code y bytes maxL ret' :: w') (hrc : rm.cells = mc) (hrs : rm.slots = ms) (hd : y.cls = y.cls ∧ y.cls ≠ "java/lang/invoke/MethodHandle" ∧ y.cls ≠ "java/lang/invoke/VarHandle" ∧ (parseMethodDescriptor y.desc).map (fun d => d.parameters.length) = some n) (hR : rm.frames + 1 ≤ R.frames ∧ 8 + (maxL + 11) + rm.locals ≤ R.locals) (hq : wc[q0]? = some (b, .inr (ci, fs))) (hci : vwCl[ci]? = some (y.cls, T, N)) (hws : ws = wr ++ wc) (hst : st0 = As.reverse ++ .ref b :: st) (hn : As.length = n) (hcat : (st.map fun v => v.category).sum ≤ 8) (hdg : decode cc pc = .ok (.invokevirtual index, 3)) (hf : cells + mc ≤ R.cells ∧ slots + ms ≤ R.slots) (kk : yW p l e R s m args below meth c nL D A Q (cells + mc) (slots + ms) (wr ++ wc') (pc + 3) lv (.long r :: st)) : yW p l e R s m args below meth c nL D A Q cells slots ws pc lv st0 := by
  subst hws hst
  intro H locs ls hP hD hS hl
  have hPc := yw_part hP
  have hDc : va_D A wc := yw_partD hD
  have hFc : ∀ q, va_A wc H.size q → A q := yw_free hD hS C.a
  refine va_calll (va_runV (As := As) (rest := st) C.1 (hM H.size) (cwV n C.ts hG hw hrc hrs hd hR) ⟨yBlind, va_recv C.k hPc hci hq, fun U hU hW => ⟨rfl, by rw [hU], by rw [hU]; exact hPc, va_K.moved hW.alike C.k, hDc.weaken (fun _ _ _ _ => trivial)⟩⟩ rfl hn hl.1 rfl (lv_room hcat) hdg hf) hS (fun q _ h => hFc q h) hFc (fun r1 u t H1 locs1 ht hvm hw1 hB hz1 hk1 hS => ?_)
  obtain ⟨hP1, hK1, hD1⟩ := hB
  rw [ht] at hP1
  obtain ⟨hP, hD⟩ := yw_join hP hD hk1 hFc hP1 hD1
  subst hw1
  exact kk H1 locs1 ls hP hD hS hl
theorem y_callV (C : yC p s m args meth c cc nL own Ts D tys A rt) {y : MethodName} {w w' : List Cond} {rm : Room} {bytes : ByteArray} {maxL index b : Nat} {ret' : Option FieldType} {As st0 : List Value} {q0 ci N : Nat} {fs : List Value} {T : u_T} (n : Nat) (hM : ctV l y w rm D tys (.ref b :: As) wc wc' mc ms) (hG : GoodIn Ts (wsV own index y.cls y w)) (hw : w = Cond.code y bytes maxL ret' :: w') (hrc : rm.cells = mc) (hrs : rm.slots = ms) (hd : y.cls = y.cls ∧ y.cls ≠ "java/lang/invoke/MethodHandle" ∧ y.cls ≠ "java/lang/invoke/VarHandle" ∧ (parseMethodDescriptor y.desc).map (fun d => d.parameters.length) = some n) (hR : rm.frames + 1 ≤ R.frames ∧ 8 + (maxL + 11) + rm.locals ≤ R.locals) (hq : wc[q0]? = some (b, .inr (ci, fs))) (hci : vwCl[ci]? = some (y.cls, T, N)) (hws : ws = wr ++ wc) (hst : st0 = As.reverse ++ .ref b :: st) (hn : As.length = n) (hcat : (st.map fun v => v.category).sum ≤ 8) (hdg : decode cc pc = .ok (.invokevirtual index, 3)) (hf : cells + mc ≤ R.cells ∧ slots + ms ≤ R.slots) (kk : yW p l e R s m args below meth c nL D A Q (cells + mc) (slots + ms) (wr ++ wc') (pc + 3) lv st) : yW p l e R s m args below meth c nL D A Q cells slots ws pc lv st0 := by
  subst hws hst
  intro H locs ls hP hD hS hl
  have hPc := yw_part hP
  have hDc : va_D A wc := yw_partD hD
  have hFc : ∀ q, va_A wc H.size q → A q := yw_free hD hS C.a
  refine va_callv (va_runV (As := As) (rest := st) C.1 (hM H.size) (cwV n C.ts hG hw hrc hrs hd hR) ⟨yBlind, va_recv C.k hPc hci hq, fun U hU hW => ⟨rfl, by rw [hU], by rw [hU]; exact hPc, va_K.moved hW.alike C.k, hDc.weaken (fun _ _ _ _ => trivial)⟩⟩ rfl hn hl.1 rfl (lv_room hcat) hdg hf) hS (fun q _ h => hFc q h) hFc (fun u t H1 locs1 ht hvm hw1 hB hz1 hk1 hS => ?_)
  obtain ⟨hP1, hK1, hD1⟩ := hB
  rw [ht] at hP1
  obtain ⟨hP, hD⟩ := yw_join hP hD hk1 hFc hP1 hD1
  exact kk H1 locs1 ls hP hD hS hl
end YLB
theorem ctI_of {l : Launch} {y : MethodName} {w w' : List Cond} {rm : Room} {D : va_G} {tys : List (ClassId × FieldType)} {av : List Value} {wc wc' : va_W} {mc ms : Nat} {cc : ByteArray} {maxL : Nat} {r : Int32} (hy : plainName y.cls = true) (hw : w = Cond.code y cc maxL (some .int) :: w') (hn : (lg_sl av).length ≤ maxL)
    (body : ∀ (p : Program) (e : Env) (s : State) (m : MethodId) (args : Array Value) (below : List Frame) (meth : Method) (c : Code) (A : Nat → Prop) (Q : State → Prop), yC p s m args meth c cc maxL y.cls w D tys A (some .int) → meth.name = y.name → (∀ (cells slots pc : Nat) (lv : List (Nat × Value)) (v : Int32) , decode cc pc = .ok (.ireturn, 1) → v = r → cells ≤ mc → slots ≤ ms → yW p l e rm s m args below meth c maxL D A Q cells slots wc' pc lv [.int v]) → yW p l e rm s m args below meth c maxL D A Q 0 0 wc 0 (lv_args 0 av) []) : ctI l y w rm D tys av wc wc' r mc ms := fun _ => ct_of hy hw hn (fun p e s m below meth c C hin hsz => body p e s m _ below meth c _ _ C hin (fun cells slots pc lv v hdg hr hc hs => y_iret C hdg hsz hr rfl hc hs))
theorem ctZ_of {l : Launch} {y : MethodName} {w w' : List Cond} {rm : Room} {D : va_G} {tys : List (ClassId × FieldType)} {av : List Value} {wc wc' : va_W} {mc ms : Nat} {cc : ByteArray} {maxL : Nat} {r : Int32} (hy : plainName y.cls = true) (hw : w = Cond.code y cc maxL (some .boolean) :: w') (hn : (lg_sl av).length ≤ maxL)
    (body : ∀ (p : Program) (e : Env) (s : State) (m : MethodId) (args : Array Value) (below : List Frame) (meth : Method) (c : Code) (A : Nat → Prop) (Q : State → Prop), yC p s m args meth c cc maxL y.cls w D tys A (some .boolean) → meth.name = y.name → (∀ (cells slots pc : Nat) (lv : List (Nat × Value)) (v : Int32) , decode cc pc = .ok (.ireturn, 1) → v = r → narrow .boolean (.int v) = .int v → cells ≤ mc → slots ≤ ms → yW p l e rm s m args below meth c maxL D A Q cells slots wc' pc lv [.int v]) → yW p l e rm s m args below meth c maxL D A Q 0 0 wc 0 (lv_args 0 av) []) : ctI l y w rm D tys av wc wc' r mc ms := fun _ => ct_of hy hw hn (fun p e s m below meth c C hin hsz => body p e s m _ below meth c _ _ C hin (fun cells slots pc lv v hdg hr hn hc hs => y_zret C hdg hsz hr hn rfl hc hs))
theorem ctL_of {l : Launch} {y : MethodName} {w w' : List Cond} {rm : Room} {D : va_G} {tys : List (ClassId × FieldType)} {av : List Value} {wc wc' : va_W} {mc ms : Nat} {cc : ByteArray} {maxL : Nat} {r : Int64} (hy : plainName y.cls = true) (hw : w = Cond.code y cc maxL (some .long) :: w') (hn : (lg_sl av).length ≤ maxL)
    (body : ∀ (p : Program) (e : Env) (s : State) (m : MethodId) (args : Array Value) (below : List Frame) (meth : Method) (c : Code) (A : Nat → Prop) (Q : State → Prop), yC p s m args meth c cc maxL y.cls w D tys A (some .long) → meth.name = y.name → (∀ (cells slots pc : Nat) (lv : List (Nat × Value)) (v : Int64) , decode cc pc = .ok (.lreturn, 1) → v = r → cells ≤ mc → slots ≤ ms → yW p l e rm s m args below meth c maxL D A Q cells slots wc' pc lv [.long v]) → yW p l e rm s m args below meth c maxL D A Q 0 0 wc 0 (lv_args 0 av) []) : ctL l y w rm D tys av wc wc' r mc ms := fun _ => ct_of hy hw hn (fun p e s m below meth c C hin hsz => body p e s m _ below meth c _ _ C hin (fun cells slots pc lv v hdg hr hc hs => y_lret C hdg hsz hr rfl hc hs))
theorem ctV_of {l : Launch} {y : MethodName} {w w' : List Cond} {rm : Room} {D : va_G} {tys : List (ClassId × FieldType)} {av : List Value} {wc wc' : va_W} {mc ms : Nat} {cc : ByteArray} {maxL : Nat} (hy : plainName y.cls = true) (hw : w = Cond.code y cc maxL none :: w') (hn : (lg_sl av).length ≤ maxL)
    (body : ∀ (p : Program) (e : Env) (s : State) (m : MethodId) (args : Array Value) (below : List Frame) (meth : Method) (c : Code) (A : Nat → Prop) (Q : State → Prop), yC p s m args meth c cc maxL y.cls w D tys A none → meth.name = y.name → (∀ (cells slots pc : Nat) (lv : List (Nat × Value)) , decode cc pc = .ok (.return_, 1) → cells ≤ mc → slots ≤ ms → yW p l e rm s m args below meth c maxL D A Q cells slots wc' pc lv []) → yW p l e rm s m args below meth c maxL D A Q 0 0 wc 0 (lv_args 0 av) []) : ctV l y w rm D tys av wc wc' mc ms := fun _ => ct_of hy hw hn (fun p e s m below meth c C hin hsz => body p e s m _ below meth c _ _ C hin (fun cells slots pc lv hdg hc hs => y_vret C hdg hsz rfl hc hs))
end
section
/-- the reference's cells -/
def WM (cI : ClassId) (a : Nat → Nat) (th E : Nat) (vs : Nat → Int32) (B : Nat) (sz cd : Nat → Nat) (M : Nat) (fr tt : Nat → Nat) (na nb ta tb dl co he : Nat → Int32) (mi la : Int32) : va_W :=
  [(a 0, .inr (4, [.int (nI th), .int (nI E), .ref (a 1), .int (nI B), .ref (a 2), .ref (a 3), .int (nI M), .ref (a 4), .ref (a 5), .ref (a 6), .ref (a 7), .ref (a 8), .ref (a 9), .ref (a 10), .ref (a 11), .ref (a 12), .int mi, .int la])),
   (a 1, .inl (cI, 8, .inl vs)), (a 2, .inl (cI, 40, .inl (nA sz))), (a 3, .inl (cI, 480, .inl (nA cd))), (a 4, .inl (cI, 80, .inl (nA fr))), (a 5, .inl (cI, 80, .inl (nA tt))),
   (a 6, .inl (cI, 40, .inl na)), (a 7, .inl (cI, 40, .inl nb)), (a 8, .inl (cI, 40, .inl ta)), (a 9, .inl (cI, 40, .inl tb)), (a 10, .inl (cI, 40, .inl dl)), (a 11, .inl (cI, 8, .inl co)), (a 12, .inl (cI, 8, .inl he))]
/-- how many of the first n edges lead from b -/
def exF (fr : Nat → Nat) (b : Nat) : Nat → Nat
  | 0 => 0
  | n + 1 => exF fr b n + if fr n = b then 1 else 0
theorem exF_le (fr : Nat → Nat) (b n : Nat) : exF fr b n ≤ n := by
  induction n with
  | zero => exact Nat.le_refl _
  | succ n ih => simp only [exF]; split <;> omega
/-- all expressions -/
def allF (E : Nat) : Int32 := ((1 : Int32) <<< (nI E &&& 31)) - 1
/-- the set of the one expression k -/
def oneF (k : Nat) : Int32 := (1 : Int32) <<< (nI k &&& 31)
/-- those of the first n expressions that depend on v -/
def depF (vs : Nat → Int32) (v : Nat) : Nat → Int32
  | 0 => 0
  | n + 1 => if (vs n >>> (nI v &&& 31)) &&& 1 = 1 then depF vs v n ||| oneF n else depF vs v n
/-- kept behind the first k instructions of a block -/
def kpF (E : Nat) (vs : Nat → Int32) (cd : Nat → Nat) (b : Nat) : Nat → Int32
  | 0 => allF E
  | k + 1 => if cd (12 * b + k) % 3 = 2 then kpF E vs cd b k &&& (depF vs (cd (12 * b + k) / 3) E ^^^ -1) else kpF E vs cd b k
def goF (E : Nat) (vs : Nat → Int32) (cd : Nat → Nat) (b : Nat) : Nat → Int32
  | 0 => 0
  | k + 1 => if cd (12 * b + k) % 3 = 2 then goF E vs cd b k ||| depF vs (cd (12 * b + k) / 3) E else goF E vs cd b k
def eaF (E : Nat) (vs : Nat → Int32) (cd : Nat → Nat) (b : Nat) : Nat → Int32
  | 0 => 0
  | k + 1 => if cd (12 * b + k) % 3 = 0 then eaF E vs cd b k ||| (oneF (cd (12 * b + k) / 3) &&& (goF E vs cd b k ^^^ -1)) else eaF E vs cd b k
def laF (E : Nat) (vs : Nat → Int32) (cd : Nat → Nat) (b : Nat) : Nat → Int32
  | 0 => 0
  | k + 1 => if cd (12 * b + k) % 3 = 2 then laF E vs cd b k &&& (depF vs (cd (12 * b + k) / 3) E ^^^ -1) else if cd (12 * b + k) % 3 = 0 then laF E vs cd b k ||| oneF (cd (12 * b + k) / 3) else laF E vs cd b k
end
section
theorem in_X4_thrown_4 : ∀ w ∈ wsX40, w ∈ wsX4_thrown := fun _ h => List.mem_cons_of_mem _ (List.mem_append_right _ h)
set_option maxHeartbeats 4000000 in
set_option maxRecDepth 100000 in
theorem c_X4_thrown (l : Launch) (D : va_G) (cI : ClassId) (aM : Nat → Nat) (th E : Nat) (vs : Nat → Int32) (B : Nat) (sz cd : Nat → Nat) (M : Nat) (fr tt : Nat → Nat) (na nb ta tb dl co he : Nat → Int32) (mi la : Int32)  : ctI l yX4_thrown wsX4_thrown (rmD 0 0 0) D [(cI, .int)] [.ref (aM 0)] (WM cI aM th E vs B sz cd M fr tt na nb ta tb dl co he mi la) (WM cI aM th E vs B sz cd M fr tt na nb ta tb dl co he mi la) (nI th) 0 0 := by
  refine ctI_of (by decide) rfl (Nat.le_of_ble_eq_true rfl) ?_
  intro p e s m args below meth c A Q C hnm K
  refine y_lv (lv' := [(0, .ref (aM 0))]) rfl ?_
  refine y_aload_n C 0 dX4_thrown_0 rfl rfl ?_
  refine y_get C in_X4_thrown_4 (ci := 4) rfl 0 (by decide) (List.mem_of_getElem? (i := 1) rfl) 0 rfl rfl dX4_thrown_1 ?_
  exact K _ _ _ _ _ dX4_thrown_4 (rfl) (by decide) (by decide)
theorem in_X4_no_4 : ∀ w ∈ wsX40, w ∈ wsX4_no := fun _ h => List.mem_cons_of_mem _ (List.mem_append_right _ h)
set_option maxHeartbeats 4000000 in
set_option maxRecDepth 100000 in
theorem c_X4_no (l : Launch) (D : va_G) (cI : ClassId) (aM : Nat → Nat) (th E : Nat) (vs : Nat → Int32) (B : Nat) (sz cd : Nat → Nat) (M : Nat) (fr tt : Nat → Nat) (na nb ta tb dl co he : Nat → Int32) (mi la : Int32) (k : Nat)  : ctI l yX4_no wsX4_no (rmD 0 0 0) D [(cI, .int)] [.ref (aM 0), .int (nI k)] (WM cI aM th E vs B sz cd M fr tt na nb ta tb dl co he mi la) (WM cI aM k E vs B sz cd M fr tt na nb ta tb dl co he mi la) (nI 0) 0 0 := by
  refine ctI_of (by decide) rfl (Nat.le_of_ble_eq_true rfl) ?_
  intro p e s m args below meth c A Q C hnm K
  refine y_lv (lv' := [(0, .ref (aM 0)), (1, .int (nI k))]) rfl ?_
  refine y_aload_n C 0 dX4_no_0 rfl rfl ?_
  refine y_iload_n C 1 dX4_no_1 rfl rfl ?_
  refine y_put C in_X4_no_4 tyX4 tyX4_ok nmX4 (ci := 4) rfl 0 (by decide) rfl (List.mem_of_getElem? (i := 1) rfl) 0 rfl rfl rfl (Nat.le_of_ble_eq_true rfl) (ws' := WM cI aM k E vs B sz cd M fr tt na nb ta tb dl co he mi la) rfl dX4_no_2 ?_
  refine y_iconst C (v := nI 0) dX4_no_5 (by decide) ?_
  exact K _ _ _ _ _ dX4_no_6 (rfl) (by decide) (by decide)
theorem in_X4_isBlock_4 : ∀ w ∈ wsX40, w ∈ wsX4_isBlock := fun _ h => List.mem_cons_of_mem _ (List.mem_append_right _ h)
set_option maxHeartbeats 4000000 in
set_option maxRecDepth 100000 in
theorem c_X4_isBlock_ok (l : Launch) (D : va_G) (cI : ClassId) (aM : Nat → Nat) (th E : Nat) (vs : Nat → Int32) (B : Nat) (sz cd : Nat → Nat) (M : Nat) (fr tt : Nat → Nat) (na nb ta tb dl co he : Nat → Int32) (mi la : Int32) (b : Nat) (hB : B ≤ 40) (hb : b < B) : ctI l yX4_isBlock wsX4_isBlock (rmD 0 0 0) D [(cI, .int)] [.ref (aM 0), .int (nI b)] (WM cI aM th E vs B sz cd M fr tt na nb ta tb dl co he mi la) (WM cI aM th E vs B sz cd M fr tt na nb ta tb dl co he mi la) (nI 1) 0 0 := by
  refine ctZ_of (by decide) rfl (Nat.le_of_ble_eq_true rfl) ?_
  intro p e s m args below meth c A Q C hnm K
  refine y_lv (lv' := [(0, .ref (aM 0)), (1, .int (nI b))]) rfl ?_
  refine y_iload_n C 1 dX4_isBlock_0 rfl rfl ?_
  refine y_ifN_lt C (tgt := 16) dX4_isBlock_1 (by decide) (by omega) ?_
  refine y_iload_n C 1 dX4_isBlock_4 rfl rfl ?_
  refine y_aload_n C 0 dX4_isBlock_5 rfl rfl ?_
  refine y_get C in_X4_isBlock_4 (ci := 4) rfl 3 (by decide) (List.mem_of_getElem? (i := 1) rfl) 0 rfl rfl dX4_isBlock_6 ?_
  refine y_icmpN_ge C (tgt := 16) dX4_isBlock_9 (by decide) (by omega) (by omega) (fun h9 => ?_) (fun h9 => ?_)
  · skip
    exact absurd h9 (by omega)
  · skip
    refine y_iconst C (v := nI 1) dX4_isBlock_12 (by decide) ?_
    refine y_goto C (tgt := 17) dX4_isBlock_13 (by decide) ?_
    exact K _ _ _ _ _ dX4_isBlock_17 (rfl) rfl (by decide) (by decide)
set_option maxHeartbeats 4000000 in
set_option maxRecDepth 100000 in
theorem c_X4_isBlock_bad (l : Launch) (D : va_G) (cI : ClassId) (aM : Nat → Nat) (th E : Nat) (vs : Nat → Int32) (B : Nat) (sz cd : Nat → Nat) (M : Nat) (fr tt : Nat → Nat) (na nb ta tb dl co he : Nat → Int32) (mi la : Int32) (b : Int32) (hB : B ≤ 40) (hb : b < 0 ∨ nI B ≤ b) : ctI l yX4_isBlock wsX4_isBlock (rmD 0 0 0) D [(cI, .int)] [.ref (aM 0), .int b] (WM cI aM th E vs B sz cd M fr tt na nb ta tb dl co he mi la) (WM cI aM th E vs B sz cd M fr tt na nb ta tb dl co he mi la) (nI 0) 0 0 := by
  refine ctZ_of (by decide) rfl (Nat.le_of_ble_eq_true rfl) ?_
  intro p e s m args below meth c A Q C hnm K
  refine y_lv (lv' := [(0, .ref (aM 0)), (1, .int b)]) rfl ?_
  refine y_iload_n C 1 dX4_isBlock_0 rfl rfl ?_
  refine y_if_lt C (tgt := 16) dX4_isBlock_1 (by decide)  (fun h1 => ?_) (fun h1 => ?_)
  · skip
    refine y_iconst C (v := nI 0) dX4_isBlock_16 (by decide) ?_
    exact K _ _ _ _ _ dX4_isBlock_17 (rfl) rfl (by decide) (by decide)
  · skip
    refine y_iload_n C 1 dX4_isBlock_4 rfl rfl ?_
    refine y_aload_n C 0 dX4_isBlock_5 rfl rfl ?_
    refine y_get C in_X4_isBlock_4 (ci := 4) rfl 3 (by decide) (List.mem_of_getElem? (i := 1) rfl) 0 rfl rfl dX4_isBlock_6 ?_
    refine y_icmp_ge C (tgt := 16) dX4_isBlock_9 (by decide)  (fun h9 => ?_) (fun h9 => ?_)
    · skip
      refine y_iconst C (v := nI 0) dX4_isBlock_16 (by decide) ?_
      exact K _ _ _ _ _ dX4_isBlock_17 (rfl) rfl (by decide) (by decide)
    · skip
      exact absurd hb (fun q => q.elim h1 h9)
theorem in_X4_exits_4 : ∀ w ∈ wsX40, w ∈ wsX4_exits := fun _ h => List.mem_cons_of_mem _ (List.mem_append_right _ h)
set_option maxHeartbeats 4000000 in
set_option maxRecDepth 100000 in
theorem c_X4_exits (l : Launch) (D : va_G) (cI : ClassId) (aM : Nat → Nat) (th E : Nat) (vs : Nat → Int32) (B : Nat) (sz cd : Nat → Nat) (M : Nat) (fr tt : Nat → Nat) (na nb ta tb dl co he : Nat → Int32) (mi la : Int32) (b : Nat) (hM : M ≤ 80) (hfr : ∀ j, fr j < 40) (hb : b < 40) : ctI l yX4_exits wsX4_exits (rmD 0 0 0) D [(cI, .int)] [.ref (aM 0), .int (nI b)] (WM cI aM th E vs B sz cd M fr tt na nb ta tb dl co he mi la) (WM cI aM th E vs B sz cd M fr tt na nb ta tb dl co he mi la) (nI (exF fr b M)) 0 0 := by
  refine ctI_of (by decide) rfl (Nat.le_of_ble_eq_true rfl) ?_
  intro p e s m args below meth c A Q C hnm K
  refine y_lv (lv' := [(0, .ref (aM 0)), (1, .int (nI b))]) rfl ?_
  refine y_iconst C (v := nI 0) dX4_exits_0 (by decide) ?_
  refine y_istore_n C (lv' := [(2, .int (nI 0)), (0, .ref (aM 0)), (1, .int (nI b))]) dX4_exits_1 rfl (by decide) rfl ?_
  refine y_iconst C (v := nI 0) dX4_exits_2 (by decide) ?_
  refine y_istore_n C (lv' := [(3, .int (nI 0)), (2, .int (nI 0)), (0, .ref (aM 0)), (1, .int (nI b))]) dX4_exits_3 rfl (by decide) rfl ?_
  have lp4 : ∀ (n4 : Nat) (i : Nat) (x : Nat), i ≤ M → x = exF fr b i → (M - i) < n4 → yW p l e (rmD 0 0 0) s m args below meth c 4 D A Q 0 0 (WM cI aM th E vs B sz cd M fr tt na nb ta tb dl co he mi la) 4 [(0, .ref (aM 0)), (1, .int (nI b)), (2, .int (nI x)), (3, .int (nI i))] [] := by
    intro n4
    induction n4 with
    | zero => intro i x hi hx hm; exact absurd hm (Nat.not_lt_zero _)
    | succ n4 ih4 =>
      intro i x hi hx hm4
      refine y_iload_n C 3 dX4_exits_4 rfl rfl ?_
      refine y_aload_n C 0 dX4_exits_5 rfl rfl ?_
      refine y_get C in_X4_exits_4 (ci := 4) rfl 6 (by decide) (List.mem_of_getElem? (i := 1) rfl) 0 rfl rfl dX4_exits_6 ?_
      refine y_icmpN_ge C (tgt := 36) dX4_exits_9 (by decide) (by omega) (by omega) (fun h9 => ?_) (fun h9 => ?_)
      · skip
        refine y_iload_n C 2 dX4_exits_36 rfl rfl ?_
        exact K _ _ _ _ _ dX4_exits_37 (by rw [hx, show i = M by omega]) (by decide) (by decide)
      · skip
        refine y_iload_n C 2 dX4_exits_12 rfl rfl ?_
        refine y_aload_n C 0 dX4_exits_13 rfl rfl ?_
        refine y_get C in_X4_exits_4 (ci := 4) rfl 7 (by decide) (List.mem_of_getElem? (i := 2) rfl) 0 rfl rfl dX4_exits_14 ?_
        refine y_iload_n C 3 dX4_exits_17 rfl rfl ?_
        refine y_ialdA C (q0 := 4) (t0 := 0) rfl rfl (by decide) (by omega) dX4_exits_18 ?_
        refine y_iload_n C 1 dX4_exits_19 rfl rfl ?_
        refine y_icmpN_ne C (tgt := 27) dX4_exits_20 (by decide) (by have := hfr i; omega) (by omega) (fun h20 => ?_) (fun h20 => ?_)
        · skip
          refine y_iconst C (v := nI 0) dX4_exits_27 (by decide) ?_
          refine y_iaddN C dX4_exits_28 ?_
          refine y_istore_n C (lv' := [(2, .int (nI (x + 0))), (0, .ref (aM 0)), (1, .int (nI b)), (3, .int (nI i))]) dX4_exits_29 rfl (by decide) rfl ?_
          refine y_iinc C (k := 3) (lv' := [(3, .int (nI (i + 1))), (2, .int (nI (x + 0))), (0, .ref (aM 0)), (1, .int (nI b))]) dX4_exits_30 rfl (yn_inc rfl) (by decide) rfl ?_
          refine y_goto C (tgt := 4) dX4_exits_33 (by decide) ?_
          refine y_sub [2, 3, 1, 0] (lv' := [(0, .ref (aM 0)), (1, .int (nI b)), (2, .int (nI (x + 0))), (3, .int (nI (i + 1)))]) rfl ?_
          exact ih4 _ _ (by omega) (by simp [exF, hx, h20]) (by omega)
        · skip
          refine y_iconst C (v := nI 1) dX4_exits_23 (by decide) ?_
          refine y_goto C (tgt := 28) dX4_exits_24 (by decide) ?_
          refine y_iaddN C dX4_exits_28 ?_
          refine y_istore_n C (lv' := [(2, .int (nI (x + 1))), (0, .ref (aM 0)), (1, .int (nI b)), (3, .int (nI i))]) dX4_exits_29 rfl (by decide) rfl ?_
          refine y_iinc C (k := 3) (lv' := [(3, .int (nI (i + 1))), (2, .int (nI (x + 1))), (0, .ref (aM 0)), (1, .int (nI b))]) dX4_exits_30 rfl (yn_inc rfl) (by decide) rfl ?_
          refine y_goto C (tgt := 4) dX4_exits_33 (by decide) ?_
          refine y_sub [2, 3, 1, 0] (lv' := [(0, .ref (aM 0)), (1, .int (nI b)), (2, .int (nI (x + 1))), (3, .int (nI (i + 1)))]) rfl ?_
          exact ih4 _ _ (by omega) (by simp [exF, hx, h20]) (by omega)
  refine y_sub [2, 3, 1, 0] (lv' := [(0, .ref (aM 0)), (1, .int (nI b)), (2, .int (nI 0)), (3, .int (nI 0))]) rfl ?_
  exact lp4 _ _ _ (Nat.zero_le _) rfl (Nat.lt_succ_self _)
theorem in_X4_all_4 : ∀ w ∈ wsX40, w ∈ wsX4_all := fun _ h => List.mem_cons_of_mem _ (List.mem_append_right _ h)
set_option maxHeartbeats 4000000 in
set_option maxRecDepth 100000 in
theorem c_X4_all (l : Launch) (D : va_G) (cI : ClassId) (aM : Nat → Nat) (th E : Nat) (vs : Nat → Int32) (B : Nat) (sz cd : Nat → Nat) (M : Nat) (fr tt : Nat → Nat) (na nb ta tb dl co he : Nat → Int32) (mi la : Int32)  : ctI l yX4_all wsX4_all (rmD 0 0 0) D [(cI, .int)] [.ref (aM 0)] (WM cI aM th E vs B sz cd M fr tt na nb ta tb dl co he mi la) (WM cI aM th E vs B sz cd M fr tt na nb ta tb dl co he mi la) (allF E) 0 0 := by
  refine ctI_of (by decide) rfl (Nat.le_of_ble_eq_true rfl) ?_
  intro p e s m args below meth c A Q C hnm K
  refine y_lv (lv' := [(0, .ref (aM 0))]) rfl ?_
  refine y_iconst C (v := (1 : Int32)) dX4_all_0 (by decide) ?_
  refine y_aload_n C 0 dX4_all_1 rfl rfl ?_
  refine y_get C in_X4_all_4 (ci := 4) rfl 1 (by decide) (List.mem_of_getElem? (i := 1) rfl) 0 rfl rfl dX4_all_2 ?_
  refine y_ishl C dX4_all_5 ?_
  refine y_iconst C (v := (1 : Int32)) dX4_all_6 (by decide) ?_
  refine y_isub C dX4_all_7 ?_
  exact K _ _ _ _ _ dX4_all_8 (rfl) (by decide) (by decide)
theorem in_X4_at_4 : ∀ w ∈ wsX40, w ∈ wsX4_at := fun _ h => List.mem_cons_of_mem _ (List.mem_append_right _ h)
set_option maxHeartbeats 4000000 in
set_option maxRecDepth 100000 in
theorem c_X4_at (l : Launch) (D : va_G) (cI : ClassId) (aM : Nat → Nat) (th E : Nat) (vs : Nat → Int32) (B : Nat) (sz cd : Nat → Nat) (M : Nat) (fr tt : Nat → Nat) (na nb ta tb dl co he : Nat → Int32) (mi la : Int32) (b k : Nat) (hcd : ∀ j, cd j < 24) (hb : b < 40) (hk : k < 12) : ctI l yX4_at wsX4_at (rmD 0 0 0) D [(cI, .int)] [.ref (aM 0), .int (nI b), .int (nI k)] (WM cI aM th E vs B sz cd M fr tt na nb ta tb dl co he mi la) (WM cI aM th E vs B sz cd M fr tt na nb ta tb dl co he mi la) (nI (cd (12 * b + k))) 0 0 := by
  refine ctI_of (by decide) rfl (Nat.le_of_ble_eq_true rfl) ?_
  intro p e s m args below meth c A Q C hnm K
  refine y_lv (lv' := [(0, .ref (aM 0)), (1, .int (nI b)), (2, .int (nI k))]) rfl ?_
  refine y_aload_n C 0 dX4_at_0 rfl rfl ?_
  refine y_get C in_X4_at_4 (ci := 4) rfl 5 (by decide) (List.mem_of_getElem? (i := 1) rfl) 0 rfl rfl dX4_at_1 ?_
  refine y_bipush C (v := nI 12) dX4_at_4 (by decide) ?_
  refine y_iload_n C 1 dX4_at_6 rfl rfl ?_
  refine y_imulN C dX4_at_7 ?_
  refine y_iload_n C 2 dX4_at_8 rfl rfl ?_
  refine y_iaddN C dX4_at_9 ?_
  refine y_ialdA C (q0 := 3) (t0 := 0) rfl rfl (by decide) (by omega) dX4_at_10 ?_
  exact K _ _ _ _ _ dX4_at_11 (rfl) (by decide) (by decide)
theorem in_X4_dependent_4 : ∀ w ∈ wsX40, w ∈ wsX4_dependent := fun _ h => List.mem_cons_of_mem _ (List.mem_append_right _ h)
set_option maxHeartbeats 4000000 in
set_option maxRecDepth 100000 in
theorem c_X4_dependent (l : Launch) (D : va_G) (cI : ClassId) (aM : Nat → Nat) (th E : Nat) (vs : Nat → Int32) (B : Nat) (sz cd : Nat → Nat) (M : Nat) (fr tt : Nat → Nat) (na nb ta tb dl co he : Nat → Int32) (mi la : Int32) (v : Nat) (hE : E ≤ 8) : ctI l yX4_dependent wsX4_dependent (rmD 0 0 0) D [(cI, .int)] [.ref (aM 0), .int (nI v)] (WM cI aM th E vs B sz cd M fr tt na nb ta tb dl co he mi la) (WM cI aM th E vs B sz cd M fr tt na nb ta tb dl co he mi la) (depF vs v E) 0 0 := by
  refine ctI_of (by decide) rfl (Nat.le_of_ble_eq_true rfl) ?_
  intro p e s m args below meth c A Q C hnm K
  refine y_lv (lv' := [(0, .ref (aM 0)), (1, .int (nI v))]) rfl ?_
  refine y_iconst C (v := (0 : Int32)) dX4_dependent_0 (by decide) ?_
  refine y_istore_n C (lv' := [(2, .int ((0 : Int32))), (0, .ref (aM 0)), (1, .int (nI v))]) dX4_dependent_1 rfl (by decide) rfl ?_
  refine y_iconst C (v := nI 0) dX4_dependent_2 (by decide) ?_
  refine y_istore_n C (lv' := [(3, .int (nI 0)), (2, .int ((0 : Int32))), (0, .ref (aM 0)), (1, .int (nI v))]) dX4_dependent_3 rfl (by decide) rfl ?_
  have lp4 : ∀ (n4 : Nat) (i : Nat) (x : Int32), i ≤ E → x = depF vs v i → (E - i) < n4 → yW p l e (rmD 0 0 0) s m args below meth c 4 D A Q 0 0 (WM cI aM th E vs B sz cd M fr tt na nb ta tb dl co he mi la) 4 [(0, .ref (aM 0)), (1, .int (nI v)), (2, .int x), (3, .int (nI i))] [] := by
    intro n4
    induction n4 with
    | zero => intro i x hi hx hm; exact absurd hm (Nat.not_lt_zero _)
    | succ n4 ih4 =>
      intro i x hi hx hm4
      refine y_iload_n C 3 dX4_dependent_4 rfl rfl ?_
      refine y_aload_n C 0 dX4_dependent_5 rfl rfl ?_
      refine y_get C in_X4_dependent_4 (ci := 4) rfl 1 (by decide) (List.mem_of_getElem? (i := 1) rfl) 0 rfl rfl dX4_dependent_6 ?_
      refine y_icmpN_ge C (tgt := 38) dX4_dependent_9 (by decide) (by omega) (by omega) (fun h9 => ?_) (fun h9 => ?_)
      · skip
        refine y_iload_n C 2 dX4_dependent_38 rfl rfl ?_
        exact K _ _ _ _ _ dX4_dependent_39 (by rw [hx, show i = E by omega]) (by decide) (by decide)
      · skip
        refine y_aload_n C 0 dX4_dependent_12 rfl rfl ?_
        refine y_get C in_X4_dependent_4 (ci := 4) rfl 2 (by decide) (List.mem_of_getElem? (i := 2) rfl) 0 rfl rfl dX4_dependent_13 ?_
        refine y_iload_n C 3 dX4_dependent_16 rfl rfl ?_
        refine y_iald C (q0 := 1) (t0 := 0) rfl rfl (by decide) (by omega) dX4_dependent_17 ?_
        refine y_iload_n C 1 dX4_dependent_18 rfl rfl ?_
        refine y_ishr C dX4_dependent_19 ?_
        refine y_iconst C (v := (1 : Int32)) dX4_dependent_20 (by decide) ?_
        refine y_iand C dX4_dependent_21 ?_
        refine y_iconst C (v := (1 : Int32)) dX4_dependent_22 (by decide) ?_
        refine y_icmp_ne C (tgt := 32) dX4_dependent_23 (by decide)  (fun h23 => ?_) (fun h23 => ?_)
        · skip
          refine y_iinc C (k := 3) (lv' := [(3, .int (nI (i + 1))), (0, .ref (aM 0)), (1, .int (nI v)), (2, .int x)]) dX4_dependent_32 rfl (yn_inc rfl) (by decide) rfl ?_
          refine y_goto C (tgt := 4) dX4_dependent_35 (by decide) ?_
          refine y_sub [1, 2, 3, 0] (lv' := [(0, .ref (aM 0)), (1, .int (nI v)), (2, .int x), (3, .int (nI (i + 1)))]) rfl ?_
          exact ih4 _ _ (by omega) (by simp [depF, oneF, hx, h23]) (by omega)
        · skip
          refine y_iload_n C 2 dX4_dependent_26 rfl rfl ?_
          refine y_iconst C (v := (1 : Int32)) dX4_dependent_27 (by decide) ?_
          refine y_iload_n C 3 dX4_dependent_28 rfl rfl ?_
          refine y_ishl C dX4_dependent_29 ?_
          refine y_ior C dX4_dependent_30 ?_
          refine y_istore_n C (lv' := [(2, .int (x ||| (((1 : Int32)) <<< ((nI i) &&& 31)))), (0, .ref (aM 0)), (1, .int (nI v)), (3, .int (nI i))]) dX4_dependent_31 rfl (by decide) rfl ?_
          refine y_iinc C (k := 3) (lv' := [(3, .int (nI (i + 1))), (2, .int (x ||| (((1 : Int32)) <<< ((nI i) &&& 31)))), (0, .ref (aM 0)), (1, .int (nI v))]) dX4_dependent_32 rfl (yn_inc rfl) (by decide) rfl ?_
          refine y_goto C (tgt := 4) dX4_dependent_35 (by decide) ?_
          refine y_sub [2, 3, 1, 0] (lv' := [(0, .ref (aM 0)), (1, .int (nI v)), (2, .int (x ||| (((1 : Int32)) <<< ((nI i) &&& 31)))), (3, .int (nI (i + 1)))]) rfl ?_
          exact ih4 _ _ (by omega) (by simp [depF, oneF, hx, h23]) (by omega)
  refine y_sub [2, 3, 1, 0] (lv' := [(0, .ref (aM 0)), (1, .int (nI v)), (2, .int ((0 : Int32))), (3, .int (nI 0))]) rfl ?_
  exact lp4 _ _ _ (Nat.zero_le _) rfl (Nat.lt_succ_self _)
theorem in_X4_keptBy_4 : ∀ w ∈ wsX40, w ∈ wsX4_keptBy := fun _ h => List.mem_cons_of_mem _ (List.mem_append_right _ h)
set_option maxHeartbeats 4000000 in
set_option maxRecDepth 100000 in
theorem c_X4_keptBy (l : Launch) (D : va_G) (cI : ClassId) (aM : Nat → Nat) (th E : Nat) (vs : Nat → Int32) (B : Nat) (sz cd : Nat → Nat) (M : Nat) (fr tt : Nat → Nat) (na nb ta tb dl co he : Nat → Int32) (mi la : Int32) (b : Nat) (hE : E ≤ 8) (hsz : ∀ j, sz j ≤ 12) (hcd : ∀ j, cd j < 24) (hb : b < 40) : ctI l yX4_keptBy wsX4_keptBy (rmD 1 0 0) D [(cI, .int)] [.ref (aM 0), .int (nI b)] (WM cI aM th E vs B sz cd M fr tt na nb ta tb dl co he mi la) (WM cI aM th E vs B sz cd M fr tt na nb ta tb dl co he mi la) (kpF E vs cd b (sz b)) 0 0 := by
  refine ctI_of (by decide) rfl (Nat.le_of_ble_eq_true rfl) ?_
  intro p e s m args below meth c A Q C hnm K
  refine y_lv (lv' := [(0, .ref (aM 0)), (1, .int (nI b))]) rfl ?_
  refine y_aload_n C 0 dX4_keptBy_0 rfl rfl ?_
  refine y_callI C (wr := []) 0 (c_X4_all l D cI aM th E vs B sz cd M fr tt na nb ta tb dl co he mi la) gX4_keptBy_X4_all rfl rfl rfl (by decide +kernel) ⟨Nat.le_of_ble_eq_true rfl, Nat.le_of_ble_eq_true rfl⟩ (q0 := 0) (ci := 4) rfl rfl rfl rfl rfl (Nat.le_of_ble_eq_true rfl) dX4_keptBy_1 ⟨Nat.le_of_ble_eq_true rfl, Nat.le_of_ble_eq_true rfl⟩ ?_
  refine y_ws (ws' := WM cI aM th E vs B sz cd M fr tt na nb ta tb dl co he mi la) rfl ?_
  refine y_istore_n C (lv' := [(2, .int (allF E)), (0, .ref (aM 0)), (1, .int (nI b))]) dX4_keptBy_4 rfl (by decide) rfl ?_
  refine y_iconst C (v := nI 0) dX4_keptBy_5 (by decide) ?_
  refine y_istore_n C (lv' := [(3, .int (nI 0)), (2, .int (allF E)), (0, .ref (aM 0)), (1, .int (nI b))]) dX4_keptBy_6 rfl (by decide) rfl ?_
  have lp7 : ∀ (n7 : Nat) (i : Nat) (x : Int32), i ≤ sz b → x = kpF E vs cd b i → (sz b - i) < n7 → yW p l e (rmD 1 0 0) s m args below meth c 4 D A Q 0 0 (WM cI aM th E vs B sz cd M fr tt na nb ta tb dl co he mi la) 7 [(0, .ref (aM 0)), (1, .int (nI b)), (2, .int x), (3, .int (nI i))] [] := by
    intro n7
    induction n7 with
    | zero => intro i x hi hx hm; exact absurd hm (Nat.not_lt_zero _)
    | succ n7 ih7 =>
      intro i x hi hx hm7
      have hzb := hsz b
      refine y_iload_n C 3 dX4_keptBy_7 rfl rfl ?_
      refine y_aload_n C 0 dX4_keptBy_8 rfl rfl ?_
      refine y_get C in_X4_keptBy_4 (ci := 4) rfl 4 (by decide) (List.mem_of_getElem? (i := 1) rfl) 0 rfl rfl dX4_keptBy_9 ?_
      refine y_iload_n C 1 dX4_keptBy_12 rfl rfl ?_
      refine y_ialdA C (q0 := 2) (t0 := 0) rfl rfl (by decide) (by omega) dX4_keptBy_13 ?_
      refine y_icmpN_ge C (tgt := 52) dX4_keptBy_14 (by decide) (by omega) (by have := hsz b; omega) (fun h14 => ?_) (fun h14 => ?_)
      · skip
        refine y_iload_n C 2 dX4_keptBy_52 rfl rfl ?_
        exact K _ _ _ _ _ dX4_keptBy_53 (by rw [hx, show i = sz b by omega]) (by decide) (by decide)
      · skip
        refine y_aload_n C 0 dX4_keptBy_17 rfl rfl ?_
        refine y_iload_n C 1 dX4_keptBy_18 rfl rfl ?_
        refine y_iload_n C 3 dX4_keptBy_19 rfl rfl ?_
        refine y_callI C (wr := []) 2 (c_X4_at l D cI aM th E vs B sz cd M fr tt na nb ta tb dl co he mi la b i hcd hb (by omega)) gX4_keptBy_X4_at rfl rfl rfl (by decide +kernel) ⟨Nat.le_of_ble_eq_true rfl, Nat.le_of_ble_eq_true rfl⟩ (q0 := 0) (ci := 4) rfl rfl rfl rfl rfl (Nat.le_of_ble_eq_true rfl) dX4_keptBy_20 ⟨Nat.le_of_ble_eq_true rfl, Nat.le_of_ble_eq_true rfl⟩ ?_
        refine y_ws (ws' := WM cI aM th E vs B sz cd M fr tt na nb ta tb dl co he mi la) rfl ?_
        refine y_iconst C (v := nI 3) dX4_keptBy_23 (by decide) ?_
        refine y_iremN C dX4_keptBy_24 (by have := hcd (12 * b + i); omega) (by decide) (by decide) ?_
        refine y_iconst C (v := nI 2) dX4_keptBy_25 (by decide) ?_
        refine y_icmpN_ne C (tgt := 46) dX4_keptBy_26 (by decide) (by have := hcd (12 * b + i); omega) (by omega) (fun h26 => ?_) (fun h26 => ?_)
        · skip
          refine y_iinc C (k := 3) (lv' := [(3, .int (nI (i + 1))), (0, .ref (aM 0)), (1, .int (nI b)), (2, .int x)]) dX4_keptBy_46 rfl (yn_inc rfl) (by decide) rfl ?_
          refine y_goto C (tgt := 7) dX4_keptBy_49 (by decide) ?_
          refine y_sub [1, 2, 3, 0] (lv' := [(0, .ref (aM 0)), (1, .int (nI b)), (2, .int x), (3, .int (nI (i + 1)))]) rfl ?_
          exact ih7 _ _ (by omega) (by simp [kpF, hx, h26]) (by omega)
        · skip
          refine y_iload_n C 2 dX4_keptBy_29 rfl rfl ?_
          refine y_aload_n C 0 dX4_keptBy_30 rfl rfl ?_
          refine y_aload_n C 0 dX4_keptBy_31 rfl rfl ?_
          refine y_iload_n C 1 dX4_keptBy_32 rfl rfl ?_
          refine y_iload_n C 3 dX4_keptBy_33 rfl rfl ?_
          refine y_callI C (wr := []) 2 (c_X4_at l D cI aM th E vs B sz cd M fr tt na nb ta tb dl co he mi la b i hcd hb (by omega)) gX4_keptBy_X4_at rfl rfl rfl (by decide +kernel) ⟨Nat.le_of_ble_eq_true rfl, Nat.le_of_ble_eq_true rfl⟩ (q0 := 0) (ci := 4) rfl rfl rfl rfl rfl (Nat.le_of_ble_eq_true rfl) dX4_keptBy_34 ⟨Nat.le_of_ble_eq_true rfl, Nat.le_of_ble_eq_true rfl⟩ ?_
          refine y_ws (ws' := WM cI aM th E vs B sz cd M fr tt na nb ta tb dl co he mi la) rfl ?_
          refine y_iconst C (v := nI 3) dX4_keptBy_37 (by decide) ?_
          refine y_idivN C dX4_keptBy_38 (by have := hcd (12 * b + i); omega) (by decide) (by decide) ?_
          refine y_callI C (wr := []) 1 (c_X4_dependent l D cI aM th E vs B sz cd M fr tt na nb ta tb dl co he mi la ((cd (12 * b + i)) / 3) hE) gX4_keptBy_X4_dependent rfl rfl rfl (by decide +kernel) ⟨Nat.le_of_ble_eq_true rfl, Nat.le_of_ble_eq_true rfl⟩ (q0 := 0) (ci := 4) rfl rfl rfl rfl rfl (Nat.le_of_ble_eq_true rfl) dX4_keptBy_39 ⟨Nat.le_of_ble_eq_true rfl, Nat.le_of_ble_eq_true rfl⟩ ?_
          refine y_ws (ws' := WM cI aM th E vs B sz cd M fr tt na nb ta tb dl co he mi la) rfl ?_
          refine y_iconst C (v := (-1)) dX4_keptBy_42 (by decide) ?_
          refine y_ixor C dX4_keptBy_43 ?_
          refine y_iand C dX4_keptBy_44 ?_
          refine y_istore_n C (lv' := [(2, .int (x &&& ((depF vs ((cd (12 * b + i)) / 3) E) ^^^ ((-1))))), (0, .ref (aM 0)), (1, .int (nI b)), (3, .int (nI i))]) dX4_keptBy_45 rfl (by decide) rfl ?_
          refine y_iinc C (k := 3) (lv' := [(3, .int (nI (i + 1))), (2, .int (x &&& ((depF vs ((cd (12 * b + i)) / 3) E) ^^^ ((-1))))), (0, .ref (aM 0)), (1, .int (nI b))]) dX4_keptBy_46 rfl (yn_inc rfl) (by decide) rfl ?_
          refine y_goto C (tgt := 7) dX4_keptBy_49 (by decide) ?_
          refine y_sub [2, 3, 1, 0] (lv' := [(0, .ref (aM 0)), (1, .int (nI b)), (2, .int (x &&& ((depF vs ((cd (12 * b + i)) / 3) E) ^^^ ((-1))))), (3, .int (nI (i + 1)))]) rfl ?_
          exact ih7 _ _ (by omega) (by simp [kpF, hx, h26]) (by omega)
  refine y_sub [2, 3, 1, 0] (lv' := [(0, .ref (aM 0)), (1, .int (nI b)), (2, .int (allF E)), (3, .int (nI 0))]) rfl ?_
  exact lp7 _ _ _ (Nat.zero_le _) rfl (Nat.lt_succ_self _)
end
