section
-- ===== PART A: goes FIRST, ahead of the names: the tables' words, and 'selects' of the private methods out of them =====
/-- a private method of a class that the tables say can be made, by its rows of tables_1 -/
def lw_okq (q : MethodName × Nat) : Prop := (q.1.cls ≠ "java/lang/invoke/MethodHandle" ∧ q.1.cls ≠ "java/lang/invoke/VarHandle") ∧ Cond.instantiable q.1.cls q.2 ∈ tables_1 ∧ Cond.privateMethod q.1 ∈ tables_1 ∧ Cond.instanceMethod q.1 ∈ tables_1
theorem lw_p0 : lw_okq (⟨"LayoutSolver$Dictionary", "startLimit", "(III)V"⟩, 12) := ⟨⟨by decide +kernel, by decide +kernel⟩, List.mem_of_getElem? (i := 104) (by decide +kernel), List.mem_of_getElem? (i := 112) (by decide +kernel), List.mem_of_getElem? (i := 113) (by decide +kernel)⟩
theorem lw_p1 : lw_okq (⟨"LayoutSolver", "enter", "(LLayoutSolver$Constraint;)I"⟩, 11) := ⟨⟨by decide +kernel, by decide +kernel⟩, List.mem_of_getElem? (i := 15) (by decide +kernel), List.mem_of_getElem? (i := 264) (by decide +kernel), List.mem_of_getElem? (i := 265) (by decide +kernel)⟩
theorem lw_p2 : lw_okq (⟨"LayoutSolver", "change", "(ILLayoutSolver$Constraint;)Z"⟩, 11) := ⟨⟨by decide +kernel, by decide +kernel⟩, List.mem_of_getElem? (i := 15) (by decide +kernel), List.mem_of_getElem? (i := 272) (by decide +kernel), List.mem_of_getElem? (i := 273) (by decide +kernel)⟩
theorem lw_p3 : lw_okq (⟨"LayoutSolver", "put", "(ILLayoutSolver$Constraint;)V"⟩, 11) := ⟨⟨by decide +kernel, by decide +kernel⟩, List.mem_of_getElem? (i := 15) (by decide +kernel), List.mem_of_getElem? (i := 280) (by decide +kernel), List.mem_of_getElem? (i := 281) (by decide +kernel)⟩
theorem lw_p4 : lw_okq (⟨"LayoutSolver$Dictionary", "addVariable", "([JII)V"⟩, 12) := ⟨⟨by decide +kernel, by decide +kernel⟩, List.mem_of_getElem? (i := 104) (by decide +kernel), List.mem_of_getElem? (i := 304) (by decide +kernel), List.mem_of_getElem? (i := 305) (by decide +kernel)⟩
theorem lw_p5 : lw_okq (⟨"LayoutSolver$Dictionary", "descend", "(III)V"⟩, 12) := ⟨⟨by decide +kernel, by decide +kernel⟩, List.mem_of_getElem? (i := 104) (by decide +kernel), List.mem_of_getElem? (i := 320) (by decide +kernel), List.mem_of_getElem? (i := 321) (by decide +kernel)⟩
theorem lw_p6 : lw_okq (⟨"LayoutSolver$Dictionary", "findSlopes", "(II)V"⟩, 12) := ⟨⟨by decide +kernel, by decide +kernel⟩, List.mem_of_getElem? (i := 104) (by decide +kernel), List.mem_of_getElem? (i := 325) (by decide +kernel), List.mem_of_getElem? (i := 326) (by decide +kernel)⟩
theorem lw_p7 : lw_okq (⟨"LayoutSolver$Dictionary", "addSlopes", "(III)V"⟩, 12) := ⟨⟨by decide +kernel, by decide +kernel⟩, List.mem_of_getElem? (i := 104) (by decide +kernel), List.mem_of_getElem? (i := 329) (by decide +kernel), List.mem_of_getElem? (i := 330) (by decide +kernel)⟩
theorem lw_p8 : lw_okq (⟨"LayoutSolver$Dictionary", "enteringColumn", "()I"⟩, 12) := ⟨⟨by decide +kernel, by decide +kernel⟩, List.mem_of_getElem? (i := 104) (by decide +kernel), List.mem_of_getElem? (i := 333) (by decide +kernel), List.mem_of_getElem? (i := 334) (by decide +kernel)⟩
theorem lw_p9 : lw_okq (⟨"LayoutSolver$Dictionary", "directionOf", "(I)I"⟩, 12) := ⟨⟨by decide +kernel, by decide +kernel⟩, List.mem_of_getElem? (i := 104) (by decide +kernel), List.mem_of_getElem? (i := 337) (by decide +kernel), List.mem_of_getElem? (i := 338) (by decide +kernel)⟩
theorem lw_p10 : lw_okq (⟨"LayoutSolver$Dictionary", "leavingRow", "(II)I"⟩, 12) := ⟨⟨by decide +kernel, by decide +kernel⟩, List.mem_of_getElem? (i := 104) (by decide +kernel), List.mem_of_getElem? (i := 344) (by decide +kernel), List.mem_of_getElem? (i := 345) (by decide +kernel)⟩
theorem lw_p11 : lw_okq (⟨"LayoutSolver$Dictionary", "exchange", "(III)V"⟩, 12) := ⟨⟨by decide +kernel, by decide +kernel⟩, List.mem_of_getElem? (i := 104) (by decide +kernel), List.mem_of_getElem? (i := 351) (by decide +kernel), List.mem_of_getElem? (i := 352) (by decide +kernel)⟩
theorem lw_p12 : lw_okq (⟨"LayoutSolver$Dictionary", "substitute", "([J[JI)V"⟩, 12) := ⟨⟨by decide +kernel, by decide +kernel⟩, List.mem_of_getElem? (i := 104) (by decide +kernel), List.mem_of_getElem? (i := 355) (by decide +kernel), List.mem_of_getElem? (i := 356) (by decide +kernel)⟩
theorem lw_p13 : lw_okq (⟨"LayoutSolver$Dictionary", "costOf", "(I)J"⟩, 12) := ⟨⟨by decide +kernel, by decide +kernel⟩, List.mem_of_getElem? (i := 104) (by decide +kernel), List.mem_of_getElem? (i := 359) (by decide +kernel), List.mem_of_getElem? (i := 360) (by decide +kernel)⟩
theorem lw_p14 : lw_okq (⟨"LayoutSolver", "clearDraft", "()V"⟩, 11) := ⟨⟨by decide +kernel, by decide +kernel⟩, List.mem_of_getElem? (i := 15) (by decide +kernel), List.mem_of_getElem? (i := 386) (by decide +kernel), List.mem_of_getElem? (i := 387) (by decide +kernel)⟩
theorem lw_p15 : lw_okq (⟨"LayoutSolver$Reader", "begin", "()V"⟩, 9) := ⟨⟨by decide +kernel, by decide +kernel⟩, List.mem_of_getElem? (i := 38) (by decide +kernel), List.mem_of_getElem? (i := 468) (by decide +kernel), List.mem_of_getElem? (i := 469) (by decide +kernel)⟩
def lw_privs_1 : List (MethodName × Nat) := [(⟨"LayoutSolver$Dictionary", "startLimit", "(III)V"⟩, 12), (⟨"LayoutSolver", "enter", "(LLayoutSolver$Constraint;)I"⟩, 11), (⟨"LayoutSolver", "change", "(ILLayoutSolver$Constraint;)Z"⟩, 11), (⟨"LayoutSolver", "put", "(ILLayoutSolver$Constraint;)V"⟩, 11), (⟨"LayoutSolver$Dictionary", "addVariable", "([JII)V"⟩, 12), (⟨"LayoutSolver$Dictionary", "descend", "(III)V"⟩, 12), (⟨"LayoutSolver$Dictionary", "findSlopes", "(II)V"⟩, 12), (⟨"LayoutSolver$Dictionary", "addSlopes", "(III)V"⟩, 12), (⟨"LayoutSolver$Dictionary", "enteringColumn", "()I"⟩, 12), (⟨"LayoutSolver$Dictionary", "directionOf", "(I)I"⟩, 12), (⟨"LayoutSolver$Dictionary", "leavingRow", "(II)I"⟩, 12), (⟨"LayoutSolver$Dictionary", "exchange", "(III)V"⟩, 12), (⟨"LayoutSolver$Dictionary", "substitute", "([J[JI)V"⟩, 12), (⟨"LayoutSolver$Dictionary", "costOf", "(I)J"⟩, 12), (⟨"LayoutSolver", "clearDraft", "()V"⟩, 11), (⟨"LayoutSolver$Reader", "begin", "()V"⟩, 9)]
theorem lw_r1 : ∀ q ∈ lw_privs_1, lw_okq q := List.forall_mem_cons.mpr ⟨lw_p0, List.forall_mem_cons.mpr ⟨lw_p1, List.forall_mem_cons.mpr ⟨lw_p2, List.forall_mem_cons.mpr ⟨lw_p3, List.forall_mem_cons.mpr ⟨lw_p4, List.forall_mem_cons.mpr ⟨lw_p5, List.forall_mem_cons.mpr ⟨lw_p6, List.forall_mem_cons.mpr ⟨lw_p7, List.forall_mem_cons.mpr ⟨lw_p8, List.forall_mem_cons.mpr ⟨lw_p9, List.forall_mem_cons.mpr ⟨lw_p10, List.forall_mem_cons.mpr ⟨lw_p11, List.forall_mem_cons.mpr ⟨lw_p12, List.forall_mem_cons.mpr ⟨lw_p13, List.forall_mem_cons.mpr ⟨lw_p14, List.forall_mem_cons.mpr ⟨lw_p15, fun _ h => absurd h List.not_mem_nil⟩⟩⟩⟩⟩⟩⟩⟩⟩⟩⟩⟩⟩⟩⟩⟩
theorem lw_p16 : lw_okq (⟨"LayoutSolver$Reader", "takes", "(C)Z"⟩, 9) := ⟨⟨by decide +kernel, by decide +kernel⟩, List.mem_of_getElem? (i := 38) (by decide +kernel), List.mem_of_getElem? (i := 477) (by decide +kernel), List.mem_of_getElem? (i := 478) (by decide +kernel)⟩
theorem lw_p17 : lw_okq (⟨"LayoutSolver$Reader", "takesSign", "(CZ)Z"⟩, 9) := ⟨⟨by decide +kernel, by decide +kernel⟩, List.mem_of_getElem? (i := 38) (by decide +kernel), List.mem_of_getElem? (i := 481) (by decide +kernel), List.mem_of_getElem? (i := 482) (by decide +kernel)⟩
theorem lw_p18 : lw_okq (⟨"LayoutSolver$Reader", "takesFactor", "(C)Z"⟩, 9) := ⟨⟨by decide +kernel, by decide +kernel⟩, List.mem_of_getElem? (i := 38) (by decide +kernel), List.mem_of_getElem? (i := 485) (by decide +kernel), List.mem_of_getElem? (i := 486) (by decide +kernel)⟩
theorem lw_p19 : lw_okq (⟨"LayoutSolver$Reader", "takesVariable", "(C)Z"⟩, 9) := ⟨⟨by decide +kernel, by decide +kernel⟩, List.mem_of_getElem? (i := 38) (by decide +kernel), List.mem_of_getElem? (i := 489) (by decide +kernel), List.mem_of_getElem? (i := 490) (by decide +kernel)⟩
theorem lw_p20 : lw_okq (⟨"LayoutSolver$Reader", "takesRelation", "(C)Z"⟩, 9) := ⟨⟨by decide +kernel, by decide +kernel⟩, List.mem_of_getElem? (i := 38) (by decide +kernel), List.mem_of_getElem? (i := 493) (by decide +kernel), List.mem_of_getElem? (i := 494) (by decide +kernel)⟩
theorem lw_p21 : lw_okq (⟨"LayoutSolver$Reader", "takesConstantSign", "(C)Z"⟩, 9) := ⟨⟨by decide +kernel, by decide +kernel⟩, List.mem_of_getElem? (i := 38) (by decide +kernel), List.mem_of_getElem? (i := 497) (by decide +kernel), List.mem_of_getElem? (i := 498) (by decide +kernel)⟩
theorem lw_p22 : lw_okq (⟨"LayoutSolver$Reader", "takesDigit", "(C)Z"⟩, 9) := ⟨⟨by decide +kernel, by decide +kernel⟩, List.mem_of_getElem? (i := 38) (by decide +kernel), List.mem_of_getElem? (i := 501) (by decide +kernel), List.mem_of_getElem? (i := 502) (by decide +kernel)⟩
theorem lw_p23 : lw_okq (⟨"LayoutSolver$Reader", "takesAt", "(C)Z"⟩, 9) := ⟨⟨by decide +kernel, by decide +kernel⟩, List.mem_of_getElem? (i := 38) (by decide +kernel), List.mem_of_getElem? (i := 505) (by decide +kernel), List.mem_of_getElem? (i := 506) (by decide +kernel)⟩
theorem lw_p24 : lw_okq (⟨"LayoutSolver$Reader", "takesNextDigit", "(C)Z"⟩, 9) := ⟨⟨by decide +kernel, by decide +kernel⟩, List.mem_of_getElem? (i := 38) (by decide +kernel), List.mem_of_getElem? (i := 509) (by decide +kernel), List.mem_of_getElem? (i := 510) (by decide +kernel)⟩
theorem lw_p25 : lw_okq (⟨"LayoutSolver$Reader", "takesStrength", "(C)Z"⟩, 9) := ⟨⟨by decide +kernel, by decide +kernel⟩, List.mem_of_getElem? (i := 38) (by decide +kernel), List.mem_of_getElem? (i := 513) (by decide +kernel), List.mem_of_getElem? (i := 514) (by decide +kernel)⟩
theorem lw_p26 : lw_okq (⟨"LayoutSolver$Reader", "takesWeight", "(C)Z"⟩, 9) := ⟨⟨by decide +kernel, by decide +kernel⟩, List.mem_of_getElem? (i := 38) (by decide +kernel), List.mem_of_getElem? (i := 517) (by decide +kernel), List.mem_of_getElem? (i := 518) (by decide +kernel)⟩
theorem lw_p27 : lw_okq (⟨"LayoutSolver", "findCosts", "(LLayoutSolver$Costs;)V"⟩, 11) := ⟨⟨by decide +kernel, by decide +kernel⟩, List.mem_of_getElem? (i := 15) (by decide +kernel), List.mem_of_getElem? (i := 585) (by decide +kernel), List.mem_of_getElem? (i := 586) (by decide +kernel)⟩
theorem lw_p28 : lw_okq (⟨"LayoutSolver", "variableAt", "(IIII)J"⟩, 11) := ⟨⟨by decide +kernel, by decide +kernel⟩, List.mem_of_getElem? (i := 15) (by decide +kernel), List.mem_of_getElem? (i := 617) (by decide +kernel), List.mem_of_getElem? (i := 618) (by decide +kernel)⟩
theorem lw_p29 : lw_okq (⟨"LayoutSolver", "isAmbiguous", "(I)Z"⟩, 11) := ⟨⟨by decide +kernel, by decide +kernel⟩, List.mem_of_getElem? (i := 15) (by decide +kernel), List.mem_of_getElem? (i := 643) (by decide +kernel), List.mem_of_getElem? (i := 644) (by decide +kernel)⟩
theorem lw_p30 : lw_okq (⟨"LayoutSolver", "remainingBlockers", "()I"⟩, 11) := ⟨⟨by decide +kernel, by decide +kernel⟩, List.mem_of_getElem? (i := 15) (by decide +kernel), List.mem_of_getElem? (i := 675) (by decide +kernel), List.mem_of_getElem? (i := 676) (by decide +kernel)⟩
theorem lw_p31 : lw_okq (⟨"LayoutSolver", "findCostsAt", "(IILLayoutSolver$Costs;)V"⟩, 11) := ⟨⟨by decide +kernel, by decide +kernel⟩, List.mem_of_getElem? (i := 15) (by decide +kernel), List.mem_of_getElem? (i := 684) (by decide +kernel), List.mem_of_getElem? (i := 685) (by decide +kernel)⟩
def lw_privs_2 : List (MethodName × Nat) := [(⟨"LayoutSolver$Reader", "takes", "(C)Z"⟩, 9), (⟨"LayoutSolver$Reader", "takesSign", "(CZ)Z"⟩, 9), (⟨"LayoutSolver$Reader", "takesFactor", "(C)Z"⟩, 9), (⟨"LayoutSolver$Reader", "takesVariable", "(C)Z"⟩, 9), (⟨"LayoutSolver$Reader", "takesRelation", "(C)Z"⟩, 9), (⟨"LayoutSolver$Reader", "takesConstantSign", "(C)Z"⟩, 9), (⟨"LayoutSolver$Reader", "takesDigit", "(C)Z"⟩, 9), (⟨"LayoutSolver$Reader", "takesAt", "(C)Z"⟩, 9), (⟨"LayoutSolver$Reader", "takesNextDigit", "(C)Z"⟩, 9), (⟨"LayoutSolver$Reader", "takesStrength", "(C)Z"⟩, 9), (⟨"LayoutSolver$Reader", "takesWeight", "(C)Z"⟩, 9), (⟨"LayoutSolver", "findCosts", "(LLayoutSolver$Costs;)V"⟩, 11), (⟨"LayoutSolver", "variableAt", "(IIII)J"⟩, 11), (⟨"LayoutSolver", "isAmbiguous", "(I)Z"⟩, 11), (⟨"LayoutSolver", "remainingBlockers", "()I"⟩, 11), (⟨"LayoutSolver", "findCostsAt", "(IILLayoutSolver$Costs;)V"⟩, 11)]
theorem lw_r2 : ∀ q ∈ lw_privs_2, lw_okq q := List.forall_mem_cons.mpr ⟨lw_p16, List.forall_mem_cons.mpr ⟨lw_p17, List.forall_mem_cons.mpr ⟨lw_p18, List.forall_mem_cons.mpr ⟨lw_p19, List.forall_mem_cons.mpr ⟨lw_p20, List.forall_mem_cons.mpr ⟨lw_p21, List.forall_mem_cons.mpr ⟨lw_p22, List.forall_mem_cons.mpr ⟨lw_p23, List.forall_mem_cons.mpr ⟨lw_p24, List.forall_mem_cons.mpr ⟨lw_p25, List.forall_mem_cons.mpr ⟨lw_p26, List.forall_mem_cons.mpr ⟨lw_p27, List.forall_mem_cons.mpr ⟨lw_p28, List.forall_mem_cons.mpr ⟨lw_p29, List.forall_mem_cons.mpr ⟨lw_p30, List.forall_mem_cons.mpr ⟨lw_p31, fun _ h => absurd h List.not_mem_nil⟩⟩⟩⟩⟩⟩⟩⟩⟩⟩⟩⟩⟩⟩⟩⟩
theorem lw_p32 : lw_okq (⟨"LayoutSolver", "keepsCosts", "(ILLayoutSolver$Constraint;I)Z"⟩, 11) := ⟨⟨by decide +kernel, by decide +kernel⟩, List.mem_of_getElem? (i := 15) (by decide +kernel), List.mem_of_getElem? (i := 715) (by decide +kernel), List.mem_of_getElem? (i := 716) (by decide +kernel)⟩
theorem lw_p33 : lw_okq (⟨"LayoutSolverModel", "copyIn", "(I[II)V"⟩, 36) := ⟨⟨by decide +kernel, by decide +kernel⟩, List.mem_of_getElem? (i := 747) (by decide +kernel), List.mem_of_getElem? (i := 866) (by decide +kernel), List.mem_of_getElem? (i := 867) (by decide +kernel)⟩
theorem lw_p34 : lw_okq (⟨"LayoutSolverModel", "come", "([IIIII)I"⟩, 36) := ⟨⟨by decide +kernel, by decide +kernel⟩, List.mem_of_getElem? (i := 747) (by decide +kernel), List.mem_of_getElem? (i := 897) (by decide +kernel), List.mem_of_getElem? (i := 898) (by decide +kernel)⟩
theorem lw_p35 : lw_okq (⟨"LayoutSolverModel", "constraintsThere", "()I"⟩, 36) := ⟨⟨by decide +kernel, by decide +kernel⟩, List.mem_of_getElem? (i := 747) (by decide +kernel), List.mem_of_getElem? (i := 901) (by decide +kernel), List.mem_of_getElem? (i := 902) (by decide +kernel)⟩
theorem lw_p36 : lw_okq (⟨"LayoutSolverModel", "of", "(II)I"⟩, 36) := ⟨⟨by decide +kernel, by decide +kernel⟩, List.mem_of_getElem? (i := 747) (by decide +kernel), List.mem_of_getElem? (i := 905) (by decide +kernel), List.mem_of_getElem? (i := 906) (by decide +kernel)⟩
theorem lw_p37 : lw_okq (⟨"LayoutSolverModel", "keep", "(I)V"⟩, 36) := ⟨⟨by decide +kernel, by decide +kernel⟩, List.mem_of_getElem? (i := 747) (by decide +kernel), List.mem_of_getElem? (i := 909) (by decide +kernel), List.mem_of_getElem? (i := 910) (by decide +kernel)⟩
theorem lw_p38 : lw_okq (⟨"LayoutSolverModel", "copyOut", "(I[II)V"⟩, 36) := ⟨⟨by decide +kernel, by decide +kernel⟩, List.mem_of_getElem? (i := 747) (by decide +kernel), List.mem_of_getElem? (i := 913) (by decide +kernel), List.mem_of_getElem? (i := 914) (by decide +kernel)⟩
theorem lw_p39 : lw_okq (⟨"LayoutSolverModel", "put", "(I[IIIII)V"⟩, 36) := ⟨⟨by decide +kernel, by decide +kernel⟩, List.mem_of_getElem? (i := 747) (by decide +kernel), List.mem_of_getElem? (i := 917) (by decide +kernel), List.mem_of_getElem? (i := 918) (by decide +kernel)⟩
theorem lw_p40 : lw_okq (⟨"LayoutSolverModel", "isTaken", "(I)Z"⟩, 36) := ⟨⟨by decide +kernel, by decide +kernel⟩, List.mem_of_getElem? (i := 747) (by decide +kernel), List.mem_of_getElem? (i := 921) (by decide +kernel), List.mem_of_getElem? (i := 922) (by decide +kernel)⟩
theorem lw_p41 : lw_okq (⟨"LayoutSolverModel", "isPossible", "(I)Z"⟩, 36) := ⟨⟨by decide +kernel, by decide +kernel⟩, List.mem_of_getElem? (i := 747) (by decide +kernel), List.mem_of_getElem? (i := 925) (by decide +kernel), List.mem_of_getElem? (i := 926) (by decide +kernel)⟩
theorem lw_p42 : lw_okq (⟨"LayoutSolverModel", "layRows", "(IZ)V"⟩, 36) := ⟨⟨by decide +kernel, by decide +kernel⟩, List.mem_of_getElem? (i := 747) (by decide +kernel), List.mem_of_getElem? (i := 929) (by decide +kernel), List.mem_of_getElem? (i := 930) (by decide +kernel)⟩
theorem lw_p43 : lw_okq (⟨"LayoutSolverModel", "beginRows", "()V"⟩, 36) := ⟨⟨by decide +kernel, by decide +kernel⟩, List.mem_of_getElem? (i := 747) (by decide +kernel), List.mem_of_getElem? (i := 933) (by decide +kernel), List.mem_of_getElem? (i := 934) (by decide +kernel)⟩
theorem lw_p44 : lw_okq (⟨"LayoutSolverModel", "isThere", "(I)Z"⟩, 36) := ⟨⟨by decide +kernel, by decide +kernel⟩, List.mem_of_getElem? (i := 747) (by decide +kernel), List.mem_of_getElem? (i := 939) (by decide +kernel), List.mem_of_getElem? (i := 940) (by decide +kernel)⟩
theorem lw_p45 : lw_okq (⟨"LayoutSolverModel", "addConstraint", "(I)V"⟩, 36) := ⟨⟨by decide +kernel, by decide +kernel⟩, List.mem_of_getElem? (i := 747) (by decide +kernel), List.mem_of_getElem? (i := 943) (by decide +kernel), List.mem_of_getElem? (i := 944) (by decide +kernel)⟩
theorem lw_p46 : lw_okq (⟨"LayoutSolverModel", "addRow", "(III)V"⟩, 36) := ⟨⟨by decide +kernel, by decide +kernel⟩, List.mem_of_getElem? (i := 747) (by decide +kernel), List.mem_of_getElem? (i := 950) (by decide +kernel), List.mem_of_getElem? (i := 951) (by decide +kernel)⟩
theorem lw_p47 : lw_okq (⟨"LayoutSolverModel", "canHold", "()Z"⟩, 36) := ⟨⟨by decide +kernel, by decide +kernel⟩, List.mem_of_getElem? (i := 747) (by decide +kernel), List.mem_of_getElem? (i := 957) (by decide +kernel), List.mem_of_getElem? (i := 958) (by decide +kernel)⟩
def lw_privs_3 : List (MethodName × Nat) := [(⟨"LayoutSolver", "keepsCosts", "(ILLayoutSolver$Constraint;I)Z"⟩, 11), (⟨"LayoutSolverModel", "copyIn", "(I[II)V"⟩, 36), (⟨"LayoutSolverModel", "come", "([IIIII)I"⟩, 36), (⟨"LayoutSolverModel", "constraintsThere", "()I"⟩, 36), (⟨"LayoutSolverModel", "of", "(II)I"⟩, 36), (⟨"LayoutSolverModel", "keep", "(I)V"⟩, 36), (⟨"LayoutSolverModel", "copyOut", "(I[II)V"⟩, 36), (⟨"LayoutSolverModel", "put", "(I[IIIII)V"⟩, 36), (⟨"LayoutSolverModel", "isTaken", "(I)Z"⟩, 36), (⟨"LayoutSolverModel", "isPossible", "(I)Z"⟩, 36), (⟨"LayoutSolverModel", "layRows", "(IZ)V"⟩, 36), (⟨"LayoutSolverModel", "beginRows", "()V"⟩, 36), (⟨"LayoutSolverModel", "isThere", "(I)Z"⟩, 36), (⟨"LayoutSolverModel", "addConstraint", "(I)V"⟩, 36), (⟨"LayoutSolverModel", "addRow", "(III)V"⟩, 36), (⟨"LayoutSolverModel", "canHold", "()Z"⟩, 36)]
theorem lw_r3 : ∀ q ∈ lw_privs_3, lw_okq q := List.forall_mem_cons.mpr ⟨lw_p32, List.forall_mem_cons.mpr ⟨lw_p33, List.forall_mem_cons.mpr ⟨lw_p34, List.forall_mem_cons.mpr ⟨lw_p35, List.forall_mem_cons.mpr ⟨lw_p36, List.forall_mem_cons.mpr ⟨lw_p37, List.forall_mem_cons.mpr ⟨lw_p38, List.forall_mem_cons.mpr ⟨lw_p39, List.forall_mem_cons.mpr ⟨lw_p40, List.forall_mem_cons.mpr ⟨lw_p41, List.forall_mem_cons.mpr ⟨lw_p42, List.forall_mem_cons.mpr ⟨lw_p43, List.forall_mem_cons.mpr ⟨lw_p44, List.forall_mem_cons.mpr ⟨lw_p45, List.forall_mem_cons.mpr ⟨lw_p46, List.forall_mem_cons.mpr ⟨lw_p47, fun _ h => absurd h List.not_mem_nil⟩⟩⟩⟩⟩⟩⟩⟩⟩⟩⟩⟩⟩⟩⟩⟩
theorem lw_p48 : lw_okq (⟨"LayoutSolverModel", "clearCost", "()V"⟩, 36) := ⟨⟨by decide +kernel, by decide +kernel⟩, List.mem_of_getElem? (i := 747) (by decide +kernel), List.mem_of_getElem? (i := 961) (by decide +kernel), List.mem_of_getElem? (i := 962) (by decide +kernel)⟩
theorem lw_p49 : lw_okq (⟨"LayoutSolverModel", "worstRow", "()I"⟩, 36) := ⟨⟨by decide +kernel, by decide +kernel⟩, List.mem_of_getElem? (i := 747) (by decide +kernel), List.mem_of_getElem? (i := 965) (by decide +kernel), List.mem_of_getElem? (i := 966) (by decide +kernel)⟩
theorem lw_p50 : lw_okq (⟨"LayoutSolverModel", "helper", "(I)I"⟩, 36) := ⟨⟨by decide +kernel, by decide +kernel⟩, List.mem_of_getElem? (i := 747) (by decide +kernel), List.mem_of_getElem? (i := 969) (by decide +kernel), List.mem_of_getElem? (i := 970) (by decide +kernel)⟩
theorem lw_p51 : lw_okq (⟨"LayoutSolverModel", "swap", "(II)V"⟩, 36) := ⟨⟨by decide +kernel, by decide +kernel⟩, List.mem_of_getElem? (i := 747) (by decide +kernel), List.mem_of_getElem? (i := 973) (by decide +kernel), List.mem_of_getElem? (i := 974) (by decide +kernel)⟩
theorem lw_p52 : lw_okq (⟨"LayoutSolverModel", "turnAll", "()V"⟩, 36) := ⟨⟨by decide +kernel, by decide +kernel⟩, List.mem_of_getElem? (i := 747) (by decide +kernel), List.mem_of_getElem? (i := 977) (by decide +kernel), List.mem_of_getElem? (i := 978) (by decide +kernel)⟩
theorem lw_p53 : lw_okq (⟨"LayoutSolverModel", "note", "(I)V"⟩, 36) := ⟨⟨by decide +kernel, by decide +kernel⟩, List.mem_of_getElem? (i := 747) (by decide +kernel), List.mem_of_getElem? (i := 981) (by decide +kernel), List.mem_of_getElem? (i := 982) (by decide +kernel)⟩
theorem lw_p54 : lw_okq (⟨"LayoutSolverModel", "isOne", "(I)Z"⟩, 36) := ⟨⟨by decide +kernel, by decide +kernel⟩, List.mem_of_getElem? (i := 747) (by decide +kernel), List.mem_of_getElem? (i := 989) (by decide +kernel), List.mem_of_getElem? (i := 990) (by decide +kernel)⟩
theorem lw_p55 : lw_okq (⟨"LayoutSolverModel", "readSide", "()V"⟩, 36) := ⟨⟨by decide +kernel, by decide +kernel⟩, List.mem_of_getElem? (i := 747) (by decide +kernel), List.mem_of_getElem? (i := 1021) (by decide +kernel), List.mem_of_getElem? (i := 1022) (by decide +kernel)⟩
theorem lw_p56 : lw_okq (⟨"LayoutSolverModel", "sign", "()I"⟩, 36) := ⟨⟨by decide +kernel, by decide +kernel⟩, List.mem_of_getElem? (i := 747) (by decide +kernel), List.mem_of_getElem? (i := 1025) (by decide +kernel), List.mem_of_getElem? (i := 1026) (by decide +kernel)⟩
theorem lw_p57 : lw_okq (⟨"LayoutSolverModel", "readTerm", "(I)V"⟩, 36) := ⟨⟨by decide +kernel, by decide +kernel⟩, List.mem_of_getElem? (i := 747) (by decide +kernel), List.mem_of_getElem? (i := 1029) (by decide +kernel), List.mem_of_getElem? (i := 1030) (by decide +kernel)⟩
theorem lw_p58 : lw_okq (⟨"LayoutSolverModel", "readNumber", "()V"⟩, 36) := ⟨⟨by decide +kernel, by decide +kernel⟩, List.mem_of_getElem? (i := 747) (by decide +kernel), List.mem_of_getElem? (i := 1033) (by decide +kernel), List.mem_of_getElem? (i := 1034) (by decide +kernel)⟩
theorem lw_p59 : lw_okq (⟨"LayoutSolverModel", "readEnd", "()V"⟩, 36) := ⟨⟨by decide +kernel, by decide +kernel⟩, List.mem_of_getElem? (i := 747) (by decide +kernel), List.mem_of_getElem? (i := 1037) (by decide +kernel), List.mem_of_getElem? (i := 1038) (by decide +kernel)⟩
theorem lw_p60 : lw_okq (⟨"LayoutSolverModel", "spellSide", "(I)V"⟩, 36) := ⟨⟨by decide +kernel, by decide +kernel⟩, List.mem_of_getElem? (i := 747) (by decide +kernel), List.mem_of_getElem? (i := 1050) (by decide +kernel), List.mem_of_getElem? (i := 1051) (by decide +kernel)⟩
theorem lw_p61 : lw_okq (⟨"LayoutSolverModel", "spellOne", "(I)V"⟩, 36) := ⟨⟨by decide +kernel, by decide +kernel⟩, List.mem_of_getElem? (i := 747) (by decide +kernel), List.mem_of_getElem? (i := 1054) (by decide +kernel), List.mem_of_getElem? (i := 1055) (by decide +kernel)⟩
theorem lw_p62 : lw_okq (⟨"LayoutSolverModel", "spellNumber", "(I)V"⟩, 36) := ⟨⟨by decide +kernel, by decide +kernel⟩, List.mem_of_getElem? (i := 747) (by decide +kernel), List.mem_of_getElem? (i := 1058) (by decide +kernel), List.mem_of_getElem? (i := 1059) (by decide +kernel)⟩
theorem lw_p63 : lw_okq (⟨"LayoutSolverModel", "solve", "()V"⟩, 36) := ⟨⟨by decide +kernel, by decide +kernel⟩, List.mem_of_getElem? (i := 747) (by decide +kernel), List.mem_of_getElem? (i := 1070) (by decide +kernel), List.mem_of_getElem? (i := 1071) (by decide +kernel)⟩
def lw_privs_4 : List (MethodName × Nat) := [(⟨"LayoutSolverModel", "clearCost", "()V"⟩, 36), (⟨"LayoutSolverModel", "worstRow", "()I"⟩, 36), (⟨"LayoutSolverModel", "helper", "(I)I"⟩, 36), (⟨"LayoutSolverModel", "swap", "(II)V"⟩, 36), (⟨"LayoutSolverModel", "turnAll", "()V"⟩, 36), (⟨"LayoutSolverModel", "note", "(I)V"⟩, 36), (⟨"LayoutSolverModel", "isOne", "(I)Z"⟩, 36), (⟨"LayoutSolverModel", "readSide", "()V"⟩, 36), (⟨"LayoutSolverModel", "sign", "()I"⟩, 36), (⟨"LayoutSolverModel", "readTerm", "(I)V"⟩, 36), (⟨"LayoutSolverModel", "readNumber", "()V"⟩, 36), (⟨"LayoutSolverModel", "readEnd", "()V"⟩, 36), (⟨"LayoutSolverModel", "spellSide", "(I)V"⟩, 36), (⟨"LayoutSolverModel", "spellOne", "(I)V"⟩, 36), (⟨"LayoutSolverModel", "spellNumber", "(I)V"⟩, 36), (⟨"LayoutSolverModel", "solve", "()V"⟩, 36)]
theorem lw_r4 : ∀ q ∈ lw_privs_4, lw_okq q := List.forall_mem_cons.mpr ⟨lw_p48, List.forall_mem_cons.mpr ⟨lw_p49, List.forall_mem_cons.mpr ⟨lw_p50, List.forall_mem_cons.mpr ⟨lw_p51, List.forall_mem_cons.mpr ⟨lw_p52, List.forall_mem_cons.mpr ⟨lw_p53, List.forall_mem_cons.mpr ⟨lw_p54, List.forall_mem_cons.mpr ⟨lw_p55, List.forall_mem_cons.mpr ⟨lw_p56, List.forall_mem_cons.mpr ⟨lw_p57, List.forall_mem_cons.mpr ⟨lw_p58, List.forall_mem_cons.mpr ⟨lw_p59, List.forall_mem_cons.mpr ⟨lw_p60, List.forall_mem_cons.mpr ⟨lw_p61, List.forall_mem_cons.mpr ⟨lw_p62, List.forall_mem_cons.mpr ⟨lw_p63, fun _ h => absurd h List.not_mem_nil⟩⟩⟩⟩⟩⟩⟩⟩⟩⟩⟩⟩⟩⟩⟩⟩
theorem lw_p64 : lw_okq (⟨"LayoutSolverModel", "solveAll", "(I)Z"⟩, 36) := ⟨⟨by decide +kernel, by decide +kernel⟩, List.mem_of_getElem? (i := 747) (by decide +kernel), List.mem_of_getElem? (i := 1074) (by decide +kernel), List.mem_of_getElem? (i := 1075) (by decide +kernel)⟩
theorem lw_p65 : lw_okq (⟨"LayoutSolverModel", "addCost", "(IJ)V"⟩, 36) := ⟨⟨by decide +kernel, by decide +kernel⟩, List.mem_of_getElem? (i := 747) (by decide +kernel), List.mem_of_getElem? (i := 1078) (by decide +kernel), List.mem_of_getElem? (i := 1079) (by decide +kernel)⟩
theorem lw_p66 : lw_okq (⟨"LayoutSolverModel", "lessen", "()V"⟩, 36) := ⟨⟨by decide +kernel, by decide +kernel⟩, List.mem_of_getElem? (i := 747) (by decide +kernel), List.mem_of_getElem? (i := 1082) (by decide +kernel), List.mem_of_getElem? (i := 1083) (by decide +kernel)⟩
theorem lw_p67 : lw_okq (⟨"LayoutSolverModel", "cheaper", "()I"⟩, 36) := ⟨⟨by decide +kernel, by decide +kernel⟩, List.mem_of_getElem? (i := 747) (by decide +kernel), List.mem_of_getElem? (i := 1086) (by decide +kernel), List.mem_of_getElem? (i := 1087) (by decide +kernel)⟩
theorem lw_p68 : lw_okq (⟨"LayoutSolverModel", "firstToEnd", "(I)I"⟩, 36) := ⟨⟨by decide +kernel, by decide +kernel⟩, List.mem_of_getElem? (i := 747) (by decide +kernel), List.mem_of_getElem? (i := 1090) (by decide +kernel), List.mem_of_getElem? (i := 1091) (by decide +kernel)⟩
theorem lw_p69 : lw_okq (⟨"LayoutSolverModel", "bar", "()V"⟩, 36) := ⟨⟨by decide +kernel, by decide +kernel⟩, List.mem_of_getElem? (i := 747) (by decide +kernel), List.mem_of_getElem? (i := 1094) (by decide +kernel), List.mem_of_getElem? (i := 1095) (by decide +kernel)⟩
theorem lw_p70 : lw_okq (⟨"LayoutSolverModel", "end", "(III)J"⟩, 36) := ⟨⟨by decide +kernel, by decide +kernel⟩, List.mem_of_getElem? (i := 747) (by decide +kernel), List.mem_of_getElem? (i := 1105) (by decide +kernel), List.mem_of_getElem? (i := 1106) (by decide +kernel)⟩
theorem lw_p71 : lw_okq (⟨"LayoutSolverModel", "findLeast", "(III)V"⟩, 36) := ⟨⟨by decide +kernel, by decide +kernel⟩, List.mem_of_getElem? (i := 747) (by decide +kernel), List.mem_of_getElem? (i := 1110) (by decide +kernel), List.mem_of_getElem? (i := 1111) (by decide +kernel)⟩
theorem lw_p72 : lw_okq (⟨"LayoutSolverModel", "found", "(I)J"⟩, 36) := ⟨⟨by decide +kernel, by decide +kernel⟩, List.mem_of_getElem? (i := 747) (by decide +kernel), List.mem_of_getElem? (i := 1115) (by decide +kernel), List.mem_of_getElem? (i := 1116) (by decide +kernel)⟩
theorem lw_p73 : lw_okq (⟨"LayoutSolverModel", "beside", "(I)I"⟩, 36) := ⟨⟨by decide +kernel, by decide +kernel⟩, List.mem_of_getElem? (i := 747) (by decide +kernel), List.mem_of_getElem? (i := 1135) (by decide +kernel), List.mem_of_getElem? (i := 1136) (by decide +kernel)⟩
theorem lw_p74 : lw_okq (⟨"LayoutSolverModel", "requiredOnes", "()I"⟩, 36) := ⟨⟨by decide +kernel, by decide +kernel⟩, List.mem_of_getElem? (i := 747) (by decide +kernel), List.mem_of_getElem? (i := 1151) (by decide +kernel), List.mem_of_getElem? (i := 1152) (by decide +kernel)⟩
theorem lw_p75 : lw_okq (⟨"LayoutSolverModel", "isForced", "(II)Z"⟩, 36) := ⟨⟨by decide +kernel, by decide +kernel⟩, List.mem_of_getElem? (i := 747) (by decide +kernel), List.mem_of_getElem? (i := 1159) (by decide +kernel), List.mem_of_getElem? (i := 1160) (by decide +kernel)⟩
theorem lw_p76 : lw_okq (⟨"LayoutSolverModel", "compare", "()I"⟩, 36) := ⟨⟨by decide +kernel, by decide +kernel⟩, List.mem_of_getElem? (i := 747) (by decide +kernel), List.mem_of_getElem? (i := 1168) (by decide +kernel), List.mem_of_getElem? (i := 1169) (by decide +kernel)⟩
theorem lw_p77 : lw_okq (⟨"LayoutSolverModel", "keepCosts", "()V"⟩, 36) := ⟨⟨by decide +kernel, by decide +kernel⟩, List.mem_of_getElem? (i := 747) (by decide +kernel), List.mem_of_getElem? (i := 1172) (by decide +kernel), List.mem_of_getElem? (i := 1173) (by decide +kernel)⟩
theorem lw_p78 : lw_okq (⟨"LayoutSolverModel", "stepsOf", "(II)I"⟩, 36) := ⟨⟨by decide +kernel, by decide +kernel⟩, List.mem_of_getElem? (i := 747) (by decide +kernel), List.mem_of_getElem? (i := 1184) (by decide +kernel), List.mem_of_getElem? (i := 1185) (by decide +kernel)⟩
theorem lw_p79 : lw_okq (⟨"LayoutSolverModel", "requiredMany", "()I"⟩, 36) := ⟨⟨by decide +kernel, by decide +kernel⟩, List.mem_of_getElem? (i := 747) (by decide +kernel), List.mem_of_getElem? (i := 1192) (by decide +kernel), List.mem_of_getElem? (i := 1193) (by decide +kernel)⟩
def lw_privs_5 : List (MethodName × Nat) := [(⟨"LayoutSolverModel", "solveAll", "(I)Z"⟩, 36), (⟨"LayoutSolverModel", "addCost", "(IJ)V"⟩, 36), (⟨"LayoutSolverModel", "lessen", "()V"⟩, 36), (⟨"LayoutSolverModel", "cheaper", "()I"⟩, 36), (⟨"LayoutSolverModel", "firstToEnd", "(I)I"⟩, 36), (⟨"LayoutSolverModel", "bar", "()V"⟩, 36), (⟨"LayoutSolverModel", "end", "(III)J"⟩, 36), (⟨"LayoutSolverModel", "findLeast", "(III)V"⟩, 36), (⟨"LayoutSolverModel", "found", "(I)J"⟩, 36), (⟨"LayoutSolverModel", "beside", "(I)I"⟩, 36), (⟨"LayoutSolverModel", "requiredOnes", "()I"⟩, 36), (⟨"LayoutSolverModel", "isForced", "(II)Z"⟩, 36), (⟨"LayoutSolverModel", "compare", "()I"⟩, 36), (⟨"LayoutSolverModel", "keepCosts", "()V"⟩, 36), (⟨"LayoutSolverModel", "stepsOf", "(II)I"⟩, 36), (⟨"LayoutSolverModel", "requiredMany", "()I"⟩, 36)]
theorem lw_r5 : ∀ q ∈ lw_privs_5, lw_okq q := List.forall_mem_cons.mpr ⟨lw_p64, List.forall_mem_cons.mpr ⟨lw_p65, List.forall_mem_cons.mpr ⟨lw_p66, List.forall_mem_cons.mpr ⟨lw_p67, List.forall_mem_cons.mpr ⟨lw_p68, List.forall_mem_cons.mpr ⟨lw_p69, List.forall_mem_cons.mpr ⟨lw_p70, List.forall_mem_cons.mpr ⟨lw_p71, List.forall_mem_cons.mpr ⟨lw_p72, List.forall_mem_cons.mpr ⟨lw_p73, List.forall_mem_cons.mpr ⟨lw_p74, List.forall_mem_cons.mpr ⟨lw_p75, List.forall_mem_cons.mpr ⟨lw_p76, List.forall_mem_cons.mpr ⟨lw_p77, List.forall_mem_cons.mpr ⟨lw_p78, List.forall_mem_cons.mpr ⟨lw_p79, fun _ h => absurd h List.not_mem_nil⟩⟩⟩⟩⟩⟩⟩⟩⟩⟩⟩⟩⟩⟩⟩⟩
def lw_privs : List (MethodName × Nat) := lw_privs_1 ++ (lw_privs_2 ++ (lw_privs_3 ++ (lw_privs_4 ++ (lw_privs_5))))
def lw_tbl : List Cond := k2_sels lw_privs ++ tables_1
theorem lw_privs_ok : ∀ q ∈ lw_privs, lw_okq q := by
  show ∀ q ∈ lw_privs_1 ++ (lw_privs_2 ++ (lw_privs_3 ++ (lw_privs_4 ++ (lw_privs_5)))), lw_okq q
  exact List.forall_mem_append.mpr ⟨lw_r1, List.forall_mem_append.mpr ⟨lw_r2, List.forall_mem_append.mpr ⟨lw_r3, List.forall_mem_append.mpr ⟨lw_r4, lw_r5⟩⟩⟩⟩
end
section
/-! ===== BEGIN words of one list among another's, by their places ===== -/
theorem goodIn_r {big : List Cond} (ws : List Cond) (ps : List Nat) (hp : ws = ps.filterMap (fun i => big[i]?)) (h : ws.all goodWord = true) : GoodIn big ws := by
  intro w hw
  have h1 := List.all_eq_true.mp h w hw
  rw [hp] at hw
  obtain ⟨i, -, hi⟩ := List.mem_filterMap.mp hw
  have hm : w ∈ big := by first | exact List.mem_of_getElem? hi | exact List.getElem?_mem hi
  exact ⟨hm, good_of_word h1⟩
theorem goodIn_app {big a b : List Cond} (ha : GoodIn big a) (hb : GoodIn big b) : GoodIn big (a ++ b) := fun w h => (List.mem_append.mp h).elim (ha w) (hb w)
theorem goodIn_ca {big a b : List Cond} {c : Cond} (ha : GoodIn big (c :: a)) (hb : GoodIn big b) : GoodIn big (c :: (a ++ b)) := fun w h => (List.mem_cons.mp h).elim (fun e => ha w (List.mem_cons.mpr (Or.inl e))) (fun h => (List.mem_append.mp h).elim (fun h => ha w (List.mem_cons.mpr (Or.inr h))) (hb w))
theorem goodIn_sub {big ws : List Cond} (hm : ∀ w ∈ ws, w ∈ big) (h : ws.all goodWord = true) : GoodIn big ws := fun w hw => ⟨hm w hw, good_of_word (List.all_eq_true.mp h w hw)⟩
/-! ===== END ===== -/
def RX0 : String := "LayoutSolver$Change"
def TX0 : u_T := fun k => match k with
  | 0 => ("LayoutSolver$Change", "number", "I", true)
  | 1 => ("LayoutSolver$Change", "before", "LLayoutSolver$Constraint;", true)
  | _ => ("LayoutSolver$Change", "after", "LLayoutSolver$Constraint;", true)
def tyX0 : Nat → FieldType := fun k => match k with
  | 0 => .int
  | 1 => .object "LayoutSolver$Constraint"
  | _ => .object "LayoutSolver$Constraint"
abbrev wsX00 : List Cond := u_ws RX0 TX0 3
theorem nmX0 : ∀ a, a < 3 → ∀ b, b < 3 → a ≠ b → (TX0 a).2.1 ≠ (TX0 b).2.1 := by decide +kernel
theorem tyX0_ok : ∀ k, k < 3 → parseFieldDescriptor (TX0 k).2.2.1 = some (tyX0 k) := by decide +kernel
abbrev cX0_init : ByteArray := prog_2_method_1_code
def yX0_init : MethodName := ⟨RX0, "<init>", "(ILLayoutSolver$Constraint;LLayoutSolver$Constraint;)V"⟩
def RX1 : String := "LayoutSolver$Constraint"
def TX1 : u_T := fun k => match k with
  | 0 => ("LayoutSolver$Constraint", "coefficients", "[I", true)
  | 1 => ("LayoutSolver$Constraint", "relation", "I", true)
  | 2 => ("LayoutSolver$Constraint", "constant", "I", true)
  | 3 => ("LayoutSolver$Constraint", "strength", "I", true)
  | _ => ("LayoutSolver$Constraint", "weight", "I", true)
def tyX1 : Nat → FieldType := fun k => match k with
  | 0 => .array .int
  | 1 => .int
  | 2 => .int
  | 3 => .int
  | _ => .int
abbrev wsX10 : List Cond := u_ws RX1 TX1 5
theorem nmX1 : ∀ a, a < 5 → ∀ b, b < 5 → a ≠ b → (TX1 a).2.1 ≠ (TX1 b).2.1 := by decide +kernel
theorem tyX1_ok : ∀ k, k < 5 → parseFieldDescriptor (TX1 k).2.2.1 = some (tyX1 k) := by decide +kernel
abbrev cX1_init : ByteArray := prog_3_method_1_code
def yX1_init : MethodName := ⟨RX1, "<init>", "([IIIII)V"⟩
abbrev cX1_withConstant : ByteArray := prog_3_method_2_code
def yX1_withConstant : MethodName := ⟨RX1, "withConstant", "(I)LLayoutSolver$Constraint;"⟩
abbrev cX1_withStrength : ByteArray := prog_3_method_3_code
def yX1_withStrength : MethodName := ⟨RX1, "withStrength", "(II)LLayoutSolver$Constraint;"⟩
abbrev cX1_coefficient : ByteArray := prog_3_method_4_code
def yX1_coefficient : MethodName := ⟨RX1, "coefficient", "(I)I"⟩
abbrev cX1_variables : ByteArray := prog_3_method_5_code
def yX1_variables : MethodName := ⟨RX1, "variables", "()I"⟩
abbrev cX1_costAbove : ByteArray := prog_3_method_6_code
def yX1_costAbove : MethodName := ⟨RX1, "costAbove", "()I"⟩
abbrev cX1_costBelow : ByteArray := prog_3_method_7_code
def yX1_costBelow : MethodName := ⟨RX1, "costBelow", "()I"⟩
abbrev cX1_writeTo : ByteArray := prog_3_method_8_code
def yX1_writeTo : MethodName := ⟨RX1, "writeTo", "(LLayoutSolver$Line;)V"⟩
abbrev cX1_writeTerm : ByteArray := prog_3_method_9_code
def yX1_writeTerm : MethodName := ⟨RX1, "writeTerm", "(LLayoutSolver$Line;IC)V"⟩
abbrev cX1_writeNumber : ByteArray := prog_3_method_10_code
def yX1_writeNumber : MethodName := ⟨RX1, "writeNumber", "(LLayoutSolver$Line;I)V"⟩
def RX2 : String := "LayoutSolver$Costs"
def TX2 : u_T := fun k => match k with
  | 0 => ("LayoutSolver$Costs", "sums", "[J", true)
  | _ => ("LayoutSolver$Costs", "denominator", "J", false)
def tyX2 : Nat → FieldType := fun k => match k with
  | 0 => .array .long
  | _ => .long
abbrev wsX20 : List Cond := u_ws RX2 TX2 2
theorem nmX2 : ∀ a, a < 2 → ∀ b, b < 2 → a ≠ b → (TX2 a).2.1 ≠ (TX2 b).2.1 := by decide +kernel
theorem tyX2_ok : ∀ k, k < 2 → parseFieldDescriptor (TX2 k).2.2.1 = some (tyX2 k) := by decide +kernel
abbrev cX2_init : ByteArray := prog_4_method_1_code
def yX2_init : MethodName := ⟨RX2, "<init>", "()V"⟩
abbrev cX2_clear : ByteArray := prog_4_method_2_code
def yX2_clear : MethodName := ⟨RX2, "clear", "(J)V"⟩
abbrev cX2_increase : ByteArray := prog_4_method_3_code
def yX2_increase : MethodName := ⟨RX2, "increase", "(IJ)V"⟩
abbrev cX2_copy : ByteArray := prog_4_method_4_code
def yX2_copy : MethodName := ⟨RX2, "copy", "(LLayoutSolver$Costs;)V"⟩
abbrev cX2_isFeasible : ByteArray := prog_4_method_5_code
def yX2_isFeasible : MethodName := ⟨RX2, "isFeasible", "()Z"⟩
abbrev cX2_part : ByteArray := prog_4_method_6_code
def yX2_part : MethodName := ⟨RX2, "part", "(II)J"⟩
abbrev cX2_compareWith : ByteArray := prog_4_method_7_code
def yX2_compareWith : MethodName := ⟨RX2, "compareWith", "(LLayoutSolver$Costs;)I"⟩
def RX3 : String := "LayoutSolver$Dictionary"
def TX3 : u_T := fun k => match k with
  | 0 => ("LayoutSolver$Dictionary", "rows", "[[J", true)
  | 1 => ("LayoutSolver$Dictionary", "scale", "J", false)
  | 2 => ("LayoutSolver$Dictionary", "placed", "[Z", true)
  | 3 => ("LayoutSolver$Dictionary", "constants", "[I", true)
  | 4 => ("LayoutSolver$Dictionary", "levels", "[I", true)
  | 5 => ("LayoutSolver$Dictionary", "costAbove", "[I", true)
  | 6 => ("LayoutSolver$Dictionary", "costBelow", "[I", true)
  | 7 => ("LayoutSolver$Dictionary", "sides", "[I", true)
  | 8 => ("LayoutSolver$Dictionary", "columnOf", "[I", true)
  | 9 => ("LayoutSolver$Dictionary", "rowOf", "[I", true)
  | 10 => ("LayoutSolver$Dictionary", "slopes", "[[J", true)
  | _ => ("LayoutSolver$Dictionary", "countedLevels", "I", false)
def tyX3 : Nat → FieldType := fun k => match k with
  | 0 => .array (.array .long)
  | 1 => .long
  | 2 => .array .boolean
  | 3 => .array .int
  | 4 => .array .int
  | 5 => .array .int
  | 6 => .array .int
  | 7 => .array .int
  | 8 => .array .int
  | 9 => .array .int
  | 10 => .array (.array .long)
  | _ => .int
abbrev wsX30 : List Cond := u_ws RX3 TX3 12
theorem nmX3 : ∀ a, a < 12 → ∀ b, b < 12 → a ≠ b → (TX3 a).2.1 ≠ (TX3 b).2.1 := by decide +kernel
theorem tyX3_ok : ∀ k, k < 12 → parseFieldDescriptor (TX3 k).2.2.1 = some (tyX3 k) := by decide +kernel
abbrev cX3_init : ByteArray := prog_5_method_1_code
def yX3_init : MethodName := ⟨RX3, "<init>", "()V"⟩
abbrev cX3_startLimit : ByteArray := prog_5_method_2_code
def yX3_startLimit : MethodName := ⟨RX3, "startLimit", "(III)V"⟩
abbrev cX3_place : ByteArray := prog_5_method_3_code
def yX3_place : MethodName := ⟨RX3, "place", "(ILLayoutSolver$Constraint;)V"⟩
abbrev cX3_placeWith : ByteArray := prog_5_method_4_code
def yX3_placeWith : MethodName := ⟨RX3, "placeWith", "(ILLayoutSolver$Constraint;I)V"⟩
abbrev cX3_addVariable : ByteArray := prog_5_method_5_code
def yX3_addVariable : MethodName := ⟨RX3, "addVariable", "([JII)V"⟩
abbrev cX3_lift : ByteArray := prog_5_method_6_code
def yX3_lift : MethodName := ⟨RX3, "lift", "(I)V"⟩
abbrev cX3_isFeasible : ByteArray := prog_5_method_7_code
def yX3_isFeasible : MethodName := ⟨RX3, "isFeasible", "()Z"⟩
abbrev cX3_tellCosts : ByteArray := prog_5_method_8_code
def yX3_tellCosts : MethodName := ⟨RX3, "tellCosts", "(LLayoutSolver$Costs;)V"⟩
abbrev cX3_costOf : ByteArray := prog_5_method_9_code
def yX3_costOf : MethodName := ⟨RX3, "costOf", "(I)J"⟩
abbrev cX3_denominator : ByteArray := prog_5_method_10_code
def yX3_denominator : MethodName := ⟨RX3, "denominator", "()J"⟩
abbrev cX3_numerator : ByteArray := prog_5_method_11_code
def yX3_numerator : MethodName := ⟨RX3, "numerator", "(I)J"⟩
abbrev cX3_signOf : ByteArray := prog_5_method_12_code
def yX3_signOf : MethodName := ⟨RX3, "signOf", "(I)I"⟩
abbrev cX3_settle : ByteArray := prog_5_method_13_code
def yX3_settle : MethodName := ⟨RX3, "settle", "()V"⟩
abbrev cX3_goTo : ByteArray := prog_5_method_14_code
def yX3_goTo : MethodName := ⟨RX3, "goTo", "(IZI)V"⟩
abbrev cX3_descend : ByteArray := prog_5_method_15_code
def yX3_descend : MethodName := ⟨RX3, "descend", "(III)V"⟩
abbrev cX3_findSlopes : ByteArray := prog_5_method_16_code
def yX3_findSlopes : MethodName := ⟨RX3, "findSlopes", "(II)V"⟩
abbrev cX3_addSlopes : ByteArray := prog_5_method_17_code
def yX3_addSlopes : MethodName := ⟨RX3, "addSlopes", "(III)V"⟩
abbrev cX3_enteringColumn : ByteArray := prog_5_method_18_code
def yX3_enteringColumn : MethodName := ⟨RX3, "enteringColumn", "()I"⟩
abbrev cX3_directionOf : ByteArray := prog_5_method_19_code
def yX3_directionOf : MethodName := ⟨RX3, "directionOf", "(I)I"⟩
abbrev cX3_leavingRow : ByteArray := prog_5_method_20_code
def yX3_leavingRow : MethodName := ⟨RX3, "leavingRow", "(II)I"⟩
abbrev cX3_exchange : ByteArray := prog_5_method_21_code
def yX3_exchange : MethodName := ⟨RX3, "exchange", "(III)V"⟩
abbrev cX3_substitute : ByteArray := prog_5_method_22_code
def yX3_substitute : MethodName := ⟨RX3, "substitute", "([J[JI)V"⟩
def RX4 : String := "LayoutSolver$History"
def TX4 : u_T := fun k => match k with
  | 0 => ("LayoutSolver$History", "changes", "[LLayoutSolver$Change;", true)
  | 1 => ("LayoutSolver$History", "done", "I", false)
  | _ => ("LayoutSolver$History", "undone", "I", false)
def tyX4 : Nat → FieldType := fun k => match k with
  | 0 => .array (.object "LayoutSolver$Change")
  | 1 => .int
  | _ => .int
abbrev wsX40 : List Cond := u_ws RX4 TX4 3
theorem nmX4 : ∀ a, a < 3 → ∀ b, b < 3 → a ≠ b → (TX4 a).2.1 ≠ (TX4 b).2.1 := by decide +kernel
theorem tyX4_ok : ∀ k, k < 3 → parseFieldDescriptor (TX4 k).2.2.1 = some (tyX4 k) := by decide +kernel
abbrev cX4_init : ByteArray := prog_6_method_1_code
def yX4_init : MethodName := ⟨RX4, "<init>", "()V"⟩
abbrev cX4_done : ByteArray := prog_6_method_2_code
def yX4_done : MethodName := ⟨RX4, "done", "()I"⟩
abbrev cX4_undone : ByteArray := prog_6_method_3_code
def yX4_undone : MethodName := ⟨RX4, "undone", "()I"⟩
abbrev cX4_clear : ByteArray := prog_6_method_4_code
def yX4_clear : MethodName := ⟨RX4, "clear", "()V"⟩
abbrev cX4_append : ByteArray := prog_6_method_5_code
def yX4_append : MethodName := ⟨RX4, "append", "(LLayoutSolver$Change;)V"⟩
abbrev cX4_back : ByteArray := prog_6_method_6_code
def yX4_back : MethodName := ⟨RX4, "back", "()LLayoutSolver$Change;"⟩
abbrev cX4_forth : ByteArray := prog_6_method_7_code
def yX4_forth : MethodName := ⟨RX4, "forth", "()LLayoutSolver$Change;"⟩
def RX5 : String := "LayoutSolver$Layout"
def TX5 : u_T := fun k => match k with
  | _ => ("LayoutSolver$Layout", "places", "[LLayoutSolver$Constraint;", true)
def tyX5 : Nat → FieldType := fun k => match k with
  | _ => .array (.object "LayoutSolver$Constraint")
abbrev wsX50 : List Cond := u_ws RX5 TX5 1
theorem nmX5 : ∀ a, a < 1 → ∀ b, b < 1 → a ≠ b → (TX5 a).2.1 ≠ (TX5 b).2.1 := by decide +kernel
theorem tyX5_ok : ∀ k, k < 1 → parseFieldDescriptor (TX5 k).2.2.1 = some (tyX5 k) := by decide +kernel
abbrev cX5_init : ByteArray := prog_7_method_1_code
def yX5_init : MethodName := ⟨RX5, "<init>", "()V"⟩
abbrev cX5_at : ByteArray := prog_7_method_2_code
def yX5_at : MethodName := ⟨RX5, "at", "(I)LLayoutSolver$Constraint;"⟩
abbrev cX5_put : ByteArray := prog_7_method_3_code
def yX5_put : MethodName := ⟨RX5, "put", "(ILLayoutSolver$Constraint;)V"⟩
abbrev cX5_lowestFree : ByteArray := prog_7_method_4_code
def yX5_lowestFree : MethodName := ⟨RX5, "lowestFree", "()I"⟩
abbrev cX5_mask : ByteArray := prog_7_method_5_code
def yX5_mask : MethodName := ⟨RX5, "mask", "()I"⟩
abbrev cX5_size : ByteArray := prog_7_method_6_code
def yX5_size : MethodName := ⟨RX5, "size", "()I"⟩
abbrev cX5_requiredOnes : ByteArray := prog_7_method_7_code
def yX5_requiredOnes : MethodName := ⟨RX5, "requiredOnes", "()I"⟩
def RX6 : String := "LayoutSolver$Line"
def TX6 : u_T := fun k => match k with
  | 0 => ("LayoutSolver$Line", "characters", "[C", true)
  | _ => ("LayoutSolver$Line", "length", "I", false)
def tyX6 : Nat → FieldType := fun k => match k with
  | 0 => .array .char
  | _ => .int
abbrev wsX60 : List Cond := u_ws RX6 TX6 2
theorem nmX6 : ∀ a, a < 2 → ∀ b, b < 2 → a ≠ b → (TX6 a).2.1 ≠ (TX6 b).2.1 := by decide +kernel
theorem tyX6_ok : ∀ k, k < 2 → parseFieldDescriptor (TX6 k).2.2.1 = some (tyX6 k) := by decide +kernel
abbrev cX6_init : ByteArray := prog_8_method_1_code
def yX6_init : MethodName := ⟨RX6, "<init>", "()V"⟩
abbrev cX6_size : ByteArray := prog_8_method_2_code
def yX6_size : MethodName := ⟨RX6, "size", "()I"⟩
abbrev cX6_isFull : ByteArray := prog_8_method_3_code
def yX6_isFull : MethodName := ⟨RX6, "isFull", "()Z"⟩
abbrev cX6_clear : ByteArray := prog_8_method_4_code
def yX6_clear : MethodName := ⟨RX6, "clear", "()V"⟩
abbrev cX6_append : ByteArray := prog_8_method_5_code
def yX6_append : MethodName := ⟨RX6, "append", "(C)V"⟩
abbrev cX6_at : ByteArray := prog_8_method_6_code
def yX6_at : MethodName := ⟨RX6, "at", "(I)C"⟩
def RX7 : String := "LayoutSolver$Reader"
def TX7 : u_T := fun k => match k with
  | 0 => ("LayoutSolver$Reader", "coefficients", "[I", true)
  | 1 => ("LayoutSolver$Reader", "state", "I", false)
  | 2 => ("LayoutSolver$Reader", "sign", "I", false)
  | 3 => ("LayoutSolver$Reader", "factor", "I", false)
  | 4 => ("LayoutSolver$Reader", "relation", "I", false)
  | 5 => ("LayoutSolver$Reader", "constantSign", "I", false)
  | 6 => ("LayoutSolver$Reader", "number", "I", false)
  | 7 => ("LayoutSolver$Reader", "strength", "I", false)
  | _ => ("LayoutSolver$Reader", "weight", "I", false)
def tyX7 : Nat → FieldType := fun k => match k with
  | 0 => .array .int
  | 1 => .int
  | 2 => .int
  | 3 => .int
  | 4 => .int
  | 5 => .int
  | 6 => .int
  | 7 => .int
  | _ => .int
abbrev wsX70 : List Cond := u_ws RX7 TX7 9
theorem nmX7 : ∀ a, a < 9 → ∀ b, b < 9 → a ≠ b → (TX7 a).2.1 ≠ (TX7 b).2.1 := by decide +kernel
theorem tyX7_ok : ∀ k, k < 9 → parseFieldDescriptor (TX7 k).2.2.1 = some (tyX7 k) := by decide +kernel
abbrev cX7_init : ByteArray := prog_9_method_1_code
def yX7_init : MethodName := ⟨RX7, "<init>", "()V"⟩
abbrev cX7_read : ByteArray := prog_9_method_2_code
def yX7_read : MethodName := ⟨RX7, "read", "(LLayoutSolver$Line;)I"⟩
abbrev cX7_isAtEnd : ByteArray := prog_9_method_3_code
def yX7_isAtEnd : MethodName := ⟨RX7, "isAtEnd", "()Z"⟩
abbrev cX7_result : ByteArray := prog_9_method_4_code
def yX7_result : MethodName := ⟨RX7, "result", "()LLayoutSolver$Constraint;"⟩
abbrev cX7_begin : ByteArray := prog_9_method_5_code
def yX7_begin : MethodName := ⟨RX7, "begin", "()V"⟩
abbrev cX7_takes : ByteArray := prog_9_method_6_code
def yX7_takes : MethodName := ⟨RX7, "takes", "(C)Z"⟩
abbrev cX7_takesSign : ByteArray := prog_9_method_7_code
def yX7_takesSign : MethodName := ⟨RX7, "takesSign", "(CZ)Z"⟩
abbrev cX7_takesFactor : ByteArray := prog_9_method_8_code
def yX7_takesFactor : MethodName := ⟨RX7, "takesFactor", "(C)Z"⟩
abbrev cX7_takesVariable : ByteArray := prog_9_method_9_code
def yX7_takesVariable : MethodName := ⟨RX7, "takesVariable", "(C)Z"⟩
abbrev cX7_takesRelation : ByteArray := prog_9_method_10_code
def yX7_takesRelation : MethodName := ⟨RX7, "takesRelation", "(C)Z"⟩
abbrev cX7_takesConstantSign : ByteArray := prog_9_method_11_code
def yX7_takesConstantSign : MethodName := ⟨RX7, "takesConstantSign", "(C)Z"⟩
abbrev cX7_takesDigit : ByteArray := prog_9_method_12_code
def yX7_takesDigit : MethodName := ⟨RX7, "takesDigit", "(C)Z"⟩
abbrev cX7_takesNextDigit : ByteArray := prog_9_method_13_code
def yX7_takesNextDigit : MethodName := ⟨RX7, "takesNextDigit", "(C)Z"⟩
abbrev cX7_takesAt : ByteArray := prog_9_method_14_code
def yX7_takesAt : MethodName := ⟨RX7, "takesAt", "(C)Z"⟩
abbrev cX7_takesStrength : ByteArray := prog_9_method_15_code
def yX7_takesStrength : MethodName := ⟨RX7, "takesStrength", "(C)Z"⟩
abbrev cX7_takesWeight : ByteArray := prog_9_method_16_code
def yX7_takesWeight : MethodName := ⟨RX7, "takesWeight", "(C)Z"⟩
def RX8 : String := "LayoutSolver"
def TX8 : u_T := fun k => match k with
  | 0 => ("LayoutSolver", "draft", "[I", true)
  | 1 => ("LayoutSolver", "text", "LLayoutSolver$Line;", true)
  | 2 => ("LayoutSolver", "spelling", "LLayoutSolver$Line;", true)
  | 3 => ("LayoutSolver", "reader", "LLayoutSolver$Reader;", true)
  | 4 => ("LayoutSolver", "layout", "LLayoutSolver$Layout;", true)
  | 5 => ("LayoutSolver", "slots", "[LLayoutSolver$Layout;", true)
  | 6 => ("LayoutSolver", "history", "LLayoutSolver$History;", true)
  | 7 => ("LayoutSolver", "dictionary", "LLayoutSolver$Dictionary;", true)
  | 8 => ("LayoutSolver", "present", "LLayoutSolver$Costs;", true)
  | 9 => ("LayoutSolver", "other", "LLayoutSolver$Costs;", true)
  | _ => ("LayoutSolver", "pins", "[LLayoutSolver$Constraint;", true)
def tyX8 : Nat → FieldType := fun k => match k with
  | 0 => .array .int
  | 1 => .object "LayoutSolver$Line"
  | 2 => .object "LayoutSolver$Line"
  | 3 => .object "LayoutSolver$Reader"
  | 4 => .object "LayoutSolver$Layout"
  | 5 => .array (.object "LayoutSolver$Layout")
  | 6 => .object "LayoutSolver$History"
  | 7 => .object "LayoutSolver$Dictionary"
  | 8 => .object "LayoutSolver$Costs"
  | 9 => .object "LayoutSolver$Costs"
  | _ => .array (.object "LayoutSolver$Constraint")
abbrev wsX80 : List Cond := u_ws RX8 TX8 11
theorem nmX8 : ∀ a, a < 11 → ∀ b, b < 11 → a ≠ b → (TX8 a).2.1 ≠ (TX8 b).2.1 := by decide +kernel
theorem tyX8_ok : ∀ k, k < 11 → parseFieldDescriptor (TX8 k).2.2.1 = some (tyX8 k) := by decide +kernel
abbrev cX8_init : ByteArray := prog_1_method_1_code
def yX8_init : MethodName := ⟨RX8, "<init>", "()V"⟩
abbrev cX8_term : ByteArray := prog_1_method_2_code
def yX8_term : MethodName := ⟨RX8, "term", "(II)I"⟩
abbrev cX8_add : ByteArray := prog_1_method_3_code
def yX8_add : MethodName := ⟨RX8, "add", "(IIII)I"⟩
abbrev cX8_remove : ByteArray := prog_1_method_4_code
def yX8_remove : MethodName := ⟨RX8, "remove", "(I)I"⟩
abbrev cX8_setConstant : ByteArray := prog_1_method_5_code
def yX8_setConstant : MethodName := ⟨RX8, "setConstant", "(II)I"⟩
abbrev cX8_setStrength : ByteArray := prog_1_method_6_code
def yX8_setStrength : MethodName := ⟨RX8, "setStrength", "(III)I"⟩
abbrev cX8_about : ByteArray := prog_1_method_7_code
def yX8_about : MethodName := ⟨RX8, "about", "(II)I"⟩
abbrev cX8_constraints : ByteArray := prog_1_method_8_code
def yX8_constraints : MethodName := ⟨RX8, "constraints", "()I"⟩
abbrev cX8_say : ByteArray := prog_1_method_9_code
def yX8_say : MethodName := ⟨RX8, "say", "(I)I"⟩
abbrev cX8_wipe : ByteArray := prog_1_method_10_code
def yX8_wipe : MethodName := ⟨RX8, "wipe", "()I"⟩
abbrev cX8_fault : ByteArray := prog_1_method_11_code
def yX8_fault : MethodName := ⟨RX8, "fault", "()I"⟩
abbrev cX8_parse : ByteArray := prog_1_method_12_code
def yX8_parse : MethodName := ⟨RX8, "parse", "()I"⟩
abbrev cX8_spell : ByteArray := prog_1_method_13_code
def yX8_spell : MethodName := ⟨RX8, "spell", "(II)I"⟩
abbrev cX8_undo : ByteArray := prog_1_method_14_code
def yX8_undo : MethodName := ⟨RX8, "undo", "()I"⟩
abbrev cX8_redo : ByteArray := prog_1_method_15_code
def yX8_redo : MethodName := ⟨RX8, "redo", "()I"⟩
abbrev cX8_cost : ByteArray := prog_1_method_16_code
def yX8_cost : MethodName := ⟨RX8, "cost", "(II)J"⟩
abbrev cX8_low : ByteArray := prog_1_method_17_code
def yX8_low : MethodName := ⟨RX8, "low", "(II)J"⟩
abbrev cX8_high : ByteArray := prog_1_method_18_code
def yX8_high : MethodName := ⟨RX8, "high", "(II)J"⟩
abbrev cX8_ambiguous : ByteArray := prog_1_method_19_code
def yX8_ambiguous : MethodName := ⟨RX8, "ambiguous", "()I"⟩
abbrev cX8_value : ByteArray := prog_1_method_20_code
def yX8_value : MethodName := ⟨RX8, "value", "(III)J"⟩
abbrev cX8_status : ByteArray := prog_1_method_21_code
def yX8_status : MethodName := ⟨RX8, "status", "(I)I"⟩
abbrev cX8_reach : ByteArray := prog_1_method_22_code
def yX8_reach : MethodName := ⟨RX8, "reach", "(III)J"⟩
abbrev cX8_connected : ByteArray := prog_1_method_23_code
def yX8_connected : MethodName := ⟨RX8, "connected", "(I)I"⟩
abbrev cX8_blockers : ByteArray := prog_1_method_24_code
def yX8_blockers : MethodName := ⟨RX8, "blockers", "(II)I"⟩
abbrev cX8_force : ByteArray := prog_1_method_25_code
def yX8_force : MethodName := ⟨RX8, "force", "(IIII)J"⟩
abbrev cX8_best : ByteArray := prog_1_method_26_code
def yX8_best : MethodName := ⟨RX8, "best", "(III)I"⟩
abbrev cX8_burdens : ByteArray := prog_1_method_27_code
def yX8_burdens : MethodName := ⟨RX8, "burdens", "()I"⟩
abbrev cX8_play : ByteArray := prog_1_method_28_code
def yX8_play : MethodName := ⟨RX8, "play", "(II)I"⟩
abbrev cX8_count : ByteArray := prog_1_method_29_code
def yX8_count : MethodName := ⟨RX8, "count", "(I)I"⟩
abbrev cX8_save : ByteArray := prog_1_method_30_code
def yX8_save : MethodName := ⟨RX8, "save", "(I)I"⟩
abbrev cX8_restore : ByteArray := prog_1_method_31_code
def yX8_restore : MethodName := ⟨RX8, "restore", "(I)I"⟩
abbrev cX8_isVariable : ByteArray := prog_1_method_32_code
def yX8_isVariable : MethodName := ⟨RX8, "isVariable", "(I)Z"⟩
abbrev cX8_isWithin : ByteArray := prog_1_method_33_code
def yX8_isWithin : MethodName := ⟨RX8, "isWithin", "(II)Z"⟩
abbrev cX8_isRelation : ByteArray := prog_1_method_34_code
def yX8_isRelation : MethodName := ⟨RX8, "isRelation", "(I)Z"⟩
abbrev cX8_isStrength : ByteArray := prog_1_method_35_code
def yX8_isStrength : MethodName := ⟨RX8, "isStrength", "(I)Z"⟩
abbrev cX8_isSoft : ByteArray := prog_1_method_36_code
def yX8_isSoft : MethodName := ⟨RX8, "isSoft", "(I)Z"⟩
abbrev cX8_isWeight : ByteArray := prog_1_method_37_code
def yX8_isWeight : MethodName := ⟨RX8, "isWeight", "(I)Z"⟩
abbrev cX8_isPart : ByteArray := prog_1_method_38_code
def yX8_isPart : MethodName := ⟨RX8, "isPart", "(I)Z"⟩
abbrev cX8_isAllZero : ByteArray := prog_1_method_39_code
def yX8_isAllZero : MethodName := ⟨RX8, "isAllZero", "([I)Z"⟩
abbrev cX8_clearDraft : ByteArray := prog_1_method_40_code
def yX8_clearDraft : MethodName := ⟨RX8, "clearDraft", "()V"⟩
abbrev cX8_put : ByteArray := prog_1_method_41_code
def yX8_put : MethodName := ⟨RX8, "put", "(ILLayoutSolver$Constraint;)V"⟩
abbrev cX8_enter : ByteArray := prog_1_method_42_code
def yX8_enter : MethodName := ⟨RX8, "enter", "(LLayoutSolver$Constraint;)I"⟩
abbrev cX8_change : ByteArray := prog_1_method_43_code
def yX8_change : MethodName := ⟨RX8, "change", "(ILLayoutSolver$Constraint;)Z"⟩
abbrev cX8_variableAt : ByteArray := prog_1_method_44_code
def yX8_variableAt : MethodName := ⟨RX8, "variableAt", "(IIII)J"⟩
abbrev cX8_isAmbiguous : ByteArray := prog_1_method_45_code
def yX8_isAmbiguous : MethodName := ⟨RX8, "isAmbiguous", "(I)Z"⟩
abbrev cX8_findCosts : ByteArray := prog_1_method_46_code
def yX8_findCosts : MethodName := ⟨RX8, "findCosts", "(LLayoutSolver$Costs;)V"⟩
abbrev cX8_findCostsAt : ByteArray := prog_1_method_47_code
def yX8_findCostsAt : MethodName := ⟨RX8, "findCostsAt", "(IILLayoutSolver$Costs;)V"⟩
abbrev cX8_keepsCosts : ByteArray := prog_1_method_48_code
def yX8_keepsCosts : MethodName := ⟨RX8, "keepsCosts", "(ILLayoutSolver$Constraint;I)Z"⟩
abbrev cX8_remainingBlockers : ByteArray := prog_1_method_49_code
def yX8_remainingBlockers : MethodName := ⟨RX8, "remainingBlockers", "()I"⟩
abbrev cX8_partOf : ByteArray := prog_1_method_50_code
def yX8_partOf : MethodName := ⟨RX8, "partOf", "(JJI)J"⟩
def RJx8e188 : String := "java/lang/Cloneable"
def TJx8e188 : u_T := fun k => match k with
  | _ => ("", "", "", false)
def tyJx8e188 : Nat → FieldType := fun k => match k with
  | _ => .int
abbrev wsJx8e1880 : List Cond := u_ws RJx8e188 TJx8e188 0
theorem nmJx8e188 : ∀ a, a < 0 → ∀ b, b < 0 → a ≠ b → (TJx8e188 a).2.1 ≠ (TJx8e188 b).2.1 := by decide +kernel
theorem tyJx8e188_ok : ∀ k, k < 0 → parseFieldDescriptor (TJx8e188 k).2.2.1 = some (tyJx8e188 k) := by decide +kernel
def RJ6 : String := "java/lang/Integer"
def TJ6 : u_T := fun k => match k with
  | _ => ("", "", "", false)
def tyJ6 : Nat → FieldType := fun k => match k with
  | _ => .int
abbrev wsJ60 : List Cond := u_ws RJ6 TJ6 0
theorem nmJ6 : ∀ a, a < 0 → ∀ b, b < 0 → a ≠ b → (TJ6 a).2.1 ≠ (TJ6 b).2.1 := by decide +kernel
theorem tyJ6_ok : ∀ k, k < 0 → parseFieldDescriptor (TJ6 k).2.2.1 = some (tyJ6 k) := by decide +kernel
abbrev cJ6_bitCount_0f7a4 : ByteArray := prog_13_method_49_code
def yJ6_bitCount_0f7a4 : MethodName := ⟨RJ6, "bitCount", "(I)I"⟩
def RJ13 : String := "java/lang/Long"
def TJ13 : u_T := fun k => match k with
  | _ => ("", "", "", false)
def tyJ13 : Nat → FieldType := fun k => match k with
  | _ => .int
abbrev wsJ130 : List Cond := u_ws RJ13 TJ13 0
theorem nmJ13 : ∀ a, a < 0 → ∀ b, b < 0 → a ≠ b → (TJ13 a).2.1 ≠ (TJ13 b).2.1 := by decide +kernel
theorem tyJ13_ok : ∀ k, k < 0 → parseFieldDescriptor (TJ13 k).2.2.1 = some (tyJ13 k) := by decide +kernel
abbrev cJ13_compare_74951 : ByteArray := prog_14_method_42_code
def yJ13_compare_74951 : MethodName := ⟨RJ13, "compare", "(JJ)I"⟩
def RJ9 : String := "java/lang/Math"
def TJ9 : u_T := fun k => match k with
  | _ => ("", "", "", false)
def tyJ9 : Nat → FieldType := fun k => match k with
  | _ => .int
abbrev wsJ90 : List Cond := u_ws RJ9 TJ9 0
theorem nmJ9 : ∀ a, a < 0 → ∀ b, b < 0 → a ≠ b → (TJ9 a).2.1 ≠ (TJ9 b).2.1 := by decide +kernel
theorem tyJ9_ok : ∀ k, k < 0 → parseFieldDescriptor (TJ9 k).2.2.1 = some (tyJ9 k) := by decide +kernel
abbrev cJ9_abs_0f7a4 : ByteArray := prog_15_method_59_code
def yJ9_abs_0f7a4 : MethodName := ⟨RJ9, "abs", "(I)I"⟩
abbrev cJ9_abs_067f4 : ByteArray := prog_15_method_61_code
def yJ9_abs_067f4 : MethodName := ⟨RJ9, "abs", "(J)J"⟩
def wsX0_init : List Cond := .code yX0_init cX0_init 4 none :: ([.methodLink RX0 1 objectInit, .instanceMethod objectInit, .code objectInit ⟨#[0xb1]⟩ 1 none, .fieldLink RX0 7 "LayoutSolver$Change" "number" "I", .fieldLink RX0 13 "LayoutSolver$Change" "before" "LLayoutSolver$Constraint;", .fieldLink RX0 17 "LayoutSolver$Change" "after" "LLayoutSolver$Constraint;"] ++ wsX00)
def wsX1_init : List Cond := .code yX1_init cX1_init 6 none :: ([.methodLink RX1 3 objectInit, .instanceMethod objectInit, .code objectInit ⟨#[0xb1]⟩ 1 none, .fieldLink RX1 9 "LayoutSolver$Constraint" "coefficients" "[I", .fieldLink RX1 15 "LayoutSolver$Constraint" "relation" "I", .fieldLink RX1 19 "LayoutSolver$Constraint" "constant" "I", .fieldLink RX1 22 "LayoutSolver$Constraint" "strength" "I", .fieldLink RX1 25 "LayoutSolver$Constraint" "weight" "I"] ++ wsX10)
def wsX1_withConstant : List Cond := .code yX1_withConstant cX1_withConstant 2 (some (.object "LayoutSolver$Constraint")) :: ([.classLink RX1 10 RX1, .instantiable RX1 5, .initialized RX1, .fieldLink RX1 9 "LayoutSolver$Constraint" "coefficients" "[I", .fieldLink RX1 15 "LayoutSolver$Constraint" "relation" "I", .fieldLink RX1 22 "LayoutSolver$Constraint" "strength" "I", .fieldLink RX1 25 "LayoutSolver$Constraint" "weight" "I", .methodLink RX1 28 yX1_init, .instanceMethod yX1_init, .code yX1_init cX1_init 6 none, .methodLink RX1 3 objectInit, .instanceMethod objectInit, .code objectInit ⟨#[0xb1]⟩ 1 none, .fieldLink RX1 19 "LayoutSolver$Constraint" "constant" "I"] ++ wsX10)
def wsX1_withStrength : List Cond := .code yX1_withStrength cX1_withStrength 3 (some (.object "LayoutSolver$Constraint")) :: ([.classLink RX1 10 RX1, .instantiable RX1 5, .initialized RX1, .fieldLink RX1 9 "LayoutSolver$Constraint" "coefficients" "[I", .fieldLink RX1 15 "LayoutSolver$Constraint" "relation" "I", .fieldLink RX1 19 "LayoutSolver$Constraint" "constant" "I", .methodLink RX1 28 yX1_init, .instanceMethod yX1_init, .code yX1_init cX1_init 6 none, .methodLink RX1 3 objectInit, .instanceMethod objectInit, .code objectInit ⟨#[0xb1]⟩ 1 none, .fieldLink RX1 22 "LayoutSolver$Constraint" "strength" "I", .fieldLink RX1 25 "LayoutSolver$Constraint" "weight" "I"] ++ wsX10)
def wsX1_coefficient : List Cond := .code yX1_coefficient cX1_coefficient 2 (some .int) :: ([.fieldLink RX1 9 "LayoutSolver$Constraint" "coefficients" "[I"] ++ wsX10)
def wsX1_variables : List Cond := .code yX1_variables cX1_variables 3 (some .int) :: ([.fieldLink RX1 9 "LayoutSolver$Constraint" "coefficients" "[I"] ++ wsX10)
def wsX1_costAbove : List Cond := .code yX1_costAbove cX1_costAbove 1 (some .int) :: ([.fieldLink RX1 15 "LayoutSolver$Constraint" "relation" "I", .fieldLink RX1 25 "LayoutSolver$Constraint" "weight" "I"] ++ wsX10)
def wsX1_costBelow : List Cond := .code yX1_costBelow cX1_costBelow 1 (some .int) :: ([.fieldLink RX1 15 "LayoutSolver$Constraint" "relation" "I", .fieldLink RX1 25 "LayoutSolver$Constraint" "weight" "I"] ++ wsX10)
def wsX6_clear : List Cond := .code yX6_clear cX6_clear 1 none :: ([.fieldLink RX6 15 "LayoutSolver$Line" "length" "I"] ++ wsX60)
def wsX6_append : List Cond := .code yX6_append cX6_append 2 none :: ([.fieldLink RX6 15 "LayoutSolver$Line" "length" "I", .fieldLink RX6 9 "LayoutSolver$Line" "characters" "[C"] ++ wsX60)
def wsX6_size : List Cond := .code yX6_size cX6_size 1 (some .int) :: ([.fieldLink RX6 15 "LayoutSolver$Line" "length" "I"] ++ wsX60)
def wsX1_writeTerm : List Cond := .code yX1_writeTerm cX1_writeTerm 3 none :: ([.methodLink RX1 44 Lib.Math.abs.name, .static Lib.Math.abs.name, .initialized "java/lang/Math", .code Lib.Math.abs.name Lib.Math.abs.code 1 (some .int), .methodLink RX1 40 yX6_append, .instanceMethod yX6_append, .selects RX6 yX6_append yX6_append, .initialized RX6, .code yX6_append cX6_append 2 none, .fieldLink RX6 15 "LayoutSolver$Line" "length" "I", .fieldLink RX6 9 "LayoutSolver$Line" "characters" "[C", .methodLink RX1 54 yX6_size, .instanceMethod yX6_size, .selects RX6 yX6_size yX6_size, .code yX6_size cX6_size 1 (some .int)] ++ wsX60)
def wsX1_writeNumber : List Cond := .code yX1_writeNumber cX1_writeNumber 2 none :: ([.methodLink RX1 40 yX6_append, .instanceMethod yX6_append, .selects RX6 yX6_append yX6_append, .initialized RX6, .code yX6_append cX6_append 2 none, .fieldLink RX6 15 "LayoutSolver$Line" "length" "I", .fieldLink RX6 9 "LayoutSolver$Line" "characters" "[C"] ++ wsX60)
def wsX1_writeTo_r1 : List Cond := [Cond.fieldLink RX1 9 "LayoutSolver$Constraint" "coefficients" "[I", Cond.fieldLink RX1 15 "LayoutSolver$Constraint" "relation" "I", Cond.fieldLink RX1 19 "LayoutSolver$Constraint" "constant" "I", Cond.methodLink RX1 44 Lib.Math.abs.name, Cond.static Lib.Math.abs.name, Cond.initialized "java/lang/Math", Cond.code Lib.Math.abs.name Lib.Math.abs.code 1 (some .int), Cond.fieldLink RX1 22 "LayoutSolver$Constraint" "strength" "I", Cond.fieldLink RX1 25 "LayoutSolver$Constraint" "weight" "I", Cond.methodLink RX1 31 yX6_clear, Cond.instanceMethod yX6_clear, Cond.selects RX6 yX6_clear yX6_clear, Cond.initialized RX6, Cond.code yX6_clear cX6_clear 1 none, Cond.fieldLink RX6 15 "LayoutSolver$Line" "length" "I", Cond.methodLink RX1 36 yX1_writeTerm, Cond.static yX1_writeTerm, Cond.initialized RX1, Cond.code yX1_writeTerm cX1_writeTerm 3 none, Cond.methodLink RX1 40 yX6_append, Cond.instanceMethod yX6_append, Cond.selects RX6 yX6_append yX6_append, Cond.code yX6_append cX6_append 2 none, Cond.fieldLink RX6 9 "LayoutSolver$Line" "characters" "[C"]
def wsX1_writeTo_r2 : List Cond := [Cond.methodLink RX1 54 yX6_size, Cond.instanceMethod yX6_size, Cond.selects RX6 yX6_size yX6_size, Cond.code yX6_size cX6_size 1 (some .int), Cond.methodLink RX1 50 yX1_writeNumber, Cond.static yX1_writeNumber, Cond.code yX1_writeNumber cX1_writeNumber 2 none]
def wsX1_writeTo : List Cond := .code yX1_writeTo cX1_writeTo 3 none :: ((wsX1_writeTo_r1 ++ wsX1_writeTo_r2) ++ wsX10 ++ wsX60)
def wsX2_init : List Cond := .code yX2_init cX2_init 1 none :: ([.methodLink RX2 3 objectInit, .instanceMethod objectInit, .code objectInit ⟨#[0xb1]⟩ 1 none, .arrayClass .long, .fieldLink RX2 9 "LayoutSolver$Costs" "sums" "[J", .fieldLink RX2 15 "LayoutSolver$Costs" "denominator" "J"] ++ wsX20)
def wsX2_clear : List Cond := .code yX2_clear cX2_clear 4 none :: ([.fieldLink RX2 9 "LayoutSolver$Costs" "sums" "[J", .fieldLink RX2 15 "LayoutSolver$Costs" "denominator" "J"] ++ wsX20)
def wsX2_increase : List Cond := .code yX2_increase cX2_increase 4 none :: ([.fieldLink RX2 9 "LayoutSolver$Costs" "sums" "[J"] ++ wsX20)
def wsX2_copy : List Cond := .code yX2_copy cX2_copy 3 none :: ([.fieldLink RX2 9 "LayoutSolver$Costs" "sums" "[J", .fieldLink RX2 15 "LayoutSolver$Costs" "denominator" "J"] ++ wsX20)
def wsX2_isFeasible : List Cond := .code yX2_isFeasible cX2_isFeasible 1 (some .boolean) :: ([.fieldLink RX2 9 "LayoutSolver$Costs" "sums" "[J"] ++ wsX20)
def wsX8_partOf : List Cond := .code yX8_partOf cX8_partOf 12 (some .long) :: ([.methodLink RX8 310 Lib.MathLoose.abs_long.x, .static Lib.MathLoose.abs_long.x, .initialized "java/lang/Math", .code Lib.MathLoose.abs_long.x Lib.MathLoose.abs_long.code 2 (some .long)])
def wsX2_part : List Cond := .code yX2_part cX2_part 3 (some .long) :: ([.fieldLink RX2 9 "LayoutSolver$Costs" "sums" "[J", .fieldLink RX2 15 "LayoutSolver$Costs" "denominator" "J", .static yX8_partOf, .initialized RX8, .code yX8_partOf cX8_partOf 12 (some .long), .methodLink RX8 310 Lib.MathLoose.abs_long.x, .static Lib.MathLoose.abs_long.x, .initialized "java/lang/Math", .code Lib.MathLoose.abs_long.x Lib.MathLoose.abs_long.code 2 (some .long)] ++ wsX20)
def wsJ13_compare_74951 : List Cond := .code yJ13_compare_74951 cJ13_compare_74951 4 (some .int) :: ([])
def wsX2_compareWith : List Cond := .code yX2_compareWith cX2_compareWith 4 (some .int) :: ([.fieldLink RX2 9 "LayoutSolver$Costs" "sums" "[J", .fieldLink RX2 15 "LayoutSolver$Costs" "denominator" "J", .methodLink RX2 23 yJ13_compare_74951, .static yJ13_compare_74951, .initialized RJ13, .code yJ13_compare_74951 cJ13_compare_74951 4 (some .int)] ++ wsX20)
def wsX3_startLimit : List Cond := .code yX3_startLimit cX3_startLimit 4 none :: ([.fieldLink RX3 13 "LayoutSolver$Dictionary" "rows" "[[J", .fieldLink RX3 20 "LayoutSolver$Dictionary" "placed" "[Z", .fieldLink RX3 24 "LayoutSolver$Dictionary" "constants" "[I", .fieldLink RX3 31 "LayoutSolver$Dictionary" "costAbove" "[I", .fieldLink RX3 34 "LayoutSolver$Dictionary" "costBelow" "[I", .fieldLink RX3 37 "LayoutSolver$Dictionary" "sides" "[I"] ++ wsX30)
def wsX3_init : List Cond := .code yX3_init cX3_init 2 none :: ([.methodLink RX3 5 objectInit, .instanceMethod objectInit, .code objectInit ⟨#[0xb1]⟩ 1 none, .classLink RX3 11 "[[J", .arrayClass .long, .fieldLink RX3 13 "LayoutSolver$Dictionary" "rows" "[[J", .fieldLink RX3 16 "LayoutSolver$Dictionary" "scale" "J", .arrayClass .boolean, .fieldLink RX3 20 "LayoutSolver$Dictionary" "placed" "[Z", .arrayClass .int, .fieldLink RX3 24 "LayoutSolver$Dictionary" "constants" "[I", .fieldLink RX3 28 "LayoutSolver$Dictionary" "levels" "[I", .fieldLink RX3 31 "LayoutSolver$Dictionary" "costAbove" "[I", .fieldLink RX3 34 "LayoutSolver$Dictionary" "costBelow" "[I", .fieldLink RX3 37 "LayoutSolver$Dictionary" "sides" "[I", .fieldLink RX3 40 "LayoutSolver$Dictionary" "columnOf" "[I", .fieldLink RX3 43 "LayoutSolver$Dictionary" "rowOf" "[I", .fieldLink RX3 46 "LayoutSolver$Dictionary" "slopes" "[[J", .fieldLink RX3 49 "LayoutSolver$Dictionary" "countedLevels" "I", .methodLink RX3 53 yX3_startLimit, .instanceMethod yX3_startLimit, .selects RX3 yX3_startLimit yX3_startLimit, .initialized RX3, .code yX3_startLimit cX3_startLimit 4 none] ++ wsX30)
def wsX3_lift : List Cond := .code yX3_lift cX3_lift 3 none :: ([.fieldLink RX3 40 "LayoutSolver$Dictionary" "columnOf" "[I", .fieldLink RX3 43 "LayoutSolver$Dictionary" "rowOf" "[I", .fieldLink RX3 20 "LayoutSolver$Dictionary" "placed" "[Z"] ++ wsX30)
def wsX3_addVariable : List Cond := .code yX3_addVariable cX3_addVariable 6 none :: ([.fieldLink RX3 13 "LayoutSolver$Dictionary" "rows" "[[J", .fieldLink RX3 16 "LayoutSolver$Dictionary" "scale" "J"] ++ wsX30)
def wsX3_placeWith_r1 : List Cond := [Cond.fieldLink RX3 13 "LayoutSolver$Dictionary" "rows" "[[J", Cond.fieldLink RX3 16 "LayoutSolver$Dictionary" "scale" "J", Cond.fieldLink RX3 20 "LayoutSolver$Dictionary" "placed" "[Z", Cond.fieldLink RX3 24 "LayoutSolver$Dictionary" "constants" "[I", Cond.fieldLink RX3 28 "LayoutSolver$Dictionary" "levels" "[I", Cond.fieldLink RX3 78 "LayoutSolver$Constraint" "strength" "I", Cond.fieldLink RX3 31 "LayoutSolver$Dictionary" "costAbove" "[I", Cond.fieldLink RX3 34 "LayoutSolver$Dictionary" "costBelow" "[I", Cond.fieldLink RX3 37 "LayoutSolver$Dictionary" "sides" "[I", Cond.methodLink RX3 57 yX3_lift, Cond.instanceMethod yX3_lift, Cond.selects RX3 yX3_lift yX3_lift, Cond.initialized RX3, Cond.code yX3_lift cX3_lift 3 none, Cond.fieldLink RX3 40 "LayoutSolver$Dictionary" "columnOf" "[I", Cond.fieldLink RX3 43 "LayoutSolver$Dictionary" "rowOf" "[I", Cond.methodLink RX3 70 yX1_coefficient, Cond.instanceMethod yX1_coefficient, Cond.selects RX1 yX1_coefficient yX1_coefficient, Cond.initialized RX1, Cond.code yX1_coefficient cX1_coefficient 2 (some .int), Cond.fieldLink RX1 9 "LayoutSolver$Constraint" "coefficients" "[I", Cond.methodLink RX3 74 yX3_addVariable, Cond.instanceMethod yX3_addVariable]
def wsX3_placeWith_r2 : List Cond := [Cond.selects RX3 yX3_addVariable yX3_addVariable, Cond.code yX3_addVariable cX3_addVariable 6 none, Cond.methodLink RX3 81 yX1_costAbove, Cond.instanceMethod yX1_costAbove, Cond.selects RX1 yX1_costAbove yX1_costAbove, Cond.code yX1_costAbove cX1_costAbove 1 (some .int), Cond.fieldLink RX1 15 "LayoutSolver$Constraint" "relation" "I", Cond.fieldLink RX1 25 "LayoutSolver$Constraint" "weight" "I", Cond.methodLink RX3 84 yX1_costBelow, Cond.instanceMethod yX1_costBelow, Cond.selects RX1 yX1_costBelow yX1_costBelow, Cond.code yX1_costBelow cX1_costBelow 1 (some .int)]
def wsX3_placeWith : List Cond := .code yX3_placeWith cX3_placeWith 6 none :: ((wsX3_placeWith_r1 ++ wsX3_placeWith_r2) ++ wsX30 ++ wsX10)
def wsX3_place_r1 : List Cond := [Cond.fieldLink RX3 61 "LayoutSolver$Constraint" "constant" "I", Cond.methodLink RX3 57 yX3_lift, Cond.instanceMethod yX3_lift, Cond.selects RX3 yX3_lift yX3_lift, Cond.initialized RX3, Cond.code yX3_lift cX3_lift 3 none, Cond.fieldLink RX3 40 "LayoutSolver$Dictionary" "columnOf" "[I", Cond.fieldLink RX3 43 "LayoutSolver$Dictionary" "rowOf" "[I", Cond.fieldLink RX3 20 "LayoutSolver$Dictionary" "placed" "[Z", Cond.methodLink RX3 66 yX3_placeWith, Cond.instanceMethod yX3_placeWith, Cond.selects RX3 yX3_placeWith yX3_placeWith, Cond.code yX3_placeWith cX3_placeWith 6 none, Cond.fieldLink RX3 13 "LayoutSolver$Dictionary" "rows" "[[J", Cond.fieldLink RX3 16 "LayoutSolver$Dictionary" "scale" "J", Cond.fieldLink RX3 24 "LayoutSolver$Dictionary" "constants" "[I", Cond.fieldLink RX3 28 "LayoutSolver$Dictionary" "levels" "[I", Cond.fieldLink RX3 78 "LayoutSolver$Constraint" "strength" "I", Cond.fieldLink RX3 31 "LayoutSolver$Dictionary" "costAbove" "[I", Cond.fieldLink RX3 34 "LayoutSolver$Dictionary" "costBelow" "[I", Cond.fieldLink RX3 37 "LayoutSolver$Dictionary" "sides" "[I", Cond.methodLink RX3 70 yX1_coefficient, Cond.instanceMethod yX1_coefficient, Cond.selects RX1 yX1_coefficient yX1_coefficient]
def wsX3_place_r2 : List Cond := [Cond.initialized RX1, Cond.code yX1_coefficient cX1_coefficient 2 (some .int), Cond.fieldLink RX1 9 "LayoutSolver$Constraint" "coefficients" "[I", Cond.methodLink RX3 74 yX3_addVariable, Cond.instanceMethod yX3_addVariable, Cond.selects RX3 yX3_addVariable yX3_addVariable, Cond.code yX3_addVariable cX3_addVariable 6 none, Cond.methodLink RX3 81 yX1_costAbove, Cond.instanceMethod yX1_costAbove, Cond.selects RX1 yX1_costAbove yX1_costAbove, Cond.code yX1_costAbove cX1_costAbove 1 (some .int), Cond.fieldLink RX1 15 "LayoutSolver$Constraint" "relation" "I", Cond.fieldLink RX1 25 "LayoutSolver$Constraint" "weight" "I", Cond.methodLink RX3 84 yX1_costBelow, Cond.instanceMethod yX1_costBelow, Cond.selects RX1 yX1_costBelow yX1_costBelow, Cond.code yX1_costBelow cX1_costBelow 1 (some .int)]
def wsX3_place : List Cond := .code yX3_place cX3_place 3 none :: ((wsX3_place_r1 ++ wsX3_place_r2) ++ wsX10 ++ wsX30)
def wsX3_addSlopes : List Cond := .code yX3_addSlopes cX3_addSlopes 5 none :: ([.fieldLink RX3 46 "LayoutSolver$Dictionary" "slopes" "[[J", .fieldLink RX3 13 "LayoutSolver$Dictionary" "rows" "[[J"] ++ wsX30)
def wsX3_findSlopes : List Cond := .code yX3_findSlopes cX3_findSlopes 5 none :: ([.fieldLink RX3 46 "LayoutSolver$Dictionary" "slopes" "[[J", .fieldLink RX3 20 "LayoutSolver$Dictionary" "placed" "[Z", .fieldLink RX3 40 "LayoutSolver$Dictionary" "columnOf" "[I", .fieldLink RX3 28 "LayoutSolver$Dictionary" "levels" "[I", .fieldLink RX3 49 "LayoutSolver$Dictionary" "countedLevels" "I", .fieldLink RX3 37 "LayoutSolver$Dictionary" "sides" "[I", .fieldLink RX3 31 "LayoutSolver$Dictionary" "costAbove" "[I", .fieldLink RX3 34 "LayoutSolver$Dictionary" "costBelow" "[I", .methodLink RX3 127 yX3_addSlopes, .instanceMethod yX3_addSlopes, .selects RX3 yX3_addSlopes yX3_addSlopes, .initialized RX3, .code yX3_addSlopes cX3_addSlopes 5 none, .fieldLink RX3 13 "LayoutSolver$Dictionary" "rows" "[[J"] ++ wsX30)
def wsX3_directionOf : List Cond := .code yX3_directionOf cX3_directionOf 10 (some .int) :: ([.fieldLink RX3 43 "LayoutSolver$Dictionary" "rowOf" "[I", .fieldLink RX3 28 "LayoutSolver$Dictionary" "levels" "[I", .fieldLink RX3 49 "LayoutSolver$Dictionary" "countedLevels" "I", .fieldLink RX3 46 "LayoutSolver$Dictionary" "slopes" "[[J", .fieldLink RX3 16 "LayoutSolver$Dictionary" "scale" "J", .fieldLink RX3 31 "LayoutSolver$Dictionary" "costAbove" "[I", .fieldLink RX3 34 "LayoutSolver$Dictionary" "costBelow" "[I", .methodLink RX3 103 yJ13_compare_74951, .static yJ13_compare_74951, .initialized RJ13, .code yJ13_compare_74951 cJ13_compare_74951 4 (some .int)] ++ wsX30)
def wsX3_enteringColumn : List Cond := .code yX3_enteringColumn cX3_enteringColumn 3 (some .int) :: ([.fieldLink RX3 43 "LayoutSolver$Dictionary" "rowOf" "[I", .methodLink RX3 117 yX3_directionOf, .instanceMethod yX3_directionOf, .selects RX3 yX3_directionOf yX3_directionOf, .initialized RX3, .code yX3_directionOf cX3_directionOf 10 (some .int), .fieldLink RX3 28 "LayoutSolver$Dictionary" "levels" "[I", .fieldLink RX3 49 "LayoutSolver$Dictionary" "countedLevels" "I", .fieldLink RX3 46 "LayoutSolver$Dictionary" "slopes" "[[J", .fieldLink RX3 16 "LayoutSolver$Dictionary" "scale" "J", .fieldLink RX3 31 "LayoutSolver$Dictionary" "costAbove" "[I", .fieldLink RX3 34 "LayoutSolver$Dictionary" "costBelow" "[I", .methodLink RX3 103 yJ13_compare_74951, .static yJ13_compare_74951, .initialized RJ13, .code yJ13_compare_74951 cJ13_compare_74951 4 (some .int)] ++ wsX30)
def wsX3_leavingRow : List Cond := .code yX3_leavingRow cX3_leavingRow 13 (some .int) :: ([.fieldLink RX3 20 "LayoutSolver$Dictionary" "placed" "[Z", .fieldLink RX3 40 "LayoutSolver$Dictionary" "columnOf" "[I", .fieldLink RX3 37 "LayoutSolver$Dictionary" "sides" "[I", .fieldLink RX3 13 "LayoutSolver$Dictionary" "rows" "[[J", .methodLink RX3 130 Lib.MathLoose.abs_long.x, .static Lib.MathLoose.abs_long.x, .initialized "java/lang/Math", .code Lib.MathLoose.abs_long.x Lib.MathLoose.abs_long.code 2 (some .long)] ++ wsX30)
def wsX3_substitute : List Cond := .code yX3_substitute cX3_substitute 11 none :: ([.fieldLink RX3 16 "LayoutSolver$Dictionary" "scale" "J"] ++ wsX30)
def wsX3_exchange : List Cond := .code yX3_exchange cX3_exchange 8 none :: ([.fieldLink RX3 13 "LayoutSolver$Dictionary" "rows" "[[J", .methodLink RX3 130 Lib.MathLoose.abs_long.x, .static Lib.MathLoose.abs_long.x, .initialized "java/lang/Math", .code Lib.MathLoose.abs_long.x Lib.MathLoose.abs_long.code 2 (some .long), .fieldLink RX3 20 "LayoutSolver$Dictionary" "placed" "[Z", .fieldLink RX3 16 "LayoutSolver$Dictionary" "scale" "J", .fieldLink RX3 43 "LayoutSolver$Dictionary" "rowOf" "[I", .fieldLink RX3 40 "LayoutSolver$Dictionary" "columnOf" "[I", .fieldLink RX3 37 "LayoutSolver$Dictionary" "sides" "[I", .methodLink RX3 136 yX3_substitute, .instanceMethod yX3_substitute, .selects RX3 yX3_substitute yX3_substitute, .initialized RX3, .code yX3_substitute cX3_substitute 11 none] ++ wsX30)
def wsX3_descend_r1 : List Cond := [Cond.fieldLink RX3 49 "LayoutSolver$Dictionary" "countedLevels" "I", Cond.constant RX3 109 (1000000), Cond.methodLink RX3 110 yX3_findSlopes, Cond.instanceMethod yX3_findSlopes, Cond.selects RX3 yX3_findSlopes yX3_findSlopes, Cond.initialized RX3, Cond.code yX3_findSlopes cX3_findSlopes 5 none, Cond.fieldLink RX3 46 "LayoutSolver$Dictionary" "slopes" "[[J", Cond.fieldLink RX3 20 "LayoutSolver$Dictionary" "placed" "[Z", Cond.fieldLink RX3 40 "LayoutSolver$Dictionary" "columnOf" "[I", Cond.fieldLink RX3 28 "LayoutSolver$Dictionary" "levels" "[I", Cond.fieldLink RX3 37 "LayoutSolver$Dictionary" "sides" "[I", Cond.fieldLink RX3 31 "LayoutSolver$Dictionary" "costAbove" "[I", Cond.fieldLink RX3 34 "LayoutSolver$Dictionary" "costBelow" "[I", Cond.methodLink RX3 127 yX3_addSlopes, Cond.instanceMethod yX3_addSlopes, Cond.selects RX3 yX3_addSlopes yX3_addSlopes, Cond.code yX3_addSlopes cX3_addSlopes 5 none, Cond.fieldLink RX3 13 "LayoutSolver$Dictionary" "rows" "[[J", Cond.methodLink RX3 114 yX3_enteringColumn, Cond.instanceMethod yX3_enteringColumn, Cond.selects RX3 yX3_enteringColumn yX3_enteringColumn, Cond.code yX3_enteringColumn cX3_enteringColumn 3 (some .int), Cond.fieldLink RX3 43 "LayoutSolver$Dictionary" "rowOf" "[I"]
def wsX3_descend_r2 : List Cond := [Cond.methodLink RX3 117 yX3_directionOf, Cond.instanceMethod yX3_directionOf, Cond.selects RX3 yX3_directionOf yX3_directionOf, Cond.code yX3_directionOf cX3_directionOf 10 (some .int), Cond.fieldLink RX3 16 "LayoutSolver$Dictionary" "scale" "J", Cond.methodLink RX3 103 yJ13_compare_74951, Cond.static yJ13_compare_74951, Cond.initialized RJ13, Cond.code yJ13_compare_74951 cJ13_compare_74951 4 (some .int), Cond.methodLink RX3 120 yX3_leavingRow, Cond.instanceMethod yX3_leavingRow, Cond.selects RX3 yX3_leavingRow yX3_leavingRow, Cond.code yX3_leavingRow cX3_leavingRow 13 (some .int), Cond.methodLink RX3 130 Lib.MathLoose.abs_long.x, Cond.static Lib.MathLoose.abs_long.x, Cond.initialized "java/lang/Math", Cond.code Lib.MathLoose.abs_long.x Lib.MathLoose.abs_long.code 2 (some .long), Cond.methodLink RX3 124 yX3_exchange, Cond.instanceMethod yX3_exchange, Cond.selects RX3 yX3_exchange yX3_exchange, Cond.code yX3_exchange cX3_exchange 8 none, Cond.methodLink RX3 136 yX3_substitute, Cond.instanceMethod yX3_substitute, Cond.selects RX3 yX3_substitute yX3_substitute]
def wsX3_descend_r3 : List Cond := [Cond.code yX3_substitute cX3_substitute 11 none]
def wsX3_descend : List Cond := .code yX3_descend cX3_descend 8 none :: ((wsX3_descend_r1 ++ (wsX3_descend_r2 ++ wsX3_descend_r3)) ++ wsX30)
def wsX3_costOf : List Cond := .code yX3_costOf cX3_costOf 4 (some .long) :: ([.fieldLink RX3 13 "LayoutSolver$Dictionary" "rows" "[[J", .fieldLink RX3 31 "LayoutSolver$Dictionary" "costAbove" "[I", .fieldLink RX3 34 "LayoutSolver$Dictionary" "costBelow" "[I"] ++ wsX30)
def wsX3_isFeasible_r1 : List Cond := [Cond.fieldLink RX3 20 "LayoutSolver$Dictionary" "placed" "[Z", Cond.fieldLink RX3 28 "LayoutSolver$Dictionary" "levels" "[I", Cond.methodLink RX3 86 yX3_descend, Cond.instanceMethod yX3_descend, Cond.selects RX3 yX3_descend yX3_descend, Cond.initialized RX3, Cond.code yX3_descend cX3_descend 8 none, Cond.fieldLink RX3 49 "LayoutSolver$Dictionary" "countedLevels" "I", Cond.constant RX3 109 (1000000), Cond.methodLink RX3 110 yX3_findSlopes, Cond.instanceMethod yX3_findSlopes, Cond.selects RX3 yX3_findSlopes yX3_findSlopes, Cond.code yX3_findSlopes cX3_findSlopes 5 none, Cond.fieldLink RX3 46 "LayoutSolver$Dictionary" "slopes" "[[J", Cond.fieldLink RX3 40 "LayoutSolver$Dictionary" "columnOf" "[I", Cond.fieldLink RX3 37 "LayoutSolver$Dictionary" "sides" "[I", Cond.fieldLink RX3 31 "LayoutSolver$Dictionary" "costAbove" "[I", Cond.fieldLink RX3 34 "LayoutSolver$Dictionary" "costBelow" "[I", Cond.methodLink RX3 127 yX3_addSlopes, Cond.instanceMethod yX3_addSlopes, Cond.selects RX3 yX3_addSlopes yX3_addSlopes, Cond.code yX3_addSlopes cX3_addSlopes 5 none, Cond.fieldLink RX3 13 "LayoutSolver$Dictionary" "rows" "[[J", Cond.methodLink RX3 114 yX3_enteringColumn]
def wsX3_isFeasible_r2 : List Cond := [Cond.instanceMethod yX3_enteringColumn, Cond.selects RX3 yX3_enteringColumn yX3_enteringColumn, Cond.code yX3_enteringColumn cX3_enteringColumn 3 (some .int), Cond.fieldLink RX3 43 "LayoutSolver$Dictionary" "rowOf" "[I", Cond.methodLink RX3 117 yX3_directionOf, Cond.instanceMethod yX3_directionOf, Cond.selects RX3 yX3_directionOf yX3_directionOf, Cond.code yX3_directionOf cX3_directionOf 10 (some .int), Cond.fieldLink RX3 16 "LayoutSolver$Dictionary" "scale" "J", Cond.methodLink RX3 103 yJ13_compare_74951, Cond.static yJ13_compare_74951, Cond.initialized RJ13, Cond.code yJ13_compare_74951 cJ13_compare_74951 4 (some .int), Cond.methodLink RX3 120 yX3_leavingRow, Cond.instanceMethod yX3_leavingRow, Cond.selects RX3 yX3_leavingRow yX3_leavingRow, Cond.code yX3_leavingRow cX3_leavingRow 13 (some .int), Cond.methodLink RX3 130 Lib.MathLoose.abs_long.x, Cond.static Lib.MathLoose.abs_long.x, Cond.initialized "java/lang/Math", Cond.code Lib.MathLoose.abs_long.x Lib.MathLoose.abs_long.code 2 (some .long), Cond.methodLink RX3 124 yX3_exchange, Cond.instanceMethod yX3_exchange, Cond.selects RX3 yX3_exchange yX3_exchange]
def wsX3_isFeasible_r3 : List Cond := [Cond.code yX3_exchange cX3_exchange 8 none, Cond.methodLink RX3 136 yX3_substitute, Cond.instanceMethod yX3_substitute, Cond.selects RX3 yX3_substitute yX3_substitute, Cond.code yX3_substitute cX3_substitute 11 none, Cond.methodLink RX3 89 yX3_costOf, Cond.instanceMethod yX3_costOf, Cond.selects RX3 yX3_costOf yX3_costOf, Cond.code yX3_costOf cX3_costOf 4 (some .long)]
def wsX3_isFeasible : List Cond := .code yX3_isFeasible cX3_isFeasible 4 (some .boolean) :: ((wsX3_isFeasible_r1 ++ (wsX3_isFeasible_r2 ++ wsX3_isFeasible_r3)) ++ wsX30)
def wsX3_tellCosts : List Cond := .code yX3_tellCosts cX3_tellCosts 3 none :: ([.fieldLink RX3 16 "LayoutSolver$Dictionary" "scale" "J", .fieldLink RX3 20 "LayoutSolver$Dictionary" "placed" "[Z", .fieldLink RX3 28 "LayoutSolver$Dictionary" "levels" "[I", .methodLink RX3 93 yX2_clear, .instanceMethod yX2_clear, .selects RX2 yX2_clear yX2_clear, .initialized RX2, .code yX2_clear cX2_clear 4 none, .fieldLink RX2 9 "LayoutSolver$Costs" "sums" "[J", .fieldLink RX2 15 "LayoutSolver$Costs" "denominator" "J", .methodLink RX3 89 yX3_costOf, .instanceMethod yX3_costOf, .selects RX3 yX3_costOf yX3_costOf, .initialized RX3, .code yX3_costOf cX3_costOf 4 (some .long), .fieldLink RX3 13 "LayoutSolver$Dictionary" "rows" "[[J", .fieldLink RX3 31 "LayoutSolver$Dictionary" "costAbove" "[I", .fieldLink RX3 34 "LayoutSolver$Dictionary" "costBelow" "[I", .methodLink RX3 99 yX2_increase, .instanceMethod yX2_increase, .selects RX2 yX2_increase yX2_increase, .code yX2_increase cX2_increase 4 none] ++ wsX30 ++ wsX20)
def wsX3_denominator : List Cond := .code yX3_denominator cX3_denominator 1 (some .long) :: ([.fieldLink RX3 16 "LayoutSolver$Dictionary" "scale" "J"] ++ wsX30)
def wsX3_numerator : List Cond := .code yX3_numerator cX3_numerator 2 (some .long) :: ([.fieldLink RX3 13 "LayoutSolver$Dictionary" "rows" "[[J", .fieldLink RX3 24 "LayoutSolver$Dictionary" "constants" "[I", .fieldLink RX3 16 "LayoutSolver$Dictionary" "scale" "J"] ++ wsX30)
def wsX3_signOf : List Cond := .code yX3_signOf cX3_signOf 2 (some .int) :: ([.fieldLink RX3 13 "LayoutSolver$Dictionary" "rows" "[[J", .methodLink RX3 103 yJ13_compare_74951, .static yJ13_compare_74951, .initialized RJ13, .code yJ13_compare_74951 cJ13_compare_74951 4 (some .int)] ++ wsX30)
def wsX3_settle_r1 : List Cond := [Cond.methodLink RX3 86 yX3_descend, Cond.instanceMethod yX3_descend, Cond.selects RX3 yX3_descend yX3_descend, Cond.initialized RX3, Cond.code yX3_descend cX3_descend 8 none, Cond.fieldLink RX3 49 "LayoutSolver$Dictionary" "countedLevels" "I", Cond.constant RX3 109 (1000000), Cond.methodLink RX3 110 yX3_findSlopes, Cond.instanceMethod yX3_findSlopes, Cond.selects RX3 yX3_findSlopes yX3_findSlopes, Cond.code yX3_findSlopes cX3_findSlopes 5 none, Cond.fieldLink RX3 46 "LayoutSolver$Dictionary" "slopes" "[[J", Cond.fieldLink RX3 20 "LayoutSolver$Dictionary" "placed" "[Z", Cond.fieldLink RX3 40 "LayoutSolver$Dictionary" "columnOf" "[I", Cond.fieldLink RX3 28 "LayoutSolver$Dictionary" "levels" "[I", Cond.fieldLink RX3 37 "LayoutSolver$Dictionary" "sides" "[I", Cond.fieldLink RX3 31 "LayoutSolver$Dictionary" "costAbove" "[I", Cond.fieldLink RX3 34 "LayoutSolver$Dictionary" "costBelow" "[I", Cond.methodLink RX3 127 yX3_addSlopes, Cond.instanceMethod yX3_addSlopes, Cond.selects RX3 yX3_addSlopes yX3_addSlopes, Cond.code yX3_addSlopes cX3_addSlopes 5 none, Cond.fieldLink RX3 13 "LayoutSolver$Dictionary" "rows" "[[J", Cond.methodLink RX3 114 yX3_enteringColumn]
def wsX3_settle_r2 : List Cond := [Cond.instanceMethod yX3_enteringColumn, Cond.selects RX3 yX3_enteringColumn yX3_enteringColumn, Cond.code yX3_enteringColumn cX3_enteringColumn 3 (some .int), Cond.fieldLink RX3 43 "LayoutSolver$Dictionary" "rowOf" "[I", Cond.methodLink RX3 117 yX3_directionOf, Cond.instanceMethod yX3_directionOf, Cond.selects RX3 yX3_directionOf yX3_directionOf, Cond.code yX3_directionOf cX3_directionOf 10 (some .int), Cond.fieldLink RX3 16 "LayoutSolver$Dictionary" "scale" "J", Cond.methodLink RX3 103 yJ13_compare_74951, Cond.static yJ13_compare_74951, Cond.initialized RJ13, Cond.code yJ13_compare_74951 cJ13_compare_74951 4 (some .int), Cond.methodLink RX3 120 yX3_leavingRow, Cond.instanceMethod yX3_leavingRow, Cond.selects RX3 yX3_leavingRow yX3_leavingRow, Cond.code yX3_leavingRow cX3_leavingRow 13 (some .int), Cond.methodLink RX3 130 Lib.MathLoose.abs_long.x, Cond.static Lib.MathLoose.abs_long.x, Cond.initialized "java/lang/Math", Cond.code Lib.MathLoose.abs_long.x Lib.MathLoose.abs_long.code 2 (some .long), Cond.methodLink RX3 124 yX3_exchange, Cond.instanceMethod yX3_exchange, Cond.selects RX3 yX3_exchange yX3_exchange]
def wsX3_settle_r3 : List Cond := [Cond.code yX3_exchange cX3_exchange 8 none, Cond.methodLink RX3 136 yX3_substitute, Cond.instanceMethod yX3_substitute, Cond.selects RX3 yX3_substitute yX3_substitute, Cond.code yX3_substitute cX3_substitute 11 none]
def wsX3_settle : List Cond := .code yX3_settle cX3_settle 1 none :: ((wsX3_settle_r1 ++ (wsX3_settle_r2 ++ wsX3_settle_r3)) ++ wsX30)
def wsX3_goTo_r1 : List Cond := [Cond.methodLink RX3 86 yX3_descend, Cond.instanceMethod yX3_descend, Cond.selects RX3 yX3_descend yX3_descend, Cond.initialized RX3, Cond.code yX3_descend cX3_descend 8 none, Cond.fieldLink RX3 49 "LayoutSolver$Dictionary" "countedLevels" "I", Cond.constant RX3 109 (1000000), Cond.methodLink RX3 110 yX3_findSlopes, Cond.instanceMethod yX3_findSlopes, Cond.selects RX3 yX3_findSlopes yX3_findSlopes, Cond.code yX3_findSlopes cX3_findSlopes 5 none, Cond.fieldLink RX3 46 "LayoutSolver$Dictionary" "slopes" "[[J", Cond.fieldLink RX3 20 "LayoutSolver$Dictionary" "placed" "[Z", Cond.fieldLink RX3 40 "LayoutSolver$Dictionary" "columnOf" "[I", Cond.fieldLink RX3 28 "LayoutSolver$Dictionary" "levels" "[I", Cond.fieldLink RX3 37 "LayoutSolver$Dictionary" "sides" "[I", Cond.fieldLink RX3 31 "LayoutSolver$Dictionary" "costAbove" "[I", Cond.fieldLink RX3 34 "LayoutSolver$Dictionary" "costBelow" "[I", Cond.methodLink RX3 127 yX3_addSlopes, Cond.instanceMethod yX3_addSlopes, Cond.selects RX3 yX3_addSlopes yX3_addSlopes, Cond.code yX3_addSlopes cX3_addSlopes 5 none, Cond.fieldLink RX3 13 "LayoutSolver$Dictionary" "rows" "[[J", Cond.methodLink RX3 114 yX3_enteringColumn]
def wsX3_goTo_r2 : List Cond := [Cond.instanceMethod yX3_enteringColumn, Cond.selects RX3 yX3_enteringColumn yX3_enteringColumn, Cond.code yX3_enteringColumn cX3_enteringColumn 3 (some .int), Cond.fieldLink RX3 43 "LayoutSolver$Dictionary" "rowOf" "[I", Cond.methodLink RX3 117 yX3_directionOf, Cond.instanceMethod yX3_directionOf, Cond.selects RX3 yX3_directionOf yX3_directionOf, Cond.code yX3_directionOf cX3_directionOf 10 (some .int), Cond.fieldLink RX3 16 "LayoutSolver$Dictionary" "scale" "J", Cond.methodLink RX3 103 yJ13_compare_74951, Cond.static yJ13_compare_74951, Cond.initialized RJ13, Cond.code yJ13_compare_74951 cJ13_compare_74951 4 (some .int), Cond.methodLink RX3 120 yX3_leavingRow, Cond.instanceMethod yX3_leavingRow, Cond.selects RX3 yX3_leavingRow yX3_leavingRow, Cond.code yX3_leavingRow cX3_leavingRow 13 (some .int), Cond.methodLink RX3 130 Lib.MathLoose.abs_long.x, Cond.static Lib.MathLoose.abs_long.x, Cond.initialized "java/lang/Math", Cond.code Lib.MathLoose.abs_long.x Lib.MathLoose.abs_long.code 2 (some .long), Cond.methodLink RX3 124 yX3_exchange, Cond.instanceMethod yX3_exchange, Cond.selects RX3 yX3_exchange yX3_exchange]
def wsX3_goTo_r3 : List Cond := [Cond.code yX3_exchange cX3_exchange 8 none, Cond.methodLink RX3 136 yX3_substitute, Cond.instanceMethod yX3_substitute, Cond.selects RX3 yX3_substitute yX3_substitute, Cond.code yX3_substitute cX3_substitute 11 none]
def wsX3_goTo : List Cond := .code yX3_goTo cX3_goTo 4 none :: ((wsX3_goTo_r1 ++ (wsX3_goTo_r2 ++ wsX3_goTo_r3)) ++ wsX30)
def wsX4_init : List Cond := .code yX4_init cX4_init 1 none :: ([.methodLink RX4 3 objectInit, .instanceMethod objectInit, .code objectInit ⟨#[0xb1]⟩ 1 none, .classLink RX4 9 RX0, .fieldLink RX4 11 "LayoutSolver$History" "changes" "[LLayoutSolver$Change;", .fieldLink RX4 17 "LayoutSolver$History" "done" "I", .fieldLink RX4 21 "LayoutSolver$History" "undone" "I"] ++ wsX40)
def wsX4_done : List Cond := .code yX4_done cX4_done 1 (some .int) :: ([.fieldLink RX4 17 "LayoutSolver$History" "done" "I"] ++ wsX40)
def wsX4_undone : List Cond := .code yX4_undone cX4_undone 1 (some .int) :: ([.fieldLink RX4 21 "LayoutSolver$History" "undone" "I"] ++ wsX40)
def wsX4_clear : List Cond := .code yX4_clear cX4_clear 1 none :: ([.fieldLink RX4 17 "LayoutSolver$History" "done" "I", .fieldLink RX4 21 "LayoutSolver$History" "undone" "I"] ++ wsX40)
def wsX4_append : List Cond := .code yX4_append cX4_append 3 none :: ([.fieldLink RX4 17 "LayoutSolver$History" "done" "I", .fieldLink RX4 11 "LayoutSolver$History" "changes" "[LLayoutSolver$Change;", .fieldLink RX4 21 "LayoutSolver$History" "undone" "I"] ++ wsX40)
def wsX4_back : List Cond := .code yX4_back cX4_back 1 (some (.object "LayoutSolver$Change")) :: ([.fieldLink RX4 17 "LayoutSolver$History" "done" "I", .fieldLink RX4 21 "LayoutSolver$History" "undone" "I", .fieldLink RX4 11 "LayoutSolver$History" "changes" "[LLayoutSolver$Change;"] ++ wsX40)
def wsX4_forth : List Cond := .code yX4_forth cX4_forth 2 (some (.object "LayoutSolver$Change")) :: ([.fieldLink RX4 21 "LayoutSolver$History" "undone" "I", .fieldLink RX4 17 "LayoutSolver$History" "done" "I", .fieldLink RX4 11 "LayoutSolver$History" "changes" "[LLayoutSolver$Change;"] ++ wsX40)
def wsX5_init : List Cond := .code yX5_init cX5_init 1 none :: ([.methodLink RX5 3 objectInit, .instanceMethod objectInit, .code objectInit ⟨#[0xb1]⟩ 1 none, .classLink RX5 9 RX1, .fieldLink RX5 11 "LayoutSolver$Layout" "places" "[LLayoutSolver$Constraint;"] ++ wsX50)
def wsX5_at : List Cond := .code yX5_at cX5_at 2 (some (.object "LayoutSolver$Constraint")) :: ([.fieldLink RX5 11 "LayoutSolver$Layout" "places" "[LLayoutSolver$Constraint;"] ++ wsX50)
def wsX5_put : List Cond := .code yX5_put cX5_put 3 none :: ([.fieldLink RX5 11 "LayoutSolver$Layout" "places" "[LLayoutSolver$Constraint;"] ++ wsX50)
def wsX5_lowestFree : List Cond := .code yX5_lowestFree cX5_lowestFree 2 (some .int) :: ([.fieldLink RX5 11 "LayoutSolver$Layout" "places" "[LLayoutSolver$Constraint;"] ++ wsX50)
def wsX5_mask : List Cond := .code yX5_mask cX5_mask 3 (some .int) :: ([.fieldLink RX5 11 "LayoutSolver$Layout" "places" "[LLayoutSolver$Constraint;"] ++ wsX50)
def wsJ6_bitCount_0f7a4 : List Cond := .code yJ6_bitCount_0f7a4 cJ6_bitCount_0f7a4 1 (some .int) :: ([.constant RJ6 265 (1431655765), .constant RJ6 266 (858993459), .constant RJ6 267 (252645135)])
def wsX5_size : List Cond := .code yX5_size cX5_size 1 (some .int) :: ([.methodLink RX5 17 yX5_mask, .instanceMethod yX5_mask, .selects RX5 yX5_mask yX5_mask, .initialized RX5, .code yX5_mask cX5_mask 3 (some .int), .fieldLink RX5 11 "LayoutSolver$Layout" "places" "[LLayoutSolver$Constraint;", .methodLink RX5 21 yJ6_bitCount_0f7a4, .static yJ6_bitCount_0f7a4, .initialized RJ6, .code yJ6_bitCount_0f7a4 cJ6_bitCount_0f7a4 1 (some .int), .constant RJ6 265 (1431655765), .constant RJ6 266 (858993459), .constant RJ6 267 (252645135)] ++ wsX50)
def wsX5_requiredOnes : List Cond := .code yX5_requiredOnes cX5_requiredOnes 4 (some .int) :: ([.fieldLink RX5 11 "LayoutSolver$Layout" "places" "[LLayoutSolver$Constraint;", .fieldLink RX5 27 "LayoutSolver$Constraint" "strength" "I"] ++ wsX50 ++ wsX10)
def wsX6_init : List Cond := .code yX6_init cX6_init 1 none :: ([.methodLink RX6 3 objectInit, .instanceMethod objectInit, .code objectInit ⟨#[0xb1]⟩ 1 none, .arrayClass .char, .fieldLink RX6 9 "LayoutSolver$Line" "characters" "[C", .fieldLink RX6 15 "LayoutSolver$Line" "length" "I"] ++ wsX60)
def wsX6_isFull : List Cond := .code yX6_isFull cX6_isFull 1 (some .boolean) :: ([.fieldLink RX6 15 "LayoutSolver$Line" "length" "I"] ++ wsX60)
def wsX6_at : List Cond := .code yX6_at cX6_at 2 (some .char) :: ([.fieldLink RX6 15 "LayoutSolver$Line" "length" "I", .fieldLink RX6 9 "LayoutSolver$Line" "characters" "[C"] ++ wsX60)
def wsX7_init : List Cond := .code yX7_init cX7_init 1 none :: ([.methodLink RX7 3 objectInit, .instanceMethod objectInit, .code objectInit ⟨#[0xb1]⟩ 1 none, .arrayClass .int, .fieldLink RX7 9 "LayoutSolver$Reader" "coefficients" "[I", .fieldLink RX7 15 "LayoutSolver$Reader" "state" "I", .fieldLink RX7 19 "LayoutSolver$Reader" "sign" "I", .fieldLink RX7 22 "LayoutSolver$Reader" "factor" "I", .fieldLink RX7 25 "LayoutSolver$Reader" "relation" "I", .fieldLink RX7 28 "LayoutSolver$Reader" "constantSign" "I", .fieldLink RX7 31 "LayoutSolver$Reader" "number" "I", .fieldLink RX7 34 "LayoutSolver$Reader" "strength" "I", .fieldLink RX7 37 "LayoutSolver$Reader" "weight" "I"] ++ wsX70)
def wsX7_begin : List Cond := .code yX7_begin cX7_begin 2 none :: ([.fieldLink RX7 9 "LayoutSolver$Reader" "coefficients" "[I", .fieldLink RX7 15 "LayoutSolver$Reader" "state" "I", .fieldLink RX7 19 "LayoutSolver$Reader" "sign" "I", .fieldLink RX7 22 "LayoutSolver$Reader" "factor" "I", .fieldLink RX7 28 "LayoutSolver$Reader" "constantSign" "I", .fieldLink RX7 31 "LayoutSolver$Reader" "number" "I", .fieldLink RX7 34 "LayoutSolver$Reader" "strength" "I", .fieldLink RX7 37 "LayoutSolver$Reader" "weight" "I"] ++ wsX70)
def wsX7_takesSign : List Cond := .code yX7_takesSign cX7_takesSign 3 (some .boolean) :: ([.fieldLink RX7 19 "LayoutSolver$Reader" "sign" "I", .fieldLink RX7 15 "LayoutSolver$Reader" "state" "I"] ++ wsX70)
def wsX7_takesFactor : List Cond := .code yX7_takesFactor cX7_takesFactor 2 (some .boolean) :: ([.fieldLink RX7 22 "LayoutSolver$Reader" "factor" "I", .fieldLink RX7 15 "LayoutSolver$Reader" "state" "I"] ++ wsX70)
def wsX7_takesVariable : List Cond := .code yX7_takesVariable cX7_takesVariable 3 (some .boolean) :: ([.fieldLink RX7 9 "LayoutSolver$Reader" "coefficients" "[I", .fieldLink RX7 19 "LayoutSolver$Reader" "sign" "I", .fieldLink RX7 22 "LayoutSolver$Reader" "factor" "I", .fieldLink RX7 15 "LayoutSolver$Reader" "state" "I"] ++ wsX70)
def wsX7_takesRelation : List Cond := .code yX7_takesRelation cX7_takesRelation 2 (some .boolean) :: ([.fieldLink RX7 25 "LayoutSolver$Reader" "relation" "I", .fieldLink RX7 15 "LayoutSolver$Reader" "state" "I"] ++ wsX70)
def wsX7_takesConstantSign : List Cond := .code yX7_takesConstantSign cX7_takesConstantSign 2 (some .boolean) :: ([.fieldLink RX7 28 "LayoutSolver$Reader" "constantSign" "I", .fieldLink RX7 15 "LayoutSolver$Reader" "state" "I"] ++ wsX70)
def wsX7_takesDigit : List Cond := .code yX7_takesDigit cX7_takesDigit 2 (some .boolean) :: ([.fieldLink RX7 31 "LayoutSolver$Reader" "number" "I", .fieldLink RX7 15 "LayoutSolver$Reader" "state" "I"] ++ wsX70)
def wsX7_takesAt : List Cond := .code yX7_takesAt cX7_takesAt 2 (some .boolean) :: ([.fieldLink RX7 15 "LayoutSolver$Reader" "state" "I"] ++ wsX70)
def wsX7_takesNextDigit : List Cond := .code yX7_takesNextDigit cX7_takesNextDigit 2 (some .boolean) :: ([.fieldLink RX7 31 "LayoutSolver$Reader" "number" "I", .methodLink RX7 83 yX7_takesDigit, .instanceMethod yX7_takesDigit, .selects RX7 yX7_takesDigit yX7_takesDigit, .initialized RX7, .code yX7_takesDigit cX7_takesDigit 2 (some .boolean), .fieldLink RX7 15 "LayoutSolver$Reader" "state" "I"] ++ wsX70)
def wsX7_takesStrength : List Cond := .code yX7_takesStrength cX7_takesStrength 2 (some .boolean) :: ([.fieldLink RX7 34 "LayoutSolver$Reader" "strength" "I", .fieldLink RX7 15 "LayoutSolver$Reader" "state" "I"] ++ wsX70)
def wsX7_takesWeight : List Cond := .code yX7_takesWeight cX7_takesWeight 2 (some .boolean) :: ([.fieldLink RX7 37 "LayoutSolver$Reader" "weight" "I", .fieldLink RX7 15 "LayoutSolver$Reader" "state" "I"] ++ wsX70)
def wsX7_takes_r1 : List Cond := [Cond.fieldLink RX7 15 "LayoutSolver$Reader" "state" "I", Cond.methodLink RX7 67 yX7_takesSign, Cond.instanceMethod yX7_takesSign, Cond.selects RX7 yX7_takesSign yX7_takesSign, Cond.initialized RX7, Cond.code yX7_takesSign cX7_takesSign 3 (some .boolean), Cond.fieldLink RX7 19 "LayoutSolver$Reader" "sign" "I", Cond.methodLink RX7 71 yX7_takesFactor, Cond.instanceMethod yX7_takesFactor, Cond.selects RX7 yX7_takesFactor yX7_takesFactor, Cond.code yX7_takesFactor cX7_takesFactor 2 (some .boolean), Cond.fieldLink RX7 22 "LayoutSolver$Reader" "factor" "I", Cond.methodLink RX7 74 yX7_takesVariable, Cond.instanceMethod yX7_takesVariable, Cond.selects RX7 yX7_takesVariable yX7_takesVariable, Cond.code yX7_takesVariable cX7_takesVariable 3 (some .boolean), Cond.fieldLink RX7 9 "LayoutSolver$Reader" "coefficients" "[I", Cond.methodLink RX7 77 yX7_takesRelation, Cond.instanceMethod yX7_takesRelation, Cond.selects RX7 yX7_takesRelation yX7_takesRelation, Cond.code yX7_takesRelation cX7_takesRelation 2 (some .boolean), Cond.fieldLink RX7 25 "LayoutSolver$Reader" "relation" "I", Cond.methodLink RX7 80 yX7_takesConstantSign, Cond.instanceMethod yX7_takesConstantSign]
def wsX7_takes_r2 : List Cond := [Cond.selects RX7 yX7_takesConstantSign yX7_takesConstantSign, Cond.code yX7_takesConstantSign cX7_takesConstantSign 2 (some .boolean), Cond.fieldLink RX7 28 "LayoutSolver$Reader" "constantSign" "I", Cond.methodLink RX7 83 yX7_takesDigit, Cond.instanceMethod yX7_takesDigit, Cond.selects RX7 yX7_takesDigit yX7_takesDigit, Cond.code yX7_takesDigit cX7_takesDigit 2 (some .boolean), Cond.fieldLink RX7 31 "LayoutSolver$Reader" "number" "I", Cond.methodLink RX7 86 yX7_takesAt, Cond.instanceMethod yX7_takesAt, Cond.selects RX7 yX7_takesAt yX7_takesAt, Cond.code yX7_takesAt cX7_takesAt 2 (some .boolean), Cond.methodLink RX7 89 yX7_takesNextDigit, Cond.instanceMethod yX7_takesNextDigit, Cond.selects RX7 yX7_takesNextDigit yX7_takesNextDigit, Cond.code yX7_takesNextDigit cX7_takesNextDigit 2 (some .boolean), Cond.methodLink RX7 92 yX7_takesStrength, Cond.instanceMethod yX7_takesStrength, Cond.selects RX7 yX7_takesStrength yX7_takesStrength, Cond.code yX7_takesStrength cX7_takesStrength 2 (some .boolean), Cond.fieldLink RX7 34 "LayoutSolver$Reader" "strength" "I", Cond.methodLink RX7 95 yX7_takesWeight, Cond.instanceMethod yX7_takesWeight, Cond.selects RX7 yX7_takesWeight yX7_takesWeight]
def wsX7_takes_r3 : List Cond := [Cond.code yX7_takesWeight cX7_takesWeight 2 (some .boolean), Cond.fieldLink RX7 37 "LayoutSolver$Reader" "weight" "I"]
def wsX7_takes : List Cond := .code yX7_takes cX7_takes 2 (some .boolean) :: ((wsX7_takes_r1 ++ (wsX7_takes_r2 ++ wsX7_takes_r3)) ++ wsX70)
def wsX7_read_r1 : List Cond := [Cond.methodLink RX7 40 yX7_begin, Cond.instanceMethod yX7_begin, Cond.selects RX7 yX7_begin yX7_begin, Cond.initialized RX7, Cond.code yX7_begin cX7_begin 2 none, Cond.fieldLink RX7 9 "LayoutSolver$Reader" "coefficients" "[I", Cond.fieldLink RX7 15 "LayoutSolver$Reader" "state" "I", Cond.fieldLink RX7 19 "LayoutSolver$Reader" "sign" "I", Cond.fieldLink RX7 22 "LayoutSolver$Reader" "factor" "I", Cond.fieldLink RX7 28 "LayoutSolver$Reader" "constantSign" "I", Cond.fieldLink RX7 31 "LayoutSolver$Reader" "number" "I", Cond.fieldLink RX7 34 "LayoutSolver$Reader" "strength" "I", Cond.fieldLink RX7 37 "LayoutSolver$Reader" "weight" "I", Cond.methodLink RX7 43 yX6_size, Cond.instanceMethod yX6_size, Cond.selects RX6 yX6_size yX6_size, Cond.initialized RX6, Cond.code yX6_size cX6_size 1 (some .int), Cond.fieldLink RX6 15 "LayoutSolver$Line" "length" "I", Cond.methodLink RX7 49 yX6_at, Cond.instanceMethod yX6_at, Cond.selects RX6 yX6_at yX6_at, Cond.code yX6_at cX6_at 2 (some .char), Cond.fieldLink RX6 9 "LayoutSolver$Line" "characters" "[C"]
def wsX7_read_r2 : List Cond := [Cond.methodLink RX7 53 yX7_takes, Cond.instanceMethod yX7_takes, Cond.selects RX7 yX7_takes yX7_takes, Cond.code yX7_takes cX7_takes 2 (some .boolean), Cond.methodLink RX7 67 yX7_takesSign, Cond.instanceMethod yX7_takesSign, Cond.selects RX7 yX7_takesSign yX7_takesSign, Cond.code yX7_takesSign cX7_takesSign 3 (some .boolean), Cond.methodLink RX7 71 yX7_takesFactor, Cond.instanceMethod yX7_takesFactor, Cond.selects RX7 yX7_takesFactor yX7_takesFactor, Cond.code yX7_takesFactor cX7_takesFactor 2 (some .boolean), Cond.methodLink RX7 74 yX7_takesVariable, Cond.instanceMethod yX7_takesVariable, Cond.selects RX7 yX7_takesVariable yX7_takesVariable, Cond.code yX7_takesVariable cX7_takesVariable 3 (some .boolean), Cond.methodLink RX7 77 yX7_takesRelation, Cond.instanceMethod yX7_takesRelation, Cond.selects RX7 yX7_takesRelation yX7_takesRelation, Cond.code yX7_takesRelation cX7_takesRelation 2 (some .boolean), Cond.fieldLink RX7 25 "LayoutSolver$Reader" "relation" "I", Cond.methodLink RX7 80 yX7_takesConstantSign, Cond.instanceMethod yX7_takesConstantSign, Cond.selects RX7 yX7_takesConstantSign yX7_takesConstantSign]
def wsX7_read_r3 : List Cond := [Cond.code yX7_takesConstantSign cX7_takesConstantSign 2 (some .boolean), Cond.methodLink RX7 83 yX7_takesDigit, Cond.instanceMethod yX7_takesDigit, Cond.selects RX7 yX7_takesDigit yX7_takesDigit, Cond.code yX7_takesDigit cX7_takesDigit 2 (some .boolean), Cond.methodLink RX7 86 yX7_takesAt, Cond.instanceMethod yX7_takesAt, Cond.selects RX7 yX7_takesAt yX7_takesAt, Cond.code yX7_takesAt cX7_takesAt 2 (some .boolean), Cond.methodLink RX7 89 yX7_takesNextDigit, Cond.instanceMethod yX7_takesNextDigit, Cond.selects RX7 yX7_takesNextDigit yX7_takesNextDigit, Cond.code yX7_takesNextDigit cX7_takesNextDigit 2 (some .boolean), Cond.methodLink RX7 92 yX7_takesStrength, Cond.instanceMethod yX7_takesStrength, Cond.selects RX7 yX7_takesStrength yX7_takesStrength, Cond.code yX7_takesStrength cX7_takesStrength 2 (some .boolean), Cond.methodLink RX7 95 yX7_takesWeight, Cond.instanceMethod yX7_takesWeight, Cond.selects RX7 yX7_takesWeight yX7_takesWeight, Cond.code yX7_takesWeight cX7_takesWeight 2 (some .boolean)]
def wsX7_read : List Cond := .code yX7_read cX7_read 3 (some .int) :: ((wsX7_read_r1 ++ (wsX7_read_r2 ++ wsX7_read_r3)) ++ wsX70 ++ wsX60)
def wsX7_isAtEnd : List Cond := .code yX7_isAtEnd cX7_isAtEnd 1 (some .boolean) :: ([.fieldLink RX7 15 "LayoutSolver$Reader" "state" "I"] ++ wsX70)
def wsX7_result_r1 : List Cond := [Cond.classLink RX7 57 RX1, Cond.instantiable RX1 5, Cond.initialized RX1, Cond.fieldLink RX7 9 "LayoutSolver$Reader" "coefficients" "[I", Cond.methodLink RX7 59 ⟨"[I", "clone", "()Ljava/lang/Object;"⟩, Cond.sameMethod "[I" "java/lang/Object" "clone" "()Ljava/lang/Object;", Cond.native ⟨"java/lang/Object", "clone", "()Ljava/lang/Object;"⟩, Cond.instanceMethod ⟨"java/lang/Object", "clone", "()Ljava/lang/Object;"⟩, Cond.selects "[I" ⟨"[I", "clone", "()Ljava/lang/Object;"⟩ ⟨"java/lang/Object", "clone", "()Ljava/lang/Object;"⟩, Cond.classLink RX7 60 "[I", Cond.fieldLink RX7 25 "LayoutSolver$Reader" "relation" "I", Cond.fieldLink RX7 28 "LayoutSolver$Reader" "constantSign" "I", Cond.fieldLink RX7 31 "LayoutSolver$Reader" "number" "I", Cond.fieldLink RX7 34 "LayoutSolver$Reader" "strength" "I", Cond.fieldLink RX7 37 "LayoutSolver$Reader" "weight" "I", Cond.methodLink RX7 64 yX1_init, Cond.instanceMethod yX1_init, Cond.code yX1_init cX1_init 6 none, Cond.methodLink RX1 3 objectInit, Cond.instanceMethod objectInit, Cond.code objectInit ⟨#[0xb1]⟩ 1 none, Cond.fieldLink RX1 9 "LayoutSolver$Constraint" "coefficients" "[I", Cond.fieldLink RX1 15 "LayoutSolver$Constraint" "relation" "I", Cond.fieldLink RX1 19 "LayoutSolver$Constraint" "constant" "I"]
def wsX7_result_r2 : List Cond := [Cond.fieldLink RX1 22 "LayoutSolver$Constraint" "strength" "I", Cond.fieldLink RX1 25 "LayoutSolver$Constraint" "weight" "I"]
def wsX7_result : List Cond := .code yX7_result cX7_result 1 (some (.object "LayoutSolver$Constraint")) :: ((wsX7_result_r1 ++ wsX7_result_r2) ++ wsX10 ++ wsX70)
def wsX8_init_r1 : List Cond := [Cond.methodLink RX8 1 objectInit, Cond.instanceMethod objectInit, Cond.code objectInit ⟨#[0xb1]⟩ 1 none, Cond.arrayClass .int, Cond.fieldLink RX8 9 "LayoutSolver" "draft" "[I", Cond.classLink RX8 13 RX6, Cond.instantiable RX6 2, Cond.initialized RX6, Cond.fieldLink RX8 16 "LayoutSolver" "text" "LLayoutSolver$Line;", Cond.fieldLink RX8 20 "LayoutSolver" "spelling" "LLayoutSolver$Line;", Cond.classLink RX8 23 RX7, Cond.instantiable RX7 9, Cond.initialized RX7, Cond.fieldLink RX8 26 "LayoutSolver" "reader" "LLayoutSolver$Reader;", Cond.classLink RX8 30 RX5, Cond.instantiable RX5 1, Cond.initialized RX5, Cond.fieldLink RX8 33 "LayoutSolver" "layout" "LLayoutSolver$Layout;", Cond.fieldLink RX8 37 "LayoutSolver" "slots" "[LLayoutSolver$Layout;", Cond.classLink RX8 41 RX4, Cond.instantiable RX4 3, Cond.initialized RX4, Cond.fieldLink RX8 44 "LayoutSolver" "history" "LLayoutSolver$History;", Cond.classLink RX8 48 RX3]
def wsX8_init_r2 : List Cond := [Cond.instantiable RX3 12, Cond.initialized RX3, Cond.fieldLink RX8 51 "LayoutSolver" "dictionary" "LLayoutSolver$Dictionary;", Cond.classLink RX8 55 RX2, Cond.instantiable RX2 2, Cond.initialized RX2, Cond.fieldLink RX8 58 "LayoutSolver" "present" "LLayoutSolver$Costs;", Cond.fieldLink RX8 62 "LayoutSolver" "other" "LLayoutSolver$Costs;", Cond.classLink RX8 65 RX1, Cond.fieldLink RX8 67 "LayoutSolver" "pins" "[LLayoutSolver$Constraint;", Cond.instantiable RX1 5, Cond.initialized RX1, Cond.instanceMethod yX6_init, Cond.code yX6_init cX6_init 1 none, Cond.methodLink RX6 3 objectInit, Cond.arrayClass .char, Cond.fieldLink RX6 9 "LayoutSolver$Line" "characters" "[C", Cond.fieldLink RX6 15 "LayoutSolver$Line" "length" "I", Cond.instanceMethod yX7_init, Cond.code yX7_init cX7_init 1 none, Cond.methodLink RX7 3 objectInit, Cond.fieldLink RX7 9 "LayoutSolver$Reader" "coefficients" "[I", Cond.fieldLink RX7 15 "LayoutSolver$Reader" "state" "I", Cond.fieldLink RX7 19 "LayoutSolver$Reader" "sign" "I"]
def wsX8_init_r3 : List Cond := [Cond.fieldLink RX7 22 "LayoutSolver$Reader" "factor" "I", Cond.fieldLink RX7 25 "LayoutSolver$Reader" "relation" "I", Cond.fieldLink RX7 28 "LayoutSolver$Reader" "constantSign" "I", Cond.fieldLink RX7 31 "LayoutSolver$Reader" "number" "I", Cond.fieldLink RX7 34 "LayoutSolver$Reader" "strength" "I", Cond.fieldLink RX7 37 "LayoutSolver$Reader" "weight" "I", Cond.instanceMethod yX5_init, Cond.code yX5_init cX5_init 1 none, Cond.methodLink RX5 3 objectInit, Cond.classLink RX5 9 RX1, Cond.fieldLink RX5 11 "LayoutSolver$Layout" "places" "[LLayoutSolver$Constraint;", Cond.instanceMethod yX4_init, Cond.code yX4_init cX4_init 1 none, Cond.methodLink RX4 3 objectInit, Cond.classLink RX4 9 RX0, Cond.fieldLink RX4 11 "LayoutSolver$History" "changes" "[LLayoutSolver$Change;", Cond.fieldLink RX4 17 "LayoutSolver$History" "done" "I", Cond.fieldLink RX4 21 "LayoutSolver$History" "undone" "I", Cond.methodLink RX8 50 yX3_init, Cond.instanceMethod yX3_init, Cond.code yX3_init cX3_init 2 none, Cond.methodLink RX3 5 objectInit, Cond.classLink RX3 11 "[[J", Cond.arrayClass .long]
def wsX8_init_r4 : List Cond := [Cond.fieldLink RX3 13 "LayoutSolver$Dictionary" "rows" "[[J", Cond.fieldLink RX3 16 "LayoutSolver$Dictionary" "scale" "J", Cond.arrayClass .boolean, Cond.fieldLink RX3 20 "LayoutSolver$Dictionary" "placed" "[Z", Cond.fieldLink RX3 24 "LayoutSolver$Dictionary" "constants" "[I", Cond.fieldLink RX3 28 "LayoutSolver$Dictionary" "levels" "[I", Cond.fieldLink RX3 31 "LayoutSolver$Dictionary" "costAbove" "[I", Cond.fieldLink RX3 34 "LayoutSolver$Dictionary" "costBelow" "[I", Cond.fieldLink RX3 37 "LayoutSolver$Dictionary" "sides" "[I", Cond.fieldLink RX3 40 "LayoutSolver$Dictionary" "columnOf" "[I", Cond.fieldLink RX3 43 "LayoutSolver$Dictionary" "rowOf" "[I", Cond.fieldLink RX3 46 "LayoutSolver$Dictionary" "slopes" "[[J", Cond.fieldLink RX3 49 "LayoutSolver$Dictionary" "countedLevels" "I", Cond.methodLink RX3 53 yX3_startLimit, Cond.instanceMethod yX3_startLimit, Cond.selects RX3 yX3_startLimit yX3_startLimit, Cond.code yX3_startLimit cX3_startLimit 4 none, Cond.instanceMethod yX2_init, Cond.code yX2_init cX2_init 1 none, Cond.methodLink RX2 3 objectInit, Cond.fieldLink RX2 9 "LayoutSolver$Costs" "sums" "[J", Cond.fieldLink RX2 15 "LayoutSolver$Costs" "denominator" "J", Cond.methodLink RX8 71 yX1_init, Cond.instanceMethod yX1_init]
def wsX8_init_r5 : List Cond := [Cond.code yX1_init cX1_init 6 none, Cond.methodLink RX1 3 objectInit, Cond.fieldLink RX1 9 "LayoutSolver$Constraint" "coefficients" "[I", Cond.fieldLink RX1 15 "LayoutSolver$Constraint" "relation" "I", Cond.fieldLink RX1 19 "LayoutSolver$Constraint" "constant" "I", Cond.fieldLink RX1 22 "LayoutSolver$Constraint" "strength" "I", Cond.fieldLink RX1 25 "LayoutSolver$Constraint" "weight" "I"]
def wsX8_init : List Cond := .code yX8_init cX8_init 3 none :: ((wsX8_init_r1 ++ (wsX8_init_r2 ++ (wsX8_init_r3 ++ (wsX8_init_r4 ++ wsX8_init_r5)))) ++ wsX80 ++ wsX60 ++ wsX70 ++ wsX50 ++ wsX40 ++ wsX30 ++ wsX20 ++ wsX10)
def wsX8_isVariable : List Cond := .code yX8_isVariable cX8_isVariable 1 (some .boolean) :: ([])
def wsX8_isWithin : List Cond := .code yX8_isWithin cX8_isWithin 2 (some .boolean) :: ([])
def wsX8_term : List Cond := .code yX8_term cX8_term 4 (some .int) :: ([.fieldLink RX8 9 "LayoutSolver" "draft" "[I", .methodLink RX8 74 yX8_isVariable, .static yX8_isVariable, .initialized RX8, .code yX8_isVariable cX8_isVariable 1 (some .boolean), .methodLink RX8 78 yX8_isWithin, .static yX8_isWithin, .code yX8_isWithin cX8_isWithin 2 (some .boolean)] ++ wsX80)
def wsX8_isRelation : List Cond := .code yX8_isRelation cX8_isRelation 1 (some .boolean) :: ([])
def wsX8_isStrength : List Cond := .code yX8_isStrength cX8_isStrength 1 (some .boolean) :: ([])
def wsX8_isWeight : List Cond := .code yX8_isWeight cX8_isWeight 1 (some .boolean) :: ([])
def wsX8_isAllZero : List Cond := .code yX8_isAllZero cX8_isAllZero 2 (some .boolean) :: ([])
def wsX8_put_r1 : List Cond := [Cond.fieldLink RX8 33 "LayoutSolver" "layout" "LLayoutSolver$Layout;", Cond.fieldLink RX8 51 "LayoutSolver" "dictionary" "LLayoutSolver$Dictionary;", Cond.methodLink RX8 289 yX5_put, Cond.instanceMethod yX5_put, Cond.selects RX5 yX5_put yX5_put, Cond.initialized RX5, Cond.code yX5_put cX5_put 3 none, Cond.fieldLink RX5 11 "LayoutSolver$Layout" "places" "[LLayoutSolver$Constraint;", Cond.methodLink RX8 249 yX3_place, Cond.instanceMethod yX3_place, Cond.selects RX3 yX3_place yX3_place, Cond.initialized RX3, Cond.code yX3_place cX3_place 3 none, Cond.fieldLink RX3 61 "LayoutSolver$Constraint" "constant" "I", Cond.methodLink RX3 57 yX3_lift, Cond.instanceMethod yX3_lift, Cond.selects RX3 yX3_lift yX3_lift, Cond.code yX3_lift cX3_lift 3 none, Cond.fieldLink RX3 40 "LayoutSolver$Dictionary" "columnOf" "[I", Cond.fieldLink RX3 43 "LayoutSolver$Dictionary" "rowOf" "[I", Cond.fieldLink RX3 20 "LayoutSolver$Dictionary" "placed" "[Z", Cond.methodLink RX3 66 yX3_placeWith, Cond.instanceMethod yX3_placeWith, Cond.selects RX3 yX3_placeWith yX3_placeWith]
def wsX8_put_r2 : List Cond := [Cond.code yX3_placeWith cX3_placeWith 6 none, Cond.fieldLink RX3 13 "LayoutSolver$Dictionary" "rows" "[[J", Cond.fieldLink RX3 16 "LayoutSolver$Dictionary" "scale" "J", Cond.fieldLink RX3 24 "LayoutSolver$Dictionary" "constants" "[I", Cond.fieldLink RX3 28 "LayoutSolver$Dictionary" "levels" "[I", Cond.fieldLink RX3 78 "LayoutSolver$Constraint" "strength" "I", Cond.fieldLink RX3 31 "LayoutSolver$Dictionary" "costAbove" "[I", Cond.fieldLink RX3 34 "LayoutSolver$Dictionary" "costBelow" "[I", Cond.fieldLink RX3 37 "LayoutSolver$Dictionary" "sides" "[I", Cond.methodLink RX3 70 yX1_coefficient, Cond.instanceMethod yX1_coefficient, Cond.selects RX1 yX1_coefficient yX1_coefficient, Cond.initialized RX1, Cond.code yX1_coefficient cX1_coefficient 2 (some .int), Cond.fieldLink RX1 9 "LayoutSolver$Constraint" "coefficients" "[I", Cond.methodLink RX3 74 yX3_addVariable, Cond.instanceMethod yX3_addVariable, Cond.selects RX3 yX3_addVariable yX3_addVariable, Cond.code yX3_addVariable cX3_addVariable 6 none, Cond.methodLink RX3 81 yX1_costAbove, Cond.instanceMethod yX1_costAbove, Cond.selects RX1 yX1_costAbove yX1_costAbove, Cond.code yX1_costAbove cX1_costAbove 1 (some .int), Cond.fieldLink RX1 15 "LayoutSolver$Constraint" "relation" "I"]
def wsX8_put_r3 : List Cond := [Cond.fieldLink RX1 25 "LayoutSolver$Constraint" "weight" "I", Cond.methodLink RX3 84 yX1_costBelow, Cond.instanceMethod yX1_costBelow, Cond.selects RX1 yX1_costBelow yX1_costBelow, Cond.code yX1_costBelow cX1_costBelow 1 (some .int)]
def wsX8_put : List Cond := .code yX8_put cX8_put 3 none :: ((wsX8_put_r1 ++ (wsX8_put_r2 ++ wsX8_put_r3)) ++ wsX80 ++ wsX50 ++ wsX10 ++ wsX30)
def wsX8_change_r1 : List Cond := [Cond.fieldLink RX8 33 "LayoutSolver" "layout" "LLayoutSolver$Layout;", Cond.fieldLink RX8 130 "LayoutSolver$Constraint" "strength" "I", Cond.fieldLink RX8 51 "LayoutSolver" "dictionary" "LLayoutSolver$Dictionary;", Cond.fieldLink RX8 44 "LayoutSolver" "history" "LLayoutSolver$History;", Cond.classLink RX8 184 RX0, Cond.instantiable RX0 3, Cond.initialized RX0, Cond.methodLink RX8 107 yX5_at, Cond.instanceMethod yX5_at, Cond.selects RX5 yX5_at yX5_at, Cond.initialized RX5, Cond.code yX5_at cX5_at 2 (some (.object "LayoutSolver$Constraint")), Cond.fieldLink RX5 11 "LayoutSolver$Layout" "places" "[LLayoutSolver$Constraint;", Cond.methodLink RX8 192 yX8_put, Cond.instanceMethod yX8_put, Cond.selects RX8 yX8_put yX8_put, Cond.initialized RX8, Cond.code yX8_put cX8_put 3 none, Cond.methodLink RX8 289 yX5_put, Cond.instanceMethod yX5_put, Cond.selects RX5 yX5_put yX5_put, Cond.code yX5_put cX5_put 3 none, Cond.methodLink RX8 249 yX3_place, Cond.instanceMethod yX3_place]
def wsX8_change_r2 : List Cond := [Cond.selects RX3 yX3_place yX3_place, Cond.initialized RX3, Cond.code yX3_place cX3_place 3 none, Cond.fieldLink RX3 61 "LayoutSolver$Constraint" "constant" "I", Cond.methodLink RX3 57 yX3_lift, Cond.instanceMethod yX3_lift, Cond.selects RX3 yX3_lift yX3_lift, Cond.code yX3_lift cX3_lift 3 none, Cond.fieldLink RX3 40 "LayoutSolver$Dictionary" "columnOf" "[I", Cond.fieldLink RX3 43 "LayoutSolver$Dictionary" "rowOf" "[I", Cond.fieldLink RX3 20 "LayoutSolver$Dictionary" "placed" "[Z", Cond.methodLink RX3 66 yX3_placeWith, Cond.instanceMethod yX3_placeWith, Cond.selects RX3 yX3_placeWith yX3_placeWith, Cond.code yX3_placeWith cX3_placeWith 6 none, Cond.fieldLink RX3 13 "LayoutSolver$Dictionary" "rows" "[[J", Cond.fieldLink RX3 16 "LayoutSolver$Dictionary" "scale" "J", Cond.fieldLink RX3 24 "LayoutSolver$Dictionary" "constants" "[I", Cond.fieldLink RX3 28 "LayoutSolver$Dictionary" "levels" "[I", Cond.fieldLink RX3 78 "LayoutSolver$Constraint" "strength" "I", Cond.fieldLink RX3 31 "LayoutSolver$Dictionary" "costAbove" "[I", Cond.fieldLink RX3 34 "LayoutSolver$Dictionary" "costBelow" "[I", Cond.fieldLink RX3 37 "LayoutSolver$Dictionary" "sides" "[I", Cond.methodLink RX3 70 yX1_coefficient]
def wsX8_change_r3 : List Cond := [Cond.instanceMethod yX1_coefficient, Cond.selects RX1 yX1_coefficient yX1_coefficient, Cond.initialized RX1, Cond.code yX1_coefficient cX1_coefficient 2 (some .int), Cond.fieldLink RX1 9 "LayoutSolver$Constraint" "coefficients" "[I", Cond.methodLink RX3 74 yX3_addVariable, Cond.instanceMethod yX3_addVariable, Cond.selects RX3 yX3_addVariable yX3_addVariable, Cond.code yX3_addVariable cX3_addVariable 6 none, Cond.methodLink RX3 81 yX1_costAbove, Cond.instanceMethod yX1_costAbove, Cond.selects RX1 yX1_costAbove yX1_costAbove, Cond.code yX1_costAbove cX1_costAbove 1 (some .int), Cond.fieldLink RX1 15 "LayoutSolver$Constraint" "relation" "I", Cond.fieldLink RX1 25 "LayoutSolver$Constraint" "weight" "I", Cond.methodLink RX3 84 yX1_costBelow, Cond.instanceMethod yX1_costBelow, Cond.selects RX1 yX1_costBelow yX1_costBelow, Cond.code yX1_costBelow cX1_costBelow 1 (some .int), Cond.methodLink RX8 252 yX3_isFeasible, Cond.instanceMethod yX3_isFeasible, Cond.selects RX3 yX3_isFeasible yX3_isFeasible, Cond.code yX3_isFeasible cX3_isFeasible 4 (some .boolean), Cond.methodLink RX3 86 yX3_descend]
def wsX8_change_r4 : List Cond := [Cond.instanceMethod yX3_descend, Cond.selects RX3 yX3_descend yX3_descend, Cond.code yX3_descend cX3_descend 8 none, Cond.fieldLink RX3 49 "LayoutSolver$Dictionary" "countedLevels" "I", Cond.constant RX3 109 (1000000), Cond.methodLink RX3 110 yX3_findSlopes, Cond.instanceMethod yX3_findSlopes, Cond.selects RX3 yX3_findSlopes yX3_findSlopes, Cond.code yX3_findSlopes cX3_findSlopes 5 none, Cond.fieldLink RX3 46 "LayoutSolver$Dictionary" "slopes" "[[J", Cond.methodLink RX3 127 yX3_addSlopes, Cond.instanceMethod yX3_addSlopes, Cond.selects RX3 yX3_addSlopes yX3_addSlopes, Cond.code yX3_addSlopes cX3_addSlopes 5 none, Cond.methodLink RX3 114 yX3_enteringColumn, Cond.instanceMethod yX3_enteringColumn, Cond.selects RX3 yX3_enteringColumn yX3_enteringColumn, Cond.code yX3_enteringColumn cX3_enteringColumn 3 (some .int), Cond.methodLink RX3 117 yX3_directionOf, Cond.instanceMethod yX3_directionOf, Cond.selects RX3 yX3_directionOf yX3_directionOf, Cond.code yX3_directionOf cX3_directionOf 10 (some .int), Cond.methodLink RX3 103 yJ13_compare_74951, Cond.static yJ13_compare_74951]
def wsX8_change_r5 : List Cond := [Cond.initialized RJ13, Cond.code yJ13_compare_74951 cJ13_compare_74951 4 (some .int), Cond.methodLink RX3 120 yX3_leavingRow, Cond.instanceMethod yX3_leavingRow, Cond.selects RX3 yX3_leavingRow yX3_leavingRow, Cond.code yX3_leavingRow cX3_leavingRow 13 (some .int), Cond.methodLink RX3 130 Lib.MathLoose.abs_long.x, Cond.static Lib.MathLoose.abs_long.x, Cond.initialized "java/lang/Math", Cond.code Lib.MathLoose.abs_long.x Lib.MathLoose.abs_long.code 2 (some .long), Cond.methodLink RX3 124 yX3_exchange, Cond.instanceMethod yX3_exchange, Cond.selects RX3 yX3_exchange yX3_exchange, Cond.code yX3_exchange cX3_exchange 8 none, Cond.methodLink RX3 136 yX3_substitute, Cond.instanceMethod yX3_substitute, Cond.selects RX3 yX3_substitute yX3_substitute, Cond.code yX3_substitute cX3_substitute 11 none, Cond.methodLink RX3 89 yX3_costOf, Cond.instanceMethod yX3_costOf, Cond.selects RX3 yX3_costOf yX3_costOf, Cond.code yX3_costOf cX3_costOf 4 (some .long), Cond.methodLink RX8 294 yX0_init, Cond.instanceMethod yX0_init]
def wsX8_change_r6 : List Cond := [Cond.code yX0_init cX0_init 4 none, Cond.methodLink RX0 1 objectInit, Cond.instanceMethod objectInit, Cond.code objectInit ⟨#[0xb1]⟩ 1 none, Cond.fieldLink RX0 7 "LayoutSolver$Change" "number" "I", Cond.fieldLink RX0 13 "LayoutSolver$Change" "before" "LLayoutSolver$Constraint;", Cond.fieldLink RX0 17 "LayoutSolver$Change" "after" "LLayoutSolver$Constraint;", Cond.methodLink RX8 297 yX4_append, Cond.instanceMethod yX4_append, Cond.selects RX4 yX4_append yX4_append, Cond.initialized RX4, Cond.code yX4_append cX4_append 3 none, Cond.fieldLink RX4 17 "LayoutSolver$History" "done" "I", Cond.fieldLink RX4 11 "LayoutSolver$History" "changes" "[LLayoutSolver$Change;", Cond.fieldLink RX4 21 "LayoutSolver$History" "undone" "I"]
def wsX8_change : List Cond := .code yX8_change cX8_change 4 (some .boolean) :: ((wsX8_change_r1 ++ (wsX8_change_r2 ++ (wsX8_change_r3 ++ (wsX8_change_r4 ++ (wsX8_change_r5 ++ wsX8_change_r6))))) ++ wsX80 ++ wsX10 ++ wsX00 ++ wsX50 ++ wsX30 ++ wsX40)
def wsX8_enter_r1 : List Cond := [Cond.fieldLink RX8 33 "LayoutSolver" "layout" "LLayoutSolver$Layout;", Cond.methodLink RX8 291 yX5_lowestFree, Cond.instanceMethod yX5_lowestFree, Cond.selects RX5 yX5_lowestFree yX5_lowestFree, Cond.initialized RX5, Cond.code yX5_lowestFree cX5_lowestFree 2 (some .int), Cond.fieldLink RX5 11 "LayoutSolver$Layout" "places" "[LLayoutSolver$Constraint;", Cond.methodLink RX8 111 yX8_change, Cond.instanceMethod yX8_change, Cond.selects RX8 yX8_change yX8_change, Cond.initialized RX8, Cond.code yX8_change cX8_change 4 (some .boolean), Cond.fieldLink RX8 130 "LayoutSolver$Constraint" "strength" "I", Cond.fieldLink RX8 51 "LayoutSolver" "dictionary" "LLayoutSolver$Dictionary;", Cond.fieldLink RX8 44 "LayoutSolver" "history" "LLayoutSolver$History;", Cond.classLink RX8 184 RX0, Cond.instantiable RX0 3, Cond.initialized RX0, Cond.methodLink RX8 107 yX5_at, Cond.instanceMethod yX5_at, Cond.selects RX5 yX5_at yX5_at, Cond.code yX5_at cX5_at 2 (some (.object "LayoutSolver$Constraint")), Cond.methodLink RX8 192 yX8_put, Cond.instanceMethod yX8_put]
def wsX8_enter_r2 : List Cond := [Cond.selects RX8 yX8_put yX8_put, Cond.code yX8_put cX8_put 3 none, Cond.methodLink RX8 289 yX5_put, Cond.instanceMethod yX5_put, Cond.selects RX5 yX5_put yX5_put, Cond.code yX5_put cX5_put 3 none, Cond.methodLink RX8 249 yX3_place, Cond.instanceMethod yX3_place, Cond.selects RX3 yX3_place yX3_place, Cond.initialized RX3, Cond.code yX3_place cX3_place 3 none, Cond.fieldLink RX3 61 "LayoutSolver$Constraint" "constant" "I", Cond.methodLink RX3 57 yX3_lift, Cond.instanceMethod yX3_lift, Cond.selects RX3 yX3_lift yX3_lift, Cond.code yX3_lift cX3_lift 3 none, Cond.fieldLink RX3 40 "LayoutSolver$Dictionary" "columnOf" "[I", Cond.fieldLink RX3 43 "LayoutSolver$Dictionary" "rowOf" "[I", Cond.fieldLink RX3 20 "LayoutSolver$Dictionary" "placed" "[Z", Cond.methodLink RX3 66 yX3_placeWith, Cond.instanceMethod yX3_placeWith, Cond.selects RX3 yX3_placeWith yX3_placeWith, Cond.code yX3_placeWith cX3_placeWith 6 none, Cond.fieldLink RX3 13 "LayoutSolver$Dictionary" "rows" "[[J"]
def wsX8_enter_r3 : List Cond := [Cond.fieldLink RX3 16 "LayoutSolver$Dictionary" "scale" "J", Cond.fieldLink RX3 24 "LayoutSolver$Dictionary" "constants" "[I", Cond.fieldLink RX3 28 "LayoutSolver$Dictionary" "levels" "[I", Cond.fieldLink RX3 78 "LayoutSolver$Constraint" "strength" "I", Cond.fieldLink RX3 31 "LayoutSolver$Dictionary" "costAbove" "[I", Cond.fieldLink RX3 34 "LayoutSolver$Dictionary" "costBelow" "[I", Cond.fieldLink RX3 37 "LayoutSolver$Dictionary" "sides" "[I", Cond.methodLink RX3 70 yX1_coefficient, Cond.instanceMethod yX1_coefficient, Cond.selects RX1 yX1_coefficient yX1_coefficient, Cond.initialized RX1, Cond.code yX1_coefficient cX1_coefficient 2 (some .int), Cond.fieldLink RX1 9 "LayoutSolver$Constraint" "coefficients" "[I", Cond.methodLink RX3 74 yX3_addVariable, Cond.instanceMethod yX3_addVariable, Cond.selects RX3 yX3_addVariable yX3_addVariable, Cond.code yX3_addVariable cX3_addVariable 6 none, Cond.methodLink RX3 81 yX1_costAbove, Cond.instanceMethod yX1_costAbove, Cond.selects RX1 yX1_costAbove yX1_costAbove, Cond.code yX1_costAbove cX1_costAbove 1 (some .int), Cond.fieldLink RX1 15 "LayoutSolver$Constraint" "relation" "I", Cond.fieldLink RX1 25 "LayoutSolver$Constraint" "weight" "I", Cond.methodLink RX3 84 yX1_costBelow]
def wsX8_enter_r4 : List Cond := [Cond.instanceMethod yX1_costBelow, Cond.selects RX1 yX1_costBelow yX1_costBelow, Cond.code yX1_costBelow cX1_costBelow 1 (some .int), Cond.methodLink RX8 252 yX3_isFeasible, Cond.instanceMethod yX3_isFeasible, Cond.selects RX3 yX3_isFeasible yX3_isFeasible, Cond.code yX3_isFeasible cX3_isFeasible 4 (some .boolean), Cond.methodLink RX3 86 yX3_descend, Cond.instanceMethod yX3_descend, Cond.selects RX3 yX3_descend yX3_descend, Cond.code yX3_descend cX3_descend 8 none, Cond.fieldLink RX3 49 "LayoutSolver$Dictionary" "countedLevels" "I", Cond.constant RX3 109 (1000000), Cond.methodLink RX3 110 yX3_findSlopes, Cond.instanceMethod yX3_findSlopes, Cond.selects RX3 yX3_findSlopes yX3_findSlopes, Cond.code yX3_findSlopes cX3_findSlopes 5 none, Cond.fieldLink RX3 46 "LayoutSolver$Dictionary" "slopes" "[[J", Cond.methodLink RX3 127 yX3_addSlopes, Cond.instanceMethod yX3_addSlopes, Cond.selects RX3 yX3_addSlopes yX3_addSlopes, Cond.code yX3_addSlopes cX3_addSlopes 5 none, Cond.methodLink RX3 114 yX3_enteringColumn, Cond.instanceMethod yX3_enteringColumn]
def wsX8_enter_r5 : List Cond := [Cond.selects RX3 yX3_enteringColumn yX3_enteringColumn, Cond.code yX3_enteringColumn cX3_enteringColumn 3 (some .int), Cond.methodLink RX3 117 yX3_directionOf, Cond.instanceMethod yX3_directionOf, Cond.selects RX3 yX3_directionOf yX3_directionOf, Cond.code yX3_directionOf cX3_directionOf 10 (some .int), Cond.methodLink RX3 103 yJ13_compare_74951, Cond.static yJ13_compare_74951, Cond.initialized RJ13, Cond.code yJ13_compare_74951 cJ13_compare_74951 4 (some .int), Cond.methodLink RX3 120 yX3_leavingRow, Cond.instanceMethod yX3_leavingRow, Cond.selects RX3 yX3_leavingRow yX3_leavingRow, Cond.code yX3_leavingRow cX3_leavingRow 13 (some .int), Cond.methodLink RX3 130 Lib.MathLoose.abs_long.x, Cond.static Lib.MathLoose.abs_long.x, Cond.initialized "java/lang/Math", Cond.code Lib.MathLoose.abs_long.x Lib.MathLoose.abs_long.code 2 (some .long), Cond.methodLink RX3 124 yX3_exchange, Cond.instanceMethod yX3_exchange, Cond.selects RX3 yX3_exchange yX3_exchange, Cond.code yX3_exchange cX3_exchange 8 none, Cond.methodLink RX3 136 yX3_substitute, Cond.instanceMethod yX3_substitute]
def wsX8_enter_r6 : List Cond := [Cond.selects RX3 yX3_substitute yX3_substitute, Cond.code yX3_substitute cX3_substitute 11 none, Cond.methodLink RX3 89 yX3_costOf, Cond.instanceMethod yX3_costOf, Cond.selects RX3 yX3_costOf yX3_costOf, Cond.code yX3_costOf cX3_costOf 4 (some .long), Cond.methodLink RX8 294 yX0_init, Cond.instanceMethod yX0_init, Cond.code yX0_init cX0_init 4 none, Cond.methodLink RX0 1 objectInit, Cond.instanceMethod objectInit, Cond.code objectInit ⟨#[0xb1]⟩ 1 none, Cond.fieldLink RX0 7 "LayoutSolver$Change" "number" "I", Cond.fieldLink RX0 13 "LayoutSolver$Change" "before" "LLayoutSolver$Constraint;", Cond.fieldLink RX0 17 "LayoutSolver$Change" "after" "LLayoutSolver$Constraint;", Cond.methodLink RX8 297 yX4_append, Cond.instanceMethod yX4_append, Cond.selects RX4 yX4_append yX4_append, Cond.initialized RX4, Cond.code yX4_append cX4_append 3 none, Cond.fieldLink RX4 17 "LayoutSolver$History" "done" "I", Cond.fieldLink RX4 11 "LayoutSolver$History" "changes" "[LLayoutSolver$Change;", Cond.fieldLink RX4 21 "LayoutSolver$History" "undone" "I"]
def wsX8_enter : List Cond := .code yX8_enter cX8_enter 3 (some .int) :: ((wsX8_enter_r1 ++ (wsX8_enter_r2 ++ (wsX8_enter_r3 ++ (wsX8_enter_r4 ++ (wsX8_enter_r5 ++ wsX8_enter_r6))))) ++ wsX80 ++ wsX50 ++ wsX10 ++ wsX00 ++ wsX30 ++ wsX40)
def wsX8_clearDraft : List Cond := .code yX8_clearDraft cX8_clearDraft 2 none :: ([.fieldLink RX8 9 "LayoutSolver" "draft" "[I"] ++ wsX80)
def wsX8_add_r1 : List Cond := [Cond.fieldLink RX8 9 "LayoutSolver" "draft" "[I", Cond.classLink RX8 65 RX1, Cond.instantiable RX1 5, Cond.initialized RX1, Cond.methodLink RX8 95 ⟨"[I", "clone", "()Ljava/lang/Object;"⟩, Cond.sameMethod "[I" "java/lang/Object" "clone" "()Ljava/lang/Object;", Cond.native ⟨"java/lang/Object", "clone", "()Ljava/lang/Object;"⟩, Cond.instanceMethod ⟨"java/lang/Object", "clone", "()Ljava/lang/Object;"⟩, Cond.selects "[I" ⟨"[I", "clone", "()Ljava/lang/Object;"⟩ ⟨"java/lang/Object", "clone", "()Ljava/lang/Object;"⟩, Cond.classLink RX8 96 "[I", Cond.methodLink RX8 82 yX8_isRelation, Cond.static yX8_isRelation, Cond.initialized RX8, Cond.code yX8_isRelation cX8_isRelation 1 (some .boolean), Cond.methodLink RX8 78 yX8_isWithin, Cond.static yX8_isWithin, Cond.code yX8_isWithin cX8_isWithin 2 (some .boolean), Cond.methodLink RX8 85 yX8_isStrength, Cond.static yX8_isStrength, Cond.code yX8_isStrength cX8_isStrength 1 (some .boolean), Cond.methodLink RX8 88 yX8_isWeight, Cond.static yX8_isWeight, Cond.code yX8_isWeight cX8_isWeight 1 (some .boolean), Cond.methodLink RX8 91 yX8_isAllZero]
def wsX8_add_r2 : List Cond := [Cond.static yX8_isAllZero, Cond.code yX8_isAllZero cX8_isAllZero 2 (some .boolean), Cond.methodLink RX8 71 yX1_init, Cond.instanceMethod yX1_init, Cond.code yX1_init cX1_init 6 none, Cond.methodLink RX1 3 objectInit, Cond.instanceMethod objectInit, Cond.code objectInit ⟨#[0xb1]⟩ 1 none, Cond.fieldLink RX1 9 "LayoutSolver$Constraint" "coefficients" "[I", Cond.fieldLink RX1 15 "LayoutSolver$Constraint" "relation" "I", Cond.fieldLink RX1 19 "LayoutSolver$Constraint" "constant" "I", Cond.fieldLink RX1 22 "LayoutSolver$Constraint" "strength" "I", Cond.fieldLink RX1 25 "LayoutSolver$Constraint" "weight" "I", Cond.methodLink RX8 100 yX8_enter, Cond.instanceMethod yX8_enter, Cond.selects RX8 yX8_enter yX8_enter, Cond.code yX8_enter cX8_enter 3 (some .int), Cond.fieldLink RX8 33 "LayoutSolver" "layout" "LLayoutSolver$Layout;", Cond.methodLink RX8 291 yX5_lowestFree, Cond.instanceMethod yX5_lowestFree, Cond.selects RX5 yX5_lowestFree yX5_lowestFree, Cond.initialized RX5, Cond.code yX5_lowestFree cX5_lowestFree 2 (some .int), Cond.fieldLink RX5 11 "LayoutSolver$Layout" "places" "[LLayoutSolver$Constraint;"]
def wsX8_add_r3 : List Cond := [Cond.methodLink RX8 111 yX8_change, Cond.instanceMethod yX8_change, Cond.selects RX8 yX8_change yX8_change, Cond.code yX8_change cX8_change 4 (some .boolean), Cond.fieldLink RX8 130 "LayoutSolver$Constraint" "strength" "I", Cond.fieldLink RX8 51 "LayoutSolver" "dictionary" "LLayoutSolver$Dictionary;", Cond.fieldLink RX8 44 "LayoutSolver" "history" "LLayoutSolver$History;", Cond.classLink RX8 184 RX0, Cond.instantiable RX0 3, Cond.initialized RX0, Cond.methodLink RX8 107 yX5_at, Cond.instanceMethod yX5_at, Cond.selects RX5 yX5_at yX5_at, Cond.code yX5_at cX5_at 2 (some (.object "LayoutSolver$Constraint")), Cond.methodLink RX8 192 yX8_put, Cond.instanceMethod yX8_put, Cond.selects RX8 yX8_put yX8_put, Cond.code yX8_put cX8_put 3 none, Cond.methodLink RX8 289 yX5_put, Cond.instanceMethod yX5_put, Cond.selects RX5 yX5_put yX5_put, Cond.code yX5_put cX5_put 3 none, Cond.methodLink RX8 249 yX3_place, Cond.instanceMethod yX3_place]
def wsX8_add_r4 : List Cond := [Cond.selects RX3 yX3_place yX3_place, Cond.initialized RX3, Cond.code yX3_place cX3_place 3 none, Cond.fieldLink RX3 61 "LayoutSolver$Constraint" "constant" "I", Cond.methodLink RX3 57 yX3_lift, Cond.instanceMethod yX3_lift, Cond.selects RX3 yX3_lift yX3_lift, Cond.code yX3_lift cX3_lift 3 none, Cond.fieldLink RX3 40 "LayoutSolver$Dictionary" "columnOf" "[I", Cond.fieldLink RX3 43 "LayoutSolver$Dictionary" "rowOf" "[I", Cond.fieldLink RX3 20 "LayoutSolver$Dictionary" "placed" "[Z", Cond.methodLink RX3 66 yX3_placeWith, Cond.instanceMethod yX3_placeWith, Cond.selects RX3 yX3_placeWith yX3_placeWith, Cond.code yX3_placeWith cX3_placeWith 6 none, Cond.fieldLink RX3 13 "LayoutSolver$Dictionary" "rows" "[[J", Cond.fieldLink RX3 16 "LayoutSolver$Dictionary" "scale" "J", Cond.fieldLink RX3 24 "LayoutSolver$Dictionary" "constants" "[I", Cond.fieldLink RX3 28 "LayoutSolver$Dictionary" "levels" "[I", Cond.fieldLink RX3 78 "LayoutSolver$Constraint" "strength" "I", Cond.fieldLink RX3 31 "LayoutSolver$Dictionary" "costAbove" "[I", Cond.fieldLink RX3 34 "LayoutSolver$Dictionary" "costBelow" "[I", Cond.fieldLink RX3 37 "LayoutSolver$Dictionary" "sides" "[I", Cond.methodLink RX3 70 yX1_coefficient]
def wsX8_add_r5 : List Cond := [Cond.instanceMethod yX1_coefficient, Cond.selects RX1 yX1_coefficient yX1_coefficient, Cond.code yX1_coefficient cX1_coefficient 2 (some .int), Cond.methodLink RX3 74 yX3_addVariable, Cond.instanceMethod yX3_addVariable, Cond.selects RX3 yX3_addVariable yX3_addVariable, Cond.code yX3_addVariable cX3_addVariable 6 none, Cond.methodLink RX3 81 yX1_costAbove, Cond.instanceMethod yX1_costAbove, Cond.selects RX1 yX1_costAbove yX1_costAbove, Cond.code yX1_costAbove cX1_costAbove 1 (some .int), Cond.methodLink RX3 84 yX1_costBelow, Cond.instanceMethod yX1_costBelow, Cond.selects RX1 yX1_costBelow yX1_costBelow, Cond.code yX1_costBelow cX1_costBelow 1 (some .int), Cond.methodLink RX8 252 yX3_isFeasible, Cond.instanceMethod yX3_isFeasible, Cond.selects RX3 yX3_isFeasible yX3_isFeasible, Cond.code yX3_isFeasible cX3_isFeasible 4 (some .boolean), Cond.methodLink RX3 86 yX3_descend, Cond.instanceMethod yX3_descend, Cond.selects RX3 yX3_descend yX3_descend, Cond.code yX3_descend cX3_descend 8 none, Cond.fieldLink RX3 49 "LayoutSolver$Dictionary" "countedLevels" "I"]
def wsX8_add_r6 : List Cond := [Cond.constant RX3 109 (1000000), Cond.methodLink RX3 110 yX3_findSlopes, Cond.instanceMethod yX3_findSlopes, Cond.selects RX3 yX3_findSlopes yX3_findSlopes, Cond.code yX3_findSlopes cX3_findSlopes 5 none, Cond.fieldLink RX3 46 "LayoutSolver$Dictionary" "slopes" "[[J", Cond.methodLink RX3 127 yX3_addSlopes, Cond.instanceMethod yX3_addSlopes, Cond.selects RX3 yX3_addSlopes yX3_addSlopes, Cond.code yX3_addSlopes cX3_addSlopes 5 none, Cond.methodLink RX3 114 yX3_enteringColumn, Cond.instanceMethod yX3_enteringColumn, Cond.selects RX3 yX3_enteringColumn yX3_enteringColumn, Cond.code yX3_enteringColumn cX3_enteringColumn 3 (some .int), Cond.methodLink RX3 117 yX3_directionOf, Cond.instanceMethod yX3_directionOf, Cond.selects RX3 yX3_directionOf yX3_directionOf, Cond.code yX3_directionOf cX3_directionOf 10 (some .int), Cond.methodLink RX3 103 yJ13_compare_74951, Cond.static yJ13_compare_74951, Cond.initialized RJ13, Cond.code yJ13_compare_74951 cJ13_compare_74951 4 (some .int), Cond.methodLink RX3 120 yX3_leavingRow, Cond.instanceMethod yX3_leavingRow]
def wsX8_add_r7 : List Cond := [Cond.selects RX3 yX3_leavingRow yX3_leavingRow, Cond.code yX3_leavingRow cX3_leavingRow 13 (some .int), Cond.methodLink RX3 130 Lib.MathLoose.abs_long.x, Cond.static Lib.MathLoose.abs_long.x, Cond.initialized "java/lang/Math", Cond.code Lib.MathLoose.abs_long.x Lib.MathLoose.abs_long.code 2 (some .long), Cond.methodLink RX3 124 yX3_exchange, Cond.instanceMethod yX3_exchange, Cond.selects RX3 yX3_exchange yX3_exchange, Cond.code yX3_exchange cX3_exchange 8 none, Cond.methodLink RX3 136 yX3_substitute, Cond.instanceMethod yX3_substitute, Cond.selects RX3 yX3_substitute yX3_substitute, Cond.code yX3_substitute cX3_substitute 11 none, Cond.methodLink RX3 89 yX3_costOf, Cond.instanceMethod yX3_costOf, Cond.selects RX3 yX3_costOf yX3_costOf, Cond.code yX3_costOf cX3_costOf 4 (some .long), Cond.methodLink RX8 294 yX0_init, Cond.instanceMethod yX0_init, Cond.code yX0_init cX0_init 4 none, Cond.methodLink RX0 1 objectInit, Cond.fieldLink RX0 7 "LayoutSolver$Change" "number" "I", Cond.fieldLink RX0 13 "LayoutSolver$Change" "before" "LLayoutSolver$Constraint;"]
def wsX8_add_r8 : List Cond := [Cond.fieldLink RX0 17 "LayoutSolver$Change" "after" "LLayoutSolver$Constraint;", Cond.methodLink RX8 297 yX4_append, Cond.instanceMethod yX4_append, Cond.selects RX4 yX4_append yX4_append, Cond.initialized RX4, Cond.code yX4_append cX4_append 3 none, Cond.fieldLink RX4 17 "LayoutSolver$History" "done" "I", Cond.fieldLink RX4 11 "LayoutSolver$History" "changes" "[LLayoutSolver$Change;", Cond.fieldLink RX4 21 "LayoutSolver$History" "undone" "I", Cond.methodLink RX8 104 yX8_clearDraft, Cond.instanceMethod yX8_clearDraft, Cond.selects RX8 yX8_clearDraft yX8_clearDraft, Cond.code yX8_clearDraft cX8_clearDraft 2 none]
def wsX8_add : List Cond := .code yX8_add cX8_add 6 (some .int) :: ((wsX8_add_r1 ++ (wsX8_add_r2 ++ (wsX8_add_r3 ++ (wsX8_add_r4 ++ (wsX8_add_r5 ++ (wsX8_add_r6 ++ (wsX8_add_r7 ++ wsX8_add_r8))))))) ++ wsX80 ++ wsX10 ++ wsX50 ++ wsX00 ++ wsX30 ++ wsX40)
def wsX8_remove_r1 : List Cond := [Cond.fieldLink RX8 33 "LayoutSolver" "layout" "LLayoutSolver$Layout;", Cond.methodLink RX8 107 yX5_at, Cond.instanceMethod yX5_at, Cond.selects RX5 yX5_at yX5_at, Cond.initialized RX5, Cond.code yX5_at cX5_at 2 (some (.object "LayoutSolver$Constraint")), Cond.fieldLink RX5 11 "LayoutSolver$Layout" "places" "[LLayoutSolver$Constraint;", Cond.methodLink RX8 111 yX8_change, Cond.instanceMethod yX8_change, Cond.selects RX8 yX8_change yX8_change, Cond.initialized RX8, Cond.code yX8_change cX8_change 4 (some .boolean), Cond.fieldLink RX8 130 "LayoutSolver$Constraint" "strength" "I", Cond.fieldLink RX8 51 "LayoutSolver" "dictionary" "LLayoutSolver$Dictionary;", Cond.fieldLink RX8 44 "LayoutSolver" "history" "LLayoutSolver$History;", Cond.classLink RX8 184 RX0, Cond.instantiable RX0 3, Cond.initialized RX0, Cond.methodLink RX8 192 yX8_put, Cond.instanceMethod yX8_put, Cond.selects RX8 yX8_put yX8_put, Cond.code yX8_put cX8_put 3 none, Cond.methodLink RX8 289 yX5_put, Cond.instanceMethod yX5_put]
def wsX8_remove_r2 : List Cond := [Cond.selects RX5 yX5_put yX5_put, Cond.code yX5_put cX5_put 3 none, Cond.methodLink RX8 249 yX3_place, Cond.instanceMethod yX3_place, Cond.selects RX3 yX3_place yX3_place, Cond.initialized RX3, Cond.code yX3_place cX3_place 3 none, Cond.fieldLink RX3 61 "LayoutSolver$Constraint" "constant" "I", Cond.methodLink RX3 57 yX3_lift, Cond.instanceMethod yX3_lift, Cond.selects RX3 yX3_lift yX3_lift, Cond.code yX3_lift cX3_lift 3 none, Cond.fieldLink RX3 40 "LayoutSolver$Dictionary" "columnOf" "[I", Cond.fieldLink RX3 43 "LayoutSolver$Dictionary" "rowOf" "[I", Cond.fieldLink RX3 20 "LayoutSolver$Dictionary" "placed" "[Z", Cond.methodLink RX3 66 yX3_placeWith, Cond.instanceMethod yX3_placeWith, Cond.selects RX3 yX3_placeWith yX3_placeWith, Cond.code yX3_placeWith cX3_placeWith 6 none, Cond.fieldLink RX3 13 "LayoutSolver$Dictionary" "rows" "[[J", Cond.fieldLink RX3 16 "LayoutSolver$Dictionary" "scale" "J", Cond.fieldLink RX3 24 "LayoutSolver$Dictionary" "constants" "[I", Cond.fieldLink RX3 28 "LayoutSolver$Dictionary" "levels" "[I", Cond.fieldLink RX3 78 "LayoutSolver$Constraint" "strength" "I"]
def wsX8_remove_r3 : List Cond := [Cond.fieldLink RX3 31 "LayoutSolver$Dictionary" "costAbove" "[I", Cond.fieldLink RX3 34 "LayoutSolver$Dictionary" "costBelow" "[I", Cond.fieldLink RX3 37 "LayoutSolver$Dictionary" "sides" "[I", Cond.methodLink RX3 70 yX1_coefficient, Cond.instanceMethod yX1_coefficient, Cond.selects RX1 yX1_coefficient yX1_coefficient, Cond.initialized RX1, Cond.code yX1_coefficient cX1_coefficient 2 (some .int), Cond.fieldLink RX1 9 "LayoutSolver$Constraint" "coefficients" "[I", Cond.methodLink RX3 74 yX3_addVariable, Cond.instanceMethod yX3_addVariable, Cond.selects RX3 yX3_addVariable yX3_addVariable, Cond.code yX3_addVariable cX3_addVariable 6 none, Cond.methodLink RX3 81 yX1_costAbove, Cond.instanceMethod yX1_costAbove, Cond.selects RX1 yX1_costAbove yX1_costAbove, Cond.code yX1_costAbove cX1_costAbove 1 (some .int), Cond.fieldLink RX1 15 "LayoutSolver$Constraint" "relation" "I", Cond.fieldLink RX1 25 "LayoutSolver$Constraint" "weight" "I", Cond.methodLink RX3 84 yX1_costBelow, Cond.instanceMethod yX1_costBelow, Cond.selects RX1 yX1_costBelow yX1_costBelow, Cond.code yX1_costBelow cX1_costBelow 1 (some .int), Cond.methodLink RX8 252 yX3_isFeasible]
def wsX8_remove_r4 : List Cond := [Cond.instanceMethod yX3_isFeasible, Cond.selects RX3 yX3_isFeasible yX3_isFeasible, Cond.code yX3_isFeasible cX3_isFeasible 4 (some .boolean), Cond.methodLink RX3 86 yX3_descend, Cond.instanceMethod yX3_descend, Cond.selects RX3 yX3_descend yX3_descend, Cond.code yX3_descend cX3_descend 8 none, Cond.fieldLink RX3 49 "LayoutSolver$Dictionary" "countedLevels" "I", Cond.constant RX3 109 (1000000), Cond.methodLink RX3 110 yX3_findSlopes, Cond.instanceMethod yX3_findSlopes, Cond.selects RX3 yX3_findSlopes yX3_findSlopes, Cond.code yX3_findSlopes cX3_findSlopes 5 none, Cond.fieldLink RX3 46 "LayoutSolver$Dictionary" "slopes" "[[J", Cond.methodLink RX3 127 yX3_addSlopes, Cond.instanceMethod yX3_addSlopes, Cond.selects RX3 yX3_addSlopes yX3_addSlopes, Cond.code yX3_addSlopes cX3_addSlopes 5 none, Cond.methodLink RX3 114 yX3_enteringColumn, Cond.instanceMethod yX3_enteringColumn, Cond.selects RX3 yX3_enteringColumn yX3_enteringColumn, Cond.code yX3_enteringColumn cX3_enteringColumn 3 (some .int), Cond.methodLink RX3 117 yX3_directionOf, Cond.instanceMethod yX3_directionOf]
def wsX8_remove_r5 : List Cond := [Cond.selects RX3 yX3_directionOf yX3_directionOf, Cond.code yX3_directionOf cX3_directionOf 10 (some .int), Cond.methodLink RX3 103 yJ13_compare_74951, Cond.static yJ13_compare_74951, Cond.initialized RJ13, Cond.code yJ13_compare_74951 cJ13_compare_74951 4 (some .int), Cond.methodLink RX3 120 yX3_leavingRow, Cond.instanceMethod yX3_leavingRow, Cond.selects RX3 yX3_leavingRow yX3_leavingRow, Cond.code yX3_leavingRow cX3_leavingRow 13 (some .int), Cond.methodLink RX3 130 Lib.MathLoose.abs_long.x, Cond.static Lib.MathLoose.abs_long.x, Cond.initialized "java/lang/Math", Cond.code Lib.MathLoose.abs_long.x Lib.MathLoose.abs_long.code 2 (some .long), Cond.methodLink RX3 124 yX3_exchange, Cond.instanceMethod yX3_exchange, Cond.selects RX3 yX3_exchange yX3_exchange, Cond.code yX3_exchange cX3_exchange 8 none, Cond.methodLink RX3 136 yX3_substitute, Cond.instanceMethod yX3_substitute, Cond.selects RX3 yX3_substitute yX3_substitute, Cond.code yX3_substitute cX3_substitute 11 none, Cond.methodLink RX3 89 yX3_costOf, Cond.instanceMethod yX3_costOf]
def wsX8_remove_r6 : List Cond := [Cond.selects RX3 yX3_costOf yX3_costOf, Cond.code yX3_costOf cX3_costOf 4 (some .long), Cond.methodLink RX8 294 yX0_init, Cond.instanceMethod yX0_init, Cond.code yX0_init cX0_init 4 none, Cond.methodLink RX0 1 objectInit, Cond.instanceMethod objectInit, Cond.code objectInit ⟨#[0xb1]⟩ 1 none, Cond.fieldLink RX0 7 "LayoutSolver$Change" "number" "I", Cond.fieldLink RX0 13 "LayoutSolver$Change" "before" "LLayoutSolver$Constraint;", Cond.fieldLink RX0 17 "LayoutSolver$Change" "after" "LLayoutSolver$Constraint;", Cond.methodLink RX8 297 yX4_append, Cond.instanceMethod yX4_append, Cond.selects RX4 yX4_append yX4_append, Cond.initialized RX4, Cond.code yX4_append cX4_append 3 none, Cond.fieldLink RX4 17 "LayoutSolver$History" "done" "I", Cond.fieldLink RX4 11 "LayoutSolver$History" "changes" "[LLayoutSolver$Change;", Cond.fieldLink RX4 21 "LayoutSolver$History" "undone" "I", Cond.methodLink RX8 115 yX5_size, Cond.instanceMethod yX5_size, Cond.selects RX5 yX5_size yX5_size, Cond.code yX5_size cX5_size 1 (some .int), Cond.methodLink RX5 17 yX5_mask]
def wsX8_remove_r7 : List Cond := [Cond.instanceMethod yX5_mask, Cond.selects RX5 yX5_mask yX5_mask, Cond.code yX5_mask cX5_mask 3 (some .int), Cond.methodLink RX5 21 yJ6_bitCount_0f7a4, Cond.static yJ6_bitCount_0f7a4, Cond.initialized RJ6, Cond.code yJ6_bitCount_0f7a4 cJ6_bitCount_0f7a4 1 (some .int), Cond.constant RJ6 265 (1431655765), Cond.constant RJ6 266 (858993459), Cond.constant RJ6 267 (252645135)]
def wsX8_remove : List Cond := .code yX8_remove cX8_remove 2 (some .int) :: ((wsX8_remove_r1 ++ (wsX8_remove_r2 ++ (wsX8_remove_r3 ++ (wsX8_remove_r4 ++ (wsX8_remove_r5 ++ (wsX8_remove_r6 ++ wsX8_remove_r7)))))) ++ wsX80 ++ wsX50 ++ wsX10 ++ wsX00 ++ wsX30 ++ wsX40)
def wsX8_setConstant_r1 : List Cond := [Cond.fieldLink RX8 33 "LayoutSolver" "layout" "LLayoutSolver$Layout;", Cond.fieldLink RX8 122 "LayoutSolver$Constraint" "constant" "I", Cond.methodLink RX8 107 yX5_at, Cond.instanceMethod yX5_at, Cond.selects RX5 yX5_at yX5_at, Cond.initialized RX5, Cond.code yX5_at cX5_at 2 (some (.object "LayoutSolver$Constraint")), Cond.fieldLink RX5 11 "LayoutSolver$Layout" "places" "[LLayoutSolver$Constraint;", Cond.methodLink RX8 78 yX8_isWithin, Cond.static yX8_isWithin, Cond.initialized RX8, Cond.code yX8_isWithin cX8_isWithin 2 (some .boolean), Cond.methodLink RX8 119 yX1_withConstant, Cond.instanceMethod yX1_withConstant, Cond.selects RX1 yX1_withConstant yX1_withConstant, Cond.initialized RX1, Cond.code yX1_withConstant cX1_withConstant 2 (some (.object "LayoutSolver$Constraint")), Cond.classLink RX1 10 RX1, Cond.instantiable RX1 5, Cond.fieldLink RX1 9 "LayoutSolver$Constraint" "coefficients" "[I", Cond.fieldLink RX1 15 "LayoutSolver$Constraint" "relation" "I", Cond.fieldLink RX1 22 "LayoutSolver$Constraint" "strength" "I", Cond.fieldLink RX1 25 "LayoutSolver$Constraint" "weight" "I", Cond.methodLink RX1 28 yX1_init]
def wsX8_setConstant_r2 : List Cond := [Cond.instanceMethod yX1_init, Cond.code yX1_init cX1_init 6 none, Cond.methodLink RX1 3 objectInit, Cond.instanceMethod objectInit, Cond.code objectInit ⟨#[0xb1]⟩ 1 none, Cond.fieldLink RX1 19 "LayoutSolver$Constraint" "constant" "I", Cond.methodLink RX8 111 yX8_change, Cond.instanceMethod yX8_change, Cond.selects RX8 yX8_change yX8_change, Cond.code yX8_change cX8_change 4 (some .boolean), Cond.fieldLink RX8 130 "LayoutSolver$Constraint" "strength" "I", Cond.fieldLink RX8 51 "LayoutSolver" "dictionary" "LLayoutSolver$Dictionary;", Cond.fieldLink RX8 44 "LayoutSolver" "history" "LLayoutSolver$History;", Cond.classLink RX8 184 RX0, Cond.instantiable RX0 3, Cond.initialized RX0, Cond.methodLink RX8 192 yX8_put, Cond.instanceMethod yX8_put, Cond.selects RX8 yX8_put yX8_put, Cond.code yX8_put cX8_put 3 none, Cond.methodLink RX8 289 yX5_put, Cond.instanceMethod yX5_put, Cond.selects RX5 yX5_put yX5_put, Cond.code yX5_put cX5_put 3 none]
def wsX8_setConstant_r3 : List Cond := [Cond.methodLink RX8 249 yX3_place, Cond.instanceMethod yX3_place, Cond.selects RX3 yX3_place yX3_place, Cond.initialized RX3, Cond.code yX3_place cX3_place 3 none, Cond.fieldLink RX3 61 "LayoutSolver$Constraint" "constant" "I", Cond.methodLink RX3 57 yX3_lift, Cond.instanceMethod yX3_lift, Cond.selects RX3 yX3_lift yX3_lift, Cond.code yX3_lift cX3_lift 3 none, Cond.fieldLink RX3 40 "LayoutSolver$Dictionary" "columnOf" "[I", Cond.fieldLink RX3 43 "LayoutSolver$Dictionary" "rowOf" "[I", Cond.fieldLink RX3 20 "LayoutSolver$Dictionary" "placed" "[Z", Cond.methodLink RX3 66 yX3_placeWith, Cond.instanceMethod yX3_placeWith, Cond.selects RX3 yX3_placeWith yX3_placeWith, Cond.code yX3_placeWith cX3_placeWith 6 none, Cond.fieldLink RX3 13 "LayoutSolver$Dictionary" "rows" "[[J", Cond.fieldLink RX3 16 "LayoutSolver$Dictionary" "scale" "J", Cond.fieldLink RX3 24 "LayoutSolver$Dictionary" "constants" "[I", Cond.fieldLink RX3 28 "LayoutSolver$Dictionary" "levels" "[I", Cond.fieldLink RX3 78 "LayoutSolver$Constraint" "strength" "I", Cond.fieldLink RX3 31 "LayoutSolver$Dictionary" "costAbove" "[I", Cond.fieldLink RX3 34 "LayoutSolver$Dictionary" "costBelow" "[I"]
def wsX8_setConstant_r4 : List Cond := [Cond.fieldLink RX3 37 "LayoutSolver$Dictionary" "sides" "[I", Cond.methodLink RX3 70 yX1_coefficient, Cond.instanceMethod yX1_coefficient, Cond.selects RX1 yX1_coefficient yX1_coefficient, Cond.code yX1_coefficient cX1_coefficient 2 (some .int), Cond.methodLink RX3 74 yX3_addVariable, Cond.instanceMethod yX3_addVariable, Cond.selects RX3 yX3_addVariable yX3_addVariable, Cond.code yX3_addVariable cX3_addVariable 6 none, Cond.methodLink RX3 81 yX1_costAbove, Cond.instanceMethod yX1_costAbove, Cond.selects RX1 yX1_costAbove yX1_costAbove, Cond.code yX1_costAbove cX1_costAbove 1 (some .int), Cond.methodLink RX3 84 yX1_costBelow, Cond.instanceMethod yX1_costBelow, Cond.selects RX1 yX1_costBelow yX1_costBelow, Cond.code yX1_costBelow cX1_costBelow 1 (some .int), Cond.methodLink RX8 252 yX3_isFeasible, Cond.instanceMethod yX3_isFeasible, Cond.selects RX3 yX3_isFeasible yX3_isFeasible, Cond.code yX3_isFeasible cX3_isFeasible 4 (some .boolean), Cond.methodLink RX3 86 yX3_descend, Cond.instanceMethod yX3_descend, Cond.selects RX3 yX3_descend yX3_descend]
def wsX8_setConstant_r5 : List Cond := [Cond.code yX3_descend cX3_descend 8 none, Cond.fieldLink RX3 49 "LayoutSolver$Dictionary" "countedLevels" "I", Cond.constant RX3 109 (1000000), Cond.methodLink RX3 110 yX3_findSlopes, Cond.instanceMethod yX3_findSlopes, Cond.selects RX3 yX3_findSlopes yX3_findSlopes, Cond.code yX3_findSlopes cX3_findSlopes 5 none, Cond.fieldLink RX3 46 "LayoutSolver$Dictionary" "slopes" "[[J", Cond.methodLink RX3 127 yX3_addSlopes, Cond.instanceMethod yX3_addSlopes, Cond.selects RX3 yX3_addSlopes yX3_addSlopes, Cond.code yX3_addSlopes cX3_addSlopes 5 none, Cond.methodLink RX3 114 yX3_enteringColumn, Cond.instanceMethod yX3_enteringColumn, Cond.selects RX3 yX3_enteringColumn yX3_enteringColumn, Cond.code yX3_enteringColumn cX3_enteringColumn 3 (some .int), Cond.methodLink RX3 117 yX3_directionOf, Cond.instanceMethod yX3_directionOf, Cond.selects RX3 yX3_directionOf yX3_directionOf, Cond.code yX3_directionOf cX3_directionOf 10 (some .int), Cond.methodLink RX3 103 yJ13_compare_74951, Cond.static yJ13_compare_74951, Cond.initialized RJ13, Cond.code yJ13_compare_74951 cJ13_compare_74951 4 (some .int)]
def wsX8_setConstant_r6 : List Cond := [Cond.methodLink RX3 120 yX3_leavingRow, Cond.instanceMethod yX3_leavingRow, Cond.selects RX3 yX3_leavingRow yX3_leavingRow, Cond.code yX3_leavingRow cX3_leavingRow 13 (some .int), Cond.methodLink RX3 130 Lib.MathLoose.abs_long.x, Cond.static Lib.MathLoose.abs_long.x, Cond.initialized "java/lang/Math", Cond.code Lib.MathLoose.abs_long.x Lib.MathLoose.abs_long.code 2 (some .long), Cond.methodLink RX3 124 yX3_exchange, Cond.instanceMethod yX3_exchange, Cond.selects RX3 yX3_exchange yX3_exchange, Cond.code yX3_exchange cX3_exchange 8 none, Cond.methodLink RX3 136 yX3_substitute, Cond.instanceMethod yX3_substitute, Cond.selects RX3 yX3_substitute yX3_substitute, Cond.code yX3_substitute cX3_substitute 11 none, Cond.methodLink RX3 89 yX3_costOf, Cond.instanceMethod yX3_costOf, Cond.selects RX3 yX3_costOf yX3_costOf, Cond.code yX3_costOf cX3_costOf 4 (some .long), Cond.methodLink RX8 294 yX0_init, Cond.instanceMethod yX0_init, Cond.code yX0_init cX0_init 4 none, Cond.methodLink RX0 1 objectInit]
def wsX8_setConstant_r7 : List Cond := [Cond.fieldLink RX0 7 "LayoutSolver$Change" "number" "I", Cond.fieldLink RX0 13 "LayoutSolver$Change" "before" "LLayoutSolver$Constraint;", Cond.fieldLink RX0 17 "LayoutSolver$Change" "after" "LLayoutSolver$Constraint;", Cond.methodLink RX8 297 yX4_append, Cond.instanceMethod yX4_append, Cond.selects RX4 yX4_append yX4_append, Cond.initialized RX4, Cond.code yX4_append cX4_append 3 none, Cond.fieldLink RX4 17 "LayoutSolver$History" "done" "I", Cond.fieldLink RX4 11 "LayoutSolver$History" "changes" "[LLayoutSolver$Change;", Cond.fieldLink RX4 21 "LayoutSolver$History" "undone" "I"]
def wsX8_setConstant : List Cond := .code yX8_setConstant cX8_setConstant 4 (some .int) :: ((wsX8_setConstant_r1 ++ (wsX8_setConstant_r2 ++ (wsX8_setConstant_r3 ++ (wsX8_setConstant_r4 ++ (wsX8_setConstant_r5 ++ (wsX8_setConstant_r6 ++ wsX8_setConstant_r7)))))) ++ wsX80 ++ wsX10 ++ wsX50 ++ wsX00 ++ wsX30 ++ wsX40)
def wsX8_setStrength_r1 : List Cond := [Cond.fieldLink RX8 33 "LayoutSolver" "layout" "LLayoutSolver$Layout;", Cond.fieldLink RX8 130 "LayoutSolver$Constraint" "strength" "I", Cond.methodLink RX8 107 yX5_at, Cond.instanceMethod yX5_at, Cond.selects RX5 yX5_at yX5_at, Cond.initialized RX5, Cond.code yX5_at cX5_at 2 (some (.object "LayoutSolver$Constraint")), Cond.fieldLink RX5 11 "LayoutSolver$Layout" "places" "[LLayoutSolver$Constraint;", Cond.methodLink RX8 85 yX8_isStrength, Cond.static yX8_isStrength, Cond.initialized RX8, Cond.code yX8_isStrength cX8_isStrength 1 (some .boolean), Cond.methodLink RX8 88 yX8_isWeight, Cond.static yX8_isWeight, Cond.code yX8_isWeight cX8_isWeight 1 (some .boolean), Cond.methodLink RX8 126 yX1_withStrength, Cond.instanceMethod yX1_withStrength, Cond.selects RX1 yX1_withStrength yX1_withStrength, Cond.initialized RX1, Cond.code yX1_withStrength cX1_withStrength 3 (some (.object "LayoutSolver$Constraint")), Cond.classLink RX1 10 RX1, Cond.instantiable RX1 5, Cond.fieldLink RX1 9 "LayoutSolver$Constraint" "coefficients" "[I", Cond.fieldLink RX1 15 "LayoutSolver$Constraint" "relation" "I"]
def wsX8_setStrength_r2 : List Cond := [Cond.fieldLink RX1 19 "LayoutSolver$Constraint" "constant" "I", Cond.methodLink RX1 28 yX1_init, Cond.instanceMethod yX1_init, Cond.code yX1_init cX1_init 6 none, Cond.methodLink RX1 3 objectInit, Cond.instanceMethod objectInit, Cond.code objectInit ⟨#[0xb1]⟩ 1 none, Cond.fieldLink RX1 22 "LayoutSolver$Constraint" "strength" "I", Cond.fieldLink RX1 25 "LayoutSolver$Constraint" "weight" "I", Cond.methodLink RX8 111 yX8_change, Cond.instanceMethod yX8_change, Cond.selects RX8 yX8_change yX8_change, Cond.code yX8_change cX8_change 4 (some .boolean), Cond.fieldLink RX8 51 "LayoutSolver" "dictionary" "LLayoutSolver$Dictionary;", Cond.fieldLink RX8 44 "LayoutSolver" "history" "LLayoutSolver$History;", Cond.classLink RX8 184 RX0, Cond.instantiable RX0 3, Cond.initialized RX0, Cond.methodLink RX8 192 yX8_put, Cond.instanceMethod yX8_put, Cond.selects RX8 yX8_put yX8_put, Cond.code yX8_put cX8_put 3 none, Cond.methodLink RX8 289 yX5_put, Cond.instanceMethod yX5_put]
def wsX8_setStrength_r3 : List Cond := [Cond.selects RX5 yX5_put yX5_put, Cond.code yX5_put cX5_put 3 none, Cond.methodLink RX8 249 yX3_place, Cond.instanceMethod yX3_place, Cond.selects RX3 yX3_place yX3_place, Cond.initialized RX3, Cond.code yX3_place cX3_place 3 none, Cond.fieldLink RX3 61 "LayoutSolver$Constraint" "constant" "I", Cond.methodLink RX3 57 yX3_lift, Cond.instanceMethod yX3_lift, Cond.selects RX3 yX3_lift yX3_lift, Cond.code yX3_lift cX3_lift 3 none, Cond.fieldLink RX3 40 "LayoutSolver$Dictionary" "columnOf" "[I", Cond.fieldLink RX3 43 "LayoutSolver$Dictionary" "rowOf" "[I", Cond.fieldLink RX3 20 "LayoutSolver$Dictionary" "placed" "[Z", Cond.methodLink RX3 66 yX3_placeWith, Cond.instanceMethod yX3_placeWith, Cond.selects RX3 yX3_placeWith yX3_placeWith, Cond.code yX3_placeWith cX3_placeWith 6 none, Cond.fieldLink RX3 13 "LayoutSolver$Dictionary" "rows" "[[J", Cond.fieldLink RX3 16 "LayoutSolver$Dictionary" "scale" "J", Cond.fieldLink RX3 24 "LayoutSolver$Dictionary" "constants" "[I", Cond.fieldLink RX3 28 "LayoutSolver$Dictionary" "levels" "[I", Cond.fieldLink RX3 78 "LayoutSolver$Constraint" "strength" "I"]
def wsX8_setStrength_r4 : List Cond := [Cond.fieldLink RX3 31 "LayoutSolver$Dictionary" "costAbove" "[I", Cond.fieldLink RX3 34 "LayoutSolver$Dictionary" "costBelow" "[I", Cond.fieldLink RX3 37 "LayoutSolver$Dictionary" "sides" "[I", Cond.methodLink RX3 70 yX1_coefficient, Cond.instanceMethod yX1_coefficient, Cond.selects RX1 yX1_coefficient yX1_coefficient, Cond.code yX1_coefficient cX1_coefficient 2 (some .int), Cond.methodLink RX3 74 yX3_addVariable, Cond.instanceMethod yX3_addVariable, Cond.selects RX3 yX3_addVariable yX3_addVariable, Cond.code yX3_addVariable cX3_addVariable 6 none, Cond.methodLink RX3 81 yX1_costAbove, Cond.instanceMethod yX1_costAbove, Cond.selects RX1 yX1_costAbove yX1_costAbove, Cond.code yX1_costAbove cX1_costAbove 1 (some .int), Cond.methodLink RX3 84 yX1_costBelow, Cond.instanceMethod yX1_costBelow, Cond.selects RX1 yX1_costBelow yX1_costBelow, Cond.code yX1_costBelow cX1_costBelow 1 (some .int), Cond.methodLink RX8 252 yX3_isFeasible, Cond.instanceMethod yX3_isFeasible, Cond.selects RX3 yX3_isFeasible yX3_isFeasible, Cond.code yX3_isFeasible cX3_isFeasible 4 (some .boolean), Cond.methodLink RX3 86 yX3_descend]
def wsX8_setStrength_r5 : List Cond := [Cond.instanceMethod yX3_descend, Cond.selects RX3 yX3_descend yX3_descend, Cond.code yX3_descend cX3_descend 8 none, Cond.fieldLink RX3 49 "LayoutSolver$Dictionary" "countedLevels" "I", Cond.constant RX3 109 (1000000), Cond.methodLink RX3 110 yX3_findSlopes, Cond.instanceMethod yX3_findSlopes, Cond.selects RX3 yX3_findSlopes yX3_findSlopes, Cond.code yX3_findSlopes cX3_findSlopes 5 none, Cond.fieldLink RX3 46 "LayoutSolver$Dictionary" "slopes" "[[J", Cond.methodLink RX3 127 yX3_addSlopes, Cond.instanceMethod yX3_addSlopes, Cond.selects RX3 yX3_addSlopes yX3_addSlopes, Cond.code yX3_addSlopes cX3_addSlopes 5 none, Cond.methodLink RX3 114 yX3_enteringColumn, Cond.instanceMethod yX3_enteringColumn, Cond.selects RX3 yX3_enteringColumn yX3_enteringColumn, Cond.code yX3_enteringColumn cX3_enteringColumn 3 (some .int), Cond.methodLink RX3 117 yX3_directionOf, Cond.instanceMethod yX3_directionOf, Cond.selects RX3 yX3_directionOf yX3_directionOf, Cond.code yX3_directionOf cX3_directionOf 10 (some .int), Cond.methodLink RX3 103 yJ13_compare_74951, Cond.static yJ13_compare_74951]
def wsX8_setStrength_r6 : List Cond := [Cond.initialized RJ13, Cond.code yJ13_compare_74951 cJ13_compare_74951 4 (some .int), Cond.methodLink RX3 120 yX3_leavingRow, Cond.instanceMethod yX3_leavingRow, Cond.selects RX3 yX3_leavingRow yX3_leavingRow, Cond.code yX3_leavingRow cX3_leavingRow 13 (some .int), Cond.methodLink RX3 130 Lib.MathLoose.abs_long.x, Cond.static Lib.MathLoose.abs_long.x, Cond.initialized "java/lang/Math", Cond.code Lib.MathLoose.abs_long.x Lib.MathLoose.abs_long.code 2 (some .long), Cond.methodLink RX3 124 yX3_exchange, Cond.instanceMethod yX3_exchange, Cond.selects RX3 yX3_exchange yX3_exchange, Cond.code yX3_exchange cX3_exchange 8 none, Cond.methodLink RX3 136 yX3_substitute, Cond.instanceMethod yX3_substitute, Cond.selects RX3 yX3_substitute yX3_substitute, Cond.code yX3_substitute cX3_substitute 11 none, Cond.methodLink RX3 89 yX3_costOf, Cond.instanceMethod yX3_costOf, Cond.selects RX3 yX3_costOf yX3_costOf, Cond.code yX3_costOf cX3_costOf 4 (some .long), Cond.methodLink RX8 294 yX0_init, Cond.instanceMethod yX0_init]
def wsX8_setStrength_r7 : List Cond := [Cond.code yX0_init cX0_init 4 none, Cond.methodLink RX0 1 objectInit, Cond.fieldLink RX0 7 "LayoutSolver$Change" "number" "I", Cond.fieldLink RX0 13 "LayoutSolver$Change" "before" "LLayoutSolver$Constraint;", Cond.fieldLink RX0 17 "LayoutSolver$Change" "after" "LLayoutSolver$Constraint;", Cond.methodLink RX8 297 yX4_append, Cond.instanceMethod yX4_append, Cond.selects RX4 yX4_append yX4_append, Cond.initialized RX4, Cond.code yX4_append cX4_append 3 none, Cond.fieldLink RX4 17 "LayoutSolver$History" "done" "I", Cond.fieldLink RX4 11 "LayoutSolver$History" "changes" "[LLayoutSolver$Change;", Cond.fieldLink RX4 21 "LayoutSolver$History" "undone" "I"]
def wsX8_setStrength : List Cond := .code yX8_setStrength cX8_setStrength 5 (some .int) :: ((wsX8_setStrength_r1 ++ (wsX8_setStrength_r2 ++ (wsX8_setStrength_r3 ++ (wsX8_setStrength_r4 ++ (wsX8_setStrength_r5 ++ (wsX8_setStrength_r6 ++ wsX8_setStrength_r7)))))) ++ wsX80 ++ wsX10 ++ wsX50 ++ wsX00 ++ wsX30 ++ wsX40)
def wsX8_about : List Cond := .code yX8_about cX8_about 4 (some .int) :: ([.fieldLink RX8 33 "LayoutSolver" "layout" "LLayoutSolver$Layout;", .fieldLink RX8 137 "LayoutSolver$Constraint" "relation" "I", .fieldLink RX8 122 "LayoutSolver$Constraint" "constant" "I", .fieldLink RX8 130 "LayoutSolver$Constraint" "strength" "I", .fieldLink RX8 140 "LayoutSolver$Constraint" "weight" "I", .methodLink RX8 107 yX5_at, .instanceMethod yX5_at, .selects RX5 yX5_at yX5_at, .initialized RX5, .code yX5_at cX5_at 2 (some (.object "LayoutSolver$Constraint")), .fieldLink RX5 11 "LayoutSolver$Layout" "places" "[LLayoutSolver$Constraint;", .methodLink RX8 74 yX8_isVariable, .static yX8_isVariable, .initialized RX8, .code yX8_isVariable cX8_isVariable 1 (some .boolean), .methodLink RX8 133 yX1_coefficient, .instanceMethod yX1_coefficient, .selects RX1 yX1_coefficient yX1_coefficient, .initialized RX1, .code yX1_coefficient cX1_coefficient 2 (some .int), .fieldLink RX1 9 "LayoutSolver$Constraint" "coefficients" "[I"] ++ wsX80 ++ wsX10 ++ wsX50)
def wsX8_constraints : List Cond := .code yX8_constraints cX8_constraints 1 (some .int) :: ([.fieldLink RX8 33 "LayoutSolver" "layout" "LLayoutSolver$Layout;", .methodLink RX8 143 yX5_mask, .instanceMethod yX5_mask, .selects RX5 yX5_mask yX5_mask, .initialized RX5, .code yX5_mask cX5_mask 3 (some .int), .fieldLink RX5 11 "LayoutSolver$Layout" "places" "[LLayoutSolver$Constraint;"] ++ wsX80 ++ wsX50)
def wsX8_say : List Cond := .code yX8_say cX8_say 2 (some .int) :: ([.fieldLink RX8 16 "LayoutSolver" "text" "LLayoutSolver$Line;", .methodLink RX8 146 yX6_isFull, .instanceMethod yX6_isFull, .selects RX6 yX6_isFull yX6_isFull, .initialized RX6, .code yX6_isFull cX6_isFull 1 (some .boolean), .fieldLink RX6 15 "LayoutSolver$Line" "length" "I", .methodLink RX8 150 yX6_append, .instanceMethod yX6_append, .selects RX6 yX6_append yX6_append, .code yX6_append cX6_append 2 none, .fieldLink RX6 9 "LayoutSolver$Line" "characters" "[C", .methodLink RX8 154 yX6_size, .instanceMethod yX6_size, .selects RX6 yX6_size yX6_size, .code yX6_size cX6_size 1 (some .int)] ++ wsX80 ++ wsX60)
def wsX8_wipe : List Cond := .code yX8_wipe cX8_wipe 2 (some .int) :: ([.fieldLink RX8 16 "LayoutSolver" "text" "LLayoutSolver$Line;", .methodLink RX8 154 yX6_size, .instanceMethod yX6_size, .selects RX6 yX6_size yX6_size, .initialized RX6, .code yX6_size cX6_size 1 (some .int), .fieldLink RX6 15 "LayoutSolver$Line" "length" "I", .methodLink RX8 155 yX6_clear, .instanceMethod yX6_clear, .selects RX6 yX6_clear yX6_clear, .code yX6_clear cX6_clear 1 none] ++ wsX80 ++ wsX60)
def wsX8_fault_r1 : List Cond := [Cond.fieldLink RX8 26 "LayoutSolver" "reader" "LLayoutSolver$Reader;", Cond.fieldLink RX8 16 "LayoutSolver" "text" "LLayoutSolver$Line;", Cond.methodLink RX8 158 yX7_read, Cond.instanceMethod yX7_read, Cond.selects RX7 yX7_read yX7_read, Cond.initialized RX7, Cond.code yX7_read cX7_read 3 (some .int), Cond.methodLink RX7 40 yX7_begin, Cond.instanceMethod yX7_begin, Cond.selects RX7 yX7_begin yX7_begin, Cond.code yX7_begin cX7_begin 2 none, Cond.fieldLink RX7 9 "LayoutSolver$Reader" "coefficients" "[I", Cond.fieldLink RX7 15 "LayoutSolver$Reader" "state" "I", Cond.fieldLink RX7 19 "LayoutSolver$Reader" "sign" "I", Cond.fieldLink RX7 22 "LayoutSolver$Reader" "factor" "I", Cond.fieldLink RX7 28 "LayoutSolver$Reader" "constantSign" "I", Cond.fieldLink RX7 31 "LayoutSolver$Reader" "number" "I", Cond.fieldLink RX7 34 "LayoutSolver$Reader" "strength" "I", Cond.fieldLink RX7 37 "LayoutSolver$Reader" "weight" "I", Cond.methodLink RX7 43 yX6_size, Cond.instanceMethod yX6_size, Cond.selects RX6 yX6_size yX6_size, Cond.initialized RX6, Cond.code yX6_size cX6_size 1 (some .int)]
def wsX8_fault_r2 : List Cond := [Cond.fieldLink RX6 15 "LayoutSolver$Line" "length" "I", Cond.methodLink RX7 49 yX6_at, Cond.instanceMethod yX6_at, Cond.selects RX6 yX6_at yX6_at, Cond.code yX6_at cX6_at 2 (some .char), Cond.fieldLink RX6 9 "LayoutSolver$Line" "characters" "[C", Cond.methodLink RX7 53 yX7_takes, Cond.instanceMethod yX7_takes, Cond.selects RX7 yX7_takes yX7_takes, Cond.code yX7_takes cX7_takes 2 (some .boolean), Cond.methodLink RX7 67 yX7_takesSign, Cond.instanceMethod yX7_takesSign, Cond.selects RX7 yX7_takesSign yX7_takesSign, Cond.code yX7_takesSign cX7_takesSign 3 (some .boolean), Cond.methodLink RX7 71 yX7_takesFactor, Cond.instanceMethod yX7_takesFactor, Cond.selects RX7 yX7_takesFactor yX7_takesFactor, Cond.code yX7_takesFactor cX7_takesFactor 2 (some .boolean), Cond.methodLink RX7 74 yX7_takesVariable, Cond.instanceMethod yX7_takesVariable, Cond.selects RX7 yX7_takesVariable yX7_takesVariable, Cond.code yX7_takesVariable cX7_takesVariable 3 (some .boolean), Cond.methodLink RX7 77 yX7_takesRelation, Cond.instanceMethod yX7_takesRelation]
def wsX8_fault_r3 : List Cond := [Cond.selects RX7 yX7_takesRelation yX7_takesRelation, Cond.code yX7_takesRelation cX7_takesRelation 2 (some .boolean), Cond.fieldLink RX7 25 "LayoutSolver$Reader" "relation" "I", Cond.methodLink RX7 80 yX7_takesConstantSign, Cond.instanceMethod yX7_takesConstantSign, Cond.selects RX7 yX7_takesConstantSign yX7_takesConstantSign, Cond.code yX7_takesConstantSign cX7_takesConstantSign 2 (some .boolean), Cond.methodLink RX7 83 yX7_takesDigit, Cond.instanceMethod yX7_takesDigit, Cond.selects RX7 yX7_takesDigit yX7_takesDigit, Cond.code yX7_takesDigit cX7_takesDigit 2 (some .boolean), Cond.methodLink RX7 86 yX7_takesAt, Cond.instanceMethod yX7_takesAt, Cond.selects RX7 yX7_takesAt yX7_takesAt, Cond.code yX7_takesAt cX7_takesAt 2 (some .boolean), Cond.methodLink RX7 89 yX7_takesNextDigit, Cond.instanceMethod yX7_takesNextDigit, Cond.selects RX7 yX7_takesNextDigit yX7_takesNextDigit, Cond.code yX7_takesNextDigit cX7_takesNextDigit 2 (some .boolean), Cond.methodLink RX7 92 yX7_takesStrength, Cond.instanceMethod yX7_takesStrength, Cond.selects RX7 yX7_takesStrength yX7_takesStrength, Cond.code yX7_takesStrength cX7_takesStrength 2 (some .boolean), Cond.methodLink RX7 95 yX7_takesWeight]
def wsX8_fault_r4 : List Cond := [Cond.instanceMethod yX7_takesWeight, Cond.selects RX7 yX7_takesWeight yX7_takesWeight, Cond.code yX7_takesWeight cX7_takesWeight 2 (some .boolean), Cond.methodLink RX8 162 yX7_isAtEnd, Cond.instanceMethod yX7_isAtEnd, Cond.selects RX7 yX7_isAtEnd yX7_isAtEnd, Cond.code yX7_isAtEnd cX7_isAtEnd 1 (some .boolean), Cond.methodLink RX8 154 yX6_size]
def wsX8_fault : List Cond := .code yX8_fault cX8_fault 2 (some .int) :: ((wsX8_fault_r1 ++ (wsX8_fault_r2 ++ (wsX8_fault_r3 ++ wsX8_fault_r4))) ++ wsX80 ++ wsX70 ++ wsX60)
def wsX8_parse_r1 : List Cond := [Cond.fieldLink RX8 26 "LayoutSolver" "reader" "LLayoutSolver$Reader;", Cond.fieldLink RX8 16 "LayoutSolver" "text" "LLayoutSolver$Line;", Cond.fieldLink RX8 165 "LayoutSolver$Reader" "coefficients" "[I", Cond.methodLink RX8 158 yX7_read, Cond.instanceMethod yX7_read, Cond.selects RX7 yX7_read yX7_read, Cond.initialized RX7, Cond.code yX7_read cX7_read 3 (some .int), Cond.methodLink RX7 40 yX7_begin, Cond.instanceMethod yX7_begin, Cond.selects RX7 yX7_begin yX7_begin, Cond.code yX7_begin cX7_begin 2 none, Cond.fieldLink RX7 9 "LayoutSolver$Reader" "coefficients" "[I", Cond.fieldLink RX7 15 "LayoutSolver$Reader" "state" "I", Cond.fieldLink RX7 19 "LayoutSolver$Reader" "sign" "I", Cond.fieldLink RX7 22 "LayoutSolver$Reader" "factor" "I", Cond.fieldLink RX7 28 "LayoutSolver$Reader" "constantSign" "I", Cond.fieldLink RX7 31 "LayoutSolver$Reader" "number" "I", Cond.fieldLink RX7 34 "LayoutSolver$Reader" "strength" "I", Cond.fieldLink RX7 37 "LayoutSolver$Reader" "weight" "I", Cond.methodLink RX7 43 yX6_size, Cond.instanceMethod yX6_size, Cond.selects RX6 yX6_size yX6_size, Cond.initialized RX6]
def wsX8_parse_r2 : List Cond := [Cond.code yX6_size cX6_size 1 (some .int), Cond.fieldLink RX6 15 "LayoutSolver$Line" "length" "I", Cond.methodLink RX7 49 yX6_at, Cond.instanceMethod yX6_at, Cond.selects RX6 yX6_at yX6_at, Cond.code yX6_at cX6_at 2 (some .char), Cond.fieldLink RX6 9 "LayoutSolver$Line" "characters" "[C", Cond.methodLink RX7 53 yX7_takes, Cond.instanceMethod yX7_takes, Cond.selects RX7 yX7_takes yX7_takes, Cond.code yX7_takes cX7_takes 2 (some .boolean), Cond.methodLink RX7 67 yX7_takesSign, Cond.instanceMethod yX7_takesSign, Cond.selects RX7 yX7_takesSign yX7_takesSign, Cond.code yX7_takesSign cX7_takesSign 3 (some .boolean), Cond.methodLink RX7 71 yX7_takesFactor, Cond.instanceMethod yX7_takesFactor, Cond.selects RX7 yX7_takesFactor yX7_takesFactor, Cond.code yX7_takesFactor cX7_takesFactor 2 (some .boolean), Cond.methodLink RX7 74 yX7_takesVariable, Cond.instanceMethod yX7_takesVariable, Cond.selects RX7 yX7_takesVariable yX7_takesVariable, Cond.code yX7_takesVariable cX7_takesVariable 3 (some .boolean), Cond.methodLink RX7 77 yX7_takesRelation]
def wsX8_parse_r3 : List Cond := [Cond.instanceMethod yX7_takesRelation, Cond.selects RX7 yX7_takesRelation yX7_takesRelation, Cond.code yX7_takesRelation cX7_takesRelation 2 (some .boolean), Cond.fieldLink RX7 25 "LayoutSolver$Reader" "relation" "I", Cond.methodLink RX7 80 yX7_takesConstantSign, Cond.instanceMethod yX7_takesConstantSign, Cond.selects RX7 yX7_takesConstantSign yX7_takesConstantSign, Cond.code yX7_takesConstantSign cX7_takesConstantSign 2 (some .boolean), Cond.methodLink RX7 83 yX7_takesDigit, Cond.instanceMethod yX7_takesDigit, Cond.selects RX7 yX7_takesDigit yX7_takesDigit, Cond.code yX7_takesDigit cX7_takesDigit 2 (some .boolean), Cond.methodLink RX7 86 yX7_takesAt, Cond.instanceMethod yX7_takesAt, Cond.selects RX7 yX7_takesAt yX7_takesAt, Cond.code yX7_takesAt cX7_takesAt 2 (some .boolean), Cond.methodLink RX7 89 yX7_takesNextDigit, Cond.instanceMethod yX7_takesNextDigit, Cond.selects RX7 yX7_takesNextDigit yX7_takesNextDigit, Cond.code yX7_takesNextDigit cX7_takesNextDigit 2 (some .boolean), Cond.methodLink RX7 92 yX7_takesStrength, Cond.instanceMethod yX7_takesStrength, Cond.selects RX7 yX7_takesStrength yX7_takesStrength, Cond.code yX7_takesStrength cX7_takesStrength 2 (some .boolean)]
def wsX8_parse_r4 : List Cond := [Cond.methodLink RX7 95 yX7_takesWeight, Cond.instanceMethod yX7_takesWeight, Cond.selects RX7 yX7_takesWeight yX7_takesWeight, Cond.code yX7_takesWeight cX7_takesWeight 2 (some .boolean), Cond.methodLink RX8 154 yX6_size, Cond.methodLink RX8 162 yX7_isAtEnd, Cond.instanceMethod yX7_isAtEnd, Cond.selects RX7 yX7_isAtEnd yX7_isAtEnd, Cond.code yX7_isAtEnd cX7_isAtEnd 1 (some .boolean), Cond.methodLink RX8 91 yX8_isAllZero, Cond.static yX8_isAllZero, Cond.initialized RX8, Cond.code yX8_isAllZero cX8_isAllZero 2 (some .boolean), Cond.methodLink RX8 78 yX8_isWithin, Cond.static yX8_isWithin, Cond.code yX8_isWithin cX8_isWithin 2 (some .boolean), Cond.methodLink RX8 168 yX7_result, Cond.instanceMethod yX7_result, Cond.selects RX7 yX7_result yX7_result, Cond.code yX7_result cX7_result 1 (some (.object "LayoutSolver$Constraint")), Cond.classLink RX7 57 RX1, Cond.instantiable RX1 5, Cond.initialized RX1, Cond.methodLink RX7 59 ⟨"[I", "clone", "()Ljava/lang/Object;"⟩]
def wsX8_parse_r5 : List Cond := [Cond.sameMethod "[I" "java/lang/Object" "clone" "()Ljava/lang/Object;", Cond.native ⟨"java/lang/Object", "clone", "()Ljava/lang/Object;"⟩, Cond.instanceMethod ⟨"java/lang/Object", "clone", "()Ljava/lang/Object;"⟩, Cond.selects "[I" ⟨"[I", "clone", "()Ljava/lang/Object;"⟩ ⟨"java/lang/Object", "clone", "()Ljava/lang/Object;"⟩, Cond.classLink RX7 60 "[I", Cond.methodLink RX7 64 yX1_init, Cond.instanceMethod yX1_init, Cond.code yX1_init cX1_init 6 none, Cond.methodLink RX1 3 objectInit, Cond.instanceMethod objectInit, Cond.code objectInit ⟨#[0xb1]⟩ 1 none, Cond.fieldLink RX1 9 "LayoutSolver$Constraint" "coefficients" "[I", Cond.fieldLink RX1 15 "LayoutSolver$Constraint" "relation" "I", Cond.fieldLink RX1 19 "LayoutSolver$Constraint" "constant" "I", Cond.fieldLink RX1 22 "LayoutSolver$Constraint" "strength" "I", Cond.fieldLink RX1 25 "LayoutSolver$Constraint" "weight" "I", Cond.methodLink RX8 100 yX8_enter, Cond.instanceMethod yX8_enter, Cond.selects RX8 yX8_enter yX8_enter, Cond.code yX8_enter cX8_enter 3 (some .int), Cond.fieldLink RX8 33 "LayoutSolver" "layout" "LLayoutSolver$Layout;", Cond.methodLink RX8 291 yX5_lowestFree, Cond.instanceMethod yX5_lowestFree, Cond.selects RX5 yX5_lowestFree yX5_lowestFree]
def wsX8_parse_r6 : List Cond := [Cond.initialized RX5, Cond.code yX5_lowestFree cX5_lowestFree 2 (some .int), Cond.fieldLink RX5 11 "LayoutSolver$Layout" "places" "[LLayoutSolver$Constraint;", Cond.methodLink RX8 111 yX8_change, Cond.instanceMethod yX8_change, Cond.selects RX8 yX8_change yX8_change, Cond.code yX8_change cX8_change 4 (some .boolean), Cond.fieldLink RX8 130 "LayoutSolver$Constraint" "strength" "I", Cond.fieldLink RX8 51 "LayoutSolver" "dictionary" "LLayoutSolver$Dictionary;", Cond.fieldLink RX8 44 "LayoutSolver" "history" "LLayoutSolver$History;", Cond.classLink RX8 184 RX0, Cond.instantiable RX0 3, Cond.initialized RX0, Cond.methodLink RX8 107 yX5_at, Cond.instanceMethod yX5_at, Cond.selects RX5 yX5_at yX5_at, Cond.code yX5_at cX5_at 2 (some (.object "LayoutSolver$Constraint")), Cond.methodLink RX8 192 yX8_put, Cond.instanceMethod yX8_put, Cond.selects RX8 yX8_put yX8_put, Cond.code yX8_put cX8_put 3 none, Cond.methodLink RX8 289 yX5_put, Cond.instanceMethod yX5_put, Cond.selects RX5 yX5_put yX5_put]
def wsX8_parse_r7 : List Cond := [Cond.code yX5_put cX5_put 3 none, Cond.methodLink RX8 249 yX3_place, Cond.instanceMethod yX3_place, Cond.selects RX3 yX3_place yX3_place, Cond.initialized RX3, Cond.code yX3_place cX3_place 3 none, Cond.fieldLink RX3 61 "LayoutSolver$Constraint" "constant" "I", Cond.methodLink RX3 57 yX3_lift, Cond.instanceMethod yX3_lift, Cond.selects RX3 yX3_lift yX3_lift, Cond.code yX3_lift cX3_lift 3 none, Cond.fieldLink RX3 40 "LayoutSolver$Dictionary" "columnOf" "[I", Cond.fieldLink RX3 43 "LayoutSolver$Dictionary" "rowOf" "[I", Cond.fieldLink RX3 20 "LayoutSolver$Dictionary" "placed" "[Z", Cond.methodLink RX3 66 yX3_placeWith, Cond.instanceMethod yX3_placeWith, Cond.selects RX3 yX3_placeWith yX3_placeWith, Cond.code yX3_placeWith cX3_placeWith 6 none, Cond.fieldLink RX3 13 "LayoutSolver$Dictionary" "rows" "[[J", Cond.fieldLink RX3 16 "LayoutSolver$Dictionary" "scale" "J", Cond.fieldLink RX3 24 "LayoutSolver$Dictionary" "constants" "[I", Cond.fieldLink RX3 28 "LayoutSolver$Dictionary" "levels" "[I", Cond.fieldLink RX3 78 "LayoutSolver$Constraint" "strength" "I", Cond.fieldLink RX3 31 "LayoutSolver$Dictionary" "costAbove" "[I"]
def wsX8_parse_r8 : List Cond := [Cond.fieldLink RX3 34 "LayoutSolver$Dictionary" "costBelow" "[I", Cond.fieldLink RX3 37 "LayoutSolver$Dictionary" "sides" "[I", Cond.methodLink RX3 70 yX1_coefficient, Cond.instanceMethod yX1_coefficient, Cond.selects RX1 yX1_coefficient yX1_coefficient, Cond.code yX1_coefficient cX1_coefficient 2 (some .int), Cond.methodLink RX3 74 yX3_addVariable, Cond.instanceMethod yX3_addVariable, Cond.selects RX3 yX3_addVariable yX3_addVariable, Cond.code yX3_addVariable cX3_addVariable 6 none, Cond.methodLink RX3 81 yX1_costAbove, Cond.instanceMethod yX1_costAbove, Cond.selects RX1 yX1_costAbove yX1_costAbove, Cond.code yX1_costAbove cX1_costAbove 1 (some .int), Cond.methodLink RX3 84 yX1_costBelow, Cond.instanceMethod yX1_costBelow, Cond.selects RX1 yX1_costBelow yX1_costBelow, Cond.code yX1_costBelow cX1_costBelow 1 (some .int), Cond.methodLink RX8 252 yX3_isFeasible, Cond.instanceMethod yX3_isFeasible, Cond.selects RX3 yX3_isFeasible yX3_isFeasible, Cond.code yX3_isFeasible cX3_isFeasible 4 (some .boolean), Cond.methodLink RX3 86 yX3_descend, Cond.instanceMethod yX3_descend]
def wsX8_parse_r9 : List Cond := [Cond.selects RX3 yX3_descend yX3_descend, Cond.code yX3_descend cX3_descend 8 none, Cond.fieldLink RX3 49 "LayoutSolver$Dictionary" "countedLevels" "I", Cond.constant RX3 109 (1000000), Cond.methodLink RX3 110 yX3_findSlopes, Cond.instanceMethod yX3_findSlopes, Cond.selects RX3 yX3_findSlopes yX3_findSlopes, Cond.code yX3_findSlopes cX3_findSlopes 5 none, Cond.fieldLink RX3 46 "LayoutSolver$Dictionary" "slopes" "[[J", Cond.methodLink RX3 127 yX3_addSlopes, Cond.instanceMethod yX3_addSlopes, Cond.selects RX3 yX3_addSlopes yX3_addSlopes, Cond.code yX3_addSlopes cX3_addSlopes 5 none, Cond.methodLink RX3 114 yX3_enteringColumn, Cond.instanceMethod yX3_enteringColumn, Cond.selects RX3 yX3_enteringColumn yX3_enteringColumn, Cond.code yX3_enteringColumn cX3_enteringColumn 3 (some .int), Cond.methodLink RX3 117 yX3_directionOf, Cond.instanceMethod yX3_directionOf, Cond.selects RX3 yX3_directionOf yX3_directionOf, Cond.code yX3_directionOf cX3_directionOf 10 (some .int), Cond.methodLink RX3 103 yJ13_compare_74951, Cond.static yJ13_compare_74951, Cond.initialized RJ13]
def wsX8_parse_r10 : List Cond := [Cond.code yJ13_compare_74951 cJ13_compare_74951 4 (some .int), Cond.methodLink RX3 120 yX3_leavingRow, Cond.instanceMethod yX3_leavingRow, Cond.selects RX3 yX3_leavingRow yX3_leavingRow, Cond.code yX3_leavingRow cX3_leavingRow 13 (some .int), Cond.methodLink RX3 130 Lib.MathLoose.abs_long.x, Cond.static Lib.MathLoose.abs_long.x, Cond.initialized "java/lang/Math", Cond.code Lib.MathLoose.abs_long.x Lib.MathLoose.abs_long.code 2 (some .long), Cond.methodLink RX3 124 yX3_exchange, Cond.instanceMethod yX3_exchange, Cond.selects RX3 yX3_exchange yX3_exchange, Cond.code yX3_exchange cX3_exchange 8 none, Cond.methodLink RX3 136 yX3_substitute, Cond.instanceMethod yX3_substitute, Cond.selects RX3 yX3_substitute yX3_substitute, Cond.code yX3_substitute cX3_substitute 11 none, Cond.methodLink RX3 89 yX3_costOf, Cond.instanceMethod yX3_costOf, Cond.selects RX3 yX3_costOf yX3_costOf, Cond.code yX3_costOf cX3_costOf 4 (some .long), Cond.methodLink RX8 294 yX0_init, Cond.instanceMethod yX0_init, Cond.code yX0_init cX0_init 4 none]
def wsX8_parse_r11 : List Cond := [Cond.methodLink RX0 1 objectInit, Cond.fieldLink RX0 7 "LayoutSolver$Change" "number" "I", Cond.fieldLink RX0 13 "LayoutSolver$Change" "before" "LLayoutSolver$Constraint;", Cond.fieldLink RX0 17 "LayoutSolver$Change" "after" "LLayoutSolver$Constraint;", Cond.methodLink RX8 297 yX4_append, Cond.instanceMethod yX4_append, Cond.selects RX4 yX4_append yX4_append, Cond.initialized RX4, Cond.code yX4_append cX4_append 3 none, Cond.fieldLink RX4 17 "LayoutSolver$History" "done" "I", Cond.fieldLink RX4 11 "LayoutSolver$History" "changes" "[LLayoutSolver$Change;", Cond.fieldLink RX4 21 "LayoutSolver$History" "undone" "I", Cond.methodLink RX8 155 yX6_clear, Cond.instanceMethod yX6_clear, Cond.selects RX6 yX6_clear yX6_clear, Cond.code yX6_clear cX6_clear 1 none]
def wsX8_parse : List Cond := .code yX8_parse cX8_parse 3 (some .int) :: ((wsX8_parse_r1 ++ (wsX8_parse_r2 ++ (wsX8_parse_r3 ++ (wsX8_parse_r4 ++ (wsX8_parse_r5 ++ (wsX8_parse_r6 ++ (wsX8_parse_r7 ++ (wsX8_parse_r8 ++ (wsX8_parse_r9 ++ (wsX8_parse_r10 ++ wsX8_parse_r11)))))))))) ++ wsX80 ++ wsX70 ++ wsX60 ++ wsX10 ++ wsX50 ++ wsX00 ++ wsX30 ++ wsX40)
def wsX8_spell_r1 : List Cond := [Cond.fieldLink RX8 33 "LayoutSolver" "layout" "LLayoutSolver$Layout;", Cond.fieldLink RX8 20 "LayoutSolver" "spelling" "LLayoutSolver$Line;", Cond.methodLink RX8 107 yX5_at, Cond.instanceMethod yX5_at, Cond.selects RX5 yX5_at yX5_at, Cond.initialized RX5, Cond.code yX5_at cX5_at 2 (some (.object "LayoutSolver$Constraint")), Cond.fieldLink RX5 11 "LayoutSolver$Layout" "places" "[LLayoutSolver$Constraint;", Cond.methodLink RX8 172 yX1_writeTo, Cond.instanceMethod yX1_writeTo, Cond.selects RX1 yX1_writeTo yX1_writeTo, Cond.initialized RX1, Cond.code yX1_writeTo cX1_writeTo 3 none, Cond.fieldLink RX1 9 "LayoutSolver$Constraint" "coefficients" "[I", Cond.fieldLink RX1 15 "LayoutSolver$Constraint" "relation" "I", Cond.fieldLink RX1 19 "LayoutSolver$Constraint" "constant" "I", Cond.methodLink RX1 44 Lib.Math.abs.name, Cond.static Lib.Math.abs.name, Cond.initialized "java/lang/Math", Cond.code Lib.Math.abs.name Lib.Math.abs.code 1 (some .int), Cond.fieldLink RX1 22 "LayoutSolver$Constraint" "strength" "I", Cond.fieldLink RX1 25 "LayoutSolver$Constraint" "weight" "I", Cond.methodLink RX1 31 yX6_clear, Cond.instanceMethod yX6_clear]
def wsX8_spell_r2 : List Cond := [Cond.selects RX6 yX6_clear yX6_clear, Cond.initialized RX6, Cond.code yX6_clear cX6_clear 1 none, Cond.fieldLink RX6 15 "LayoutSolver$Line" "length" "I", Cond.methodLink RX1 36 yX1_writeTerm, Cond.static yX1_writeTerm, Cond.code yX1_writeTerm cX1_writeTerm 3 none, Cond.methodLink RX1 40 yX6_append, Cond.instanceMethod yX6_append, Cond.selects RX6 yX6_append yX6_append, Cond.code yX6_append cX6_append 2 none, Cond.fieldLink RX6 9 "LayoutSolver$Line" "characters" "[C", Cond.methodLink RX1 54 yX6_size, Cond.instanceMethod yX6_size, Cond.selects RX6 yX6_size yX6_size, Cond.code yX6_size cX6_size 1 (some .int), Cond.methodLink RX1 50 yX1_writeNumber, Cond.static yX1_writeNumber, Cond.code yX1_writeNumber cX1_writeNumber 2 none, Cond.methodLink RX8 154 yX6_size, Cond.methodLink RX8 176 yX6_at, Cond.instanceMethod yX6_at, Cond.selects RX6 yX6_at yX6_at, Cond.code yX6_at cX6_at 2 (some .char)]
def wsX8_spell : List Cond := .code yX8_spell cX8_spell 4 (some .int) :: ((wsX8_spell_r1 ++ wsX8_spell_r2) ++ wsX80 ++ wsX50 ++ wsX10 ++ wsX60)
def wsX8_undo_r1 : List Cond := [Cond.fieldLink RX8 44 "LayoutSolver" "history" "LLayoutSolver$History;", Cond.fieldLink RX8 183 "LayoutSolver$Change" "number" "I", Cond.fieldLink RX8 188 "LayoutSolver$Change" "before" "LLayoutSolver$Constraint;", Cond.methodLink RX8 179 yX4_back, Cond.instanceMethod yX4_back, Cond.selects RX4 yX4_back yX4_back, Cond.initialized RX4, Cond.code yX4_back cX4_back 1 (some (.object "LayoutSolver$Change")), Cond.fieldLink RX4 17 "LayoutSolver$History" "done" "I", Cond.fieldLink RX4 21 "LayoutSolver$History" "undone" "I", Cond.fieldLink RX4 11 "LayoutSolver$History" "changes" "[LLayoutSolver$Change;", Cond.methodLink RX8 192 yX8_put, Cond.instanceMethod yX8_put, Cond.selects RX8 yX8_put yX8_put, Cond.initialized RX8, Cond.code yX8_put cX8_put 3 none, Cond.fieldLink RX8 33 "LayoutSolver" "layout" "LLayoutSolver$Layout;", Cond.fieldLink RX8 51 "LayoutSolver" "dictionary" "LLayoutSolver$Dictionary;", Cond.methodLink RX8 289 yX5_put, Cond.instanceMethod yX5_put, Cond.selects RX5 yX5_put yX5_put, Cond.initialized RX5, Cond.code yX5_put cX5_put 3 none, Cond.fieldLink RX5 11 "LayoutSolver$Layout" "places" "[LLayoutSolver$Constraint;"]
def wsX8_undo_r2 : List Cond := [Cond.methodLink RX8 249 yX3_place, Cond.instanceMethod yX3_place, Cond.selects RX3 yX3_place yX3_place, Cond.initialized RX3, Cond.code yX3_place cX3_place 3 none, Cond.fieldLink RX3 61 "LayoutSolver$Constraint" "constant" "I", Cond.methodLink RX3 57 yX3_lift, Cond.instanceMethod yX3_lift, Cond.selects RX3 yX3_lift yX3_lift, Cond.code yX3_lift cX3_lift 3 none, Cond.fieldLink RX3 40 "LayoutSolver$Dictionary" "columnOf" "[I", Cond.fieldLink RX3 43 "LayoutSolver$Dictionary" "rowOf" "[I", Cond.fieldLink RX3 20 "LayoutSolver$Dictionary" "placed" "[Z", Cond.methodLink RX3 66 yX3_placeWith, Cond.instanceMethod yX3_placeWith, Cond.selects RX3 yX3_placeWith yX3_placeWith, Cond.code yX3_placeWith cX3_placeWith 6 none, Cond.fieldLink RX3 13 "LayoutSolver$Dictionary" "rows" "[[J", Cond.fieldLink RX3 16 "LayoutSolver$Dictionary" "scale" "J", Cond.fieldLink RX3 24 "LayoutSolver$Dictionary" "constants" "[I", Cond.fieldLink RX3 28 "LayoutSolver$Dictionary" "levels" "[I", Cond.fieldLink RX3 78 "LayoutSolver$Constraint" "strength" "I", Cond.fieldLink RX3 31 "LayoutSolver$Dictionary" "costAbove" "[I", Cond.fieldLink RX3 34 "LayoutSolver$Dictionary" "costBelow" "[I"]
def wsX8_undo_r3 : List Cond := [Cond.fieldLink RX3 37 "LayoutSolver$Dictionary" "sides" "[I", Cond.methodLink RX3 70 yX1_coefficient, Cond.instanceMethod yX1_coefficient, Cond.selects RX1 yX1_coefficient yX1_coefficient, Cond.initialized RX1, Cond.code yX1_coefficient cX1_coefficient 2 (some .int), Cond.fieldLink RX1 9 "LayoutSolver$Constraint" "coefficients" "[I", Cond.methodLink RX3 74 yX3_addVariable, Cond.instanceMethod yX3_addVariable, Cond.selects RX3 yX3_addVariable yX3_addVariable, Cond.code yX3_addVariable cX3_addVariable 6 none, Cond.methodLink RX3 81 yX1_costAbove, Cond.instanceMethod yX1_costAbove, Cond.selects RX1 yX1_costAbove yX1_costAbove, Cond.code yX1_costAbove cX1_costAbove 1 (some .int), Cond.fieldLink RX1 15 "LayoutSolver$Constraint" "relation" "I", Cond.fieldLink RX1 25 "LayoutSolver$Constraint" "weight" "I", Cond.methodLink RX3 84 yX1_costBelow, Cond.instanceMethod yX1_costBelow, Cond.selects RX1 yX1_costBelow yX1_costBelow, Cond.code yX1_costBelow cX1_costBelow 1 (some .int)]
def wsX8_undo : List Cond := .code yX8_undo cX8_undo 2 (some .int) :: ((wsX8_undo_r1 ++ (wsX8_undo_r2 ++ wsX8_undo_r3)) ++ wsX80 ++ wsX00 ++ wsX40 ++ wsX50 ++ wsX10 ++ wsX30)
def wsX8_redo_r1 : List Cond := [Cond.fieldLink RX8 44 "LayoutSolver" "history" "LLayoutSolver$History;", Cond.fieldLink RX8 183 "LayoutSolver$Change" "number" "I", Cond.fieldLink RX8 199 "LayoutSolver$Change" "after" "LLayoutSolver$Constraint;", Cond.methodLink RX8 196 yX4_forth, Cond.instanceMethod yX4_forth, Cond.selects RX4 yX4_forth yX4_forth, Cond.initialized RX4, Cond.code yX4_forth cX4_forth 2 (some (.object "LayoutSolver$Change")), Cond.fieldLink RX4 21 "LayoutSolver$History" "undone" "I", Cond.fieldLink RX4 17 "LayoutSolver$History" "done" "I", Cond.fieldLink RX4 11 "LayoutSolver$History" "changes" "[LLayoutSolver$Change;", Cond.methodLink RX8 192 yX8_put, Cond.instanceMethod yX8_put, Cond.selects RX8 yX8_put yX8_put, Cond.initialized RX8, Cond.code yX8_put cX8_put 3 none, Cond.fieldLink RX8 33 "LayoutSolver" "layout" "LLayoutSolver$Layout;", Cond.fieldLink RX8 51 "LayoutSolver" "dictionary" "LLayoutSolver$Dictionary;", Cond.methodLink RX8 289 yX5_put, Cond.instanceMethod yX5_put, Cond.selects RX5 yX5_put yX5_put, Cond.initialized RX5, Cond.code yX5_put cX5_put 3 none, Cond.fieldLink RX5 11 "LayoutSolver$Layout" "places" "[LLayoutSolver$Constraint;"]
def wsX8_redo_r2 : List Cond := [Cond.methodLink RX8 249 yX3_place, Cond.instanceMethod yX3_place, Cond.selects RX3 yX3_place yX3_place, Cond.initialized RX3, Cond.code yX3_place cX3_place 3 none, Cond.fieldLink RX3 61 "LayoutSolver$Constraint" "constant" "I", Cond.methodLink RX3 57 yX3_lift, Cond.instanceMethod yX3_lift, Cond.selects RX3 yX3_lift yX3_lift, Cond.code yX3_lift cX3_lift 3 none, Cond.fieldLink RX3 40 "LayoutSolver$Dictionary" "columnOf" "[I", Cond.fieldLink RX3 43 "LayoutSolver$Dictionary" "rowOf" "[I", Cond.fieldLink RX3 20 "LayoutSolver$Dictionary" "placed" "[Z", Cond.methodLink RX3 66 yX3_placeWith, Cond.instanceMethod yX3_placeWith, Cond.selects RX3 yX3_placeWith yX3_placeWith, Cond.code yX3_placeWith cX3_placeWith 6 none, Cond.fieldLink RX3 13 "LayoutSolver$Dictionary" "rows" "[[J", Cond.fieldLink RX3 16 "LayoutSolver$Dictionary" "scale" "J", Cond.fieldLink RX3 24 "LayoutSolver$Dictionary" "constants" "[I", Cond.fieldLink RX3 28 "LayoutSolver$Dictionary" "levels" "[I", Cond.fieldLink RX3 78 "LayoutSolver$Constraint" "strength" "I", Cond.fieldLink RX3 31 "LayoutSolver$Dictionary" "costAbove" "[I", Cond.fieldLink RX3 34 "LayoutSolver$Dictionary" "costBelow" "[I"]
def wsX8_redo_r3 : List Cond := [Cond.fieldLink RX3 37 "LayoutSolver$Dictionary" "sides" "[I", Cond.methodLink RX3 70 yX1_coefficient, Cond.instanceMethod yX1_coefficient, Cond.selects RX1 yX1_coefficient yX1_coefficient, Cond.initialized RX1, Cond.code yX1_coefficient cX1_coefficient 2 (some .int), Cond.fieldLink RX1 9 "LayoutSolver$Constraint" "coefficients" "[I", Cond.methodLink RX3 74 yX3_addVariable, Cond.instanceMethod yX3_addVariable, Cond.selects RX3 yX3_addVariable yX3_addVariable, Cond.code yX3_addVariable cX3_addVariable 6 none, Cond.methodLink RX3 81 yX1_costAbove, Cond.instanceMethod yX1_costAbove, Cond.selects RX1 yX1_costAbove yX1_costAbove, Cond.code yX1_costAbove cX1_costAbove 1 (some .int), Cond.fieldLink RX1 15 "LayoutSolver$Constraint" "relation" "I", Cond.fieldLink RX1 25 "LayoutSolver$Constraint" "weight" "I", Cond.methodLink RX3 84 yX1_costBelow, Cond.instanceMethod yX1_costBelow, Cond.selects RX1 yX1_costBelow yX1_costBelow, Cond.code yX1_costBelow cX1_costBelow 1 (some .int)]
def wsX8_redo : List Cond := .code yX8_redo cX8_redo 2 (some .int) :: ((wsX8_redo_r1 ++ (wsX8_redo_r2 ++ wsX8_redo_r3)) ++ wsX80 ++ wsX00 ++ wsX40 ++ wsX50 ++ wsX10 ++ wsX30)
def wsX8_isSoft : List Cond := .code yX8_isSoft cX8_isSoft 1 (some .boolean) :: ([])
def wsX8_isPart : List Cond := .code yX8_isPart cX8_isPart 1 (some .boolean) :: ([])
def wsX8_findCosts_r1 : List Cond := [Cond.fieldLink RX8 51 "LayoutSolver" "dictionary" "LLayoutSolver$Dictionary;", Cond.methodLink RX8 300 yX3_settle, Cond.instanceMethod yX3_settle, Cond.selects RX3 yX3_settle yX3_settle, Cond.initialized RX3, Cond.code yX3_settle cX3_settle 1 none, Cond.methodLink RX3 86 yX3_descend, Cond.instanceMethod yX3_descend, Cond.selects RX3 yX3_descend yX3_descend, Cond.code yX3_descend cX3_descend 8 none, Cond.fieldLink RX3 49 "LayoutSolver$Dictionary" "countedLevels" "I", Cond.constant RX3 109 (1000000), Cond.methodLink RX3 110 yX3_findSlopes, Cond.instanceMethod yX3_findSlopes, Cond.selects RX3 yX3_findSlopes yX3_findSlopes, Cond.code yX3_findSlopes cX3_findSlopes 5 none, Cond.fieldLink RX3 46 "LayoutSolver$Dictionary" "slopes" "[[J", Cond.fieldLink RX3 20 "LayoutSolver$Dictionary" "placed" "[Z", Cond.fieldLink RX3 40 "LayoutSolver$Dictionary" "columnOf" "[I", Cond.fieldLink RX3 28 "LayoutSolver$Dictionary" "levels" "[I", Cond.fieldLink RX3 37 "LayoutSolver$Dictionary" "sides" "[I", Cond.fieldLink RX3 31 "LayoutSolver$Dictionary" "costAbove" "[I", Cond.fieldLink RX3 34 "LayoutSolver$Dictionary" "costBelow" "[I", Cond.methodLink RX3 127 yX3_addSlopes]
def wsX8_findCosts_r2 : List Cond := [Cond.instanceMethod yX3_addSlopes, Cond.selects RX3 yX3_addSlopes yX3_addSlopes, Cond.code yX3_addSlopes cX3_addSlopes 5 none, Cond.fieldLink RX3 13 "LayoutSolver$Dictionary" "rows" "[[J", Cond.methodLink RX3 114 yX3_enteringColumn, Cond.instanceMethod yX3_enteringColumn, Cond.selects RX3 yX3_enteringColumn yX3_enteringColumn, Cond.code yX3_enteringColumn cX3_enteringColumn 3 (some .int), Cond.fieldLink RX3 43 "LayoutSolver$Dictionary" "rowOf" "[I", Cond.methodLink RX3 117 yX3_directionOf, Cond.instanceMethod yX3_directionOf, Cond.selects RX3 yX3_directionOf yX3_directionOf, Cond.code yX3_directionOf cX3_directionOf 10 (some .int), Cond.fieldLink RX3 16 "LayoutSolver$Dictionary" "scale" "J", Cond.methodLink RX3 103 yJ13_compare_74951, Cond.static yJ13_compare_74951, Cond.initialized RJ13, Cond.code yJ13_compare_74951 cJ13_compare_74951 4 (some .int), Cond.methodLink RX3 120 yX3_leavingRow, Cond.instanceMethod yX3_leavingRow, Cond.selects RX3 yX3_leavingRow yX3_leavingRow, Cond.code yX3_leavingRow cX3_leavingRow 13 (some .int), Cond.methodLink RX3 130 Lib.MathLoose.abs_long.x, Cond.static Lib.MathLoose.abs_long.x]
def wsX8_findCosts_r3 : List Cond := [Cond.initialized "java/lang/Math", Cond.code Lib.MathLoose.abs_long.x Lib.MathLoose.abs_long.code 2 (some .long), Cond.methodLink RX3 124 yX3_exchange, Cond.instanceMethod yX3_exchange, Cond.selects RX3 yX3_exchange yX3_exchange, Cond.code yX3_exchange cX3_exchange 8 none, Cond.methodLink RX3 136 yX3_substitute, Cond.instanceMethod yX3_substitute, Cond.selects RX3 yX3_substitute yX3_substitute, Cond.code yX3_substitute cX3_substitute 11 none, Cond.methodLink RX8 303 yX3_tellCosts, Cond.instanceMethod yX3_tellCosts, Cond.selects RX3 yX3_tellCosts yX3_tellCosts, Cond.code yX3_tellCosts cX3_tellCosts 3 none, Cond.methodLink RX3 93 yX2_clear, Cond.instanceMethod yX2_clear, Cond.selects RX2 yX2_clear yX2_clear, Cond.initialized RX2, Cond.code yX2_clear cX2_clear 4 none, Cond.fieldLink RX2 9 "LayoutSolver$Costs" "sums" "[J", Cond.fieldLink RX2 15 "LayoutSolver$Costs" "denominator" "J", Cond.methodLink RX3 89 yX3_costOf, Cond.instanceMethod yX3_costOf, Cond.selects RX3 yX3_costOf yX3_costOf]
def wsX8_findCosts_r4 : List Cond := [Cond.code yX3_costOf cX3_costOf 4 (some .long), Cond.methodLink RX3 99 yX2_increase, Cond.instanceMethod yX2_increase, Cond.selects RX2 yX2_increase yX2_increase, Cond.code yX2_increase cX2_increase 4 none]
def wsX8_findCosts : List Cond := .code yX8_findCosts cX8_findCosts 2 none :: ((wsX8_findCosts_r1 ++ (wsX8_findCosts_r2 ++ (wsX8_findCosts_r3 ++ wsX8_findCosts_r4))) ++ wsX80 ++ wsX30 ++ wsX20)
def wsX8_cost_r1 : List Cond := [Cond.constantLong RX8 208 (-1000000000000000002), Cond.fieldLink RX8 58 "LayoutSolver" "present" "LLayoutSolver$Costs;", Cond.methodLink RX8 202 yX8_isSoft, Cond.static yX8_isSoft, Cond.initialized RX8, Cond.code yX8_isSoft cX8_isSoft 1 (some .boolean), Cond.methodLink RX8 205 yX8_isPart, Cond.static yX8_isPart, Cond.code yX8_isPart cX8_isPart 1 (some .boolean), Cond.methodLink RX8 210 yX8_findCosts, Cond.instanceMethod yX8_findCosts, Cond.selects RX8 yX8_findCosts yX8_findCosts, Cond.code yX8_findCosts cX8_findCosts 2 none, Cond.fieldLink RX8 51 "LayoutSolver" "dictionary" "LLayoutSolver$Dictionary;", Cond.methodLink RX8 300 yX3_settle, Cond.instanceMethod yX3_settle, Cond.selects RX3 yX3_settle yX3_settle, Cond.initialized RX3, Cond.code yX3_settle cX3_settle 1 none, Cond.methodLink RX3 86 yX3_descend, Cond.instanceMethod yX3_descend, Cond.selects RX3 yX3_descend yX3_descend, Cond.code yX3_descend cX3_descend 8 none, Cond.fieldLink RX3 49 "LayoutSolver$Dictionary" "countedLevels" "I"]
def wsX8_cost_r2 : List Cond := [Cond.constant RX3 109 (1000000), Cond.methodLink RX3 110 yX3_findSlopes, Cond.instanceMethod yX3_findSlopes, Cond.selects RX3 yX3_findSlopes yX3_findSlopes, Cond.code yX3_findSlopes cX3_findSlopes 5 none, Cond.fieldLink RX3 46 "LayoutSolver$Dictionary" "slopes" "[[J", Cond.fieldLink RX3 20 "LayoutSolver$Dictionary" "placed" "[Z", Cond.fieldLink RX3 40 "LayoutSolver$Dictionary" "columnOf" "[I", Cond.fieldLink RX3 28 "LayoutSolver$Dictionary" "levels" "[I", Cond.fieldLink RX3 37 "LayoutSolver$Dictionary" "sides" "[I", Cond.fieldLink RX3 31 "LayoutSolver$Dictionary" "costAbove" "[I", Cond.fieldLink RX3 34 "LayoutSolver$Dictionary" "costBelow" "[I", Cond.methodLink RX3 127 yX3_addSlopes, Cond.instanceMethod yX3_addSlopes, Cond.selects RX3 yX3_addSlopes yX3_addSlopes, Cond.code yX3_addSlopes cX3_addSlopes 5 none, Cond.fieldLink RX3 13 "LayoutSolver$Dictionary" "rows" "[[J", Cond.methodLink RX3 114 yX3_enteringColumn, Cond.instanceMethod yX3_enteringColumn, Cond.selects RX3 yX3_enteringColumn yX3_enteringColumn, Cond.code yX3_enteringColumn cX3_enteringColumn 3 (some .int), Cond.fieldLink RX3 43 "LayoutSolver$Dictionary" "rowOf" "[I", Cond.methodLink RX3 117 yX3_directionOf, Cond.instanceMethod yX3_directionOf]
def wsX8_cost_r3 : List Cond := [Cond.selects RX3 yX3_directionOf yX3_directionOf, Cond.code yX3_directionOf cX3_directionOf 10 (some .int), Cond.fieldLink RX3 16 "LayoutSolver$Dictionary" "scale" "J", Cond.methodLink RX3 103 yJ13_compare_74951, Cond.static yJ13_compare_74951, Cond.initialized RJ13, Cond.code yJ13_compare_74951 cJ13_compare_74951 4 (some .int), Cond.methodLink RX3 120 yX3_leavingRow, Cond.instanceMethod yX3_leavingRow, Cond.selects RX3 yX3_leavingRow yX3_leavingRow, Cond.code yX3_leavingRow cX3_leavingRow 13 (some .int), Cond.methodLink RX3 130 Lib.MathLoose.abs_long.x, Cond.static Lib.MathLoose.abs_long.x, Cond.initialized "java/lang/Math", Cond.code Lib.MathLoose.abs_long.x Lib.MathLoose.abs_long.code 2 (some .long), Cond.methodLink RX3 124 yX3_exchange, Cond.instanceMethod yX3_exchange, Cond.selects RX3 yX3_exchange yX3_exchange, Cond.code yX3_exchange cX3_exchange 8 none, Cond.methodLink RX3 136 yX3_substitute, Cond.instanceMethod yX3_substitute, Cond.selects RX3 yX3_substitute yX3_substitute, Cond.code yX3_substitute cX3_substitute 11 none, Cond.methodLink RX8 303 yX3_tellCosts]
def wsX8_cost_r4 : List Cond := [Cond.instanceMethod yX3_tellCosts, Cond.selects RX3 yX3_tellCosts yX3_tellCosts, Cond.code yX3_tellCosts cX3_tellCosts 3 none, Cond.methodLink RX3 93 yX2_clear, Cond.instanceMethod yX2_clear, Cond.selects RX2 yX2_clear yX2_clear, Cond.initialized RX2, Cond.code yX2_clear cX2_clear 4 none, Cond.fieldLink RX2 9 "LayoutSolver$Costs" "sums" "[J", Cond.fieldLink RX2 15 "LayoutSolver$Costs" "denominator" "J", Cond.methodLink RX3 89 yX3_costOf, Cond.instanceMethod yX3_costOf, Cond.selects RX3 yX3_costOf yX3_costOf, Cond.code yX3_costOf cX3_costOf 4 (some .long), Cond.methodLink RX3 99 yX2_increase, Cond.instanceMethod yX2_increase, Cond.selects RX2 yX2_increase yX2_increase, Cond.code yX2_increase cX2_increase 4 none, Cond.methodLink RX8 214 yX2_part, Cond.instanceMethod yX2_part, Cond.selects RX2 yX2_part yX2_part, Cond.code yX2_part cX2_part 3 (some .long), Cond.static yX8_partOf, Cond.code yX8_partOf cX8_partOf 12 (some .long)]
def wsX8_cost_r5 : List Cond := [Cond.methodLink RX8 310 Lib.MathLoose.abs_long.x]
def wsX8_cost : List Cond := .code yX8_cost cX8_cost 3 (some .long) :: ((wsX8_cost_r1 ++ (wsX8_cost_r2 ++ (wsX8_cost_r3 ++ (wsX8_cost_r4 ++ wsX8_cost_r5)))) ++ wsX80 ++ wsX30 ++ wsX20)
def wsX8_variableAt_r1 : List Cond := [Cond.constantLong RX8 225 (-1000000000000000001), Cond.constantLong RX8 208 (-1000000000000000002), Cond.fieldLink RX8 51 "LayoutSolver" "dictionary" "LLayoutSolver$Dictionary;", Cond.methodLink RX8 74 yX8_isVariable, Cond.static yX8_isVariable, Cond.initialized RX8, Cond.code yX8_isVariable cX8_isVariable 1 (some .boolean), Cond.methodLink RX8 205 yX8_isPart, Cond.static yX8_isPart, Cond.code yX8_isPart cX8_isPart 1 (some .boolean), Cond.methodLink RX8 227 yX3_goTo, Cond.instanceMethod yX3_goTo, Cond.selects RX3 yX3_goTo yX3_goTo, Cond.initialized RX3, Cond.code yX3_goTo cX3_goTo 4 none, Cond.methodLink RX3 86 yX3_descend, Cond.instanceMethod yX3_descend, Cond.selects RX3 yX3_descend yX3_descend, Cond.code yX3_descend cX3_descend 8 none, Cond.fieldLink RX3 49 "LayoutSolver$Dictionary" "countedLevels" "I", Cond.constant RX3 109 (1000000), Cond.methodLink RX3 110 yX3_findSlopes, Cond.instanceMethod yX3_findSlopes, Cond.selects RX3 yX3_findSlopes yX3_findSlopes]
def wsX8_variableAt_r2 : List Cond := [Cond.code yX3_findSlopes cX3_findSlopes 5 none, Cond.fieldLink RX3 46 "LayoutSolver$Dictionary" "slopes" "[[J", Cond.fieldLink RX3 20 "LayoutSolver$Dictionary" "placed" "[Z", Cond.fieldLink RX3 40 "LayoutSolver$Dictionary" "columnOf" "[I", Cond.fieldLink RX3 28 "LayoutSolver$Dictionary" "levels" "[I", Cond.fieldLink RX3 37 "LayoutSolver$Dictionary" "sides" "[I", Cond.fieldLink RX3 31 "LayoutSolver$Dictionary" "costAbove" "[I", Cond.fieldLink RX3 34 "LayoutSolver$Dictionary" "costBelow" "[I", Cond.methodLink RX3 127 yX3_addSlopes, Cond.instanceMethod yX3_addSlopes, Cond.selects RX3 yX3_addSlopes yX3_addSlopes, Cond.code yX3_addSlopes cX3_addSlopes 5 none, Cond.fieldLink RX3 13 "LayoutSolver$Dictionary" "rows" "[[J", Cond.methodLink RX3 114 yX3_enteringColumn, Cond.instanceMethod yX3_enteringColumn, Cond.selects RX3 yX3_enteringColumn yX3_enteringColumn, Cond.code yX3_enteringColumn cX3_enteringColumn 3 (some .int), Cond.fieldLink RX3 43 "LayoutSolver$Dictionary" "rowOf" "[I", Cond.methodLink RX3 117 yX3_directionOf, Cond.instanceMethod yX3_directionOf, Cond.selects RX3 yX3_directionOf yX3_directionOf, Cond.code yX3_directionOf cX3_directionOf 10 (some .int), Cond.fieldLink RX3 16 "LayoutSolver$Dictionary" "scale" "J", Cond.methodLink RX3 103 yJ13_compare_74951]
def wsX8_variableAt_r3 : List Cond := [Cond.static yJ13_compare_74951, Cond.initialized RJ13, Cond.code yJ13_compare_74951 cJ13_compare_74951 4 (some .int), Cond.methodLink RX3 120 yX3_leavingRow, Cond.instanceMethod yX3_leavingRow, Cond.selects RX3 yX3_leavingRow yX3_leavingRow, Cond.code yX3_leavingRow cX3_leavingRow 13 (some .int), Cond.methodLink RX3 130 Lib.MathLoose.abs_long.x, Cond.static Lib.MathLoose.abs_long.x, Cond.initialized "java/lang/Math", Cond.code Lib.MathLoose.abs_long.x Lib.MathLoose.abs_long.code 2 (some .long), Cond.methodLink RX3 124 yX3_exchange, Cond.instanceMethod yX3_exchange, Cond.selects RX3 yX3_exchange yX3_exchange, Cond.code yX3_exchange cX3_exchange 8 none, Cond.methodLink RX3 136 yX3_substitute, Cond.instanceMethod yX3_substitute, Cond.selects RX3 yX3_substitute yX3_substitute, Cond.code yX3_substitute cX3_substitute 11 none, Cond.methodLink RX8 231 yX3_numerator, Cond.instanceMethod yX3_numerator, Cond.selects RX3 yX3_numerator yX3_numerator, Cond.code yX3_numerator cX3_numerator 2 (some .long), Cond.fieldLink RX3 24 "LayoutSolver$Dictionary" "constants" "[I"]
def wsX8_variableAt_r4 : List Cond := [Cond.methodLink RX8 235 yX3_denominator, Cond.instanceMethod yX3_denominator, Cond.selects RX3 yX3_denominator yX3_denominator, Cond.code yX3_denominator cX3_denominator 1 (some .long), Cond.methodLink RX8 239 yX8_partOf, Cond.static yX8_partOf, Cond.code yX8_partOf cX8_partOf 12 (some .long), Cond.methodLink RX8 310 Lib.MathLoose.abs_long.x]
def wsX8_variableAt : List Cond := .code yX8_variableAt cX8_variableAt 6 (some .long) :: ((wsX8_variableAt_r1 ++ (wsX8_variableAt_r2 ++ (wsX8_variableAt_r3 ++ wsX8_variableAt_r4))) ++ wsX80 ++ wsX30)
def wsX8_low_r1 : List Cond := [Cond.methodLink RX8 218 yX8_variableAt, Cond.instanceMethod yX8_variableAt, Cond.selects RX8 yX8_variableAt yX8_variableAt, Cond.initialized RX8, Cond.code yX8_variableAt cX8_variableAt 6 (some .long), Cond.constantLong RX8 225 (-1000000000000000001), Cond.constantLong RX8 208 (-1000000000000000002), Cond.fieldLink RX8 51 "LayoutSolver" "dictionary" "LLayoutSolver$Dictionary;", Cond.methodLink RX8 74 yX8_isVariable, Cond.static yX8_isVariable, Cond.code yX8_isVariable cX8_isVariable 1 (some .boolean), Cond.methodLink RX8 205 yX8_isPart, Cond.static yX8_isPart, Cond.code yX8_isPart cX8_isPart 1 (some .boolean), Cond.methodLink RX8 227 yX3_goTo, Cond.instanceMethod yX3_goTo, Cond.selects RX3 yX3_goTo yX3_goTo, Cond.initialized RX3, Cond.code yX3_goTo cX3_goTo 4 none, Cond.methodLink RX3 86 yX3_descend, Cond.instanceMethod yX3_descend, Cond.selects RX3 yX3_descend yX3_descend, Cond.code yX3_descend cX3_descend 8 none, Cond.fieldLink RX3 49 "LayoutSolver$Dictionary" "countedLevels" "I"]
def wsX8_low_r2 : List Cond := [Cond.constant RX3 109 (1000000), Cond.methodLink RX3 110 yX3_findSlopes, Cond.instanceMethod yX3_findSlopes, Cond.selects RX3 yX3_findSlopes yX3_findSlopes, Cond.code yX3_findSlopes cX3_findSlopes 5 none, Cond.fieldLink RX3 46 "LayoutSolver$Dictionary" "slopes" "[[J", Cond.fieldLink RX3 20 "LayoutSolver$Dictionary" "placed" "[Z", Cond.fieldLink RX3 40 "LayoutSolver$Dictionary" "columnOf" "[I", Cond.fieldLink RX3 28 "LayoutSolver$Dictionary" "levels" "[I", Cond.fieldLink RX3 37 "LayoutSolver$Dictionary" "sides" "[I", Cond.fieldLink RX3 31 "LayoutSolver$Dictionary" "costAbove" "[I", Cond.fieldLink RX3 34 "LayoutSolver$Dictionary" "costBelow" "[I", Cond.methodLink RX3 127 yX3_addSlopes, Cond.instanceMethod yX3_addSlopes, Cond.selects RX3 yX3_addSlopes yX3_addSlopes, Cond.code yX3_addSlopes cX3_addSlopes 5 none, Cond.fieldLink RX3 13 "LayoutSolver$Dictionary" "rows" "[[J", Cond.methodLink RX3 114 yX3_enteringColumn, Cond.instanceMethod yX3_enteringColumn, Cond.selects RX3 yX3_enteringColumn yX3_enteringColumn, Cond.code yX3_enteringColumn cX3_enteringColumn 3 (some .int), Cond.fieldLink RX3 43 "LayoutSolver$Dictionary" "rowOf" "[I", Cond.methodLink RX3 117 yX3_directionOf, Cond.instanceMethod yX3_directionOf]
def wsX8_low_r3 : List Cond := [Cond.selects RX3 yX3_directionOf yX3_directionOf, Cond.code yX3_directionOf cX3_directionOf 10 (some .int), Cond.fieldLink RX3 16 "LayoutSolver$Dictionary" "scale" "J", Cond.methodLink RX3 103 yJ13_compare_74951, Cond.static yJ13_compare_74951, Cond.initialized RJ13, Cond.code yJ13_compare_74951 cJ13_compare_74951 4 (some .int), Cond.methodLink RX3 120 yX3_leavingRow, Cond.instanceMethod yX3_leavingRow, Cond.selects RX3 yX3_leavingRow yX3_leavingRow, Cond.code yX3_leavingRow cX3_leavingRow 13 (some .int), Cond.methodLink RX3 130 Lib.MathLoose.abs_long.x, Cond.static Lib.MathLoose.abs_long.x, Cond.initialized "java/lang/Math", Cond.code Lib.MathLoose.abs_long.x Lib.MathLoose.abs_long.code 2 (some .long), Cond.methodLink RX3 124 yX3_exchange, Cond.instanceMethod yX3_exchange, Cond.selects RX3 yX3_exchange yX3_exchange, Cond.code yX3_exchange cX3_exchange 8 none, Cond.methodLink RX3 136 yX3_substitute, Cond.instanceMethod yX3_substitute, Cond.selects RX3 yX3_substitute yX3_substitute, Cond.code yX3_substitute cX3_substitute 11 none, Cond.methodLink RX8 231 yX3_numerator]
def wsX8_low_r4 : List Cond := [Cond.instanceMethod yX3_numerator, Cond.selects RX3 yX3_numerator yX3_numerator, Cond.code yX3_numerator cX3_numerator 2 (some .long), Cond.fieldLink RX3 24 "LayoutSolver$Dictionary" "constants" "[I", Cond.methodLink RX8 235 yX3_denominator, Cond.instanceMethod yX3_denominator, Cond.selects RX3 yX3_denominator yX3_denominator, Cond.code yX3_denominator cX3_denominator 1 (some .long), Cond.methodLink RX8 239 yX8_partOf, Cond.static yX8_partOf, Cond.code yX8_partOf cX8_partOf 12 (some .long), Cond.methodLink RX8 310 Lib.MathLoose.abs_long.x]
def wsX8_low : List Cond := .code yX8_low cX8_low 3 (some .long) :: ((wsX8_low_r1 ++ (wsX8_low_r2 ++ (wsX8_low_r3 ++ wsX8_low_r4))) ++ wsX80 ++ wsX30)
def wsX8_high_r1 : List Cond := [Cond.methodLink RX8 218 yX8_variableAt, Cond.instanceMethod yX8_variableAt, Cond.selects RX8 yX8_variableAt yX8_variableAt, Cond.initialized RX8, Cond.code yX8_variableAt cX8_variableAt 6 (some .long), Cond.constantLong RX8 225 (-1000000000000000001), Cond.constantLong RX8 208 (-1000000000000000002), Cond.fieldLink RX8 51 "LayoutSolver" "dictionary" "LLayoutSolver$Dictionary;", Cond.methodLink RX8 74 yX8_isVariable, Cond.static yX8_isVariable, Cond.code yX8_isVariable cX8_isVariable 1 (some .boolean), Cond.methodLink RX8 205 yX8_isPart, Cond.static yX8_isPart, Cond.code yX8_isPart cX8_isPart 1 (some .boolean), Cond.methodLink RX8 227 yX3_goTo, Cond.instanceMethod yX3_goTo, Cond.selects RX3 yX3_goTo yX3_goTo, Cond.initialized RX3, Cond.code yX3_goTo cX3_goTo 4 none, Cond.methodLink RX3 86 yX3_descend, Cond.instanceMethod yX3_descend, Cond.selects RX3 yX3_descend yX3_descend, Cond.code yX3_descend cX3_descend 8 none, Cond.fieldLink RX3 49 "LayoutSolver$Dictionary" "countedLevels" "I"]
def wsX8_high_r2 : List Cond := [Cond.constant RX3 109 (1000000), Cond.methodLink RX3 110 yX3_findSlopes, Cond.instanceMethod yX3_findSlopes, Cond.selects RX3 yX3_findSlopes yX3_findSlopes, Cond.code yX3_findSlopes cX3_findSlopes 5 none, Cond.fieldLink RX3 46 "LayoutSolver$Dictionary" "slopes" "[[J", Cond.fieldLink RX3 20 "LayoutSolver$Dictionary" "placed" "[Z", Cond.fieldLink RX3 40 "LayoutSolver$Dictionary" "columnOf" "[I", Cond.fieldLink RX3 28 "LayoutSolver$Dictionary" "levels" "[I", Cond.fieldLink RX3 37 "LayoutSolver$Dictionary" "sides" "[I", Cond.fieldLink RX3 31 "LayoutSolver$Dictionary" "costAbove" "[I", Cond.fieldLink RX3 34 "LayoutSolver$Dictionary" "costBelow" "[I", Cond.methodLink RX3 127 yX3_addSlopes, Cond.instanceMethod yX3_addSlopes, Cond.selects RX3 yX3_addSlopes yX3_addSlopes, Cond.code yX3_addSlopes cX3_addSlopes 5 none, Cond.fieldLink RX3 13 "LayoutSolver$Dictionary" "rows" "[[J", Cond.methodLink RX3 114 yX3_enteringColumn, Cond.instanceMethod yX3_enteringColumn, Cond.selects RX3 yX3_enteringColumn yX3_enteringColumn, Cond.code yX3_enteringColumn cX3_enteringColumn 3 (some .int), Cond.fieldLink RX3 43 "LayoutSolver$Dictionary" "rowOf" "[I", Cond.methodLink RX3 117 yX3_directionOf, Cond.instanceMethod yX3_directionOf]
def wsX8_high_r3 : List Cond := [Cond.selects RX3 yX3_directionOf yX3_directionOf, Cond.code yX3_directionOf cX3_directionOf 10 (some .int), Cond.fieldLink RX3 16 "LayoutSolver$Dictionary" "scale" "J", Cond.methodLink RX3 103 yJ13_compare_74951, Cond.static yJ13_compare_74951, Cond.initialized RJ13, Cond.code yJ13_compare_74951 cJ13_compare_74951 4 (some .int), Cond.methodLink RX3 120 yX3_leavingRow, Cond.instanceMethod yX3_leavingRow, Cond.selects RX3 yX3_leavingRow yX3_leavingRow, Cond.code yX3_leavingRow cX3_leavingRow 13 (some .int), Cond.methodLink RX3 130 Lib.MathLoose.abs_long.x, Cond.static Lib.MathLoose.abs_long.x, Cond.initialized "java/lang/Math", Cond.code Lib.MathLoose.abs_long.x Lib.MathLoose.abs_long.code 2 (some .long), Cond.methodLink RX3 124 yX3_exchange, Cond.instanceMethod yX3_exchange, Cond.selects RX3 yX3_exchange yX3_exchange, Cond.code yX3_exchange cX3_exchange 8 none, Cond.methodLink RX3 136 yX3_substitute, Cond.instanceMethod yX3_substitute, Cond.selects RX3 yX3_substitute yX3_substitute, Cond.code yX3_substitute cX3_substitute 11 none, Cond.methodLink RX8 231 yX3_numerator]
def wsX8_high_r4 : List Cond := [Cond.instanceMethod yX3_numerator, Cond.selects RX3 yX3_numerator yX3_numerator, Cond.code yX3_numerator cX3_numerator 2 (some .long), Cond.fieldLink RX3 24 "LayoutSolver$Dictionary" "constants" "[I", Cond.methodLink RX8 235 yX3_denominator, Cond.instanceMethod yX3_denominator, Cond.selects RX3 yX3_denominator yX3_denominator, Cond.code yX3_denominator cX3_denominator 1 (some .long), Cond.methodLink RX8 239 yX8_partOf, Cond.static yX8_partOf, Cond.code yX8_partOf cX8_partOf 12 (some .long), Cond.methodLink RX8 310 Lib.MathLoose.abs_long.x]
def wsX8_high : List Cond := .code yX8_high cX8_high 3 (some .long) :: ((wsX8_high_r1 ++ (wsX8_high_r2 ++ (wsX8_high_r3 ++ wsX8_high_r4))) ++ wsX80 ++ wsX30)
def wsX8_isAmbiguous_r1 : List Cond := [Cond.fieldLink RX8 51 "LayoutSolver" "dictionary" "LLayoutSolver$Dictionary;", Cond.methodLink RX8 227 yX3_goTo, Cond.instanceMethod yX3_goTo, Cond.selects RX3 yX3_goTo yX3_goTo, Cond.initialized RX3, Cond.code yX3_goTo cX3_goTo 4 none, Cond.methodLink RX3 86 yX3_descend, Cond.instanceMethod yX3_descend, Cond.selects RX3 yX3_descend yX3_descend, Cond.code yX3_descend cX3_descend 8 none, Cond.fieldLink RX3 49 "LayoutSolver$Dictionary" "countedLevels" "I", Cond.constant RX3 109 (1000000), Cond.methodLink RX3 110 yX3_findSlopes, Cond.instanceMethod yX3_findSlopes, Cond.selects RX3 yX3_findSlopes yX3_findSlopes, Cond.code yX3_findSlopes cX3_findSlopes 5 none, Cond.fieldLink RX3 46 "LayoutSolver$Dictionary" "slopes" "[[J", Cond.fieldLink RX3 20 "LayoutSolver$Dictionary" "placed" "[Z", Cond.fieldLink RX3 40 "LayoutSolver$Dictionary" "columnOf" "[I", Cond.fieldLink RX3 28 "LayoutSolver$Dictionary" "levels" "[I", Cond.fieldLink RX3 37 "LayoutSolver$Dictionary" "sides" "[I", Cond.fieldLink RX3 31 "LayoutSolver$Dictionary" "costAbove" "[I", Cond.fieldLink RX3 34 "LayoutSolver$Dictionary" "costBelow" "[I", Cond.methodLink RX3 127 yX3_addSlopes]
def wsX8_isAmbiguous_r2 : List Cond := [Cond.instanceMethod yX3_addSlopes, Cond.selects RX3 yX3_addSlopes yX3_addSlopes, Cond.code yX3_addSlopes cX3_addSlopes 5 none, Cond.fieldLink RX3 13 "LayoutSolver$Dictionary" "rows" "[[J", Cond.methodLink RX3 114 yX3_enteringColumn, Cond.instanceMethod yX3_enteringColumn, Cond.selects RX3 yX3_enteringColumn yX3_enteringColumn, Cond.code yX3_enteringColumn cX3_enteringColumn 3 (some .int), Cond.fieldLink RX3 43 "LayoutSolver$Dictionary" "rowOf" "[I", Cond.methodLink RX3 117 yX3_directionOf, Cond.instanceMethod yX3_directionOf, Cond.selects RX3 yX3_directionOf yX3_directionOf, Cond.code yX3_directionOf cX3_directionOf 10 (some .int), Cond.fieldLink RX3 16 "LayoutSolver$Dictionary" "scale" "J", Cond.methodLink RX3 103 yJ13_compare_74951, Cond.static yJ13_compare_74951, Cond.initialized RJ13, Cond.code yJ13_compare_74951 cJ13_compare_74951 4 (some .int), Cond.methodLink RX3 120 yX3_leavingRow, Cond.instanceMethod yX3_leavingRow, Cond.selects RX3 yX3_leavingRow yX3_leavingRow, Cond.code yX3_leavingRow cX3_leavingRow 13 (some .int), Cond.methodLink RX3 130 Lib.MathLoose.abs_long.x, Cond.static Lib.MathLoose.abs_long.x]
def wsX8_isAmbiguous_r3 : List Cond := [Cond.initialized "java/lang/Math", Cond.code Lib.MathLoose.abs_long.x Lib.MathLoose.abs_long.code 2 (some .long), Cond.methodLink RX3 124 yX3_exchange, Cond.instanceMethod yX3_exchange, Cond.selects RX3 yX3_exchange yX3_exchange, Cond.code yX3_exchange cX3_exchange 8 none, Cond.methodLink RX3 136 yX3_substitute, Cond.instanceMethod yX3_substitute, Cond.selects RX3 yX3_substitute yX3_substitute, Cond.code yX3_substitute cX3_substitute 11 none, Cond.methodLink RX8 231 yX3_numerator, Cond.instanceMethod yX3_numerator, Cond.selects RX3 yX3_numerator yX3_numerator, Cond.code yX3_numerator cX3_numerator 2 (some .long), Cond.fieldLink RX3 24 "LayoutSolver$Dictionary" "constants" "[I", Cond.methodLink RX8 235 yX3_denominator, Cond.instanceMethod yX3_denominator, Cond.selects RX3 yX3_denominator yX3_denominator, Cond.code yX3_denominator cX3_denominator 1 (some .long)]
def wsX8_isAmbiguous : List Cond := .code yX8_isAmbiguous cX8_isAmbiguous 7 (some .boolean) :: ((wsX8_isAmbiguous_r1 ++ (wsX8_isAmbiguous_r2 ++ wsX8_isAmbiguous_r3)) ++ wsX80 ++ wsX30)
def wsX8_ambiguous_r1 : List Cond := [Cond.methodLink RX8 222 yX8_isAmbiguous, Cond.instanceMethod yX8_isAmbiguous, Cond.selects RX8 yX8_isAmbiguous yX8_isAmbiguous, Cond.initialized RX8, Cond.code yX8_isAmbiguous cX8_isAmbiguous 7 (some .boolean), Cond.fieldLink RX8 51 "LayoutSolver" "dictionary" "LLayoutSolver$Dictionary;", Cond.methodLink RX8 227 yX3_goTo, Cond.instanceMethod yX3_goTo, Cond.selects RX3 yX3_goTo yX3_goTo, Cond.initialized RX3, Cond.code yX3_goTo cX3_goTo 4 none, Cond.methodLink RX3 86 yX3_descend, Cond.instanceMethod yX3_descend, Cond.selects RX3 yX3_descend yX3_descend, Cond.code yX3_descend cX3_descend 8 none, Cond.fieldLink RX3 49 "LayoutSolver$Dictionary" "countedLevels" "I", Cond.constant RX3 109 (1000000), Cond.methodLink RX3 110 yX3_findSlopes, Cond.instanceMethod yX3_findSlopes, Cond.selects RX3 yX3_findSlopes yX3_findSlopes, Cond.code yX3_findSlopes cX3_findSlopes 5 none, Cond.fieldLink RX3 46 "LayoutSolver$Dictionary" "slopes" "[[J", Cond.fieldLink RX3 20 "LayoutSolver$Dictionary" "placed" "[Z", Cond.fieldLink RX3 40 "LayoutSolver$Dictionary" "columnOf" "[I"]
def wsX8_ambiguous_r2 : List Cond := [Cond.fieldLink RX3 28 "LayoutSolver$Dictionary" "levels" "[I", Cond.fieldLink RX3 37 "LayoutSolver$Dictionary" "sides" "[I", Cond.fieldLink RX3 31 "LayoutSolver$Dictionary" "costAbove" "[I", Cond.fieldLink RX3 34 "LayoutSolver$Dictionary" "costBelow" "[I", Cond.methodLink RX3 127 yX3_addSlopes, Cond.instanceMethod yX3_addSlopes, Cond.selects RX3 yX3_addSlopes yX3_addSlopes, Cond.code yX3_addSlopes cX3_addSlopes 5 none, Cond.fieldLink RX3 13 "LayoutSolver$Dictionary" "rows" "[[J", Cond.methodLink RX3 114 yX3_enteringColumn, Cond.instanceMethod yX3_enteringColumn, Cond.selects RX3 yX3_enteringColumn yX3_enteringColumn, Cond.code yX3_enteringColumn cX3_enteringColumn 3 (some .int), Cond.fieldLink RX3 43 "LayoutSolver$Dictionary" "rowOf" "[I", Cond.methodLink RX3 117 yX3_directionOf, Cond.instanceMethod yX3_directionOf, Cond.selects RX3 yX3_directionOf yX3_directionOf, Cond.code yX3_directionOf cX3_directionOf 10 (some .int), Cond.fieldLink RX3 16 "LayoutSolver$Dictionary" "scale" "J", Cond.methodLink RX3 103 yJ13_compare_74951, Cond.static yJ13_compare_74951, Cond.initialized RJ13, Cond.code yJ13_compare_74951 cJ13_compare_74951 4 (some .int), Cond.methodLink RX3 120 yX3_leavingRow]
def wsX8_ambiguous_r3 : List Cond := [Cond.instanceMethod yX3_leavingRow, Cond.selects RX3 yX3_leavingRow yX3_leavingRow, Cond.code yX3_leavingRow cX3_leavingRow 13 (some .int), Cond.methodLink RX3 130 Lib.MathLoose.abs_long.x, Cond.static Lib.MathLoose.abs_long.x, Cond.initialized "java/lang/Math", Cond.code Lib.MathLoose.abs_long.x Lib.MathLoose.abs_long.code 2 (some .long), Cond.methodLink RX3 124 yX3_exchange, Cond.instanceMethod yX3_exchange, Cond.selects RX3 yX3_exchange yX3_exchange, Cond.code yX3_exchange cX3_exchange 8 none, Cond.methodLink RX3 136 yX3_substitute, Cond.instanceMethod yX3_substitute, Cond.selects RX3 yX3_substitute yX3_substitute, Cond.code yX3_substitute cX3_substitute 11 none, Cond.methodLink RX8 231 yX3_numerator, Cond.instanceMethod yX3_numerator, Cond.selects RX3 yX3_numerator yX3_numerator, Cond.code yX3_numerator cX3_numerator 2 (some .long), Cond.fieldLink RX3 24 "LayoutSolver$Dictionary" "constants" "[I", Cond.methodLink RX8 235 yX3_denominator, Cond.instanceMethod yX3_denominator, Cond.selects RX3 yX3_denominator yX3_denominator, Cond.code yX3_denominator cX3_denominator 1 (some .long)]
def wsX8_ambiguous : List Cond := .code yX8_ambiguous cX8_ambiguous 3 (some .int) :: ((wsX8_ambiguous_r1 ++ (wsX8_ambiguous_r2 ++ wsX8_ambiguous_r3)) ++ wsX80 ++ wsX30)
def wsX8_value_r1 : List Cond := [Cond.fieldLink RX8 33 "LayoutSolver" "layout" "LLayoutSolver$Layout;", Cond.constantLong RX8 225 (-1000000000000000001), Cond.constantLong RX8 208 (-1000000000000000002), Cond.fieldLink RX8 51 "LayoutSolver" "dictionary" "LLayoutSolver$Dictionary;", Cond.methodLink RX8 107 yX5_at, Cond.instanceMethod yX5_at, Cond.selects RX5 yX5_at yX5_at, Cond.initialized RX5, Cond.code yX5_at cX5_at 2 (some (.object "LayoutSolver$Constraint")), Cond.fieldLink RX5 11 "LayoutSolver$Layout" "places" "[LLayoutSolver$Constraint;", Cond.methodLink RX8 205 yX8_isPart, Cond.static yX8_isPart, Cond.initialized RX8, Cond.code yX8_isPart cX8_isPart 1 (some .boolean), Cond.methodLink RX8 227 yX3_goTo, Cond.instanceMethod yX3_goTo, Cond.selects RX3 yX3_goTo yX3_goTo, Cond.initialized RX3, Cond.code yX3_goTo cX3_goTo 4 none, Cond.methodLink RX3 86 yX3_descend, Cond.instanceMethod yX3_descend, Cond.selects RX3 yX3_descend yX3_descend, Cond.code yX3_descend cX3_descend 8 none, Cond.fieldLink RX3 49 "LayoutSolver$Dictionary" "countedLevels" "I"]
def wsX8_value_r2 : List Cond := [Cond.constant RX3 109 (1000000), Cond.methodLink RX3 110 yX3_findSlopes, Cond.instanceMethod yX3_findSlopes, Cond.selects RX3 yX3_findSlopes yX3_findSlopes, Cond.code yX3_findSlopes cX3_findSlopes 5 none, Cond.fieldLink RX3 46 "LayoutSolver$Dictionary" "slopes" "[[J", Cond.fieldLink RX3 20 "LayoutSolver$Dictionary" "placed" "[Z", Cond.fieldLink RX3 40 "LayoutSolver$Dictionary" "columnOf" "[I", Cond.fieldLink RX3 28 "LayoutSolver$Dictionary" "levels" "[I", Cond.fieldLink RX3 37 "LayoutSolver$Dictionary" "sides" "[I", Cond.fieldLink RX3 31 "LayoutSolver$Dictionary" "costAbove" "[I", Cond.fieldLink RX3 34 "LayoutSolver$Dictionary" "costBelow" "[I", Cond.methodLink RX3 127 yX3_addSlopes, Cond.instanceMethod yX3_addSlopes, Cond.selects RX3 yX3_addSlopes yX3_addSlopes, Cond.code yX3_addSlopes cX3_addSlopes 5 none, Cond.fieldLink RX3 13 "LayoutSolver$Dictionary" "rows" "[[J", Cond.methodLink RX3 114 yX3_enteringColumn, Cond.instanceMethod yX3_enteringColumn, Cond.selects RX3 yX3_enteringColumn yX3_enteringColumn, Cond.code yX3_enteringColumn cX3_enteringColumn 3 (some .int), Cond.fieldLink RX3 43 "LayoutSolver$Dictionary" "rowOf" "[I", Cond.methodLink RX3 117 yX3_directionOf, Cond.instanceMethod yX3_directionOf]
def wsX8_value_r3 : List Cond := [Cond.selects RX3 yX3_directionOf yX3_directionOf, Cond.code yX3_directionOf cX3_directionOf 10 (some .int), Cond.fieldLink RX3 16 "LayoutSolver$Dictionary" "scale" "J", Cond.methodLink RX3 103 yJ13_compare_74951, Cond.static yJ13_compare_74951, Cond.initialized RJ13, Cond.code yJ13_compare_74951 cJ13_compare_74951 4 (some .int), Cond.methodLink RX3 120 yX3_leavingRow, Cond.instanceMethod yX3_leavingRow, Cond.selects RX3 yX3_leavingRow yX3_leavingRow, Cond.code yX3_leavingRow cX3_leavingRow 13 (some .int), Cond.methodLink RX3 130 Lib.MathLoose.abs_long.x, Cond.static Lib.MathLoose.abs_long.x, Cond.initialized "java/lang/Math", Cond.code Lib.MathLoose.abs_long.x Lib.MathLoose.abs_long.code 2 (some .long), Cond.methodLink RX3 124 yX3_exchange, Cond.instanceMethod yX3_exchange, Cond.selects RX3 yX3_exchange yX3_exchange, Cond.code yX3_exchange cX3_exchange 8 none, Cond.methodLink RX3 136 yX3_substitute, Cond.instanceMethod yX3_substitute, Cond.selects RX3 yX3_substitute yX3_substitute, Cond.code yX3_substitute cX3_substitute 11 none, Cond.methodLink RX8 231 yX3_numerator]
def wsX8_value_r4 : List Cond := [Cond.instanceMethod yX3_numerator, Cond.selects RX3 yX3_numerator yX3_numerator, Cond.code yX3_numerator cX3_numerator 2 (some .long), Cond.fieldLink RX3 24 "LayoutSolver$Dictionary" "constants" "[I", Cond.methodLink RX8 235 yX3_denominator, Cond.instanceMethod yX3_denominator, Cond.selects RX3 yX3_denominator yX3_denominator, Cond.code yX3_denominator cX3_denominator 1 (some .long), Cond.methodLink RX8 239 yX8_partOf, Cond.static yX8_partOf, Cond.code yX8_partOf cX8_partOf 12 (some .long), Cond.methodLink RX8 310 Lib.MathLoose.abs_long.x]
def wsX8_value : List Cond := .code yX8_value cX8_value 4 (some .long) :: ((wsX8_value_r1 ++ (wsX8_value_r2 ++ (wsX8_value_r3 ++ wsX8_value_r4))) ++ wsX80 ++ wsX50 ++ wsX30)
def wsX8_status_r1 : List Cond := [Cond.fieldLink RX8 33 "LayoutSolver" "layout" "LLayoutSolver$Layout;", Cond.fieldLink RX8 51 "LayoutSolver" "dictionary" "LLayoutSolver$Dictionary;", Cond.fieldLink RX8 137 "LayoutSolver$Constraint" "relation" "I", Cond.methodLink RX8 107 yX5_at, Cond.instanceMethod yX5_at, Cond.selects RX5 yX5_at yX5_at, Cond.initialized RX5, Cond.code yX5_at cX5_at 2 (some (.object "LayoutSolver$Constraint")), Cond.fieldLink RX5 11 "LayoutSolver$Layout" "places" "[LLayoutSolver$Constraint;", Cond.methodLink RX8 227 yX3_goTo, Cond.instanceMethod yX3_goTo, Cond.selects RX3 yX3_goTo yX3_goTo, Cond.initialized RX3, Cond.code yX3_goTo cX3_goTo 4 none, Cond.methodLink RX3 86 yX3_descend, Cond.instanceMethod yX3_descend, Cond.selects RX3 yX3_descend yX3_descend, Cond.code yX3_descend cX3_descend 8 none, Cond.fieldLink RX3 49 "LayoutSolver$Dictionary" "countedLevels" "I", Cond.constant RX3 109 (1000000), Cond.methodLink RX3 110 yX3_findSlopes, Cond.instanceMethod yX3_findSlopes, Cond.selects RX3 yX3_findSlopes yX3_findSlopes, Cond.code yX3_findSlopes cX3_findSlopes 5 none]
def wsX8_status_r2 : List Cond := [Cond.fieldLink RX3 46 "LayoutSolver$Dictionary" "slopes" "[[J", Cond.fieldLink RX3 20 "LayoutSolver$Dictionary" "placed" "[Z", Cond.fieldLink RX3 40 "LayoutSolver$Dictionary" "columnOf" "[I", Cond.fieldLink RX3 28 "LayoutSolver$Dictionary" "levels" "[I", Cond.fieldLink RX3 37 "LayoutSolver$Dictionary" "sides" "[I", Cond.fieldLink RX3 31 "LayoutSolver$Dictionary" "costAbove" "[I", Cond.fieldLink RX3 34 "LayoutSolver$Dictionary" "costBelow" "[I", Cond.methodLink RX3 127 yX3_addSlopes, Cond.instanceMethod yX3_addSlopes, Cond.selects RX3 yX3_addSlopes yX3_addSlopes, Cond.code yX3_addSlopes cX3_addSlopes 5 none, Cond.fieldLink RX3 13 "LayoutSolver$Dictionary" "rows" "[[J", Cond.methodLink RX3 114 yX3_enteringColumn, Cond.instanceMethod yX3_enteringColumn, Cond.selects RX3 yX3_enteringColumn yX3_enteringColumn, Cond.code yX3_enteringColumn cX3_enteringColumn 3 (some .int), Cond.fieldLink RX3 43 "LayoutSolver$Dictionary" "rowOf" "[I", Cond.methodLink RX3 117 yX3_directionOf, Cond.instanceMethod yX3_directionOf, Cond.selects RX3 yX3_directionOf yX3_directionOf, Cond.code yX3_directionOf cX3_directionOf 10 (some .int), Cond.fieldLink RX3 16 "LayoutSolver$Dictionary" "scale" "J", Cond.methodLink RX3 103 yJ13_compare_74951, Cond.static yJ13_compare_74951]
def wsX8_status_r3 : List Cond := [Cond.initialized RJ13, Cond.code yJ13_compare_74951 cJ13_compare_74951 4 (some .int), Cond.methodLink RX3 120 yX3_leavingRow, Cond.instanceMethod yX3_leavingRow, Cond.selects RX3 yX3_leavingRow yX3_leavingRow, Cond.code yX3_leavingRow cX3_leavingRow 13 (some .int), Cond.methodLink RX3 130 Lib.MathLoose.abs_long.x, Cond.static Lib.MathLoose.abs_long.x, Cond.initialized "java/lang/Math", Cond.code Lib.MathLoose.abs_long.x Lib.MathLoose.abs_long.code 2 (some .long), Cond.methodLink RX3 124 yX3_exchange, Cond.instanceMethod yX3_exchange, Cond.selects RX3 yX3_exchange yX3_exchange, Cond.code yX3_exchange cX3_exchange 8 none, Cond.methodLink RX3 136 yX3_substitute, Cond.instanceMethod yX3_substitute, Cond.selects RX3 yX3_substitute yX3_substitute, Cond.code yX3_substitute cX3_substitute 11 none, Cond.methodLink RX8 243 yX3_signOf, Cond.instanceMethod yX3_signOf, Cond.selects RX3 yX3_signOf yX3_signOf, Cond.code yX3_signOf cX3_signOf 2 (some .int)]
def wsX8_status : List Cond := .code yX8_status cX8_status 9 (some .int) :: ((wsX8_status_r1 ++ (wsX8_status_r2 ++ wsX8_status_r3)) ++ wsX80 ++ wsX10 ++ wsX50 ++ wsX30)
def wsX8_reach_r1 : List Cond := [Cond.methodLink RX8 218 yX8_variableAt, Cond.instanceMethod yX8_variableAt, Cond.selects RX8 yX8_variableAt yX8_variableAt, Cond.initialized RX8, Cond.code yX8_variableAt cX8_variableAt 6 (some .long), Cond.constantLong RX8 225 (-1000000000000000001), Cond.constantLong RX8 208 (-1000000000000000002), Cond.fieldLink RX8 51 "LayoutSolver" "dictionary" "LLayoutSolver$Dictionary;", Cond.methodLink RX8 74 yX8_isVariable, Cond.static yX8_isVariable, Cond.code yX8_isVariable cX8_isVariable 1 (some .boolean), Cond.methodLink RX8 205 yX8_isPart, Cond.static yX8_isPart, Cond.code yX8_isPart cX8_isPart 1 (some .boolean), Cond.methodLink RX8 227 yX3_goTo, Cond.instanceMethod yX3_goTo, Cond.selects RX3 yX3_goTo yX3_goTo, Cond.initialized RX3, Cond.code yX3_goTo cX3_goTo 4 none, Cond.methodLink RX3 86 yX3_descend, Cond.instanceMethod yX3_descend, Cond.selects RX3 yX3_descend yX3_descend, Cond.code yX3_descend cX3_descend 8 none, Cond.fieldLink RX3 49 "LayoutSolver$Dictionary" "countedLevels" "I"]
def wsX8_reach_r2 : List Cond := [Cond.constant RX3 109 (1000000), Cond.methodLink RX3 110 yX3_findSlopes, Cond.instanceMethod yX3_findSlopes, Cond.selects RX3 yX3_findSlopes yX3_findSlopes, Cond.code yX3_findSlopes cX3_findSlopes 5 none, Cond.fieldLink RX3 46 "LayoutSolver$Dictionary" "slopes" "[[J", Cond.fieldLink RX3 20 "LayoutSolver$Dictionary" "placed" "[Z", Cond.fieldLink RX3 40 "LayoutSolver$Dictionary" "columnOf" "[I", Cond.fieldLink RX3 28 "LayoutSolver$Dictionary" "levels" "[I", Cond.fieldLink RX3 37 "LayoutSolver$Dictionary" "sides" "[I", Cond.fieldLink RX3 31 "LayoutSolver$Dictionary" "costAbove" "[I", Cond.fieldLink RX3 34 "LayoutSolver$Dictionary" "costBelow" "[I", Cond.methodLink RX3 127 yX3_addSlopes, Cond.instanceMethod yX3_addSlopes, Cond.selects RX3 yX3_addSlopes yX3_addSlopes, Cond.code yX3_addSlopes cX3_addSlopes 5 none, Cond.fieldLink RX3 13 "LayoutSolver$Dictionary" "rows" "[[J", Cond.methodLink RX3 114 yX3_enteringColumn, Cond.instanceMethod yX3_enteringColumn, Cond.selects RX3 yX3_enteringColumn yX3_enteringColumn, Cond.code yX3_enteringColumn cX3_enteringColumn 3 (some .int), Cond.fieldLink RX3 43 "LayoutSolver$Dictionary" "rowOf" "[I", Cond.methodLink RX3 117 yX3_directionOf, Cond.instanceMethod yX3_directionOf]
def wsX8_reach_r3 : List Cond := [Cond.selects RX3 yX3_directionOf yX3_directionOf, Cond.code yX3_directionOf cX3_directionOf 10 (some .int), Cond.fieldLink RX3 16 "LayoutSolver$Dictionary" "scale" "J", Cond.methodLink RX3 103 yJ13_compare_74951, Cond.static yJ13_compare_74951, Cond.initialized RJ13, Cond.code yJ13_compare_74951 cJ13_compare_74951 4 (some .int), Cond.methodLink RX3 120 yX3_leavingRow, Cond.instanceMethod yX3_leavingRow, Cond.selects RX3 yX3_leavingRow yX3_leavingRow, Cond.code yX3_leavingRow cX3_leavingRow 13 (some .int), Cond.methodLink RX3 130 Lib.MathLoose.abs_long.x, Cond.static Lib.MathLoose.abs_long.x, Cond.initialized "java/lang/Math", Cond.code Lib.MathLoose.abs_long.x Lib.MathLoose.abs_long.code 2 (some .long), Cond.methodLink RX3 124 yX3_exchange, Cond.instanceMethod yX3_exchange, Cond.selects RX3 yX3_exchange yX3_exchange, Cond.code yX3_exchange cX3_exchange 8 none, Cond.methodLink RX3 136 yX3_substitute, Cond.instanceMethod yX3_substitute, Cond.selects RX3 yX3_substitute yX3_substitute, Cond.code yX3_substitute cX3_substitute 11 none, Cond.methodLink RX8 231 yX3_numerator]
def wsX8_reach_r4 : List Cond := [Cond.instanceMethod yX3_numerator, Cond.selects RX3 yX3_numerator yX3_numerator, Cond.code yX3_numerator cX3_numerator 2 (some .long), Cond.fieldLink RX3 24 "LayoutSolver$Dictionary" "constants" "[I", Cond.methodLink RX8 235 yX3_denominator, Cond.instanceMethod yX3_denominator, Cond.selects RX3 yX3_denominator yX3_denominator, Cond.code yX3_denominator cX3_denominator 1 (some .long), Cond.methodLink RX8 239 yX8_partOf, Cond.static yX8_partOf, Cond.code yX8_partOf cX8_partOf 12 (some .long), Cond.methodLink RX8 310 Lib.MathLoose.abs_long.x]
def wsX8_reach : List Cond := .code yX8_reach cX8_reach 4 (some .long) :: ((wsX8_reach_r1 ++ (wsX8_reach_r2 ++ (wsX8_reach_r3 ++ wsX8_reach_r4))) ++ wsX80 ++ wsX30)
def wsX8_connected : List Cond := .code yX8_connected cX8_connected 6 (some .int) :: ([.fieldLink RX8 33 "LayoutSolver" "layout" "LLayoutSolver$Layout;", .methodLink RX8 74 yX8_isVariable, .static yX8_isVariable, .initialized RX8, .code yX8_isVariable cX8_isVariable 1 (some .boolean), .methodLink RX8 107 yX5_at, .instanceMethod yX5_at, .selects RX5 yX5_at yX5_at, .initialized RX5, .code yX5_at cX5_at 2 (some (.object "LayoutSolver$Constraint")), .fieldLink RX5 11 "LayoutSolver$Layout" "places" "[LLayoutSolver$Constraint;", .methodLink RX8 246 yX1_variables, .instanceMethod yX1_variables, .selects RX1 yX1_variables yX1_variables, .initialized RX1, .code yX1_variables cX1_variables 3 (some .int), .fieldLink RX1 9 "LayoutSolver$Constraint" "coefficients" "[I"] ++ wsX80 ++ wsX50 ++ wsX10)
def wsX8_remainingBlockers_r1 : List Cond := [Cond.fieldLink RX8 33 "LayoutSolver" "layout" "LLayoutSolver$Layout;", Cond.fieldLink RX8 130 "LayoutSolver$Constraint" "strength" "I", Cond.fieldLink RX8 51 "LayoutSolver" "dictionary" "LLayoutSolver$Dictionary;", Cond.methodLink RX8 107 yX5_at, Cond.instanceMethod yX5_at, Cond.selects RX5 yX5_at yX5_at, Cond.initialized RX5, Cond.code yX5_at cX5_at 2 (some (.object "LayoutSolver$Constraint")), Cond.fieldLink RX5 11 "LayoutSolver$Layout" "places" "[LLayoutSolver$Constraint;", Cond.methodLink RX8 258 yX3_lift, Cond.instanceMethod yX3_lift, Cond.selects RX3 yX3_lift yX3_lift, Cond.initialized RX3, Cond.code yX3_lift cX3_lift 3 none, Cond.fieldLink RX3 40 "LayoutSolver$Dictionary" "columnOf" "[I", Cond.fieldLink RX3 43 "LayoutSolver$Dictionary" "rowOf" "[I", Cond.fieldLink RX3 20 "LayoutSolver$Dictionary" "placed" "[Z", Cond.methodLink RX8 252 yX3_isFeasible, Cond.instanceMethod yX3_isFeasible, Cond.selects RX3 yX3_isFeasible yX3_isFeasible, Cond.code yX3_isFeasible cX3_isFeasible 4 (some .boolean), Cond.fieldLink RX3 28 "LayoutSolver$Dictionary" "levels" "[I", Cond.methodLink RX3 86 yX3_descend, Cond.instanceMethod yX3_descend]
def wsX8_remainingBlockers_r2 : List Cond := [Cond.selects RX3 yX3_descend yX3_descend, Cond.code yX3_descend cX3_descend 8 none, Cond.fieldLink RX3 49 "LayoutSolver$Dictionary" "countedLevels" "I", Cond.constant RX3 109 (1000000), Cond.methodLink RX3 110 yX3_findSlopes, Cond.instanceMethod yX3_findSlopes, Cond.selects RX3 yX3_findSlopes yX3_findSlopes, Cond.code yX3_findSlopes cX3_findSlopes 5 none, Cond.fieldLink RX3 46 "LayoutSolver$Dictionary" "slopes" "[[J", Cond.fieldLink RX3 37 "LayoutSolver$Dictionary" "sides" "[I", Cond.fieldLink RX3 31 "LayoutSolver$Dictionary" "costAbove" "[I", Cond.fieldLink RX3 34 "LayoutSolver$Dictionary" "costBelow" "[I", Cond.methodLink RX3 127 yX3_addSlopes, Cond.instanceMethod yX3_addSlopes, Cond.selects RX3 yX3_addSlopes yX3_addSlopes, Cond.code yX3_addSlopes cX3_addSlopes 5 none, Cond.fieldLink RX3 13 "LayoutSolver$Dictionary" "rows" "[[J", Cond.methodLink RX3 114 yX3_enteringColumn, Cond.instanceMethod yX3_enteringColumn, Cond.selects RX3 yX3_enteringColumn yX3_enteringColumn, Cond.code yX3_enteringColumn cX3_enteringColumn 3 (some .int), Cond.methodLink RX3 117 yX3_directionOf, Cond.instanceMethod yX3_directionOf, Cond.selects RX3 yX3_directionOf yX3_directionOf]
def wsX8_remainingBlockers_r3 : List Cond := [Cond.code yX3_directionOf cX3_directionOf 10 (some .int), Cond.fieldLink RX3 16 "LayoutSolver$Dictionary" "scale" "J", Cond.methodLink RX3 103 yJ13_compare_74951, Cond.static yJ13_compare_74951, Cond.initialized RJ13, Cond.code yJ13_compare_74951 cJ13_compare_74951 4 (some .int), Cond.methodLink RX3 120 yX3_leavingRow, Cond.instanceMethod yX3_leavingRow, Cond.selects RX3 yX3_leavingRow yX3_leavingRow, Cond.code yX3_leavingRow cX3_leavingRow 13 (some .int), Cond.methodLink RX3 130 Lib.MathLoose.abs_long.x, Cond.static Lib.MathLoose.abs_long.x, Cond.initialized "java/lang/Math", Cond.code Lib.MathLoose.abs_long.x Lib.MathLoose.abs_long.code 2 (some .long), Cond.methodLink RX3 124 yX3_exchange, Cond.instanceMethod yX3_exchange, Cond.selects RX3 yX3_exchange yX3_exchange, Cond.code yX3_exchange cX3_exchange 8 none, Cond.methodLink RX3 136 yX3_substitute, Cond.instanceMethod yX3_substitute, Cond.selects RX3 yX3_substitute yX3_substitute, Cond.code yX3_substitute cX3_substitute 11 none, Cond.methodLink RX3 89 yX3_costOf, Cond.instanceMethod yX3_costOf]
def wsX8_remainingBlockers_r4 : List Cond := [Cond.selects RX3 yX3_costOf yX3_costOf, Cond.code yX3_costOf cX3_costOf 4 (some .long), Cond.methodLink RX8 249 yX3_place, Cond.instanceMethod yX3_place, Cond.selects RX3 yX3_place yX3_place, Cond.code yX3_place cX3_place 3 none, Cond.fieldLink RX3 61 "LayoutSolver$Constraint" "constant" "I", Cond.methodLink RX3 57 yX3_lift, Cond.methodLink RX3 66 yX3_placeWith, Cond.instanceMethod yX3_placeWith, Cond.selects RX3 yX3_placeWith yX3_placeWith, Cond.code yX3_placeWith cX3_placeWith 6 none, Cond.fieldLink RX3 24 "LayoutSolver$Dictionary" "constants" "[I", Cond.fieldLink RX3 78 "LayoutSolver$Constraint" "strength" "I", Cond.methodLink RX3 70 yX1_coefficient, Cond.instanceMethod yX1_coefficient, Cond.selects RX1 yX1_coefficient yX1_coefficient, Cond.initialized RX1, Cond.code yX1_coefficient cX1_coefficient 2 (some .int), Cond.fieldLink RX1 9 "LayoutSolver$Constraint" "coefficients" "[I", Cond.methodLink RX3 74 yX3_addVariable, Cond.instanceMethod yX3_addVariable, Cond.selects RX3 yX3_addVariable yX3_addVariable, Cond.code yX3_addVariable cX3_addVariable 6 none]
def wsX8_remainingBlockers_r5 : List Cond := [Cond.methodLink RX3 81 yX1_costAbove, Cond.instanceMethod yX1_costAbove, Cond.selects RX1 yX1_costAbove yX1_costAbove, Cond.code yX1_costAbove cX1_costAbove 1 (some .int), Cond.fieldLink RX1 15 "LayoutSolver$Constraint" "relation" "I", Cond.fieldLink RX1 25 "LayoutSolver$Constraint" "weight" "I", Cond.methodLink RX3 84 yX1_costBelow, Cond.instanceMethod yX1_costBelow, Cond.selects RX1 yX1_costBelow yX1_costBelow, Cond.code yX1_costBelow cX1_costBelow 1 (some .int)]
def wsX8_remainingBlockers : List Cond := .code yX8_remainingBlockers cX8_remainingBlockers 4 (some .int) :: ((wsX8_remainingBlockers_r1 ++ (wsX8_remainingBlockers_r2 ++ (wsX8_remainingBlockers_r3 ++ (wsX8_remainingBlockers_r4 ++ wsX8_remainingBlockers_r5)))) ++ wsX80 ++ wsX10 ++ wsX50 ++ wsX30)
def wsX8_blockers_r1 : List Cond := [Cond.fieldLink RX8 9 "LayoutSolver" "draft" "[I", Cond.fieldLink RX8 51 "LayoutSolver" "dictionary" "LLayoutSolver$Dictionary;", Cond.classLink RX8 65 RX1, Cond.instantiable RX1 5, Cond.initialized RX1, Cond.methodLink RX8 82 yX8_isRelation, Cond.static yX8_isRelation, Cond.initialized RX8, Cond.code yX8_isRelation cX8_isRelation 1 (some .boolean), Cond.methodLink RX8 78 yX8_isWithin, Cond.static yX8_isWithin, Cond.code yX8_isWithin cX8_isWithin 2 (some .boolean), Cond.methodLink RX8 91 yX8_isAllZero, Cond.static yX8_isAllZero, Cond.code yX8_isAllZero cX8_isAllZero 2 (some .boolean), Cond.methodLink RX8 71 yX1_init, Cond.instanceMethod yX1_init, Cond.code yX1_init cX1_init 6 none, Cond.methodLink RX1 3 objectInit, Cond.instanceMethod objectInit, Cond.code objectInit ⟨#[0xb1]⟩ 1 none, Cond.fieldLink RX1 9 "LayoutSolver$Constraint" "coefficients" "[I", Cond.fieldLink RX1 15 "LayoutSolver$Constraint" "relation" "I", Cond.fieldLink RX1 19 "LayoutSolver$Constraint" "constant" "I"]
def wsX8_blockers_r2 : List Cond := [Cond.fieldLink RX1 22 "LayoutSolver$Constraint" "strength" "I", Cond.fieldLink RX1 25 "LayoutSolver$Constraint" "weight" "I", Cond.methodLink RX8 249 yX3_place, Cond.instanceMethod yX3_place, Cond.selects RX3 yX3_place yX3_place, Cond.initialized RX3, Cond.code yX3_place cX3_place 3 none, Cond.fieldLink RX3 61 "LayoutSolver$Constraint" "constant" "I", Cond.methodLink RX3 57 yX3_lift, Cond.instanceMethod yX3_lift, Cond.selects RX3 yX3_lift yX3_lift, Cond.code yX3_lift cX3_lift 3 none, Cond.fieldLink RX3 40 "LayoutSolver$Dictionary" "columnOf" "[I", Cond.fieldLink RX3 43 "LayoutSolver$Dictionary" "rowOf" "[I", Cond.fieldLink RX3 20 "LayoutSolver$Dictionary" "placed" "[Z", Cond.methodLink RX3 66 yX3_placeWith, Cond.instanceMethod yX3_placeWith, Cond.selects RX3 yX3_placeWith yX3_placeWith, Cond.code yX3_placeWith cX3_placeWith 6 none, Cond.fieldLink RX3 13 "LayoutSolver$Dictionary" "rows" "[[J", Cond.fieldLink RX3 16 "LayoutSolver$Dictionary" "scale" "J", Cond.fieldLink RX3 24 "LayoutSolver$Dictionary" "constants" "[I", Cond.fieldLink RX3 28 "LayoutSolver$Dictionary" "levels" "[I", Cond.fieldLink RX3 78 "LayoutSolver$Constraint" "strength" "I"]
def wsX8_blockers_r3 : List Cond := [Cond.fieldLink RX3 31 "LayoutSolver$Dictionary" "costAbove" "[I", Cond.fieldLink RX3 34 "LayoutSolver$Dictionary" "costBelow" "[I", Cond.fieldLink RX3 37 "LayoutSolver$Dictionary" "sides" "[I", Cond.methodLink RX3 70 yX1_coefficient, Cond.instanceMethod yX1_coefficient, Cond.selects RX1 yX1_coefficient yX1_coefficient, Cond.code yX1_coefficient cX1_coefficient 2 (some .int), Cond.methodLink RX3 74 yX3_addVariable, Cond.instanceMethod yX3_addVariable, Cond.selects RX3 yX3_addVariable yX3_addVariable, Cond.code yX3_addVariable cX3_addVariable 6 none, Cond.methodLink RX3 81 yX1_costAbove, Cond.instanceMethod yX1_costAbove, Cond.selects RX1 yX1_costAbove yX1_costAbove, Cond.code yX1_costAbove cX1_costAbove 1 (some .int), Cond.methodLink RX3 84 yX1_costBelow, Cond.instanceMethod yX1_costBelow, Cond.selects RX1 yX1_costBelow yX1_costBelow, Cond.code yX1_costBelow cX1_costBelow 1 (some .int), Cond.methodLink RX8 252 yX3_isFeasible, Cond.instanceMethod yX3_isFeasible, Cond.selects RX3 yX3_isFeasible yX3_isFeasible, Cond.code yX3_isFeasible cX3_isFeasible 4 (some .boolean), Cond.methodLink RX3 86 yX3_descend]
def wsX8_blockers_r4 : List Cond := [Cond.instanceMethod yX3_descend, Cond.selects RX3 yX3_descend yX3_descend, Cond.code yX3_descend cX3_descend 8 none, Cond.fieldLink RX3 49 "LayoutSolver$Dictionary" "countedLevels" "I", Cond.constant RX3 109 (1000000), Cond.methodLink RX3 110 yX3_findSlopes, Cond.instanceMethod yX3_findSlopes, Cond.selects RX3 yX3_findSlopes yX3_findSlopes, Cond.code yX3_findSlopes cX3_findSlopes 5 none, Cond.fieldLink RX3 46 "LayoutSolver$Dictionary" "slopes" "[[J", Cond.methodLink RX3 127 yX3_addSlopes, Cond.instanceMethod yX3_addSlopes, Cond.selects RX3 yX3_addSlopes yX3_addSlopes, Cond.code yX3_addSlopes cX3_addSlopes 5 none, Cond.methodLink RX3 114 yX3_enteringColumn, Cond.instanceMethod yX3_enteringColumn, Cond.selects RX3 yX3_enteringColumn yX3_enteringColumn, Cond.code yX3_enteringColumn cX3_enteringColumn 3 (some .int), Cond.methodLink RX3 117 yX3_directionOf, Cond.instanceMethod yX3_directionOf, Cond.selects RX3 yX3_directionOf yX3_directionOf, Cond.code yX3_directionOf cX3_directionOf 10 (some .int), Cond.methodLink RX3 103 yJ13_compare_74951, Cond.static yJ13_compare_74951]
def wsX8_blockers_r5 : List Cond := [Cond.initialized RJ13, Cond.code yJ13_compare_74951 cJ13_compare_74951 4 (some .int), Cond.methodLink RX3 120 yX3_leavingRow, Cond.instanceMethod yX3_leavingRow, Cond.selects RX3 yX3_leavingRow yX3_leavingRow, Cond.code yX3_leavingRow cX3_leavingRow 13 (some .int), Cond.methodLink RX3 130 Lib.MathLoose.abs_long.x, Cond.static Lib.MathLoose.abs_long.x, Cond.initialized "java/lang/Math", Cond.code Lib.MathLoose.abs_long.x Lib.MathLoose.abs_long.code 2 (some .long), Cond.methodLink RX3 124 yX3_exchange, Cond.instanceMethod yX3_exchange, Cond.selects RX3 yX3_exchange yX3_exchange, Cond.code yX3_exchange cX3_exchange 8 none, Cond.methodLink RX3 136 yX3_substitute, Cond.instanceMethod yX3_substitute, Cond.selects RX3 yX3_substitute yX3_substitute, Cond.code yX3_substitute cX3_substitute 11 none, Cond.methodLink RX3 89 yX3_costOf, Cond.instanceMethod yX3_costOf, Cond.selects RX3 yX3_costOf yX3_costOf, Cond.code yX3_costOf cX3_costOf 4 (some .long), Cond.methodLink RX8 255 yX8_remainingBlockers, Cond.instanceMethod yX8_remainingBlockers]
def wsX8_blockers_r6 : List Cond := [Cond.selects RX8 yX8_remainingBlockers yX8_remainingBlockers, Cond.code yX8_remainingBlockers cX8_remainingBlockers 4 (some .int), Cond.fieldLink RX8 33 "LayoutSolver" "layout" "LLayoutSolver$Layout;", Cond.fieldLink RX8 130 "LayoutSolver$Constraint" "strength" "I", Cond.methodLink RX8 107 yX5_at, Cond.instanceMethod yX5_at, Cond.selects RX5 yX5_at yX5_at, Cond.initialized RX5, Cond.code yX5_at cX5_at 2 (some (.object "LayoutSolver$Constraint")), Cond.fieldLink RX5 11 "LayoutSolver$Layout" "places" "[LLayoutSolver$Constraint;", Cond.methodLink RX8 258 yX3_lift]
def wsX8_blockers : List Cond := .code yX8_blockers cX8_blockers 4 (some .int) :: ((wsX8_blockers_r1 ++ (wsX8_blockers_r2 ++ (wsX8_blockers_r3 ++ (wsX8_blockers_r4 ++ (wsX8_blockers_r5 ++ wsX8_blockers_r6))))) ++ wsX80 ++ wsX10 ++ wsX30 ++ wsX50)
def wsX8_findCostsAt_r1 : List Cond := [Cond.fieldLink RX8 51 "LayoutSolver" "dictionary" "LLayoutSolver$Dictionary;", Cond.fieldLink RX8 67 "LayoutSolver" "pins" "[LLayoutSolver$Constraint;", Cond.methodLink RX8 74 yX8_isVariable, Cond.static yX8_isVariable, Cond.initialized RX8, Cond.code yX8_isVariable cX8_isVariable 1 (some .boolean), Cond.methodLink RX8 306 yX3_placeWith, Cond.instanceMethod yX3_placeWith, Cond.selects RX3 yX3_placeWith yX3_placeWith, Cond.initialized RX3, Cond.code yX3_placeWith cX3_placeWith 6 none, Cond.fieldLink RX3 13 "LayoutSolver$Dictionary" "rows" "[[J", Cond.fieldLink RX3 16 "LayoutSolver$Dictionary" "scale" "J", Cond.fieldLink RX3 20 "LayoutSolver$Dictionary" "placed" "[Z", Cond.fieldLink RX3 24 "LayoutSolver$Dictionary" "constants" "[I", Cond.fieldLink RX3 28 "LayoutSolver$Dictionary" "levels" "[I", Cond.fieldLink RX3 78 "LayoutSolver$Constraint" "strength" "I", Cond.fieldLink RX3 31 "LayoutSolver$Dictionary" "costAbove" "[I", Cond.fieldLink RX3 34 "LayoutSolver$Dictionary" "costBelow" "[I", Cond.fieldLink RX3 37 "LayoutSolver$Dictionary" "sides" "[I", Cond.methodLink RX3 57 yX3_lift, Cond.instanceMethod yX3_lift, Cond.selects RX3 yX3_lift yX3_lift, Cond.code yX3_lift cX3_lift 3 none]
def wsX8_findCostsAt_r2 : List Cond := [Cond.fieldLink RX3 40 "LayoutSolver$Dictionary" "columnOf" "[I", Cond.fieldLink RX3 43 "LayoutSolver$Dictionary" "rowOf" "[I", Cond.methodLink RX3 70 yX1_coefficient, Cond.instanceMethod yX1_coefficient, Cond.selects RX1 yX1_coefficient yX1_coefficient, Cond.initialized RX1, Cond.code yX1_coefficient cX1_coefficient 2 (some .int), Cond.fieldLink RX1 9 "LayoutSolver$Constraint" "coefficients" "[I", Cond.methodLink RX3 74 yX3_addVariable, Cond.instanceMethod yX3_addVariable, Cond.selects RX3 yX3_addVariable yX3_addVariable, Cond.code yX3_addVariable cX3_addVariable 6 none, Cond.methodLink RX3 81 yX1_costAbove, Cond.instanceMethod yX1_costAbove, Cond.selects RX1 yX1_costAbove yX1_costAbove, Cond.code yX1_costAbove cX1_costAbove 1 (some .int), Cond.fieldLink RX1 15 "LayoutSolver$Constraint" "relation" "I", Cond.fieldLink RX1 25 "LayoutSolver$Constraint" "weight" "I", Cond.methodLink RX3 84 yX1_costBelow, Cond.instanceMethod yX1_costBelow, Cond.selects RX1 yX1_costBelow yX1_costBelow, Cond.code yX1_costBelow cX1_costBelow 1 (some .int), Cond.methodLink RX8 210 yX8_findCosts, Cond.instanceMethod yX8_findCosts]
def wsX8_findCostsAt_r3 : List Cond := [Cond.selects RX8 yX8_findCosts yX8_findCosts, Cond.code yX8_findCosts cX8_findCosts 2 none, Cond.methodLink RX8 300 yX3_settle, Cond.instanceMethod yX3_settle, Cond.selects RX3 yX3_settle yX3_settle, Cond.code yX3_settle cX3_settle 1 none, Cond.methodLink RX3 86 yX3_descend, Cond.instanceMethod yX3_descend, Cond.selects RX3 yX3_descend yX3_descend, Cond.code yX3_descend cX3_descend 8 none, Cond.fieldLink RX3 49 "LayoutSolver$Dictionary" "countedLevels" "I", Cond.constant RX3 109 (1000000), Cond.methodLink RX3 110 yX3_findSlopes, Cond.instanceMethod yX3_findSlopes, Cond.selects RX3 yX3_findSlopes yX3_findSlopes, Cond.code yX3_findSlopes cX3_findSlopes 5 none, Cond.fieldLink RX3 46 "LayoutSolver$Dictionary" "slopes" "[[J", Cond.methodLink RX3 127 yX3_addSlopes, Cond.instanceMethod yX3_addSlopes, Cond.selects RX3 yX3_addSlopes yX3_addSlopes, Cond.code yX3_addSlopes cX3_addSlopes 5 none, Cond.methodLink RX3 114 yX3_enteringColumn, Cond.instanceMethod yX3_enteringColumn, Cond.selects RX3 yX3_enteringColumn yX3_enteringColumn]
def wsX8_findCostsAt_r4 : List Cond := [Cond.code yX3_enteringColumn cX3_enteringColumn 3 (some .int), Cond.methodLink RX3 117 yX3_directionOf, Cond.instanceMethod yX3_directionOf, Cond.selects RX3 yX3_directionOf yX3_directionOf, Cond.code yX3_directionOf cX3_directionOf 10 (some .int), Cond.methodLink RX3 103 yJ13_compare_74951, Cond.static yJ13_compare_74951, Cond.initialized RJ13, Cond.code yJ13_compare_74951 cJ13_compare_74951 4 (some .int), Cond.methodLink RX3 120 yX3_leavingRow, Cond.instanceMethod yX3_leavingRow, Cond.selects RX3 yX3_leavingRow yX3_leavingRow, Cond.code yX3_leavingRow cX3_leavingRow 13 (some .int), Cond.methodLink RX3 130 Lib.MathLoose.abs_long.x, Cond.static Lib.MathLoose.abs_long.x, Cond.initialized "java/lang/Math", Cond.code Lib.MathLoose.abs_long.x Lib.MathLoose.abs_long.code 2 (some .long), Cond.methodLink RX3 124 yX3_exchange, Cond.instanceMethod yX3_exchange, Cond.selects RX3 yX3_exchange yX3_exchange, Cond.code yX3_exchange cX3_exchange 8 none, Cond.methodLink RX3 136 yX3_substitute, Cond.instanceMethod yX3_substitute, Cond.selects RX3 yX3_substitute yX3_substitute]
def wsX8_findCostsAt_r5 : List Cond := [Cond.code yX3_substitute cX3_substitute 11 none, Cond.methodLink RX8 303 yX3_tellCosts, Cond.instanceMethod yX3_tellCosts, Cond.selects RX3 yX3_tellCosts yX3_tellCosts, Cond.code yX3_tellCosts cX3_tellCosts 3 none, Cond.methodLink RX3 93 yX2_clear, Cond.instanceMethod yX2_clear, Cond.selects RX2 yX2_clear yX2_clear, Cond.initialized RX2, Cond.code yX2_clear cX2_clear 4 none, Cond.fieldLink RX2 9 "LayoutSolver$Costs" "sums" "[J", Cond.fieldLink RX2 15 "LayoutSolver$Costs" "denominator" "J", Cond.methodLink RX3 89 yX3_costOf, Cond.instanceMethod yX3_costOf, Cond.selects RX3 yX3_costOf yX3_costOf, Cond.code yX3_costOf cX3_costOf 4 (some .long), Cond.methodLink RX3 99 yX2_increase, Cond.instanceMethod yX2_increase, Cond.selects RX2 yX2_increase yX2_increase, Cond.code yX2_increase cX2_increase 4 none, Cond.methodLink RX8 258 yX3_lift]
def wsX8_findCostsAt : List Cond := .code yX8_findCostsAt cX8_findCostsAt 4 none :: ((wsX8_findCostsAt_r1 ++ (wsX8_findCostsAt_r2 ++ (wsX8_findCostsAt_r3 ++ (wsX8_findCostsAt_r4 ++ wsX8_findCostsAt_r5)))) ++ wsX80 ++ wsX30 ++ wsX10 ++ wsX20)
def wsX8_force_r1 : List Cond := [Cond.constantLong RX8 225 (-1000000000000000001), Cond.constantLong RX8 208 (-1000000000000000002), Cond.fieldLink RX8 58 "LayoutSolver" "present" "LLayoutSolver$Costs;", Cond.constantLong RX8 267 (-1000000000000000003), Cond.methodLink RX8 74 yX8_isVariable, Cond.static yX8_isVariable, Cond.initialized RX8, Cond.code yX8_isVariable cX8_isVariable 1 (some .boolean), Cond.methodLink RX8 78 yX8_isWithin, Cond.static yX8_isWithin, Cond.code yX8_isWithin cX8_isWithin 2 (some .boolean), Cond.methodLink RX8 202 yX8_isSoft, Cond.static yX8_isSoft, Cond.code yX8_isSoft cX8_isSoft 1 (some .boolean), Cond.methodLink RX8 205 yX8_isPart, Cond.static yX8_isPart, Cond.code yX8_isPart cX8_isPart 1 (some .boolean), Cond.methodLink RX8 262 yX8_findCostsAt, Cond.instanceMethod yX8_findCostsAt, Cond.selects RX8 yX8_findCostsAt yX8_findCostsAt, Cond.code yX8_findCostsAt cX8_findCostsAt 4 none, Cond.fieldLink RX8 51 "LayoutSolver" "dictionary" "LLayoutSolver$Dictionary;", Cond.fieldLink RX8 67 "LayoutSolver" "pins" "[LLayoutSolver$Constraint;", Cond.methodLink RX8 306 yX3_placeWith]
def wsX8_force_r2 : List Cond := [Cond.instanceMethod yX3_placeWith, Cond.selects RX3 yX3_placeWith yX3_placeWith, Cond.initialized RX3, Cond.code yX3_placeWith cX3_placeWith 6 none, Cond.fieldLink RX3 13 "LayoutSolver$Dictionary" "rows" "[[J", Cond.fieldLink RX3 16 "LayoutSolver$Dictionary" "scale" "J", Cond.fieldLink RX3 20 "LayoutSolver$Dictionary" "placed" "[Z", Cond.fieldLink RX3 24 "LayoutSolver$Dictionary" "constants" "[I", Cond.fieldLink RX3 28 "LayoutSolver$Dictionary" "levels" "[I", Cond.fieldLink RX3 78 "LayoutSolver$Constraint" "strength" "I", Cond.fieldLink RX3 31 "LayoutSolver$Dictionary" "costAbove" "[I", Cond.fieldLink RX3 34 "LayoutSolver$Dictionary" "costBelow" "[I", Cond.fieldLink RX3 37 "LayoutSolver$Dictionary" "sides" "[I", Cond.methodLink RX3 57 yX3_lift, Cond.instanceMethod yX3_lift, Cond.selects RX3 yX3_lift yX3_lift, Cond.code yX3_lift cX3_lift 3 none, Cond.fieldLink RX3 40 "LayoutSolver$Dictionary" "columnOf" "[I", Cond.fieldLink RX3 43 "LayoutSolver$Dictionary" "rowOf" "[I", Cond.methodLink RX3 70 yX1_coefficient, Cond.instanceMethod yX1_coefficient, Cond.selects RX1 yX1_coefficient yX1_coefficient, Cond.initialized RX1, Cond.code yX1_coefficient cX1_coefficient 2 (some .int)]
def wsX8_force_r3 : List Cond := [Cond.fieldLink RX1 9 "LayoutSolver$Constraint" "coefficients" "[I", Cond.methodLink RX3 74 yX3_addVariable, Cond.instanceMethod yX3_addVariable, Cond.selects RX3 yX3_addVariable yX3_addVariable, Cond.code yX3_addVariable cX3_addVariable 6 none, Cond.methodLink RX3 81 yX1_costAbove, Cond.instanceMethod yX1_costAbove, Cond.selects RX1 yX1_costAbove yX1_costAbove, Cond.code yX1_costAbove cX1_costAbove 1 (some .int), Cond.fieldLink RX1 15 "LayoutSolver$Constraint" "relation" "I", Cond.fieldLink RX1 25 "LayoutSolver$Constraint" "weight" "I", Cond.methodLink RX3 84 yX1_costBelow, Cond.instanceMethod yX1_costBelow, Cond.selects RX1 yX1_costBelow yX1_costBelow, Cond.code yX1_costBelow cX1_costBelow 1 (some .int), Cond.methodLink RX8 210 yX8_findCosts, Cond.instanceMethod yX8_findCosts, Cond.selects RX8 yX8_findCosts yX8_findCosts, Cond.code yX8_findCosts cX8_findCosts 2 none, Cond.methodLink RX8 300 yX3_settle, Cond.instanceMethod yX3_settle, Cond.selects RX3 yX3_settle yX3_settle, Cond.code yX3_settle cX3_settle 1 none, Cond.methodLink RX3 86 yX3_descend]
def wsX8_force_r4 : List Cond := [Cond.instanceMethod yX3_descend, Cond.selects RX3 yX3_descend yX3_descend, Cond.code yX3_descend cX3_descend 8 none, Cond.fieldLink RX3 49 "LayoutSolver$Dictionary" "countedLevels" "I", Cond.constant RX3 109 (1000000), Cond.methodLink RX3 110 yX3_findSlopes, Cond.instanceMethod yX3_findSlopes, Cond.selects RX3 yX3_findSlopes yX3_findSlopes, Cond.code yX3_findSlopes cX3_findSlopes 5 none, Cond.fieldLink RX3 46 "LayoutSolver$Dictionary" "slopes" "[[J", Cond.methodLink RX3 127 yX3_addSlopes, Cond.instanceMethod yX3_addSlopes, Cond.selects RX3 yX3_addSlopes yX3_addSlopes, Cond.code yX3_addSlopes cX3_addSlopes 5 none, Cond.methodLink RX3 114 yX3_enteringColumn, Cond.instanceMethod yX3_enteringColumn, Cond.selects RX3 yX3_enteringColumn yX3_enteringColumn, Cond.code yX3_enteringColumn cX3_enteringColumn 3 (some .int), Cond.methodLink RX3 117 yX3_directionOf, Cond.instanceMethod yX3_directionOf, Cond.selects RX3 yX3_directionOf yX3_directionOf, Cond.code yX3_directionOf cX3_directionOf 10 (some .int), Cond.methodLink RX3 103 yJ13_compare_74951, Cond.static yJ13_compare_74951]
def wsX8_force_r5 : List Cond := [Cond.initialized RJ13, Cond.code yJ13_compare_74951 cJ13_compare_74951 4 (some .int), Cond.methodLink RX3 120 yX3_leavingRow, Cond.instanceMethod yX3_leavingRow, Cond.selects RX3 yX3_leavingRow yX3_leavingRow, Cond.code yX3_leavingRow cX3_leavingRow 13 (some .int), Cond.methodLink RX3 130 Lib.MathLoose.abs_long.x, Cond.static Lib.MathLoose.abs_long.x, Cond.initialized "java/lang/Math", Cond.code Lib.MathLoose.abs_long.x Lib.MathLoose.abs_long.code 2 (some .long), Cond.methodLink RX3 124 yX3_exchange, Cond.instanceMethod yX3_exchange, Cond.selects RX3 yX3_exchange yX3_exchange, Cond.code yX3_exchange cX3_exchange 8 none, Cond.methodLink RX3 136 yX3_substitute, Cond.instanceMethod yX3_substitute, Cond.selects RX3 yX3_substitute yX3_substitute, Cond.code yX3_substitute cX3_substitute 11 none, Cond.methodLink RX8 303 yX3_tellCosts, Cond.instanceMethod yX3_tellCosts, Cond.selects RX3 yX3_tellCosts yX3_tellCosts, Cond.code yX3_tellCosts cX3_tellCosts 3 none, Cond.methodLink RX3 93 yX2_clear, Cond.instanceMethod yX2_clear]
def wsX8_force_r6 : List Cond := [Cond.selects RX2 yX2_clear yX2_clear, Cond.initialized RX2, Cond.code yX2_clear cX2_clear 4 none, Cond.fieldLink RX2 9 "LayoutSolver$Costs" "sums" "[J", Cond.fieldLink RX2 15 "LayoutSolver$Costs" "denominator" "J", Cond.methodLink RX3 89 yX3_costOf, Cond.instanceMethod yX3_costOf, Cond.selects RX3 yX3_costOf yX3_costOf, Cond.code yX3_costOf cX3_costOf 4 (some .long), Cond.methodLink RX3 99 yX2_increase, Cond.instanceMethod yX2_increase, Cond.selects RX2 yX2_increase yX2_increase, Cond.code yX2_increase cX2_increase 4 none, Cond.methodLink RX8 258 yX3_lift, Cond.methodLink RX8 266 yX2_isFeasible, Cond.instanceMethod yX2_isFeasible, Cond.selects RX2 yX2_isFeasible yX2_isFeasible, Cond.code yX2_isFeasible cX2_isFeasible 1 (some .boolean), Cond.methodLink RX8 214 yX2_part, Cond.instanceMethod yX2_part, Cond.selects RX2 yX2_part yX2_part, Cond.code yX2_part cX2_part 3 (some .long), Cond.static yX8_partOf, Cond.code yX8_partOf cX8_partOf 12 (some .long)]
def wsX8_force_r7 : List Cond := [Cond.methodLink RX8 310 Lib.MathLoose.abs_long.x]
def wsX8_force : List Cond := .code yX8_force cX8_force 5 (some .long) :: ((wsX8_force_r1 ++ (wsX8_force_r2 ++ (wsX8_force_r3 ++ (wsX8_force_r4 ++ (wsX8_force_r5 ++ (wsX8_force_r6 ++ wsX8_force_r7)))))) ++ wsX80 ++ wsX30 ++ wsX10 ++ wsX20)
def wsX8_best_r1 : List Cond := [Cond.fieldLink RX8 62 "LayoutSolver" "other" "LLayoutSolver$Costs;", Cond.fieldLink RX8 58 "LayoutSolver" "present" "LLayoutSolver$Costs;", Cond.methodLink RX8 74 yX8_isVariable, Cond.static yX8_isVariable, Cond.initialized RX8, Cond.code yX8_isVariable cX8_isVariable 1 (some .boolean), Cond.methodLink RX8 78 yX8_isWithin, Cond.static yX8_isWithin, Cond.code yX8_isWithin cX8_isWithin 2 (some .boolean), Cond.methodLink RX8 262 yX8_findCostsAt, Cond.instanceMethod yX8_findCostsAt, Cond.selects RX8 yX8_findCostsAt yX8_findCostsAt, Cond.code yX8_findCostsAt cX8_findCostsAt 4 none, Cond.fieldLink RX8 51 "LayoutSolver" "dictionary" "LLayoutSolver$Dictionary;", Cond.fieldLink RX8 67 "LayoutSolver" "pins" "[LLayoutSolver$Constraint;", Cond.methodLink RX8 306 yX3_placeWith, Cond.instanceMethod yX3_placeWith, Cond.selects RX3 yX3_placeWith yX3_placeWith, Cond.initialized RX3, Cond.code yX3_placeWith cX3_placeWith 6 none, Cond.fieldLink RX3 13 "LayoutSolver$Dictionary" "rows" "[[J", Cond.fieldLink RX3 16 "LayoutSolver$Dictionary" "scale" "J", Cond.fieldLink RX3 20 "LayoutSolver$Dictionary" "placed" "[Z", Cond.fieldLink RX3 24 "LayoutSolver$Dictionary" "constants" "[I"]
def wsX8_best_r2 : List Cond := [Cond.fieldLink RX3 28 "LayoutSolver$Dictionary" "levels" "[I", Cond.fieldLink RX3 78 "LayoutSolver$Constraint" "strength" "I", Cond.fieldLink RX3 31 "LayoutSolver$Dictionary" "costAbove" "[I", Cond.fieldLink RX3 34 "LayoutSolver$Dictionary" "costBelow" "[I", Cond.fieldLink RX3 37 "LayoutSolver$Dictionary" "sides" "[I", Cond.methodLink RX3 57 yX3_lift, Cond.instanceMethod yX3_lift, Cond.selects RX3 yX3_lift yX3_lift, Cond.code yX3_lift cX3_lift 3 none, Cond.fieldLink RX3 40 "LayoutSolver$Dictionary" "columnOf" "[I", Cond.fieldLink RX3 43 "LayoutSolver$Dictionary" "rowOf" "[I", Cond.methodLink RX3 70 yX1_coefficient, Cond.instanceMethod yX1_coefficient, Cond.selects RX1 yX1_coefficient yX1_coefficient, Cond.initialized RX1, Cond.code yX1_coefficient cX1_coefficient 2 (some .int), Cond.fieldLink RX1 9 "LayoutSolver$Constraint" "coefficients" "[I", Cond.methodLink RX3 74 yX3_addVariable, Cond.instanceMethod yX3_addVariable, Cond.selects RX3 yX3_addVariable yX3_addVariable, Cond.code yX3_addVariable cX3_addVariable 6 none, Cond.methodLink RX3 81 yX1_costAbove, Cond.instanceMethod yX1_costAbove, Cond.selects RX1 yX1_costAbove yX1_costAbove]
def wsX8_best_r3 : List Cond := [Cond.code yX1_costAbove cX1_costAbove 1 (some .int), Cond.fieldLink RX1 15 "LayoutSolver$Constraint" "relation" "I", Cond.fieldLink RX1 25 "LayoutSolver$Constraint" "weight" "I", Cond.methodLink RX3 84 yX1_costBelow, Cond.instanceMethod yX1_costBelow, Cond.selects RX1 yX1_costBelow yX1_costBelow, Cond.code yX1_costBelow cX1_costBelow 1 (some .int), Cond.methodLink RX8 210 yX8_findCosts, Cond.instanceMethod yX8_findCosts, Cond.selects RX8 yX8_findCosts yX8_findCosts, Cond.code yX8_findCosts cX8_findCosts 2 none, Cond.methodLink RX8 300 yX3_settle, Cond.instanceMethod yX3_settle, Cond.selects RX3 yX3_settle yX3_settle, Cond.code yX3_settle cX3_settle 1 none, Cond.methodLink RX3 86 yX3_descend, Cond.instanceMethod yX3_descend, Cond.selects RX3 yX3_descend yX3_descend, Cond.code yX3_descend cX3_descend 8 none, Cond.fieldLink RX3 49 "LayoutSolver$Dictionary" "countedLevels" "I", Cond.constant RX3 109 (1000000), Cond.methodLink RX3 110 yX3_findSlopes, Cond.instanceMethod yX3_findSlopes, Cond.selects RX3 yX3_findSlopes yX3_findSlopes]
def wsX8_best_r4 : List Cond := [Cond.code yX3_findSlopes cX3_findSlopes 5 none, Cond.fieldLink RX3 46 "LayoutSolver$Dictionary" "slopes" "[[J", Cond.methodLink RX3 127 yX3_addSlopes, Cond.instanceMethod yX3_addSlopes, Cond.selects RX3 yX3_addSlopes yX3_addSlopes, Cond.code yX3_addSlopes cX3_addSlopes 5 none, Cond.methodLink RX3 114 yX3_enteringColumn, Cond.instanceMethod yX3_enteringColumn, Cond.selects RX3 yX3_enteringColumn yX3_enteringColumn, Cond.code yX3_enteringColumn cX3_enteringColumn 3 (some .int), Cond.methodLink RX3 117 yX3_directionOf, Cond.instanceMethod yX3_directionOf, Cond.selects RX3 yX3_directionOf yX3_directionOf, Cond.code yX3_directionOf cX3_directionOf 10 (some .int), Cond.methodLink RX3 103 yJ13_compare_74951, Cond.static yJ13_compare_74951, Cond.initialized RJ13, Cond.code yJ13_compare_74951 cJ13_compare_74951 4 (some .int), Cond.methodLink RX3 120 yX3_leavingRow, Cond.instanceMethod yX3_leavingRow, Cond.selects RX3 yX3_leavingRow yX3_leavingRow, Cond.code yX3_leavingRow cX3_leavingRow 13 (some .int), Cond.methodLink RX3 130 Lib.MathLoose.abs_long.x, Cond.static Lib.MathLoose.abs_long.x]
def wsX8_best_r5 : List Cond := [Cond.initialized "java/lang/Math", Cond.code Lib.MathLoose.abs_long.x Lib.MathLoose.abs_long.code 2 (some .long), Cond.methodLink RX3 124 yX3_exchange, Cond.instanceMethod yX3_exchange, Cond.selects RX3 yX3_exchange yX3_exchange, Cond.code yX3_exchange cX3_exchange 8 none, Cond.methodLink RX3 136 yX3_substitute, Cond.instanceMethod yX3_substitute, Cond.selects RX3 yX3_substitute yX3_substitute, Cond.code yX3_substitute cX3_substitute 11 none, Cond.methodLink RX8 303 yX3_tellCosts, Cond.instanceMethod yX3_tellCosts, Cond.selects RX3 yX3_tellCosts yX3_tellCosts, Cond.code yX3_tellCosts cX3_tellCosts 3 none, Cond.methodLink RX3 93 yX2_clear, Cond.instanceMethod yX2_clear, Cond.selects RX2 yX2_clear yX2_clear, Cond.initialized RX2, Cond.code yX2_clear cX2_clear 4 none, Cond.fieldLink RX2 9 "LayoutSolver$Costs" "sums" "[J", Cond.fieldLink RX2 15 "LayoutSolver$Costs" "denominator" "J", Cond.methodLink RX3 89 yX3_costOf, Cond.instanceMethod yX3_costOf, Cond.selects RX3 yX3_costOf yX3_costOf]
def wsX8_best_r6 : List Cond := [Cond.code yX3_costOf cX3_costOf 4 (some .long), Cond.methodLink RX3 99 yX2_increase, Cond.instanceMethod yX2_increase, Cond.selects RX2 yX2_increase yX2_increase, Cond.code yX2_increase cX2_increase 4 none, Cond.methodLink RX8 258 yX3_lift, Cond.methodLink RX8 266 yX2_isFeasible, Cond.instanceMethod yX2_isFeasible, Cond.selects RX2 yX2_isFeasible yX2_isFeasible, Cond.code yX2_isFeasible cX2_isFeasible 1 (some .boolean), Cond.methodLink RX8 269 yX2_compareWith, Cond.instanceMethod yX2_compareWith, Cond.selects RX2 yX2_compareWith yX2_compareWith, Cond.code yX2_compareWith cX2_compareWith 4 (some .int), Cond.methodLink RX2 23 yJ13_compare_74951, Cond.methodLink RX8 273 yX2_copy, Cond.instanceMethod yX2_copy, Cond.selects RX2 yX2_copy yX2_copy, Cond.code yX2_copy cX2_copy 3 none]
def wsX8_best : List Cond := .code yX8_best cX8_best 6 (some .int) :: ((wsX8_best_r1 ++ (wsX8_best_r2 ++ (wsX8_best_r3 ++ (wsX8_best_r4 ++ (wsX8_best_r5 ++ wsX8_best_r6))))) ++ wsX80 ++ wsX30 ++ wsX10 ++ wsX20)
def wsX8_burdens_r1 : List Cond := [Cond.fieldLink RX8 58 "LayoutSolver" "present" "LLayoutSolver$Costs;", Cond.fieldLink RX8 33 "LayoutSolver" "layout" "LLayoutSolver$Layout;", Cond.fieldLink RX8 51 "LayoutSolver" "dictionary" "LLayoutSolver$Dictionary;", Cond.fieldLink RX8 62 "LayoutSolver" "other" "LLayoutSolver$Costs;", Cond.methodLink RX8 210 yX8_findCosts, Cond.instanceMethod yX8_findCosts, Cond.selects RX8 yX8_findCosts yX8_findCosts, Cond.initialized RX8, Cond.code yX8_findCosts cX8_findCosts 2 none, Cond.methodLink RX8 300 yX3_settle, Cond.instanceMethod yX3_settle, Cond.selects RX3 yX3_settle yX3_settle, Cond.initialized RX3, Cond.code yX3_settle cX3_settle 1 none, Cond.methodLink RX3 86 yX3_descend, Cond.instanceMethod yX3_descend, Cond.selects RX3 yX3_descend yX3_descend, Cond.code yX3_descend cX3_descend 8 none, Cond.fieldLink RX3 49 "LayoutSolver$Dictionary" "countedLevels" "I", Cond.constant RX3 109 (1000000), Cond.methodLink RX3 110 yX3_findSlopes, Cond.instanceMethod yX3_findSlopes, Cond.selects RX3 yX3_findSlopes yX3_findSlopes, Cond.code yX3_findSlopes cX3_findSlopes 5 none]
def wsX8_burdens_r2 : List Cond := [Cond.fieldLink RX3 46 "LayoutSolver$Dictionary" "slopes" "[[J", Cond.fieldLink RX3 20 "LayoutSolver$Dictionary" "placed" "[Z", Cond.fieldLink RX3 40 "LayoutSolver$Dictionary" "columnOf" "[I", Cond.fieldLink RX3 28 "LayoutSolver$Dictionary" "levels" "[I", Cond.fieldLink RX3 37 "LayoutSolver$Dictionary" "sides" "[I", Cond.fieldLink RX3 31 "LayoutSolver$Dictionary" "costAbove" "[I", Cond.fieldLink RX3 34 "LayoutSolver$Dictionary" "costBelow" "[I", Cond.methodLink RX3 127 yX3_addSlopes, Cond.instanceMethod yX3_addSlopes, Cond.selects RX3 yX3_addSlopes yX3_addSlopes, Cond.code yX3_addSlopes cX3_addSlopes 5 none, Cond.fieldLink RX3 13 "LayoutSolver$Dictionary" "rows" "[[J", Cond.methodLink RX3 114 yX3_enteringColumn, Cond.instanceMethod yX3_enteringColumn, Cond.selects RX3 yX3_enteringColumn yX3_enteringColumn, Cond.code yX3_enteringColumn cX3_enteringColumn 3 (some .int), Cond.fieldLink RX3 43 "LayoutSolver$Dictionary" "rowOf" "[I", Cond.methodLink RX3 117 yX3_directionOf, Cond.instanceMethod yX3_directionOf, Cond.selects RX3 yX3_directionOf yX3_directionOf, Cond.code yX3_directionOf cX3_directionOf 10 (some .int), Cond.fieldLink RX3 16 "LayoutSolver$Dictionary" "scale" "J", Cond.methodLink RX3 103 yJ13_compare_74951, Cond.static yJ13_compare_74951]
def wsX8_burdens_r3 : List Cond := [Cond.initialized RJ13, Cond.code yJ13_compare_74951 cJ13_compare_74951 4 (some .int), Cond.methodLink RX3 120 yX3_leavingRow, Cond.instanceMethod yX3_leavingRow, Cond.selects RX3 yX3_leavingRow yX3_leavingRow, Cond.code yX3_leavingRow cX3_leavingRow 13 (some .int), Cond.methodLink RX3 130 Lib.MathLoose.abs_long.x, Cond.static Lib.MathLoose.abs_long.x, Cond.initialized "java/lang/Math", Cond.code Lib.MathLoose.abs_long.x Lib.MathLoose.abs_long.code 2 (some .long), Cond.methodLink RX3 124 yX3_exchange, Cond.instanceMethod yX3_exchange, Cond.selects RX3 yX3_exchange yX3_exchange, Cond.code yX3_exchange cX3_exchange 8 none, Cond.methodLink RX3 136 yX3_substitute, Cond.instanceMethod yX3_substitute, Cond.selects RX3 yX3_substitute yX3_substitute, Cond.code yX3_substitute cX3_substitute 11 none, Cond.methodLink RX8 303 yX3_tellCosts, Cond.instanceMethod yX3_tellCosts, Cond.selects RX3 yX3_tellCosts yX3_tellCosts, Cond.code yX3_tellCosts cX3_tellCosts 3 none, Cond.methodLink RX3 93 yX2_clear, Cond.instanceMethod yX2_clear]
def wsX8_burdens_r4 : List Cond := [Cond.selects RX2 yX2_clear yX2_clear, Cond.initialized RX2, Cond.code yX2_clear cX2_clear 4 none, Cond.fieldLink RX2 9 "LayoutSolver$Costs" "sums" "[J", Cond.fieldLink RX2 15 "LayoutSolver$Costs" "denominator" "J", Cond.methodLink RX3 89 yX3_costOf, Cond.instanceMethod yX3_costOf, Cond.selects RX3 yX3_costOf yX3_costOf, Cond.code yX3_costOf cX3_costOf 4 (some .long), Cond.methodLink RX3 99 yX2_increase, Cond.instanceMethod yX2_increase, Cond.selects RX2 yX2_increase yX2_increase, Cond.code yX2_increase cX2_increase 4 none, Cond.methodLink RX8 107 yX5_at, Cond.instanceMethod yX5_at, Cond.selects RX5 yX5_at yX5_at, Cond.initialized RX5, Cond.code yX5_at cX5_at 2 (some (.object "LayoutSolver$Constraint")), Cond.fieldLink RX5 11 "LayoutSolver$Layout" "places" "[LLayoutSolver$Constraint;", Cond.methodLink RX8 258 yX3_lift, Cond.instanceMethod yX3_lift, Cond.selects RX3 yX3_lift yX3_lift, Cond.code yX3_lift cX3_lift 3 none, Cond.methodLink RX8 269 yX2_compareWith]
def wsX8_burdens_r5 : List Cond := [Cond.instanceMethod yX2_compareWith, Cond.selects RX2 yX2_compareWith yX2_compareWith, Cond.code yX2_compareWith cX2_compareWith 4 (some .int), Cond.methodLink RX2 23 yJ13_compare_74951, Cond.methodLink RX8 249 yX3_place, Cond.instanceMethod yX3_place, Cond.selects RX3 yX3_place yX3_place, Cond.code yX3_place cX3_place 3 none, Cond.fieldLink RX3 61 "LayoutSolver$Constraint" "constant" "I", Cond.methodLink RX3 57 yX3_lift, Cond.methodLink RX3 66 yX3_placeWith, Cond.instanceMethod yX3_placeWith, Cond.selects RX3 yX3_placeWith yX3_placeWith, Cond.code yX3_placeWith cX3_placeWith 6 none, Cond.fieldLink RX3 24 "LayoutSolver$Dictionary" "constants" "[I", Cond.fieldLink RX3 78 "LayoutSolver$Constraint" "strength" "I", Cond.methodLink RX3 70 yX1_coefficient, Cond.instanceMethod yX1_coefficient, Cond.selects RX1 yX1_coefficient yX1_coefficient, Cond.initialized RX1, Cond.code yX1_coefficient cX1_coefficient 2 (some .int), Cond.fieldLink RX1 9 "LayoutSolver$Constraint" "coefficients" "[I", Cond.methodLink RX3 74 yX3_addVariable, Cond.instanceMethod yX3_addVariable]
def wsX8_burdens_r6 : List Cond := [Cond.selects RX3 yX3_addVariable yX3_addVariable, Cond.code yX3_addVariable cX3_addVariable 6 none, Cond.methodLink RX3 81 yX1_costAbove, Cond.instanceMethod yX1_costAbove, Cond.selects RX1 yX1_costAbove yX1_costAbove, Cond.code yX1_costAbove cX1_costAbove 1 (some .int), Cond.fieldLink RX1 15 "LayoutSolver$Constraint" "relation" "I", Cond.fieldLink RX1 25 "LayoutSolver$Constraint" "weight" "I", Cond.methodLink RX3 84 yX1_costBelow, Cond.instanceMethod yX1_costBelow, Cond.selects RX1 yX1_costBelow yX1_costBelow, Cond.code yX1_costBelow cX1_costBelow 1 (some .int)]
def wsX8_burdens : List Cond := .code yX8_burdens cX8_burdens 3 (some .int) :: ((wsX8_burdens_r1 ++ (wsX8_burdens_r2 ++ (wsX8_burdens_r3 ++ (wsX8_burdens_r4 ++ (wsX8_burdens_r5 ++ wsX8_burdens_r6))))) ++ wsX80 ++ wsX30 ++ wsX20 ++ wsX50 ++ wsX10)
def wsX8_keepsCosts_r1 : List Cond := [Cond.fieldLink RX8 51 "LayoutSolver" "dictionary" "LLayoutSolver$Dictionary;", Cond.fieldLink RX8 62 "LayoutSolver" "other" "LLayoutSolver$Costs;", Cond.fieldLink RX8 58 "LayoutSolver" "present" "LLayoutSolver$Costs;", Cond.methodLink RX8 78 yX8_isWithin, Cond.static yX8_isWithin, Cond.initialized RX8, Cond.code yX8_isWithin cX8_isWithin 2 (some .boolean), Cond.methodLink RX8 306 yX3_placeWith, Cond.instanceMethod yX3_placeWith, Cond.selects RX3 yX3_placeWith yX3_placeWith, Cond.initialized RX3, Cond.code yX3_placeWith cX3_placeWith 6 none, Cond.fieldLink RX3 13 "LayoutSolver$Dictionary" "rows" "[[J", Cond.fieldLink RX3 16 "LayoutSolver$Dictionary" "scale" "J", Cond.fieldLink RX3 20 "LayoutSolver$Dictionary" "placed" "[Z", Cond.fieldLink RX3 24 "LayoutSolver$Dictionary" "constants" "[I", Cond.fieldLink RX3 28 "LayoutSolver$Dictionary" "levels" "[I", Cond.fieldLink RX3 78 "LayoutSolver$Constraint" "strength" "I", Cond.fieldLink RX3 31 "LayoutSolver$Dictionary" "costAbove" "[I", Cond.fieldLink RX3 34 "LayoutSolver$Dictionary" "costBelow" "[I", Cond.fieldLink RX3 37 "LayoutSolver$Dictionary" "sides" "[I", Cond.methodLink RX3 57 yX3_lift, Cond.instanceMethod yX3_lift, Cond.selects RX3 yX3_lift yX3_lift]
def wsX8_keepsCosts_r2 : List Cond := [Cond.code yX3_lift cX3_lift 3 none, Cond.fieldLink RX3 40 "LayoutSolver$Dictionary" "columnOf" "[I", Cond.fieldLink RX3 43 "LayoutSolver$Dictionary" "rowOf" "[I", Cond.methodLink RX3 70 yX1_coefficient, Cond.instanceMethod yX1_coefficient, Cond.selects RX1 yX1_coefficient yX1_coefficient, Cond.initialized RX1, Cond.code yX1_coefficient cX1_coefficient 2 (some .int), Cond.fieldLink RX1 9 "LayoutSolver$Constraint" "coefficients" "[I", Cond.methodLink RX3 74 yX3_addVariable, Cond.instanceMethod yX3_addVariable, Cond.selects RX3 yX3_addVariable yX3_addVariable, Cond.code yX3_addVariable cX3_addVariable 6 none, Cond.methodLink RX3 81 yX1_costAbove, Cond.instanceMethod yX1_costAbove, Cond.selects RX1 yX1_costAbove yX1_costAbove, Cond.code yX1_costAbove cX1_costAbove 1 (some .int), Cond.fieldLink RX1 15 "LayoutSolver$Constraint" "relation" "I", Cond.fieldLink RX1 25 "LayoutSolver$Constraint" "weight" "I", Cond.methodLink RX3 84 yX1_costBelow, Cond.instanceMethod yX1_costBelow, Cond.selects RX1 yX1_costBelow yX1_costBelow, Cond.code yX1_costBelow cX1_costBelow 1 (some .int), Cond.methodLink RX8 210 yX8_findCosts]
def wsX8_keepsCosts_r3 : List Cond := [Cond.instanceMethod yX8_findCosts, Cond.selects RX8 yX8_findCosts yX8_findCosts, Cond.code yX8_findCosts cX8_findCosts 2 none, Cond.methodLink RX8 300 yX3_settle, Cond.instanceMethod yX3_settle, Cond.selects RX3 yX3_settle yX3_settle, Cond.code yX3_settle cX3_settle 1 none, Cond.methodLink RX3 86 yX3_descend, Cond.instanceMethod yX3_descend, Cond.selects RX3 yX3_descend yX3_descend, Cond.code yX3_descend cX3_descend 8 none, Cond.fieldLink RX3 49 "LayoutSolver$Dictionary" "countedLevels" "I", Cond.constant RX3 109 (1000000), Cond.methodLink RX3 110 yX3_findSlopes, Cond.instanceMethod yX3_findSlopes, Cond.selects RX3 yX3_findSlopes yX3_findSlopes, Cond.code yX3_findSlopes cX3_findSlopes 5 none, Cond.fieldLink RX3 46 "LayoutSolver$Dictionary" "slopes" "[[J", Cond.methodLink RX3 127 yX3_addSlopes, Cond.instanceMethod yX3_addSlopes, Cond.selects RX3 yX3_addSlopes yX3_addSlopes, Cond.code yX3_addSlopes cX3_addSlopes 5 none, Cond.methodLink RX3 114 yX3_enteringColumn, Cond.instanceMethod yX3_enteringColumn]
def wsX8_keepsCosts_r4 : List Cond := [Cond.selects RX3 yX3_enteringColumn yX3_enteringColumn, Cond.code yX3_enteringColumn cX3_enteringColumn 3 (some .int), Cond.methodLink RX3 117 yX3_directionOf, Cond.instanceMethod yX3_directionOf, Cond.selects RX3 yX3_directionOf yX3_directionOf, Cond.code yX3_directionOf cX3_directionOf 10 (some .int), Cond.methodLink RX3 103 yJ13_compare_74951, Cond.static yJ13_compare_74951, Cond.initialized RJ13, Cond.code yJ13_compare_74951 cJ13_compare_74951 4 (some .int), Cond.methodLink RX3 120 yX3_leavingRow, Cond.instanceMethod yX3_leavingRow, Cond.selects RX3 yX3_leavingRow yX3_leavingRow, Cond.code yX3_leavingRow cX3_leavingRow 13 (some .int), Cond.methodLink RX3 130 Lib.MathLoose.abs_long.x, Cond.static Lib.MathLoose.abs_long.x, Cond.initialized "java/lang/Math", Cond.code Lib.MathLoose.abs_long.x Lib.MathLoose.abs_long.code 2 (some .long), Cond.methodLink RX3 124 yX3_exchange, Cond.instanceMethod yX3_exchange, Cond.selects RX3 yX3_exchange yX3_exchange, Cond.code yX3_exchange cX3_exchange 8 none, Cond.methodLink RX3 136 yX3_substitute, Cond.instanceMethod yX3_substitute]
def wsX8_keepsCosts_r5 : List Cond := [Cond.selects RX3 yX3_substitute yX3_substitute, Cond.code yX3_substitute cX3_substitute 11 none, Cond.methodLink RX8 303 yX3_tellCosts, Cond.instanceMethod yX3_tellCosts, Cond.selects RX3 yX3_tellCosts yX3_tellCosts, Cond.code yX3_tellCosts cX3_tellCosts 3 none, Cond.methodLink RX3 93 yX2_clear, Cond.instanceMethod yX2_clear, Cond.selects RX2 yX2_clear yX2_clear, Cond.initialized RX2, Cond.code yX2_clear cX2_clear 4 none, Cond.fieldLink RX2 9 "LayoutSolver$Costs" "sums" "[J", Cond.fieldLink RX2 15 "LayoutSolver$Costs" "denominator" "J", Cond.methodLink RX3 89 yX3_costOf, Cond.instanceMethod yX3_costOf, Cond.selects RX3 yX3_costOf yX3_costOf, Cond.code yX3_costOf cX3_costOf 4 (some .long), Cond.methodLink RX3 99 yX2_increase, Cond.instanceMethod yX2_increase, Cond.selects RX2 yX2_increase yX2_increase, Cond.code yX2_increase cX2_increase 4 none, Cond.methodLink RX8 266 yX2_isFeasible, Cond.instanceMethod yX2_isFeasible, Cond.selects RX2 yX2_isFeasible yX2_isFeasible]
def wsX8_keepsCosts_r6 : List Cond := [Cond.code yX2_isFeasible cX2_isFeasible 1 (some .boolean), Cond.methodLink RX8 269 yX2_compareWith, Cond.instanceMethod yX2_compareWith, Cond.selects RX2 yX2_compareWith yX2_compareWith, Cond.code yX2_compareWith cX2_compareWith 4 (some .int), Cond.methodLink RX2 23 yJ13_compare_74951]
def wsX8_keepsCosts : List Cond := .code yX8_keepsCosts cX8_keepsCosts 4 (some .boolean) :: ((wsX8_keepsCosts_r1 ++ (wsX8_keepsCosts_r2 ++ (wsX8_keepsCosts_r3 ++ (wsX8_keepsCosts_r4 ++ (wsX8_keepsCosts_r5 ++ wsX8_keepsCosts_r6))))) ++ wsX80 ++ wsX30 ++ wsX10 ++ wsX20)
def wsX8_play_r1 : List Cond := [Cond.fieldLink RX8 33 "LayoutSolver" "layout" "LLayoutSolver$Layout;", Cond.fieldLink RX8 58 "LayoutSolver" "present" "LLayoutSolver$Costs;", Cond.fieldLink RX8 122 "LayoutSolver$Constraint" "constant" "I", Cond.fieldLink RX8 51 "LayoutSolver" "dictionary" "LLayoutSolver$Dictionary;", Cond.methodLink RX8 107 yX5_at, Cond.instanceMethod yX5_at, Cond.selects RX5 yX5_at yX5_at, Cond.initialized RX5, Cond.code yX5_at cX5_at 2 (some (.object "LayoutSolver$Constraint")), Cond.fieldLink RX5 11 "LayoutSolver$Layout" "places" "[LLayoutSolver$Constraint;", Cond.methodLink RX8 205 yX8_isPart, Cond.static yX8_isPart, Cond.initialized RX8, Cond.code yX8_isPart cX8_isPart 1 (some .boolean), Cond.methodLink RX8 210 yX8_findCosts, Cond.instanceMethod yX8_findCosts, Cond.selects RX8 yX8_findCosts yX8_findCosts, Cond.code yX8_findCosts cX8_findCosts 2 none, Cond.methodLink RX8 300 yX3_settle, Cond.instanceMethod yX3_settle, Cond.selects RX3 yX3_settle yX3_settle, Cond.initialized RX3, Cond.code yX3_settle cX3_settle 1 none, Cond.methodLink RX3 86 yX3_descend]
def wsX8_play_r2 : List Cond := [Cond.instanceMethod yX3_descend, Cond.selects RX3 yX3_descend yX3_descend, Cond.code yX3_descend cX3_descend 8 none, Cond.fieldLink RX3 49 "LayoutSolver$Dictionary" "countedLevels" "I", Cond.constant RX3 109 (1000000), Cond.methodLink RX3 110 yX3_findSlopes, Cond.instanceMethod yX3_findSlopes, Cond.selects RX3 yX3_findSlopes yX3_findSlopes, Cond.code yX3_findSlopes cX3_findSlopes 5 none, Cond.fieldLink RX3 46 "LayoutSolver$Dictionary" "slopes" "[[J", Cond.fieldLink RX3 20 "LayoutSolver$Dictionary" "placed" "[Z", Cond.fieldLink RX3 40 "LayoutSolver$Dictionary" "columnOf" "[I", Cond.fieldLink RX3 28 "LayoutSolver$Dictionary" "levels" "[I", Cond.fieldLink RX3 37 "LayoutSolver$Dictionary" "sides" "[I", Cond.fieldLink RX3 31 "LayoutSolver$Dictionary" "costAbove" "[I", Cond.fieldLink RX3 34 "LayoutSolver$Dictionary" "costBelow" "[I", Cond.methodLink RX3 127 yX3_addSlopes, Cond.instanceMethod yX3_addSlopes, Cond.selects RX3 yX3_addSlopes yX3_addSlopes, Cond.code yX3_addSlopes cX3_addSlopes 5 none, Cond.fieldLink RX3 13 "LayoutSolver$Dictionary" "rows" "[[J", Cond.methodLink RX3 114 yX3_enteringColumn, Cond.instanceMethod yX3_enteringColumn, Cond.selects RX3 yX3_enteringColumn yX3_enteringColumn]
def wsX8_play_r3 : List Cond := [Cond.code yX3_enteringColumn cX3_enteringColumn 3 (some .int), Cond.fieldLink RX3 43 "LayoutSolver$Dictionary" "rowOf" "[I", Cond.methodLink RX3 117 yX3_directionOf, Cond.instanceMethod yX3_directionOf, Cond.selects RX3 yX3_directionOf yX3_directionOf, Cond.code yX3_directionOf cX3_directionOf 10 (some .int), Cond.fieldLink RX3 16 "LayoutSolver$Dictionary" "scale" "J", Cond.methodLink RX3 103 yJ13_compare_74951, Cond.static yJ13_compare_74951, Cond.initialized RJ13, Cond.code yJ13_compare_74951 cJ13_compare_74951 4 (some .int), Cond.methodLink RX3 120 yX3_leavingRow, Cond.instanceMethod yX3_leavingRow, Cond.selects RX3 yX3_leavingRow yX3_leavingRow, Cond.code yX3_leavingRow cX3_leavingRow 13 (some .int), Cond.methodLink RX3 130 Lib.MathLoose.abs_long.x, Cond.static Lib.MathLoose.abs_long.x, Cond.initialized "java/lang/Math", Cond.code Lib.MathLoose.abs_long.x Lib.MathLoose.abs_long.code 2 (some .long), Cond.methodLink RX3 124 yX3_exchange, Cond.instanceMethod yX3_exchange, Cond.selects RX3 yX3_exchange yX3_exchange, Cond.code yX3_exchange cX3_exchange 8 none, Cond.methodLink RX3 136 yX3_substitute]
def wsX8_play_r4 : List Cond := [Cond.instanceMethod yX3_substitute, Cond.selects RX3 yX3_substitute yX3_substitute, Cond.code yX3_substitute cX3_substitute 11 none, Cond.methodLink RX8 303 yX3_tellCosts, Cond.instanceMethod yX3_tellCosts, Cond.selects RX3 yX3_tellCosts yX3_tellCosts, Cond.code yX3_tellCosts cX3_tellCosts 3 none, Cond.methodLink RX3 93 yX2_clear, Cond.instanceMethod yX2_clear, Cond.selects RX2 yX2_clear yX2_clear, Cond.initialized RX2, Cond.code yX2_clear cX2_clear 4 none, Cond.fieldLink RX2 9 "LayoutSolver$Costs" "sums" "[J", Cond.fieldLink RX2 15 "LayoutSolver$Costs" "denominator" "J", Cond.methodLink RX3 89 yX3_costOf, Cond.instanceMethod yX3_costOf, Cond.selects RX3 yX3_costOf yX3_costOf, Cond.code yX3_costOf cX3_costOf 4 (some .long), Cond.methodLink RX3 99 yX2_increase, Cond.instanceMethod yX2_increase, Cond.selects RX2 yX2_increase yX2_increase, Cond.code yX2_increase cX2_increase 4 none, Cond.methodLink RX8 276 yX8_keepsCosts, Cond.instanceMethod yX8_keepsCosts]
def wsX8_play_r5 : List Cond := [Cond.selects RX8 yX8_keepsCosts yX8_keepsCosts, Cond.code yX8_keepsCosts cX8_keepsCosts 4 (some .boolean), Cond.fieldLink RX8 62 "LayoutSolver" "other" "LLayoutSolver$Costs;", Cond.methodLink RX8 78 yX8_isWithin, Cond.static yX8_isWithin, Cond.code yX8_isWithin cX8_isWithin 2 (some .boolean), Cond.methodLink RX8 306 yX3_placeWith, Cond.instanceMethod yX3_placeWith, Cond.selects RX3 yX3_placeWith yX3_placeWith, Cond.code yX3_placeWith cX3_placeWith 6 none, Cond.fieldLink RX3 24 "LayoutSolver$Dictionary" "constants" "[I", Cond.fieldLink RX3 78 "LayoutSolver$Constraint" "strength" "I", Cond.methodLink RX3 57 yX3_lift, Cond.instanceMethod yX3_lift, Cond.selects RX3 yX3_lift yX3_lift, Cond.code yX3_lift cX3_lift 3 none, Cond.methodLink RX3 70 yX1_coefficient, Cond.instanceMethod yX1_coefficient, Cond.selects RX1 yX1_coefficient yX1_coefficient, Cond.initialized RX1, Cond.code yX1_coefficient cX1_coefficient 2 (some .int), Cond.fieldLink RX1 9 "LayoutSolver$Constraint" "coefficients" "[I", Cond.methodLink RX3 74 yX3_addVariable, Cond.instanceMethod yX3_addVariable]
def wsX8_play_r6 : List Cond := [Cond.selects RX3 yX3_addVariable yX3_addVariable, Cond.code yX3_addVariable cX3_addVariable 6 none, Cond.methodLink RX3 81 yX1_costAbove, Cond.instanceMethod yX1_costAbove, Cond.selects RX1 yX1_costAbove yX1_costAbove, Cond.code yX1_costAbove cX1_costAbove 1 (some .int), Cond.fieldLink RX1 15 "LayoutSolver$Constraint" "relation" "I", Cond.fieldLink RX1 25 "LayoutSolver$Constraint" "weight" "I", Cond.methodLink RX3 84 yX1_costBelow, Cond.instanceMethod yX1_costBelow, Cond.selects RX1 yX1_costBelow yX1_costBelow, Cond.code yX1_costBelow cX1_costBelow 1 (some .int), Cond.methodLink RX8 266 yX2_isFeasible, Cond.instanceMethod yX2_isFeasible, Cond.selects RX2 yX2_isFeasible yX2_isFeasible, Cond.code yX2_isFeasible cX2_isFeasible 1 (some .boolean), Cond.methodLink RX8 269 yX2_compareWith, Cond.instanceMethod yX2_compareWith, Cond.selects RX2 yX2_compareWith yX2_compareWith, Cond.code yX2_compareWith cX2_compareWith 4 (some .int), Cond.methodLink RX2 23 yJ13_compare_74951, Cond.methodLink RX8 249 yX3_place, Cond.instanceMethod yX3_place, Cond.selects RX3 yX3_place yX3_place]
def wsX8_play_r7 : List Cond := [Cond.code yX3_place cX3_place 3 none, Cond.fieldLink RX3 61 "LayoutSolver$Constraint" "constant" "I", Cond.methodLink RX3 66 yX3_placeWith]
def wsX8_play : List Cond := .code yX8_play cX8_play 7 (some .int) :: ((wsX8_play_r1 ++ (wsX8_play_r2 ++ (wsX8_play_r3 ++ (wsX8_play_r4 ++ (wsX8_play_r5 ++ (wsX8_play_r6 ++ wsX8_play_r7)))))) ++ wsX80 ++ wsX10 ++ wsX50 ++ wsX30 ++ wsX20)
def wsX8_count_r1 : List Cond := [Cond.fieldLink RX8 33 "LayoutSolver" "layout" "LLayoutSolver$Layout;", Cond.fieldLink RX8 16 "LayoutSolver" "text" "LLayoutSolver$Line;", Cond.fieldLink RX8 44 "LayoutSolver" "history" "LLayoutSolver$History;", Cond.methodLink RX8 115 yX5_size, Cond.instanceMethod yX5_size, Cond.selects RX5 yX5_size yX5_size, Cond.initialized RX5, Cond.code yX5_size cX5_size 1 (some .int), Cond.methodLink RX5 17 yX5_mask, Cond.instanceMethod yX5_mask, Cond.selects RX5 yX5_mask yX5_mask, Cond.code yX5_mask cX5_mask 3 (some .int), Cond.fieldLink RX5 11 "LayoutSolver$Layout" "places" "[LLayoutSolver$Constraint;", Cond.methodLink RX5 21 yJ6_bitCount_0f7a4, Cond.static yJ6_bitCount_0f7a4, Cond.initialized RJ6, Cond.code yJ6_bitCount_0f7a4 cJ6_bitCount_0f7a4 1 (some .int), Cond.constant RJ6 265 (1431655765), Cond.constant RJ6 266 (858993459), Cond.constant RJ6 267 (252645135), Cond.methodLink RX8 154 yX6_size, Cond.instanceMethod yX6_size, Cond.selects RX6 yX6_size yX6_size, Cond.initialized RX6]
def wsX8_count_r2 : List Cond := [Cond.code yX6_size cX6_size 1 (some .int), Cond.fieldLink RX6 15 "LayoutSolver$Line" "length" "I", Cond.methodLink RX8 280 yX4_done, Cond.instanceMethod yX4_done, Cond.selects RX4 yX4_done yX4_done, Cond.initialized RX4, Cond.code yX4_done cX4_done 1 (some .int), Cond.fieldLink RX4 17 "LayoutSolver$History" "done" "I", Cond.methodLink RX8 283 yX4_undone, Cond.instanceMethod yX4_undone, Cond.selects RX4 yX4_undone yX4_undone, Cond.code yX4_undone cX4_undone 1 (some .int), Cond.fieldLink RX4 21 "LayoutSolver$History" "undone" "I", Cond.methodLink RX8 286 yX5_requiredOnes, Cond.instanceMethod yX5_requiredOnes, Cond.selects RX5 yX5_requiredOnes yX5_requiredOnes, Cond.code yX5_requiredOnes cX5_requiredOnes 4 (some .int), Cond.fieldLink RX5 27 "LayoutSolver$Constraint" "strength" "I"]
def wsX8_count : List Cond := .code yX8_count cX8_count 2 (some .int) :: ((wsX8_count_r1 ++ wsX8_count_r2) ++ wsX80 ++ wsX50 ++ wsX60 ++ wsX40 ++ wsX10)
def wsX8_save_r1 : List Cond := [Cond.fieldLink RX8 37 "LayoutSolver" "slots" "[LLayoutSolver$Layout;", Cond.classLink RX8 30 RX5, Cond.instantiable RX5 1, Cond.initialized RX5, Cond.fieldLink RX8 33 "LayoutSolver" "layout" "LLayoutSolver$Layout;", Cond.instanceMethod yX5_init, Cond.code yX5_init cX5_init 1 none, Cond.methodLink RX5 3 objectInit, Cond.instanceMethod objectInit, Cond.code objectInit ⟨#[0xb1]⟩ 1 none, Cond.classLink RX5 9 RX1, Cond.fieldLink RX5 11 "LayoutSolver$Layout" "places" "[LLayoutSolver$Constraint;", Cond.methodLink RX8 107 yX5_at, Cond.instanceMethod yX5_at, Cond.selects RX5 yX5_at yX5_at, Cond.code yX5_at cX5_at 2 (some (.object "LayoutSolver$Constraint")), Cond.methodLink RX8 289 yX5_put, Cond.instanceMethod yX5_put, Cond.selects RX5 yX5_put yX5_put, Cond.code yX5_put cX5_put 3 none, Cond.methodLink RX8 115 yX5_size, Cond.instanceMethod yX5_size, Cond.selects RX5 yX5_size yX5_size, Cond.code yX5_size cX5_size 1 (some .int)]
def wsX8_save_r2 : List Cond := [Cond.methodLink RX5 17 yX5_mask, Cond.instanceMethod yX5_mask, Cond.selects RX5 yX5_mask yX5_mask, Cond.code yX5_mask cX5_mask 3 (some .int), Cond.methodLink RX5 21 yJ6_bitCount_0f7a4, Cond.static yJ6_bitCount_0f7a4, Cond.initialized RJ6, Cond.code yJ6_bitCount_0f7a4 cJ6_bitCount_0f7a4 1 (some .int), Cond.constant RJ6 265 (1431655765), Cond.constant RJ6 266 (858993459), Cond.constant RJ6 267 (252645135)]
def wsX8_save : List Cond := .code yX8_save cX8_save 4 (some .int) :: ((wsX8_save_r1 ++ wsX8_save_r2) ++ wsX80 ++ wsX50)
def wsX8_restore_r1 : List Cond := [Cond.fieldLink RX8 37 "LayoutSolver" "slots" "[LLayoutSolver$Layout;", Cond.fieldLink RX8 44 "LayoutSolver" "history" "LLayoutSolver$History;", Cond.fieldLink RX8 33 "LayoutSolver" "layout" "LLayoutSolver$Layout;", Cond.methodLink RX8 107 yX5_at, Cond.instanceMethod yX5_at, Cond.selects RX5 yX5_at yX5_at, Cond.initialized RX5, Cond.code yX5_at cX5_at 2 (some (.object "LayoutSolver$Constraint")), Cond.fieldLink RX5 11 "LayoutSolver$Layout" "places" "[LLayoutSolver$Constraint;", Cond.methodLink RX8 192 yX8_put, Cond.instanceMethod yX8_put, Cond.selects RX8 yX8_put yX8_put, Cond.initialized RX8, Cond.code yX8_put cX8_put 3 none, Cond.fieldLink RX8 51 "LayoutSolver" "dictionary" "LLayoutSolver$Dictionary;", Cond.methodLink RX8 289 yX5_put, Cond.instanceMethod yX5_put, Cond.selects RX5 yX5_put yX5_put, Cond.code yX5_put cX5_put 3 none, Cond.methodLink RX8 249 yX3_place, Cond.instanceMethod yX3_place, Cond.selects RX3 yX3_place yX3_place, Cond.initialized RX3, Cond.code yX3_place cX3_place 3 none]
def wsX8_restore_r2 : List Cond := [Cond.fieldLink RX3 61 "LayoutSolver$Constraint" "constant" "I", Cond.methodLink RX3 57 yX3_lift, Cond.instanceMethod yX3_lift, Cond.selects RX3 yX3_lift yX3_lift, Cond.code yX3_lift cX3_lift 3 none, Cond.fieldLink RX3 40 "LayoutSolver$Dictionary" "columnOf" "[I", Cond.fieldLink RX3 43 "LayoutSolver$Dictionary" "rowOf" "[I", Cond.fieldLink RX3 20 "LayoutSolver$Dictionary" "placed" "[Z", Cond.methodLink RX3 66 yX3_placeWith, Cond.instanceMethod yX3_placeWith, Cond.selects RX3 yX3_placeWith yX3_placeWith, Cond.code yX3_placeWith cX3_placeWith 6 none, Cond.fieldLink RX3 13 "LayoutSolver$Dictionary" "rows" "[[J", Cond.fieldLink RX3 16 "LayoutSolver$Dictionary" "scale" "J", Cond.fieldLink RX3 24 "LayoutSolver$Dictionary" "constants" "[I", Cond.fieldLink RX3 28 "LayoutSolver$Dictionary" "levels" "[I", Cond.fieldLink RX3 78 "LayoutSolver$Constraint" "strength" "I", Cond.fieldLink RX3 31 "LayoutSolver$Dictionary" "costAbove" "[I", Cond.fieldLink RX3 34 "LayoutSolver$Dictionary" "costBelow" "[I", Cond.fieldLink RX3 37 "LayoutSolver$Dictionary" "sides" "[I", Cond.methodLink RX3 70 yX1_coefficient, Cond.instanceMethod yX1_coefficient, Cond.selects RX1 yX1_coefficient yX1_coefficient, Cond.initialized RX1]
def wsX8_restore_r3 : List Cond := [Cond.code yX1_coefficient cX1_coefficient 2 (some .int), Cond.fieldLink RX1 9 "LayoutSolver$Constraint" "coefficients" "[I", Cond.methodLink RX3 74 yX3_addVariable, Cond.instanceMethod yX3_addVariable, Cond.selects RX3 yX3_addVariable yX3_addVariable, Cond.code yX3_addVariable cX3_addVariable 6 none, Cond.methodLink RX3 81 yX1_costAbove, Cond.instanceMethod yX1_costAbove, Cond.selects RX1 yX1_costAbove yX1_costAbove, Cond.code yX1_costAbove cX1_costAbove 1 (some .int), Cond.fieldLink RX1 15 "LayoutSolver$Constraint" "relation" "I", Cond.fieldLink RX1 25 "LayoutSolver$Constraint" "weight" "I", Cond.methodLink RX3 84 yX1_costBelow, Cond.instanceMethod yX1_costBelow, Cond.selects RX1 yX1_costBelow yX1_costBelow, Cond.code yX1_costBelow cX1_costBelow 1 (some .int), Cond.methodLink RX8 290 yX4_clear, Cond.instanceMethod yX4_clear, Cond.selects RX4 yX4_clear yX4_clear, Cond.initialized RX4, Cond.code yX4_clear cX4_clear 1 none, Cond.fieldLink RX4 17 "LayoutSolver$History" "done" "I", Cond.fieldLink RX4 21 "LayoutSolver$History" "undone" "I", Cond.methodLink RX8 115 yX5_size]
def wsX8_restore_r4 : List Cond := [Cond.instanceMethod yX5_size, Cond.selects RX5 yX5_size yX5_size, Cond.code yX5_size cX5_size 1 (some .int), Cond.methodLink RX5 17 yX5_mask, Cond.instanceMethod yX5_mask, Cond.selects RX5 yX5_mask yX5_mask, Cond.code yX5_mask cX5_mask 3 (some .int), Cond.methodLink RX5 21 yJ6_bitCount_0f7a4, Cond.static yJ6_bitCount_0f7a4, Cond.initialized RJ6, Cond.code yJ6_bitCount_0f7a4 cJ6_bitCount_0f7a4 1 (some .int), Cond.constant RJ6 265 (1431655765), Cond.constant RJ6 266 (858993459), Cond.constant RJ6 267 (252645135)]
def wsX8_restore : List Cond := .code yX8_restore cX8_restore 4 (some .int) :: ((wsX8_restore_r1 ++ (wsX8_restore_r2 ++ (wsX8_restore_r3 ++ wsX8_restore_r4))) ++ wsX80 ++ wsX50 ++ wsX10 ++ wsX30 ++ wsX40)
def wsJ9_abs_0f7a4 : List Cond := .code yJ9_abs_0f7a4 cJ9_abs_0f7a4 1 (some .int) :: ([])
def wsJ9_abs_067f4 : List Cond := .code yJ9_abs_067f4 cJ9_abs_067f4 2 (some .long) :: ([])
def RX9 : String := "LayoutSolverModel"
def TX9 : u_T := fun k => match k with
  | 0 => ("LayoutSolverModel", "list", "[I", true)
  | 1 => ("LayoutSolverModel", "slots", "[I", true)
  | 2 => ("LayoutSolverModel", "isSaved", "[Z", true)
  | 3 => ("LayoutSolverModel", "draft", "[I", true)
  | 4 => ("LayoutSolverModel", "text", "[I", true)
  | 5 => ("LayoutSolverModel", "said", "I", false)
  | 6 => ("LayoutSolverModel", "changed", "[I", true)
  | 7 => ("LayoutSolverModel", "before", "[I", true)
  | 8 => ("LayoutSolverModel", "behind", "[I", true)
  | 9 => ("LayoutSolverModel", "undos", "I", false)
  | 10 => ("LayoutSolverModel", "redos", "I", false)
  | 11 => ("LayoutSolverModel", "cell", "[J", true)
  | 12 => ("LayoutSolverModel", "rowOf", "[I", true)
  | 13 => ("LayoutSolverModel", "columnOf", "[I", true)
  | 14 => ("LayoutSolverModel", "rows", "I", false)
  | 15 => ("LayoutSolverModel", "columns", "I", false)
  | 16 => ("LayoutSolverModel", "base", "J", false)
  | 17 => ("LayoutSolverModel", "isBarred", "[Z", true)
  | 18 => ("LayoutSolverModel", "isSolved", "Z", false)
  | 19 => ("LayoutSolverModel", "costUp", "[J", true)
  | 20 => ("LayoutSolverModel", "costLow", "[J", true)
  | 21 => ("LayoutSolverModel", "foundUp", "J", false)
  | 22 => ("LayoutSolverModel", "foundLow", "J", false)
  | 23 => ("LayoutSolverModel", "kept", "[I", true)
  | 24 => ("LayoutSolverModel", "read", "[I", true)
  | 25 => ("LayoutSolverModel", "readRelation", "I", false)
  | 26 => ("LayoutSolverModel", "readConstant", "I", false)
  | 27 => ("LayoutSolverModel", "readStrength", "I", false)
  | 28 => ("LayoutSolverModel", "readWeight", "I", false)
  | 29 => ("LayoutSolverModel", "place", "I", false)
  | 30 => ("LayoutSolverModel", "isWrong", "Z", false)
  | 31 => ("LayoutSolverModel", "spelt", "[I", true)
  | 32 => ("LayoutSolverModel", "spells", "I", false)
  | 33 => ("LayoutSolverModel", "single", "[I", true)
  | 34 => ("LayoutSolverModel", "otherUp", "[J", true)
  | _ => ("LayoutSolverModel", "otherLow", "[J", true)
def tyX9 : Nat → FieldType := fun k => match k with
  | 0 => .array .int
  | 1 => .array .int
  | 2 => .array .boolean
  | 3 => .array .int
  | 4 => .array .int
  | 5 => .int
  | 6 => .array .int
  | 7 => .array .int
  | 8 => .array .int
  | 9 => .int
  | 10 => .int
  | 11 => .array .long
  | 12 => .array .int
  | 13 => .array .int
  | 14 => .int
  | 15 => .int
  | 16 => .long
  | 17 => .array .boolean
  | 18 => .boolean
  | 19 => .array .long
  | 20 => .array .long
  | 21 => .long
  | 22 => .long
  | 23 => .array .int
  | 24 => .array .int
  | 25 => .int
  | 26 => .int
  | 27 => .int
  | 28 => .int
  | 29 => .int
  | 30 => .boolean
  | 31 => .array .int
  | 32 => .int
  | 33 => .array .int
  | 34 => .array .long
  | _ => .array .long
abbrev wsX90 : List Cond := u_ws RX9 TX9 36
theorem nmX9 : ∀ a, a < 36 → ∀ b, b < 36 → a ≠ b → (TX9 a).2.1 ≠ (TX9 b).2.1 := by decide +kernel
theorem tyX9_ok : ∀ k, k < 36 → parseFieldDescriptor (TX9 k).2.2.1 = some (tyX9 k) := by decide +kernel
abbrev cX9_init : ByteArray := prog_11_method_1_code
def yX9_init : MethodName := ⟨RX9, "<init>", "()V"⟩
abbrev cX9_in : ByteArray := prog_11_method_2_code
def yX9_in : MethodName := ⟨RX9, "in", "(III)Z"⟩
abbrev cX9_of : ByteArray := prog_11_method_3_code
def yX9_of : MethodName := ⟨RX9, "of", "(II)I"⟩
abbrev cX9_isThere : ByteArray := prog_11_method_4_code
def yX9_isThere : MethodName := ⟨RX9, "isThere", "(I)Z"⟩
abbrev cX9_isOne : ByteArray := prog_11_method_5_code
def yX9_isOne : MethodName := ⟨RX9, "isOne", "(I)Z"⟩
abbrev cX9_isVariable : ByteArray := prog_11_method_6_code
def yX9_isVariable : MethodName := ⟨RX9, "isVariable", "(I)Z"⟩
abbrev cX9_isPart : ByteArray := prog_11_method_7_code
def yX9_isPart : MethodName := ⟨RX9, "isPart", "(I)Z"⟩
abbrev cX9_constraintsThere : ByteArray := prog_11_method_8_code
def yX9_constraintsThere : MethodName := ⟨RX9, "constraintsThere", "()I"⟩
abbrev cX9_ahead : ByteArray := prog_11_method_9_code
def yX9_ahead : MethodName := ⟨RX9, "ahead", "(I)I"⟩
abbrev cX9_lack : ByteArray := prog_11_method_10_code
def yX9_lack : MethodName := ⟨RX9, "lack", "(I)I"⟩
abbrev cX9_beginRows : ByteArray := prog_11_method_11_code
def yX9_beginRows : MethodName := ⟨RX9, "beginRows", "()V"⟩
abbrev cX9_addRow : ByteArray := prog_11_method_12_code
def yX9_addRow : MethodName := ⟨RX9, "addRow", "(III)V"⟩
abbrev cX9_addConstraint : ByteArray := prog_11_method_13_code
def yX9_addConstraint : MethodName := ⟨RX9, "addConstraint", "(I)V"⟩
abbrev cX9_layRows : ByteArray := prog_11_method_14_code
def yX9_layRows : MethodName := ⟨RX9, "layRows", "(IZ)V"⟩
abbrev cX9_swap : ByteArray := prog_11_method_15_code
def yX9_swap : MethodName := ⟨RX9, "swap", "(II)V"⟩
abbrev cX9_turnAll : ByteArray := prog_11_method_16_code
def yX9_turnAll : MethodName := ⟨RX9, "turnAll", "()V"⟩
abbrev cX9_clearCost : ByteArray := prog_11_method_17_code
def yX9_clearCost : MethodName := ⟨RX9, "clearCost", "()V"⟩
abbrev cX9_worstRow : ByteArray := prog_11_method_18_code
def yX9_worstRow : MethodName := ⟨RX9, "worstRow", "()I"⟩
abbrev cX9_helper : ByteArray := prog_11_method_19_code
def yX9_helper : MethodName := ⟨RX9, "helper", "(I)I"⟩
abbrev cX9_canHold : ByteArray := prog_11_method_20_code
def yX9_canHold : MethodName := ⟨RX9, "canHold", "()Z"⟩
abbrev cX9_addCost : ByteArray := prog_11_method_21_code
def yX9_addCost : MethodName := ⟨RX9, "addCost", "(IJ)V"⟩
abbrev cX9_cheaper : ByteArray := prog_11_method_22_code
def yX9_cheaper : MethodName := ⟨RX9, "cheaper", "()I"⟩
abbrev cX9_firstToEnd : ByteArray := prog_11_method_23_code
def yX9_firstToEnd : MethodName := ⟨RX9, "firstToEnd", "(I)I"⟩
abbrev cX9_lessen : ByteArray := prog_11_method_24_code
def yX9_lessen : MethodName := ⟨RX9, "lessen", "()V"⟩
abbrev cX9_bar : ByteArray := prog_11_method_25_code
def yX9_bar : MethodName := ⟨RX9, "bar", "()V"⟩
abbrev cX9_solveAll : ByteArray := prog_11_method_26_code
def yX9_solveAll : MethodName := ⟨RX9, "solveAll", "(I)Z"⟩
abbrev cX9_solve : ByteArray := prog_11_method_27_code
def yX9_solve : MethodName := ⟨RX9, "solve", "()V"⟩
abbrev cX9_part : ByteArray := prog_11_method_28_code
def yX9_part : MethodName := ⟨RX9, "part", "(JJI)J"⟩
abbrev cX9_isPossible : ByteArray := prog_11_method_29_code
def yX9_isPossible : MethodName := ⟨RX9, "isPossible", "(I)Z"⟩
abbrev cX9_findLeast : ByteArray := prog_11_method_30_code
def yX9_findLeast : MethodName := ⟨RX9, "findLeast", "(III)V"⟩
abbrev cX9_found : ByteArray := prog_11_method_31_code
def yX9_found : MethodName := ⟨RX9, "found", "(I)J"⟩
abbrev cX9_copyOut : ByteArray := prog_11_method_32_code
def yX9_copyOut : MethodName := ⟨RX9, "copyOut", "(I[II)V"⟩
abbrev cX9_copyIn : ByteArray := prog_11_method_33_code
def yX9_copyIn : MethodName := ⟨RX9, "copyIn", "(I[II)V"⟩
abbrev cX9_keep : ByteArray := prog_11_method_34_code
def yX9_keep : MethodName := ⟨RX9, "keep", "(I)V"⟩
abbrev cX9_note : ByteArray := prog_11_method_35_code
def yX9_note : MethodName := ⟨RX9, "note", "(I)V"⟩
abbrev cX9_isTaken : ByteArray := prog_11_method_36_code
def yX9_isTaken : MethodName := ⟨RX9, "isTaken", "(I)Z"⟩
abbrev cX9_undo : ByteArray := prog_11_method_37_code
def yX9_undo : MethodName := ⟨RX9, "undo", "()I"⟩
abbrev cX9_redo : ByteArray := prog_11_method_38_code
def yX9_redo : MethodName := ⟨RX9, "redo", "()I"⟩
abbrev cX9_term : ByteArray := prog_11_method_39_code
def yX9_term : MethodName := ⟨RX9, "term", "(II)I"⟩
abbrev cX9_isAnything : ByteArray := prog_11_method_40_code
def yX9_isAnything : MethodName := ⟨RX9, "isAnything", "([I)Z"⟩
abbrev cX9_come : ByteArray := prog_11_method_41_code
def yX9_come : MethodName := ⟨RX9, "come", "([IIIII)I"⟩
abbrev cX9_put : ByteArray := prog_11_method_42_code
def yX9_put : MethodName := ⟨RX9, "put", "(I[IIIII)V"⟩
abbrev cX9_isConstant : ByteArray := prog_11_method_43_code
def yX9_isConstant : MethodName := ⟨RX9, "isConstant", "(I)Z"⟩
abbrev cX9_isStrength : ByteArray := prog_11_method_44_code
def yX9_isStrength : MethodName := ⟨RX9, "isStrength", "(II)Z"⟩
abbrev cX9_add : ByteArray := prog_11_method_45_code
def yX9_add : MethodName := ⟨RX9, "add", "(IIII)I"⟩
abbrev cX9_remove : ByteArray := prog_11_method_46_code
def yX9_remove : MethodName := ⟨RX9, "remove", "(I)I"⟩
abbrev cX9_setConstant : ByteArray := prog_11_method_47_code
def yX9_setConstant : MethodName := ⟨RX9, "setConstant", "(II)I"⟩
abbrev cX9_setStrength : ByteArray := prog_11_method_48_code
def yX9_setStrength : MethodName := ⟨RX9, "setStrength", "(III)I"⟩
abbrev cX9_about : ByteArray := prog_11_method_49_code
def yX9_about : MethodName := ⟨RX9, "about", "(II)I"⟩
abbrev cX9_constraints : ByteArray := prog_11_method_50_code
def yX9_constraints : MethodName := ⟨RX9, "constraints", "()I"⟩
abbrev cX9_say : ByteArray := prog_11_method_51_code
def yX9_say : MethodName := ⟨RX9, "say", "(I)I"⟩
abbrev cX9_wipe : ByteArray := prog_11_method_52_code
def yX9_wipe : MethodName := ⟨RX9, "wipe", "()I"⟩
abbrev cX9_sign : ByteArray := prog_11_method_53_code
def yX9_sign : MethodName := ⟨RX9, "sign", "()I"⟩
abbrev cX9_readTerm : ByteArray := prog_11_method_54_code
def yX9_readTerm : MethodName := ⟨RX9, "readTerm", "(I)V"⟩
abbrev cX9_readSide : ByteArray := prog_11_method_55_code
def yX9_readSide : MethodName := ⟨RX9, "readSide", "()V"⟩
abbrev cX9_readNumber : ByteArray := prog_11_method_56_code
def yX9_readNumber : MethodName := ⟨RX9, "readNumber", "()V"⟩
abbrev cX9_readEnd : ByteArray := prog_11_method_57_code
def yX9_readEnd : MethodName := ⟨RX9, "readEnd", "()V"⟩
abbrev cX9_fault : ByteArray := prog_11_method_58_code
def yX9_fault : MethodName := ⟨RX9, "fault", "()I"⟩
abbrev cX9_parse : ByteArray := prog_11_method_59_code
def yX9_parse : MethodName := ⟨RX9, "parse", "()I"⟩
abbrev cX9_spellOne : ByteArray := prog_11_method_60_code
def yX9_spellOne : MethodName := ⟨RX9, "spellOne", "(I)V"⟩
abbrev cX9_spellNumber : ByteArray := prog_11_method_61_code
def yX9_spellNumber : MethodName := ⟨RX9, "spellNumber", "(I)V"⟩
abbrev cX9_spellSide : ByteArray := prog_11_method_62_code
def yX9_spellSide : MethodName := ⟨RX9, "spellSide", "(I)V"⟩
abbrev cX9_spell : ByteArray := prog_11_method_63_code
def yX9_spell : MethodName := ⟨RX9, "spell", "(II)I"⟩
abbrev cX9_cost : ByteArray := prog_11_method_64_code
def yX9_cost : MethodName := ⟨RX9, "cost", "(II)J"⟩
abbrev cX9_end : ByteArray := prog_11_method_65_code
def yX9_end : MethodName := ⟨RX9, "end", "(III)J"⟩
abbrev cX9_low : ByteArray := prog_11_method_66_code
def yX9_low : MethodName := ⟨RX9, "low", "(II)J"⟩
abbrev cX9_high : ByteArray := prog_11_method_67_code
def yX9_high : MethodName := ⟨RX9, "high", "(II)J"⟩
abbrev cX9_ambiguous : ByteArray := prog_11_method_68_code
def yX9_ambiguous : MethodName := ⟨RX9, "ambiguous", "()I"⟩
abbrev cX9_value : ByteArray := prog_11_method_69_code
def yX9_value : MethodName := ⟨RX9, "value", "(III)J"⟩
abbrev cX9_beside : ByteArray := prog_11_method_70_code
def yX9_beside : MethodName := ⟨RX9, "beside", "(I)I"⟩
abbrev cX9_status : ByteArray := prog_11_method_71_code
def yX9_status : MethodName := ⟨RX9, "status", "(I)I"⟩
abbrev cX9_reach : ByteArray := prog_11_method_72_code
def yX9_reach : MethodName := ⟨RX9, "reach", "(III)J"⟩
abbrev cX9_connected : ByteArray := prog_11_method_73_code
def yX9_connected : MethodName := ⟨RX9, "connected", "(I)I"⟩
abbrev cX9_blockers : ByteArray := prog_11_method_74_code
def yX9_blockers : MethodName := ⟨RX9, "blockers", "(II)I"⟩
abbrev cX9_requiredOnes : ByteArray := prog_11_method_75_code
def yX9_requiredOnes : MethodName := ⟨RX9, "requiredOnes", "()I"⟩
abbrev cX9_isForced : ByteArray := prog_11_method_76_code
def yX9_isForced : MethodName := ⟨RX9, "isForced", "(II)Z"⟩
abbrev cX9_force : ByteArray := prog_11_method_77_code
def yX9_force : MethodName := ⟨RX9, "force", "(IIII)J"⟩
abbrev cX9_keepCosts : ByteArray := prog_11_method_78_code
def yX9_keepCosts : MethodName := ⟨RX9, "keepCosts", "()V"⟩
abbrev cX9_compare : ByteArray := prog_11_method_79_code
def yX9_compare : MethodName := ⟨RX9, "compare", "()I"⟩
abbrev cX9_best : ByteArray := prog_11_method_80_code
def yX9_best : MethodName := ⟨RX9, "best", "(III)I"⟩
abbrev cX9_burdens : ByteArray := prog_11_method_81_code
def yX9_burdens : MethodName := ⟨RX9, "burdens", "()I"⟩
abbrev cX9_stepsOf : ByteArray := prog_11_method_82_code
def yX9_stepsOf : MethodName := ⟨RX9, "stepsOf", "(II)I"⟩
abbrev cX9_play : ByteArray := prog_11_method_83_code
def yX9_play : MethodName := ⟨RX9, "play", "(II)I"⟩
abbrev cX9_requiredMany : ByteArray := prog_11_method_84_code
def yX9_requiredMany : MethodName := ⟨RX9, "requiredMany", "()I"⟩
abbrev cX9_count : ByteArray := prog_11_method_85_code
def yX9_count : MethodName := ⟨RX9, "count", "(I)I"⟩
abbrev cX9_save : ByteArray := prog_11_method_86_code
def yX9_save : MethodName := ⟨RX9, "save", "(I)I"⟩
abbrev cX9_restore : ByteArray := prog_11_method_87_code
def yX9_restore : MethodName := ⟨RX9, "restore", "(I)I"⟩
abbrev vwCl : List vw_C := [(RX0, TX0, 3), (RX1, TX1, 5), (RX2, TX2, 2), (RX3, TX3, 12), (RX4, TX4, 3), (RX5, TX5, 1), (RX6, TX6, 2), (RX7, TX7, 9), (RX8, TX8, 11), (RX9, TX9, 36)]
end
section
theorem dJ6_bitCount_0f7a4_0 : decode cJ6_bitCount_0f7a4 0 = .ok (.iload_n 0, 1) := by decide +kernel
theorem dJ6_bitCount_0f7a4_1 : decode cJ6_bitCount_0f7a4 1 = .ok (.iload_n 0, 1) := by decide +kernel
theorem dJ6_bitCount_0f7a4_2 : decode cJ6_bitCount_0f7a4 2 = .ok (.iconst 1, 1) := by decide +kernel
theorem dJ6_bitCount_0f7a4_3 : decode cJ6_bitCount_0f7a4 3 = .ok (.iushr, 1) := by decide +kernel
theorem dJ6_bitCount_0f7a4_4 : decode cJ6_bitCount_0f7a4 4 = .ok (.ldc_w 265, 3) := by decide +kernel
theorem dJ6_bitCount_0f7a4_7 : decode cJ6_bitCount_0f7a4 7 = .ok (.iand, 1) := by decide +kernel
theorem dJ6_bitCount_0f7a4_8 : decode cJ6_bitCount_0f7a4 8 = .ok (.isub, 1) := by decide +kernel
theorem dJ6_bitCount_0f7a4_9 : decode cJ6_bitCount_0f7a4 9 = .ok (.istore_n 0, 1) := by decide +kernel
theorem dJ6_bitCount_0f7a4_10 : decode cJ6_bitCount_0f7a4 10 = .ok (.iload_n 0, 1) := by decide +kernel
theorem dJ6_bitCount_0f7a4_11 : decode cJ6_bitCount_0f7a4 11 = .ok (.ldc_w 266, 3) := by decide +kernel
theorem dJ6_bitCount_0f7a4_14 : decode cJ6_bitCount_0f7a4 14 = .ok (.iand, 1) := by decide +kernel
theorem dJ6_bitCount_0f7a4_15 : decode cJ6_bitCount_0f7a4 15 = .ok (.iload_n 0, 1) := by decide +kernel
theorem dJ6_bitCount_0f7a4_16 : decode cJ6_bitCount_0f7a4 16 = .ok (.iconst 2, 1) := by decide +kernel
theorem dJ6_bitCount_0f7a4_17 : decode cJ6_bitCount_0f7a4 17 = .ok (.iushr, 1) := by decide +kernel
theorem dJ6_bitCount_0f7a4_18 : decode cJ6_bitCount_0f7a4 18 = .ok (.ldc_w 266, 3) := by decide +kernel
theorem dJ6_bitCount_0f7a4_21 : decode cJ6_bitCount_0f7a4 21 = .ok (.iand, 1) := by decide +kernel
theorem dJ6_bitCount_0f7a4_22 : decode cJ6_bitCount_0f7a4 22 = .ok (.iadd, 1) := by decide +kernel
theorem dJ6_bitCount_0f7a4_23 : decode cJ6_bitCount_0f7a4 23 = .ok (.istore_n 0, 1) := by decide +kernel
theorem dJ6_bitCount_0f7a4_24 : decode cJ6_bitCount_0f7a4 24 = .ok (.iload_n 0, 1) := by decide +kernel
theorem dJ6_bitCount_0f7a4_25 : decode cJ6_bitCount_0f7a4 25 = .ok (.iload_n 0, 1) := by decide +kernel
theorem dJ6_bitCount_0f7a4_26 : decode cJ6_bitCount_0f7a4 26 = .ok (.iconst 4, 1) := by decide +kernel
theorem dJ6_bitCount_0f7a4_27 : decode cJ6_bitCount_0f7a4 27 = .ok (.iushr, 1) := by decide +kernel
theorem dJ6_bitCount_0f7a4_28 : decode cJ6_bitCount_0f7a4 28 = .ok (.iadd, 1) := by decide +kernel
theorem dJ6_bitCount_0f7a4_29 : decode cJ6_bitCount_0f7a4 29 = .ok (.ldc_w 267, 3) := by decide +kernel
theorem dJ6_bitCount_0f7a4_32 : decode cJ6_bitCount_0f7a4 32 = .ok (.iand, 1) := by decide +kernel
theorem dJ6_bitCount_0f7a4_33 : decode cJ6_bitCount_0f7a4 33 = .ok (.istore_n 0, 1) := by decide +kernel
theorem dJ6_bitCount_0f7a4_34 : decode cJ6_bitCount_0f7a4 34 = .ok (.iload_n 0, 1) := by decide +kernel
theorem dJ6_bitCount_0f7a4_35 : decode cJ6_bitCount_0f7a4 35 = .ok (.iload_n 0, 1) := by decide +kernel
theorem dJ6_bitCount_0f7a4_36 : decode cJ6_bitCount_0f7a4 36 = .ok (.bipush 8, 2) := by decide +kernel
theorem dJ6_bitCount_0f7a4_38 : decode cJ6_bitCount_0f7a4 38 = .ok (.iushr, 1) := by decide +kernel
theorem dJ6_bitCount_0f7a4_39 : decode cJ6_bitCount_0f7a4 39 = .ok (.iadd, 1) := by decide +kernel
theorem dJ6_bitCount_0f7a4_40 : decode cJ6_bitCount_0f7a4 40 = .ok (.istore_n 0, 1) := by decide +kernel
theorem dJ6_bitCount_0f7a4_41 : decode cJ6_bitCount_0f7a4 41 = .ok (.iload_n 0, 1) := by decide +kernel
theorem dJ6_bitCount_0f7a4_42 : decode cJ6_bitCount_0f7a4 42 = .ok (.iload_n 0, 1) := by decide +kernel
theorem dJ6_bitCount_0f7a4_43 : decode cJ6_bitCount_0f7a4 43 = .ok (.bipush 16, 2) := by decide +kernel
theorem dJ6_bitCount_0f7a4_45 : decode cJ6_bitCount_0f7a4 45 = .ok (.iushr, 1) := by decide +kernel
theorem dJ6_bitCount_0f7a4_46 : decode cJ6_bitCount_0f7a4 46 = .ok (.iadd, 1) := by decide +kernel
theorem dJ6_bitCount_0f7a4_47 : decode cJ6_bitCount_0f7a4 47 = .ok (.istore_n 0, 1) := by decide +kernel
theorem dJ6_bitCount_0f7a4_48 : decode cJ6_bitCount_0f7a4 48 = .ok (.iload_n 0, 1) := by decide +kernel
theorem dJ6_bitCount_0f7a4_49 : decode cJ6_bitCount_0f7a4 49 = .ok (.bipush 63, 2) := by decide +kernel
theorem dJ6_bitCount_0f7a4_51 : decode cJ6_bitCount_0f7a4 51 = .ok (.iand, 1) := by decide +kernel
theorem dJ6_bitCount_0f7a4_52 : decode cJ6_bitCount_0f7a4 52 = .ok (.ireturn, 1) := by decide +kernel
theorem dJ13_compare_74951_0 : decode cJ13_compare_74951 0 = .ok (.lload_n 0, 1) := by decide +kernel
theorem dJ13_compare_74951_1 : decode cJ13_compare_74951 1 = .ok (.lload_n 2, 1) := by decide +kernel
theorem dJ13_compare_74951_2 : decode cJ13_compare_74951 2 = .ok (.lcmp, 1) := by decide +kernel
theorem dJ13_compare_74951_3 : decode cJ13_compare_74951 3 = .ok (.ifCond .ge 7, 3) := by decide +kernel
theorem dJ13_compare_74951_6 : decode cJ13_compare_74951 6 = .ok (.iconst (-1), 1) := by decide +kernel
theorem dJ13_compare_74951_7 : decode cJ13_compare_74951 7 = .ok (.goto 14, 3) := by decide +kernel
theorem dJ13_compare_74951_10 : decode cJ13_compare_74951 10 = .ok (.lload_n 0, 1) := by decide +kernel
theorem dJ13_compare_74951_11 : decode cJ13_compare_74951 11 = .ok (.lload_n 2, 1) := by decide +kernel
theorem dJ13_compare_74951_12 : decode cJ13_compare_74951 12 = .ok (.lcmp, 1) := by decide +kernel
theorem dJ13_compare_74951_13 : decode cJ13_compare_74951 13 = .ok (.ifCond .ne 7, 3) := by decide +kernel
theorem dJ13_compare_74951_16 : decode cJ13_compare_74951 16 = .ok (.iconst 0, 1) := by decide +kernel
theorem dJ13_compare_74951_17 : decode cJ13_compare_74951 17 = .ok (.goto 4, 3) := by decide +kernel
theorem dJ13_compare_74951_20 : decode cJ13_compare_74951 20 = .ok (.iconst 1, 1) := by decide +kernel
theorem dJ13_compare_74951_21 : decode cJ13_compare_74951 21 = .ok (.ireturn, 1) := by decide +kernel
theorem dJ9_abs_0f7a4_0 : decode cJ9_abs_0f7a4 0 = .ok (.iload_n 0, 1) := by decide +kernel
theorem dJ9_abs_0f7a4_1 : decode cJ9_abs_0f7a4 1 = .ok (.ifCond .ge 8, 3) := by decide +kernel
theorem dJ9_abs_0f7a4_4 : decode cJ9_abs_0f7a4 4 = .ok (.iload_n 0, 1) := by decide +kernel
theorem dJ9_abs_0f7a4_5 : decode cJ9_abs_0f7a4 5 = .ok (.ineg, 1) := by decide +kernel
theorem dJ9_abs_0f7a4_6 : decode cJ9_abs_0f7a4 6 = .ok (.goto 4, 3) := by decide +kernel
theorem dJ9_abs_0f7a4_9 : decode cJ9_abs_0f7a4 9 = .ok (.iload_n 0, 1) := by decide +kernel
theorem dJ9_abs_0f7a4_10 : decode cJ9_abs_0f7a4 10 = .ok (.ireturn, 1) := by decide +kernel
theorem dJ9_abs_067f4_0 : decode cJ9_abs_067f4 0 = .ok (.lload_n 0, 1) := by decide +kernel
theorem dJ9_abs_067f4_1 : decode cJ9_abs_067f4 1 = .ok (.lconst 0, 1) := by decide +kernel
theorem dJ9_abs_067f4_2 : decode cJ9_abs_067f4 2 = .ok (.lcmp, 1) := by decide +kernel
theorem dJ9_abs_067f4_3 : decode cJ9_abs_067f4 3 = .ok (.ifCond .ge 8, 3) := by decide +kernel
theorem dJ9_abs_067f4_6 : decode cJ9_abs_067f4 6 = .ok (.lload_n 0, 1) := by decide +kernel
theorem dJ9_abs_067f4_7 : decode cJ9_abs_067f4 7 = .ok (.lneg, 1) := by decide +kernel
theorem dJ9_abs_067f4_8 : decode cJ9_abs_067f4 8 = .ok (.goto 4, 3) := by decide +kernel
theorem dJ9_abs_067f4_11 : decode cJ9_abs_067f4 11 = .ok (.lload_n 0, 1) := by decide +kernel
theorem dJ9_abs_067f4_12 : decode cJ9_abs_067f4 12 = .ok (.lreturn, 1) := by decide +kernel
set_option maxRecDepth 20000 in
theorem ggX3_init_X3_startLimit : GoodIn wsX3_init wsX3_startLimit := goodIn_r _ [24, 6, 9, 11, 13, 14, 15, 25, 26, 27, 28, 29, 30, 31, 32, 33, 34, 35, 36] (by decide +kernel) (by decide +kernel)
set_option maxRecDepth 20000 in
theorem gX3_init_X3_startLimit : GoodIn wsX3_init (wsV RX3 53 RX3 yX3_startLimit wsX3_startLimit) := goodIn_app (goodIn_of _ (by decide +kernel)) ggX3_init_X3_startLimit
theorem dX3_init_0 : decode cX3_init 0 = .ok (.aload_n 0, 1) := by decide +kernel
theorem dX3_init_1 : decode cX3_init 1 = .ok (.invokespecial 5, 3) := by decide +kernel
theorem dX3_init_4 : decode cX3_init 4 = .ok (.aload_n 0, 1) := by decide +kernel
theorem dX3_init_5 : decode cX3_init 5 = .ok (.bipush 27, 2) := by decide +kernel
theorem dX3_init_7 : decode cX3_init 7 = .ok (.bipush 7, 2) := by decide +kernel
theorem dX3_init_9 : decode cX3_init 9 = .ok (.multianewarray 11 2, 4) := by decide +kernel
theorem dX3_init_13 : decode cX3_init 13 = .ok (.putfield 13, 3) := by decide +kernel
theorem dX3_init_16 : decode cX3_init 16 = .ok (.aload_n 0, 1) := by decide +kernel
theorem dX3_init_17 : decode cX3_init 17 = .ok (.lconst 1, 1) := by decide +kernel
theorem dX3_init_18 : decode cX3_init 18 = .ok (.putfield 16, 3) := by decide +kernel
theorem dX3_init_21 : decode cX3_init 21 = .ok (.aload_n 0, 1) := by decide +kernel
theorem dX3_init_22 : decode cX3_init 22 = .ok (.bipush 27, 2) := by decide +kernel
theorem dX3_init_24 : decode cX3_init 24 = .ok (.newarray .boolean, 2) := by decide +kernel
theorem dX3_init_26 : decode cX3_init 26 = .ok (.putfield 20, 3) := by decide +kernel
theorem dX3_init_29 : decode cX3_init 29 = .ok (.aload_n 0, 1) := by decide +kernel
theorem dX3_init_30 : decode cX3_init 30 = .ok (.bipush 27, 2) := by decide +kernel
theorem dX3_init_32 : decode cX3_init 32 = .ok (.newarray .int, 2) := by decide +kernel
theorem dX3_init_34 : decode cX3_init 34 = .ok (.putfield 24, 3) := by decide +kernel
theorem dX3_init_37 : decode cX3_init 37 = .ok (.aload_n 0, 1) := by decide +kernel
theorem dX3_init_38 : decode cX3_init 38 = .ok (.bipush 27, 2) := by decide +kernel
theorem dX3_init_40 : decode cX3_init 40 = .ok (.newarray .int, 2) := by decide +kernel
theorem dX3_init_42 : decode cX3_init 42 = .ok (.putfield 28, 3) := by decide +kernel
theorem dX3_init_45 : decode cX3_init 45 = .ok (.aload_n 0, 1) := by decide +kernel
theorem dX3_init_46 : decode cX3_init 46 = .ok (.bipush 27, 2) := by decide +kernel
theorem dX3_init_48 : decode cX3_init 48 = .ok (.newarray .int, 2) := by decide +kernel
theorem dX3_init_50 : decode cX3_init 50 = .ok (.putfield 31, 3) := by decide +kernel
theorem dX3_init_53 : decode cX3_init 53 = .ok (.aload_n 0, 1) := by decide +kernel
theorem dX3_init_54 : decode cX3_init 54 = .ok (.bipush 27, 2) := by decide +kernel
theorem dX3_init_56 : decode cX3_init 56 = .ok (.newarray .int, 2) := by decide +kernel
theorem dX3_init_58 : decode cX3_init 58 = .ok (.putfield 34, 3) := by decide +kernel
theorem dX3_init_61 : decode cX3_init 61 = .ok (.aload_n 0, 1) := by decide +kernel
theorem dX3_init_62 : decode cX3_init 62 = .ok (.bipush 27, 2) := by decide +kernel
theorem dX3_init_64 : decode cX3_init 64 = .ok (.newarray .int, 2) := by decide +kernel
theorem dX3_init_66 : decode cX3_init 66 = .ok (.putfield 37, 3) := by decide +kernel
theorem dX3_init_69 : decode cX3_init 69 = .ok (.aload_n 0, 1) := by decide +kernel
theorem dX3_init_70 : decode cX3_init 70 = .ok (.bipush 27, 2) := by decide +kernel
theorem dX3_init_72 : decode cX3_init 72 = .ok (.newarray .int, 2) := by decide +kernel
theorem dX3_init_74 : decode cX3_init 74 = .ok (.putfield 40, 3) := by decide +kernel
theorem dX3_init_77 : decode cX3_init 77 = .ok (.aload_n 0, 1) := by decide +kernel
theorem dX3_init_78 : decode cX3_init 78 = .ok (.bipush 6, 2) := by decide +kernel
theorem dX3_init_80 : decode cX3_init 80 = .ok (.newarray .int, 2) := by decide +kernel
theorem dX3_init_82 : decode cX3_init 82 = .ok (.putfield 43, 3) := by decide +kernel
theorem dX3_init_85 : decode cX3_init 85 = .ok (.aload_n 0, 1) := by decide +kernel
theorem dX3_init_86 : decode cX3_init 86 = .ok (.iconst 5, 1) := by decide +kernel
theorem dX3_init_87 : decode cX3_init 87 = .ok (.bipush 6, 2) := by decide +kernel
theorem dX3_init_89 : decode cX3_init 89 = .ok (.multianewarray 11 2, 4) := by decide +kernel
theorem dX3_init_93 : decode cX3_init 93 = .ok (.putfield 46, 3) := by decide +kernel
theorem dX3_init_96 : decode cX3_init 96 = .ok (.aload_n 0, 1) := by decide +kernel
theorem dX3_init_97 : decode cX3_init 97 = .ok (.iconst 4, 1) := by decide +kernel
theorem dX3_init_98 : decode cX3_init 98 = .ok (.putfield 49, 3) := by decide +kernel
theorem dX3_init_101 : decode cX3_init 101 = .ok (.iconst 0, 1) := by decide +kernel
theorem dX3_init_102 : decode cX3_init 102 = .ok (.istore_n 1, 1) := by decide +kernel
theorem dX3_init_103 : decode cX3_init 103 = .ok (.iload_n 1, 1) := by decide +kernel
theorem dX3_init_104 : decode cX3_init 104 = .ok (.bipush 27, 2) := by decide +kernel
theorem dX3_init_106 : decode cX3_init 106 = .ok (.if_icmp .ge 16, 3) := by decide +kernel
theorem dX3_init_109 : decode cX3_init 109 = .ok (.aload_n 0, 1) := by decide +kernel
theorem dX3_init_110 : decode cX3_init 110 = .ok (.getfield 40, 3) := by decide +kernel
theorem dX3_init_113 : decode cX3_init 113 = .ok (.iload_n 1, 1) := by decide +kernel
theorem dX3_init_114 : decode cX3_init 114 = .ok (.iconst (-1), 1) := by decide +kernel
theorem dX3_init_115 : decode cX3_init 115 = .ok (.iastore, 1) := by decide +kernel
theorem dX3_init_116 : decode cX3_init 116 = .ok (.iinc 1 1, 3) := by decide +kernel
theorem dX3_init_119 : decode cX3_init 119 = .ok (.goto (-16), 3) := by decide +kernel
theorem dX3_init_122 : decode cX3_init 122 = .ok (.iconst 0, 1) := by decide +kernel
theorem dX3_init_123 : decode cX3_init 123 = .ok (.istore_n 1, 1) := by decide +kernel
theorem dX3_init_124 : decode cX3_init 124 = .ok (.iload_n 1, 1) := by decide +kernel
theorem dX3_init_125 : decode cX3_init 125 = .ok (.bipush 6, 2) := by decide +kernel
theorem dX3_init_127 : decode cX3_init 127 = .ok (.if_icmp .ge 40, 3) := by decide +kernel
theorem dX3_init_130 : decode cX3_init 130 = .ok (.aload_n 0, 1) := by decide +kernel
theorem dX3_init_131 : decode cX3_init 131 = .ok (.getfield 43, 3) := by decide +kernel
theorem dX3_init_134 : decode cX3_init 134 = .ok (.iload_n 1, 1) := by decide +kernel
theorem dX3_init_135 : decode cX3_init 135 = .ok (.iconst (-1), 1) := by decide +kernel
theorem dX3_init_136 : decode cX3_init 136 = .ok (.iastore, 1) := by decide +kernel
theorem dX3_init_137 : decode cX3_init 137 = .ok (.aload_n 0, 1) := by decide +kernel
theorem dX3_init_138 : decode cX3_init 138 = .ok (.bipush 15, 2) := by decide +kernel
theorem dX3_init_140 : decode cX3_init 140 = .ok (.iload_n 1, 1) := by decide +kernel
theorem dX3_init_141 : decode cX3_init 141 = .ok (.iadd, 1) := by decide +kernel
theorem dX3_init_142 : decode cX3_init 142 = .ok (.iload_n 1, 1) := by decide +kernel
theorem dX3_init_143 : decode cX3_init 143 = .ok (.sipush 1000, 3) := by decide +kernel
theorem dX3_init_146 : decode cX3_init 146 = .ok (.invokevirtual 53, 3) := by decide +kernel
theorem dX3_init_149 : decode cX3_init 149 = .ok (.aload_n 0, 1) := by decide +kernel
theorem dX3_init_150 : decode cX3_init 150 = .ok (.bipush 21, 2) := by decide +kernel
theorem dX3_init_152 : decode cX3_init 152 = .ok (.iload_n 1, 1) := by decide +kernel
theorem dX3_init_153 : decode cX3_init 153 = .ok (.iadd, 1) := by decide +kernel
theorem dX3_init_154 : decode cX3_init 154 = .ok (.iload_n 1, 1) := by decide +kernel
theorem dX3_init_155 : decode cX3_init 155 = .ok (.sipush (-1000), 3) := by decide +kernel
theorem dX3_init_158 : decode cX3_init 158 = .ok (.invokevirtual 53, 3) := by decide +kernel
theorem dX3_init_161 : decode cX3_init 161 = .ok (.iinc 1 1, 3) := by decide +kernel
theorem dX3_init_164 : decode cX3_init 164 = .ok (.goto (-40), 3) := by decide +kernel
theorem dX3_init_167 : decode cX3_init 167 = .ok (.return_, 1) := by decide +kernel
theorem dX3_startLimit_0 : decode cX3_startLimit 0 = .ok (.aload_n 0, 1) := by decide +kernel
theorem dX3_startLimit_1 : decode cX3_startLimit 1 = .ok (.getfield 13, 3) := by decide +kernel
theorem dX3_startLimit_4 : decode cX3_startLimit 4 = .ok (.iload_n 1, 1) := by decide +kernel
theorem dX3_startLimit_5 : decode cX3_startLimit 5 = .ok (.aaload, 1) := by decide +kernel
theorem dX3_startLimit_6 : decode cX3_startLimit 6 = .ok (.iload_n 2, 1) := by decide +kernel
theorem dX3_startLimit_7 : decode cX3_startLimit 7 = .ok (.lconst 1, 1) := by decide +kernel
theorem dX3_startLimit_8 : decode cX3_startLimit 8 = .ok (.lastore, 1) := by decide +kernel
theorem dX3_startLimit_9 : decode cX3_startLimit 9 = .ok (.aload_n 0, 1) := by decide +kernel
theorem dX3_startLimit_10 : decode cX3_startLimit 10 = .ok (.getfield 13, 3) := by decide +kernel
theorem dX3_startLimit_13 : decode cX3_startLimit 13 = .ok (.iload_n 1, 1) := by decide +kernel
theorem dX3_startLimit_14 : decode cX3_startLimit 14 = .ok (.aaload, 1) := by decide +kernel
theorem dX3_startLimit_15 : decode cX3_startLimit 15 = .ok (.bipush 6, 2) := by decide +kernel
theorem dX3_startLimit_17 : decode cX3_startLimit 17 = .ok (.iload_n 3, 1) := by decide +kernel
theorem dX3_startLimit_18 : decode cX3_startLimit 18 = .ok (.ineg, 1) := by decide +kernel
theorem dX3_startLimit_19 : decode cX3_startLimit 19 = .ok (.i2l, 1) := by decide +kernel
theorem dX3_startLimit_20 : decode cX3_startLimit 20 = .ok (.lastore, 1) := by decide +kernel
theorem dX3_startLimit_21 : decode cX3_startLimit 21 = .ok (.aload_n 0, 1) := by decide +kernel
theorem dX3_startLimit_22 : decode cX3_startLimit 22 = .ok (.getfield 20, 3) := by decide +kernel
theorem dX3_startLimit_25 : decode cX3_startLimit 25 = .ok (.iload_n 1, 1) := by decide +kernel
theorem dX3_startLimit_26 : decode cX3_startLimit 26 = .ok (.iconst 1, 1) := by decide +kernel
theorem dX3_startLimit_27 : decode cX3_startLimit 27 = .ok (.bastore, 1) := by decide +kernel
theorem dX3_startLimit_28 : decode cX3_startLimit 28 = .ok (.aload_n 0, 1) := by decide +kernel
theorem dX3_startLimit_29 : decode cX3_startLimit 29 = .ok (.getfield 24, 3) := by decide +kernel
theorem dX3_startLimit_32 : decode cX3_startLimit 32 = .ok (.iload_n 1, 1) := by decide +kernel
theorem dX3_startLimit_33 : decode cX3_startLimit 33 = .ok (.iload_n 3, 1) := by decide +kernel
theorem dX3_startLimit_34 : decode cX3_startLimit 34 = .ok (.iastore, 1) := by decide +kernel
theorem dX3_startLimit_35 : decode cX3_startLimit 35 = .ok (.aload_n 0, 1) := by decide +kernel
theorem dX3_startLimit_36 : decode cX3_startLimit 36 = .ok (.getfield 31, 3) := by decide +kernel
theorem dX3_startLimit_39 : decode cX3_startLimit 39 = .ok (.iload_n 1, 1) := by decide +kernel
theorem dX3_startLimit_40 : decode cX3_startLimit 40 = .ok (.iload_n 3, 1) := by decide +kernel
theorem dX3_startLimit_41 : decode cX3_startLimit 41 = .ok (.ifCond .le 7, 3) := by decide +kernel
theorem dX3_startLimit_44 : decode cX3_startLimit 44 = .ok (.iconst 1, 1) := by decide +kernel
theorem dX3_startLimit_45 : decode cX3_startLimit 45 = .ok (.goto 4, 3) := by decide +kernel
theorem dX3_startLimit_48 : decode cX3_startLimit 48 = .ok (.iconst 0, 1) := by decide +kernel
theorem dX3_startLimit_49 : decode cX3_startLimit 49 = .ok (.iastore, 1) := by decide +kernel
theorem dX3_startLimit_50 : decode cX3_startLimit 50 = .ok (.aload_n 0, 1) := by decide +kernel
theorem dX3_startLimit_51 : decode cX3_startLimit 51 = .ok (.getfield 34, 3) := by decide +kernel
theorem dX3_startLimit_54 : decode cX3_startLimit 54 = .ok (.iload_n 1, 1) := by decide +kernel
theorem dX3_startLimit_55 : decode cX3_startLimit 55 = .ok (.iload_n 3, 1) := by decide +kernel
theorem dX3_startLimit_56 : decode cX3_startLimit 56 = .ok (.ifCond .le 7, 3) := by decide +kernel
theorem dX3_startLimit_59 : decode cX3_startLimit 59 = .ok (.iconst 0, 1) := by decide +kernel
theorem dX3_startLimit_60 : decode cX3_startLimit 60 = .ok (.goto 4, 3) := by decide +kernel
theorem dX3_startLimit_63 : decode cX3_startLimit 63 = .ok (.iconst 1, 1) := by decide +kernel
theorem dX3_startLimit_64 : decode cX3_startLimit 64 = .ok (.iastore, 1) := by decide +kernel
theorem dX3_startLimit_65 : decode cX3_startLimit 65 = .ok (.aload_n 0, 1) := by decide +kernel
theorem dX3_startLimit_66 : decode cX3_startLimit 66 = .ok (.getfield 37, 3) := by decide +kernel
theorem dX3_startLimit_69 : decode cX3_startLimit 69 = .ok (.iload_n 1, 1) := by decide +kernel
theorem dX3_startLimit_70 : decode cX3_startLimit 70 = .ok (.iload_n 3, 1) := by decide +kernel
theorem dX3_startLimit_71 : decode cX3_startLimit 71 = .ok (.ifCond .le 7, 3) := by decide +kernel
theorem dX3_startLimit_74 : decode cX3_startLimit 74 = .ok (.iconst (-1), 1) := by decide +kernel
theorem dX3_startLimit_75 : decode cX3_startLimit 75 = .ok (.goto 4, 3) := by decide +kernel
theorem dX3_startLimit_78 : decode cX3_startLimit 78 = .ok (.iconst 1, 1) := by decide +kernel
theorem dX3_startLimit_79 : decode cX3_startLimit 79 = .ok (.iastore, 1) := by decide +kernel
theorem dX3_startLimit_80 : decode cX3_startLimit 80 = .ok (.return_, 1) := by decide +kernel
set_option maxRecDepth 20000 in
theorem ggX3_place_X3_lift : GoodIn wsX3_place wsX3_lift := goodIn_r _ [6, 7, 8, 9, 47, 48, 49, 50, 51, 52, 53, 54, 55, 56, 57, 58] (by decide +kernel) (by decide +kernel)
set_option maxRecDepth 20000 in
theorem gX3_place_X3_lift : GoodIn wsX3_place (wsV RX3 57 RX3 yX3_lift wsX3_lift) := goodIn_app (goodIn_of _ (by decide +kernel)) ggX3_place_X3_lift
set_option maxRecDepth 20000 in
theorem ggX3_place_X3_placeWith : GoodIn wsX3_place wsX3_placeWith := goodIn_r _ [13, 14, 15, 9, 16, 17, 18, 19, 20, 21, 2, 3, 4, 5, 6, 7, 8, 22, 23, 24, 25, 26, 27, 28, 29, 30, 31, 32, 33, 34, 35, 36, 37, 38, 39, 40, 41, 47, 48, 49, 50, 51, 52, 53, 54, 55, 56, 57, 58, 42, 43, 44, 45, 46] (by decide +kernel) (by decide +kernel)
set_option maxRecDepth 20000 in
theorem gX3_place_X3_placeWith : GoodIn wsX3_place (wsV RX3 66 RX3 yX3_placeWith wsX3_placeWith) := goodIn_app (goodIn_of _ (by decide +kernel)) ggX3_place_X3_placeWith
theorem dX3_place_0 : decode cX3_place 0 = .ok (.aload_n 2, 1) := by decide +kernel
theorem dX3_place_1 : decode cX3_place 1 = .ok (.ifnonnull 11, 3) := by decide +kernel
theorem dX3_place_4 : decode cX3_place 4 = .ok (.aload_n 0, 1) := by decide +kernel
theorem dX3_place_5 : decode cX3_place 5 = .ok (.iload_n 1, 1) := by decide +kernel
theorem dX3_place_6 : decode cX3_place 6 = .ok (.invokevirtual 57, 3) := by decide +kernel
theorem dX3_place_9 : decode cX3_place 9 = .ok (.goto 13, 3) := by decide +kernel
theorem dX3_place_12 : decode cX3_place 12 = .ok (.aload_n 0, 1) := by decide +kernel
theorem dX3_place_13 : decode cX3_place 13 = .ok (.iload_n 1, 1) := by decide +kernel
theorem dX3_place_14 : decode cX3_place 14 = .ok (.aload_n 2, 1) := by decide +kernel
theorem dX3_place_15 : decode cX3_place 15 = .ok (.aload_n 2, 1) := by decide +kernel
theorem dX3_place_16 : decode cX3_place 16 = .ok (.getfield 61, 3) := by decide +kernel
theorem dX3_place_19 : decode cX3_place 19 = .ok (.invokevirtual 66, 3) := by decide +kernel
theorem dX3_place_22 : decode cX3_place 22 = .ok (.return_, 1) := by decide +kernel
set_option maxRecDepth 20000 in
theorem ggX3_placeWith_X3_lift : GoodIn wsX3_placeWith wsX3_lift := goodIn_r _ [14, 15, 16, 3, 37, 38, 39, 40, 41, 42, 43, 44, 45, 46, 47, 48] (by decide +kernel) (by decide +kernel)
set_option maxRecDepth 20000 in
theorem gX3_placeWith_X3_lift : GoodIn wsX3_placeWith (wsV RX3 57 RX3 yX3_lift wsX3_lift) := goodIn_app (goodIn_of _ (by decide +kernel)) ggX3_placeWith_X3_lift
set_option maxRecDepth 20000 in
theorem ggX3_placeWith_X1_coefficient : GoodIn wsX3_placeWith wsX1_coefficient := goodIn_r _ [21, 22, 49, 50, 51, 52, 53] (by decide +kernel) (by decide +kernel)
set_option maxRecDepth 20000 in
theorem gX3_placeWith_X1_coefficient : GoodIn wsX3_placeWith (wsV RX3 70 RX1 yX1_coefficient wsX1_coefficient) := goodIn_app (goodIn_of _ (by decide +kernel)) ggX3_placeWith_X1_coefficient
set_option maxRecDepth 20000 in
theorem ggX3_placeWith_X3_addVariable : GoodIn wsX3_placeWith wsX3_addVariable := goodIn_r _ [26, 1, 2, 37, 38, 39, 40, 41, 42, 43, 44, 45, 46, 47, 48] (by decide +kernel) (by decide +kernel)
set_option maxRecDepth 20000 in
theorem gX3_placeWith_X3_addVariable : GoodIn wsX3_placeWith (wsV RX3 74 RX3 yX3_addVariable wsX3_addVariable) := goodIn_app (goodIn_of _ (by decide +kernel)) ggX3_placeWith_X3_addVariable
set_option maxRecDepth 20000 in
theorem ggX3_placeWith_X1_costAbove : GoodIn wsX3_placeWith wsX1_costAbove := goodIn_r _ [30, 31, 32, 49, 50, 51, 52, 53] (by decide +kernel) (by decide +kernel)
set_option maxRecDepth 20000 in
theorem gX3_placeWith_X1_costAbove : GoodIn wsX3_placeWith (wsV RX3 81 RX1 yX1_costAbove wsX1_costAbove) := goodIn_app (goodIn_of _ (by decide +kernel)) ggX3_placeWith_X1_costAbove
set_option maxRecDepth 20000 in
theorem ggX3_placeWith_X1_costBelow : GoodIn wsX3_placeWith wsX1_costBelow := goodIn_r _ [36, 31, 32, 49, 50, 51, 52, 53] (by decide +kernel) (by decide +kernel)
set_option maxRecDepth 20000 in
theorem gX3_placeWith_X1_costBelow : GoodIn wsX3_placeWith (wsV RX3 84 RX1 yX1_costBelow wsX1_costBelow) := goodIn_app (goodIn_of _ (by decide +kernel)) ggX3_placeWith_X1_costBelow
theorem dX3_placeWith_0 : decode cX3_placeWith 0 = .ok (.aload_n 0, 1) := by decide +kernel
theorem dX3_placeWith_1 : decode cX3_placeWith 1 = .ok (.iload_n 1, 1) := by decide +kernel
theorem dX3_placeWith_2 : decode cX3_placeWith 2 = .ok (.invokevirtual 57, 3) := by decide +kernel
theorem dX3_placeWith_5 : decode cX3_placeWith 5 = .ok (.iload_n 1, 1) := by decide +kernel
theorem dX3_placeWith_6 : decode cX3_placeWith 6 = .ok (.ifCond .lt 13, 3) := by decide +kernel
theorem dX3_placeWith_9 : decode cX3_placeWith 9 = .ok (.iload_n 1, 1) := by decide +kernel
theorem dX3_placeWith_10 : decode cX3_placeWith 10 = .ok (.bipush 14, 2) := by decide +kernel
theorem dX3_placeWith_12 : decode cX3_placeWith 12 = .ok (.if_icmp .gt 7, 3) := by decide +kernel
theorem dX3_placeWith_15 : decode cX3_placeWith 15 = .ok (.aload_n 2, 1) := by decide +kernel
theorem dX3_placeWith_16 : decode cX3_placeWith 16 = .ok (.ifnonnull 4, 3) := by decide +kernel
theorem dX3_placeWith_19 : decode cX3_placeWith 19 = .ok (.return_, 1) := by decide +kernel
theorem dX3_placeWith_20 : decode cX3_placeWith 20 = .ok (.aload_n 0, 1) := by decide +kernel
theorem dX3_placeWith_21 : decode cX3_placeWith 21 = .ok (.getfield 13, 3) := by decide +kernel
theorem dX3_placeWith_24 : decode cX3_placeWith 24 = .ok (.iload_n 1, 1) := by decide +kernel
theorem dX3_placeWith_25 : decode cX3_placeWith 25 = .ok (.aaload, 1) := by decide +kernel
theorem dX3_placeWith_26 : decode cX3_placeWith 26 = .ok (.astore 4, 2) := by decide +kernel
theorem dX3_placeWith_28 : decode cX3_placeWith 28 = .ok (.iconst 0, 1) := by decide +kernel
theorem dX3_placeWith_29 : decode cX3_placeWith 29 = .ok (.istore 5, 2) := by decide +kernel
theorem dX3_placeWith_31 : decode cX3_placeWith 31 = .ok (.iload 5, 2) := by decide +kernel
theorem dX3_placeWith_33 : decode cX3_placeWith 33 = .ok (.bipush 6, 2) := by decide +kernel
theorem dX3_placeWith_35 : decode cX3_placeWith 35 = .ok (.if_icmp .gt 15, 3) := by decide +kernel
theorem dX3_placeWith_38 : decode cX3_placeWith 38 = .ok (.aload 4, 2) := by decide +kernel
theorem dX3_placeWith_40 : decode cX3_placeWith 40 = .ok (.iload 5, 2) := by decide +kernel
theorem dX3_placeWith_42 : decode cX3_placeWith 42 = .ok (.lconst 0, 1) := by decide +kernel
theorem dX3_placeWith_43 : decode cX3_placeWith 43 = .ok (.lastore, 1) := by decide +kernel
theorem dX3_placeWith_44 : decode cX3_placeWith 44 = .ok (.iinc 5 1, 3) := by decide +kernel
theorem dX3_placeWith_47 : decode cX3_placeWith 47 = .ok (.goto (-16), 3) := by decide +kernel
theorem dX3_placeWith_50 : decode cX3_placeWith 50 = .ok (.aload 4, 2) := by decide +kernel
theorem dX3_placeWith_52 : decode cX3_placeWith 52 = .ok (.bipush 6, 2) := by decide +kernel
theorem dX3_placeWith_54 : decode cX3_placeWith 54 = .ok (.aload_n 0, 1) := by decide +kernel
theorem dX3_placeWith_55 : decode cX3_placeWith 55 = .ok (.getfield 16, 3) := by decide +kernel
theorem dX3_placeWith_58 : decode cX3_placeWith 58 = .ok (.lneg, 1) := by decide +kernel
theorem dX3_placeWith_59 : decode cX3_placeWith 59 = .ok (.iload_n 3, 1) := by decide +kernel
theorem dX3_placeWith_60 : decode cX3_placeWith 60 = .ok (.i2l, 1) := by decide +kernel
theorem dX3_placeWith_61 : decode cX3_placeWith 61 = .ok (.lmul, 1) := by decide +kernel
theorem dX3_placeWith_62 : decode cX3_placeWith 62 = .ok (.lastore, 1) := by decide +kernel
theorem dX3_placeWith_63 : decode cX3_placeWith 63 = .ok (.iconst 0, 1) := by decide +kernel
theorem dX3_placeWith_64 : decode cX3_placeWith 64 = .ok (.istore 5, 2) := by decide +kernel
theorem dX3_placeWith_66 : decode cX3_placeWith 66 = .ok (.iload 5, 2) := by decide +kernel
theorem dX3_placeWith_68 : decode cX3_placeWith 68 = .ok (.bipush 6, 2) := by decide +kernel
theorem dX3_placeWith_70 : decode cX3_placeWith 70 = .ok (.if_icmp .ge 23, 3) := by decide +kernel
theorem dX3_placeWith_73 : decode cX3_placeWith 73 = .ok (.aload_n 0, 1) := by decide +kernel
theorem dX3_placeWith_74 : decode cX3_placeWith 74 = .ok (.aload 4, 2) := by decide +kernel
theorem dX3_placeWith_76 : decode cX3_placeWith 76 = .ok (.aload_n 2, 1) := by decide +kernel
theorem dX3_placeWith_77 : decode cX3_placeWith 77 = .ok (.iload 5, 2) := by decide +kernel
theorem dX3_placeWith_79 : decode cX3_placeWith 79 = .ok (.invokevirtual 70, 3) := by decide +kernel
theorem dX3_placeWith_82 : decode cX3_placeWith 82 = .ok (.iload 5, 2) := by decide +kernel
theorem dX3_placeWith_84 : decode cX3_placeWith 84 = .ok (.invokevirtual 74, 3) := by decide +kernel
theorem dX3_placeWith_87 : decode cX3_placeWith 87 = .ok (.iinc 5 1, 3) := by decide +kernel
theorem dX3_placeWith_90 : decode cX3_placeWith 90 = .ok (.goto (-24), 3) := by decide +kernel
theorem dX3_placeWith_93 : decode cX3_placeWith 93 = .ok (.aload_n 0, 1) := by decide +kernel
theorem dX3_placeWith_94 : decode cX3_placeWith 94 = .ok (.getfield 20, 3) := by decide +kernel
theorem dX3_placeWith_97 : decode cX3_placeWith 97 = .ok (.iload_n 1, 1) := by decide +kernel
theorem dX3_placeWith_98 : decode cX3_placeWith 98 = .ok (.iconst 1, 1) := by decide +kernel
theorem dX3_placeWith_99 : decode cX3_placeWith 99 = .ok (.bastore, 1) := by decide +kernel
theorem dX3_placeWith_100 : decode cX3_placeWith 100 = .ok (.aload_n 0, 1) := by decide +kernel
theorem dX3_placeWith_101 : decode cX3_placeWith 101 = .ok (.getfield 24, 3) := by decide +kernel
theorem dX3_placeWith_104 : decode cX3_placeWith 104 = .ok (.iload_n 1, 1) := by decide +kernel
theorem dX3_placeWith_105 : decode cX3_placeWith 105 = .ok (.iload_n 3, 1) := by decide +kernel
theorem dX3_placeWith_106 : decode cX3_placeWith 106 = .ok (.iastore, 1) := by decide +kernel
theorem dX3_placeWith_107 : decode cX3_placeWith 107 = .ok (.aload_n 0, 1) := by decide +kernel
theorem dX3_placeWith_108 : decode cX3_placeWith 108 = .ok (.getfield 28, 3) := by decide +kernel
theorem dX3_placeWith_111 : decode cX3_placeWith 111 = .ok (.iload_n 1, 1) := by decide +kernel
theorem dX3_placeWith_112 : decode cX3_placeWith 112 = .ok (.aload_n 2, 1) := by decide +kernel
theorem dX3_placeWith_113 : decode cX3_placeWith 113 = .ok (.getfield 78, 3) := by decide +kernel
theorem dX3_placeWith_116 : decode cX3_placeWith 116 = .ok (.iastore, 1) := by decide +kernel
theorem dX3_placeWith_117 : decode cX3_placeWith 117 = .ok (.aload_n 0, 1) := by decide +kernel
theorem dX3_placeWith_118 : decode cX3_placeWith 118 = .ok (.getfield 31, 3) := by decide +kernel
theorem dX3_placeWith_121 : decode cX3_placeWith 121 = .ok (.iload_n 1, 1) := by decide +kernel
theorem dX3_placeWith_122 : decode cX3_placeWith 122 = .ok (.aload_n 2, 1) := by decide +kernel
theorem dX3_placeWith_123 : decode cX3_placeWith 123 = .ok (.invokevirtual 81, 3) := by decide +kernel
theorem dX3_placeWith_126 : decode cX3_placeWith 126 = .ok (.iastore, 1) := by decide +kernel
theorem dX3_placeWith_127 : decode cX3_placeWith 127 = .ok (.aload_n 0, 1) := by decide +kernel
theorem dX3_placeWith_128 : decode cX3_placeWith 128 = .ok (.getfield 34, 3) := by decide +kernel
theorem dX3_placeWith_131 : decode cX3_placeWith 131 = .ok (.iload_n 1, 1) := by decide +kernel
theorem dX3_placeWith_132 : decode cX3_placeWith 132 = .ok (.aload_n 2, 1) := by decide +kernel
theorem dX3_placeWith_133 : decode cX3_placeWith 133 = .ok (.invokevirtual 84, 3) := by decide +kernel
theorem dX3_placeWith_136 : decode cX3_placeWith 136 = .ok (.iastore, 1) := by decide +kernel
theorem dX3_placeWith_137 : decode cX3_placeWith 137 = .ok (.aload_n 0, 1) := by decide +kernel
theorem dX3_placeWith_138 : decode cX3_placeWith 138 = .ok (.getfield 37, 3) := by decide +kernel
theorem dX3_placeWith_141 : decode cX3_placeWith 141 = .ok (.iload_n 1, 1) := by decide +kernel
theorem dX3_placeWith_142 : decode cX3_placeWith 142 = .ok (.aload 4, 2) := by decide +kernel
theorem dX3_placeWith_144 : decode cX3_placeWith 144 = .ok (.bipush 6, 2) := by decide +kernel
theorem dX3_placeWith_146 : decode cX3_placeWith 146 = .ok (.laload, 1) := by decide +kernel
theorem dX3_placeWith_147 : decode cX3_placeWith 147 = .ok (.lconst 0, 1) := by decide +kernel
theorem dX3_placeWith_148 : decode cX3_placeWith 148 = .ok (.lcmp, 1) := by decide +kernel
theorem dX3_placeWith_149 : decode cX3_placeWith 149 = .ok (.ifCond .ge 7, 3) := by decide +kernel
theorem dX3_placeWith_152 : decode cX3_placeWith 152 = .ok (.iconst (-1), 1) := by decide +kernel
theorem dX3_placeWith_153 : decode cX3_placeWith 153 = .ok (.goto 4, 3) := by decide +kernel
theorem dX3_placeWith_156 : decode cX3_placeWith 156 = .ok (.iconst 1, 1) := by decide +kernel
theorem dX3_placeWith_157 : decode cX3_placeWith 157 = .ok (.iastore, 1) := by decide +kernel
theorem dX3_placeWith_158 : decode cX3_placeWith 158 = .ok (.return_, 1) := by decide +kernel
theorem dX3_addVariable_0 : decode cX3_addVariable 0 = .ok (.iload_n 2, 1) := by decide +kernel
theorem dX3_addVariable_1 : decode cX3_addVariable 1 = .ok (.ifCond .eq 20, 3) := by decide +kernel
theorem dX3_addVariable_4 : decode cX3_addVariable 4 = .ok (.iload_n 3, 1) := by decide +kernel
theorem dX3_addVariable_5 : decode cX3_addVariable 5 = .ok (.ifCond .lt 16, 3) := by decide +kernel
theorem dX3_addVariable_8 : decode cX3_addVariable 8 = .ok (.iload_n 3, 1) := by decide +kernel
theorem dX3_addVariable_9 : decode cX3_addVariable 9 = .ok (.bipush 6, 2) := by decide +kernel
theorem dX3_addVariable_11 : decode cX3_addVariable 11 = .ok (.if_icmp .ge 10, 3) := by decide +kernel
theorem dX3_addVariable_14 : decode cX3_addVariable 14 = .ok (.aload_n 1, 1) := by decide +kernel
theorem dX3_addVariable_15 : decode cX3_addVariable 15 = .ok (.arraylength, 1) := by decide +kernel
theorem dX3_addVariable_16 : decode cX3_addVariable 16 = .ok (.bipush 6, 2) := by decide +kernel
theorem dX3_addVariable_18 : decode cX3_addVariable 18 = .ok (.if_icmp .gt 4, 3) := by decide +kernel
theorem dX3_addVariable_21 : decode cX3_addVariable 21 = .ok (.return_, 1) := by decide +kernel
theorem dX3_addVariable_22 : decode cX3_addVariable 22 = .ok (.aload_n 0, 1) := by decide +kernel
theorem dX3_addVariable_23 : decode cX3_addVariable 23 = .ok (.getfield 13, 3) := by decide +kernel
theorem dX3_addVariable_26 : decode cX3_addVariable 26 = .ok (.bipush 15, 2) := by decide +kernel
theorem dX3_addVariable_28 : decode cX3_addVariable 28 = .ok (.iload_n 3, 1) := by decide +kernel
theorem dX3_addVariable_29 : decode cX3_addVariable 29 = .ok (.iadd, 1) := by decide +kernel
theorem dX3_addVariable_30 : decode cX3_addVariable 30 = .ok (.aaload, 1) := by decide +kernel
theorem dX3_addVariable_31 : decode cX3_addVariable 31 = .ok (.astore 4, 2) := by decide +kernel
theorem dX3_addVariable_33 : decode cX3_addVariable 33 = .ok (.iconst 0, 1) := by decide +kernel
theorem dX3_addVariable_34 : decode cX3_addVariable 34 = .ok (.istore 5, 2) := by decide +kernel
theorem dX3_addVariable_36 : decode cX3_addVariable 36 = .ok (.iload 5, 2) := by decide +kernel
theorem dX3_addVariable_38 : decode cX3_addVariable 38 = .ok (.bipush 6, 2) := by decide +kernel
theorem dX3_addVariable_40 : decode cX3_addVariable 40 = .ok (.if_icmp .gt 24, 3) := by decide +kernel
theorem dX3_addVariable_43 : decode cX3_addVariable 43 = .ok (.aload_n 1, 1) := by decide +kernel
theorem dX3_addVariable_44 : decode cX3_addVariable 44 = .ok (.iload 5, 2) := by decide +kernel
theorem dX3_addVariable_46 : decode cX3_addVariable 46 = .ok (.dup2, 1) := by decide +kernel
theorem dX3_addVariable_47 : decode cX3_addVariable 47 = .ok (.laload, 1) := by decide +kernel
theorem dX3_addVariable_48 : decode cX3_addVariable 48 = .ok (.iload_n 2, 1) := by decide +kernel
theorem dX3_addVariable_49 : decode cX3_addVariable 49 = .ok (.i2l, 1) := by decide +kernel
theorem dX3_addVariable_50 : decode cX3_addVariable 50 = .ok (.aload 4, 2) := by decide +kernel
theorem dX3_addVariable_52 : decode cX3_addVariable 52 = .ok (.iload 5, 2) := by decide +kernel
theorem dX3_addVariable_54 : decode cX3_addVariable 54 = .ok (.laload, 1) := by decide +kernel
theorem dX3_addVariable_55 : decode cX3_addVariable 55 = .ok (.lmul, 1) := by decide +kernel
theorem dX3_addVariable_56 : decode cX3_addVariable 56 = .ok (.ladd, 1) := by decide +kernel
theorem dX3_addVariable_57 : decode cX3_addVariable 57 = .ok (.lastore, 1) := by decide +kernel
theorem dX3_addVariable_58 : decode cX3_addVariable 58 = .ok (.iinc 5 1, 3) := by decide +kernel
theorem dX3_addVariable_61 : decode cX3_addVariable 61 = .ok (.goto (-25), 3) := by decide +kernel
theorem dX3_addVariable_64 : decode cX3_addVariable 64 = .ok (.aload_n 1, 1) := by decide +kernel
theorem dX3_addVariable_65 : decode cX3_addVariable 65 = .ok (.bipush 6, 2) := by decide +kernel
theorem dX3_addVariable_67 : decode cX3_addVariable 67 = .ok (.dup2, 1) := by decide +kernel
theorem dX3_addVariable_68 : decode cX3_addVariable 68 = .ok (.laload, 1) := by decide +kernel
theorem dX3_addVariable_69 : decode cX3_addVariable 69 = .ok (.iload_n 2, 1) := by decide +kernel
theorem dX3_addVariable_70 : decode cX3_addVariable 70 = .ok (.sipush 1000, 3) := by decide +kernel
theorem dX3_addVariable_73 : decode cX3_addVariable 73 = .ok (.imul, 1) := by decide +kernel
theorem dX3_addVariable_74 : decode cX3_addVariable 74 = .ok (.i2l, 1) := by decide +kernel
theorem dX3_addVariable_75 : decode cX3_addVariable 75 = .ok (.aload_n 0, 1) := by decide +kernel
theorem dX3_addVariable_76 : decode cX3_addVariable 76 = .ok (.getfield 16, 3) := by decide +kernel
theorem dX3_addVariable_79 : decode cX3_addVariable 79 = .ok (.lmul, 1) := by decide +kernel
theorem dX3_addVariable_80 : decode cX3_addVariable 80 = .ok (.ladd, 1) := by decide +kernel
theorem dX3_addVariable_81 : decode cX3_addVariable 81 = .ok (.lastore, 1) := by decide +kernel
theorem dX3_addVariable_82 : decode cX3_addVariable 82 = .ok (.return_, 1) := by decide +kernel
theorem dX3_lift_0 : decode cX3_lift 0 = .ok (.iload_n 1, 1) := by decide +kernel
theorem dX3_lift_1 : decode cX3_lift 1 = .ok (.ifCond .lt 9, 3) := by decide +kernel
theorem dX3_lift_4 : decode cX3_lift 4 = .ok (.iload_n 1, 1) := by decide +kernel
theorem dX3_lift_5 : decode cX3_lift 5 = .ok (.bipush 14, 2) := by decide +kernel
theorem dX3_lift_7 : decode cX3_lift 7 = .ok (.if_icmp .le 4, 3) := by decide +kernel
theorem dX3_lift_10 : decode cX3_lift 10 = .ok (.return_, 1) := by decide +kernel
theorem dX3_lift_11 : decode cX3_lift 11 = .ok (.aload_n 0, 1) := by decide +kernel
theorem dX3_lift_12 : decode cX3_lift 12 = .ok (.getfield 40, 3) := by decide +kernel
theorem dX3_lift_15 : decode cX3_lift 15 = .ok (.iload_n 1, 1) := by decide +kernel
theorem dX3_lift_16 : decode cX3_lift 16 = .ok (.iaload, 1) := by decide +kernel
theorem dX3_lift_17 : decode cX3_lift 17 = .ok (.istore_n 2, 1) := by decide +kernel
theorem dX3_lift_18 : decode cX3_lift 18 = .ok (.iload_n 2, 1) := by decide +kernel
theorem dX3_lift_19 : decode cX3_lift 19 = .ok (.ifCond .lt 16, 3) := by decide +kernel
theorem dX3_lift_22 : decode cX3_lift 22 = .ok (.iload_n 2, 1) := by decide +kernel
theorem dX3_lift_23 : decode cX3_lift 23 = .ok (.bipush 6, 2) := by decide +kernel
theorem dX3_lift_25 : decode cX3_lift 25 = .ok (.if_icmp .ge 10, 3) := by decide +kernel
theorem dX3_lift_28 : decode cX3_lift 28 = .ok (.aload_n 0, 1) := by decide +kernel
theorem dX3_lift_29 : decode cX3_lift 29 = .ok (.getfield 43, 3) := by decide +kernel
theorem dX3_lift_32 : decode cX3_lift 32 = .ok (.iload_n 2, 1) := by decide +kernel
theorem dX3_lift_33 : decode cX3_lift 33 = .ok (.iconst (-1), 1) := by decide +kernel
theorem dX3_lift_34 : decode cX3_lift 34 = .ok (.iastore, 1) := by decide +kernel
theorem dX3_lift_35 : decode cX3_lift 35 = .ok (.aload_n 0, 1) := by decide +kernel
theorem dX3_lift_36 : decode cX3_lift 36 = .ok (.getfield 40, 3) := by decide +kernel
theorem dX3_lift_39 : decode cX3_lift 39 = .ok (.iload_n 1, 1) := by decide +kernel
theorem dX3_lift_40 : decode cX3_lift 40 = .ok (.iconst (-1), 1) := by decide +kernel
theorem dX3_lift_41 : decode cX3_lift 41 = .ok (.iastore, 1) := by decide +kernel
theorem dX3_lift_42 : decode cX3_lift 42 = .ok (.aload_n 0, 1) := by decide +kernel
theorem dX3_lift_43 : decode cX3_lift 43 = .ok (.getfield 20, 3) := by decide +kernel
theorem dX3_lift_46 : decode cX3_lift 46 = .ok (.iload_n 1, 1) := by decide +kernel
theorem dX3_lift_47 : decode cX3_lift 47 = .ok (.iconst 0, 1) := by decide +kernel
theorem dX3_lift_48 : decode cX3_lift 48 = .ok (.bastore, 1) := by decide +kernel
theorem dX3_lift_49 : decode cX3_lift 49 = .ok (.return_, 1) := by decide +kernel
set_option maxRecDepth 20000 in
theorem ggX3_isFeasible_X3_descend : GoodIn wsX3_isFeasible wsX3_descend := goodIn_r _ [7, 8, 9, 10, 11, 12, 6, 13, 14, 1, 15, 2, 16, 17, 18, 19, 20, 21, 22, 23, 24, 25, 26, 27, 28, 29, 30, 31, 32, 33, 34, 35, 36, 37, 38, 39, 40, 41, 42, 43, 44, 45, 46, 47, 48, 49, 50, 51, 52, 53, 58, 59, 60, 61, 62, 63, 64, 65, 66, 67, 68, 69] (by decide +kernel) (by decide +kernel)
set_option maxRecDepth 20000 in
theorem gX3_isFeasible_X3_descend : GoodIn wsX3_isFeasible (wsV RX3 86 RX3 yX3_descend wsX3_descend) := goodIn_app (goodIn_of _ (by decide +kernel)) ggX3_isFeasible_X3_descend
set_option maxRecDepth 20000 in
theorem ggX3_isFeasible_X3_costOf : GoodIn wsX3_isFeasible wsX3_costOf := goodIn_r _ [57, 23, 17, 18, 58, 59, 60, 61, 62, 63, 64, 65, 66, 67, 68, 69] (by decide +kernel) (by decide +kernel)
set_option maxRecDepth 20000 in
theorem gX3_isFeasible_X3_costOf : GoodIn wsX3_isFeasible (wsV RX3 89 RX3 yX3_costOf wsX3_costOf) := goodIn_app (goodIn_of _ (by decide +kernel)) ggX3_isFeasible_X3_costOf
theorem dX3_isFeasible_0 : decode cX3_isFeasible 0 = .ok (.aload_n 0, 1) := by decide +kernel
theorem dX3_isFeasible_1 : decode cX3_isFeasible 1 = .ok (.iconst (-1), 1) := by decide +kernel
theorem dX3_isFeasible_2 : decode cX3_isFeasible 2 = .ok (.iconst 1, 1) := by decide +kernel
theorem dX3_isFeasible_3 : decode cX3_isFeasible 3 = .ok (.iconst 1, 1) := by decide +kernel
theorem dX3_isFeasible_4 : decode cX3_isFeasible 4 = .ok (.invokevirtual 86, 3) := by decide +kernel
theorem dX3_isFeasible_7 : decode cX3_isFeasible 7 = .ok (.lconst 0, 1) := by decide +kernel
theorem dX3_isFeasible_8 : decode cX3_isFeasible 8 = .ok (.lstore_n 1, 1) := by decide +kernel
theorem dX3_isFeasible_9 : decode cX3_isFeasible 9 = .ok (.iconst 0, 1) := by decide +kernel
theorem dX3_isFeasible_10 : decode cX3_isFeasible 10 = .ok (.istore_n 3, 1) := by decide +kernel
theorem dX3_isFeasible_11 : decode cX3_isFeasible 11 = .ok (.iload_n 3, 1) := by decide +kernel
theorem dX3_isFeasible_12 : decode cX3_isFeasible 12 = .ok (.bipush 27, 2) := by decide +kernel
theorem dX3_isFeasible_14 : decode cX3_isFeasible 14 = .ok (.if_icmp .ge 35, 3) := by decide +kernel
theorem dX3_isFeasible_17 : decode cX3_isFeasible 17 = .ok (.aload_n 0, 1) := by decide +kernel
theorem dX3_isFeasible_18 : decode cX3_isFeasible 18 = .ok (.getfield 20, 3) := by decide +kernel
theorem dX3_isFeasible_21 : decode cX3_isFeasible 21 = .ok (.iload_n 3, 1) := by decide +kernel
theorem dX3_isFeasible_22 : decode cX3_isFeasible 22 = .ok (.baload, 1) := by decide +kernel
theorem dX3_isFeasible_23 : decode cX3_isFeasible 23 = .ok (.ifCond .eq 20, 3) := by decide +kernel
theorem dX3_isFeasible_26 : decode cX3_isFeasible 26 = .ok (.aload_n 0, 1) := by decide +kernel
theorem dX3_isFeasible_27 : decode cX3_isFeasible 27 = .ok (.getfield 28, 3) := by decide +kernel
theorem dX3_isFeasible_30 : decode cX3_isFeasible 30 = .ok (.iload_n 3, 1) := by decide +kernel
theorem dX3_isFeasible_31 : decode cX3_isFeasible 31 = .ok (.iaload, 1) := by decide +kernel
theorem dX3_isFeasible_32 : decode cX3_isFeasible 32 = .ok (.ifCond .ne 11, 3) := by decide +kernel
theorem dX3_isFeasible_35 : decode cX3_isFeasible 35 = .ok (.lload_n 1, 1) := by decide +kernel
theorem dX3_isFeasible_36 : decode cX3_isFeasible 36 = .ok (.aload_n 0, 1) := by decide +kernel
theorem dX3_isFeasible_37 : decode cX3_isFeasible 37 = .ok (.iload_n 3, 1) := by decide +kernel
theorem dX3_isFeasible_38 : decode cX3_isFeasible 38 = .ok (.invokevirtual 89, 3) := by decide +kernel
theorem dX3_isFeasible_41 : decode cX3_isFeasible 41 = .ok (.ladd, 1) := by decide +kernel
theorem dX3_isFeasible_42 : decode cX3_isFeasible 42 = .ok (.lstore_n 1, 1) := by decide +kernel
theorem dX3_isFeasible_43 : decode cX3_isFeasible 43 = .ok (.iinc 3 1, 3) := by decide +kernel
theorem dX3_isFeasible_46 : decode cX3_isFeasible 46 = .ok (.goto (-35), 3) := by decide +kernel
theorem dX3_isFeasible_49 : decode cX3_isFeasible 49 = .ok (.lload_n 1, 1) := by decide +kernel
theorem dX3_isFeasible_50 : decode cX3_isFeasible 50 = .ok (.lconst 0, 1) := by decide +kernel
theorem dX3_isFeasible_51 : decode cX3_isFeasible 51 = .ok (.lcmp, 1) := by decide +kernel
theorem dX3_isFeasible_52 : decode cX3_isFeasible 52 = .ok (.ifCond .ne 7, 3) := by decide +kernel
theorem dX3_isFeasible_55 : decode cX3_isFeasible 55 = .ok (.iconst 1, 1) := by decide +kernel
theorem dX3_isFeasible_56 : decode cX3_isFeasible 56 = .ok (.goto 4, 3) := by decide +kernel
theorem dX3_isFeasible_59 : decode cX3_isFeasible 59 = .ok (.iconst 0, 1) := by decide +kernel
theorem dX3_isFeasible_60 : decode cX3_isFeasible 60 = .ok (.ireturn, 1) := by decide +kernel
set_option maxRecDepth 20000 in
theorem ggX3_tellCosts_X2_clear : GoodIn wsX3_tellCosts wsX2_clear := goodIn_r _ [8, 9, 10, 35, 36] (by decide +kernel) (by decide +kernel)
set_option maxRecDepth 20000 in
theorem gX3_tellCosts_X2_clear : GoodIn wsX3_tellCosts (wsV RX3 93 RX2 yX2_clear wsX2_clear) := goodIn_app (goodIn_of _ (by decide +kernel)) ggX3_tellCosts_X2_clear
set_option maxRecDepth 20000 in
theorem ggX3_tellCosts_X3_costOf : GoodIn wsX3_tellCosts wsX3_costOf := goodIn_r _ [15, 16, 17, 18, 23, 24, 25, 26, 27, 28, 29, 30, 31, 32, 33, 34] (by decide +kernel) (by decide +kernel)
set_option maxRecDepth 20000 in
theorem gX3_tellCosts_X3_costOf : GoodIn wsX3_tellCosts (wsV RX3 89 RX3 yX3_costOf wsX3_costOf) := goodIn_app (goodIn_of _ (by decide +kernel)) ggX3_tellCosts_X3_costOf
set_option maxRecDepth 20000 in
theorem ggX3_tellCosts_X2_increase : GoodIn wsX3_tellCosts wsX2_increase := goodIn_r _ [22, 9, 35, 36] (by decide +kernel) (by decide +kernel)
set_option maxRecDepth 20000 in
theorem gX3_tellCosts_X2_increase : GoodIn wsX3_tellCosts (wsV RX3 99 RX2 yX2_increase wsX2_increase) := goodIn_app (goodIn_of _ (by decide +kernel)) ggX3_tellCosts_X2_increase
theorem dX3_tellCosts_0 : decode cX3_tellCosts 0 = .ok (.aload_n 1, 1) := by decide +kernel
theorem dX3_tellCosts_1 : decode cX3_tellCosts 1 = .ok (.aload_n 0, 1) := by decide +kernel
theorem dX3_tellCosts_2 : decode cX3_tellCosts 2 = .ok (.getfield 16, 3) := by decide +kernel
theorem dX3_tellCosts_5 : decode cX3_tellCosts 5 = .ok (.invokevirtual 93, 3) := by decide +kernel
theorem dX3_tellCosts_8 : decode cX3_tellCosts 8 = .ok (.iconst 0, 1) := by decide +kernel
theorem dX3_tellCosts_9 : decode cX3_tellCosts 9 = .ok (.istore_n 2, 1) := by decide +kernel
theorem dX3_tellCosts_10 : decode cX3_tellCosts 10 = .ok (.iload_n 2, 1) := by decide +kernel
theorem dX3_tellCosts_11 : decode cX3_tellCosts 11 = .ok (.bipush 27, 2) := by decide +kernel
theorem dX3_tellCosts_13 : decode cX3_tellCosts 13 = .ok (.if_icmp .ge 33, 3) := by decide +kernel
theorem dX3_tellCosts_16 : decode cX3_tellCosts 16 = .ok (.aload_n 0, 1) := by decide +kernel
theorem dX3_tellCosts_17 : decode cX3_tellCosts 17 = .ok (.getfield 20, 3) := by decide +kernel
theorem dX3_tellCosts_20 : decode cX3_tellCosts 20 = .ok (.iload_n 2, 1) := by decide +kernel
theorem dX3_tellCosts_21 : decode cX3_tellCosts 21 = .ok (.baload, 1) := by decide +kernel
theorem dX3_tellCosts_22 : decode cX3_tellCosts 22 = .ok (.ifCond .eq 18, 3) := by decide +kernel
theorem dX3_tellCosts_25 : decode cX3_tellCosts 25 = .ok (.aload_n 1, 1) := by decide +kernel
theorem dX3_tellCosts_26 : decode cX3_tellCosts 26 = .ok (.aload_n 0, 1) := by decide +kernel
theorem dX3_tellCosts_27 : decode cX3_tellCosts 27 = .ok (.getfield 28, 3) := by decide +kernel
theorem dX3_tellCosts_30 : decode cX3_tellCosts 30 = .ok (.iload_n 2, 1) := by decide +kernel
theorem dX3_tellCosts_31 : decode cX3_tellCosts 31 = .ok (.iaload, 1) := by decide +kernel
theorem dX3_tellCosts_32 : decode cX3_tellCosts 32 = .ok (.aload_n 0, 1) := by decide +kernel
theorem dX3_tellCosts_33 : decode cX3_tellCosts 33 = .ok (.iload_n 2, 1) := by decide +kernel
theorem dX3_tellCosts_34 : decode cX3_tellCosts 34 = .ok (.invokevirtual 89, 3) := by decide +kernel
theorem dX3_tellCosts_37 : decode cX3_tellCosts 37 = .ok (.invokevirtual 99, 3) := by decide +kernel
theorem dX3_tellCosts_40 : decode cX3_tellCosts 40 = .ok (.iinc 2 1, 3) := by decide +kernel
theorem dX3_tellCosts_43 : decode cX3_tellCosts 43 = .ok (.goto (-33), 3) := by decide +kernel
theorem dX3_tellCosts_46 : decode cX3_tellCosts 46 = .ok (.return_, 1) := by decide +kernel
theorem dX3_costOf_0 : decode cX3_costOf 0 = .ok (.iload_n 1, 1) := by decide +kernel
theorem dX3_costOf_1 : decode cX3_costOf 1 = .ok (.ifCond .lt 9, 3) := by decide +kernel
theorem dX3_costOf_4 : decode cX3_costOf 4 = .ok (.iload_n 1, 1) := by decide +kernel
theorem dX3_costOf_5 : decode cX3_costOf 5 = .ok (.bipush 27, 2) := by decide +kernel
theorem dX3_costOf_7 : decode cX3_costOf 7 = .ok (.if_icmp .lt 5, 3) := by decide +kernel
theorem dX3_costOf_10 : decode cX3_costOf 10 = .ok (.lconst 0, 1) := by decide +kernel
theorem dX3_costOf_11 : decode cX3_costOf 11 = .ok (.lreturn, 1) := by decide +kernel
theorem dX3_costOf_12 : decode cX3_costOf 12 = .ok (.aload_n 0, 1) := by decide +kernel
theorem dX3_costOf_13 : decode cX3_costOf 13 = .ok (.getfield 13, 3) := by decide +kernel
theorem dX3_costOf_16 : decode cX3_costOf 16 = .ok (.iload_n 1, 1) := by decide +kernel
theorem dX3_costOf_17 : decode cX3_costOf 17 = .ok (.aaload, 1) := by decide +kernel
theorem dX3_costOf_18 : decode cX3_costOf 18 = .ok (.bipush 6, 2) := by decide +kernel
theorem dX3_costOf_20 : decode cX3_costOf 20 = .ok (.laload, 1) := by decide +kernel
theorem dX3_costOf_21 : decode cX3_costOf 21 = .ok (.lstore_n 2, 1) := by decide +kernel
theorem dX3_costOf_22 : decode cX3_costOf 22 = .ok (.lload_n 2, 1) := by decide +kernel
theorem dX3_costOf_23 : decode cX3_costOf 23 = .ok (.lconst 0, 1) := by decide +kernel
theorem dX3_costOf_24 : decode cX3_costOf 24 = .ok (.lcmp, 1) := by decide +kernel
theorem dX3_costOf_25 : decode cX3_costOf 25 = .ok (.ifCond .le 15, 3) := by decide +kernel
theorem dX3_costOf_28 : decode cX3_costOf 28 = .ok (.aload_n 0, 1) := by decide +kernel
theorem dX3_costOf_29 : decode cX3_costOf 29 = .ok (.getfield 31, 3) := by decide +kernel
theorem dX3_costOf_32 : decode cX3_costOf 32 = .ok (.iload_n 1, 1) := by decide +kernel
theorem dX3_costOf_33 : decode cX3_costOf 33 = .ok (.iaload, 1) := by decide +kernel
theorem dX3_costOf_34 : decode cX3_costOf 34 = .ok (.i2l, 1) := by decide +kernel
theorem dX3_costOf_35 : decode cX3_costOf 35 = .ok (.lload_n 2, 1) := by decide +kernel
theorem dX3_costOf_36 : decode cX3_costOf 36 = .ok (.lmul, 1) := by decide +kernel
theorem dX3_costOf_37 : decode cX3_costOf 37 = .ok (.goto 13, 3) := by decide +kernel
theorem dX3_costOf_40 : decode cX3_costOf 40 = .ok (.aload_n 0, 1) := by decide +kernel
theorem dX3_costOf_41 : decode cX3_costOf 41 = .ok (.getfield 34, 3) := by decide +kernel
theorem dX3_costOf_44 : decode cX3_costOf 44 = .ok (.iload_n 1, 1) := by decide +kernel
theorem dX3_costOf_45 : decode cX3_costOf 45 = .ok (.iaload, 1) := by decide +kernel
theorem dX3_costOf_46 : decode cX3_costOf 46 = .ok (.i2l, 1) := by decide +kernel
theorem dX3_costOf_47 : decode cX3_costOf 47 = .ok (.lload_n 2, 1) := by decide +kernel
theorem dX3_costOf_48 : decode cX3_costOf 48 = .ok (.lneg, 1) := by decide +kernel
theorem dX3_costOf_49 : decode cX3_costOf 49 = .ok (.lmul, 1) := by decide +kernel
theorem dX3_costOf_50 : decode cX3_costOf 50 = .ok (.lreturn, 1) := by decide +kernel
theorem dX3_denominator_0 : decode cX3_denominator 0 = .ok (.aload_n 0, 1) := by decide +kernel
theorem dX3_denominator_1 : decode cX3_denominator 1 = .ok (.getfield 16, 3) := by decide +kernel
theorem dX3_denominator_4 : decode cX3_denominator 4 = .ok (.lreturn, 1) := by decide +kernel
theorem dX3_numerator_0 : decode cX3_numerator 0 = .ok (.iload_n 1, 1) := by decide +kernel
theorem dX3_numerator_1 : decode cX3_numerator 1 = .ok (.ifCond .lt 9, 3) := by decide +kernel
theorem dX3_numerator_4 : decode cX3_numerator 4 = .ok (.iload_n 1, 1) := by decide +kernel
theorem dX3_numerator_5 : decode cX3_numerator 5 = .ok (.bipush 27, 2) := by decide +kernel
theorem dX3_numerator_7 : decode cX3_numerator 7 = .ok (.if_icmp .lt 7, 3) := by decide +kernel
theorem dX3_numerator_10 : decode cX3_numerator 10 = .ok (.lconst 0, 1) := by decide +kernel
theorem dX3_numerator_11 : decode cX3_numerator 11 = .ok (.goto 25, 3) := by decide +kernel
theorem dX3_numerator_14 : decode cX3_numerator 14 = .ok (.aload_n 0, 1) := by decide +kernel
theorem dX3_numerator_15 : decode cX3_numerator 15 = .ok (.getfield 13, 3) := by decide +kernel
theorem dX3_numerator_18 : decode cX3_numerator 18 = .ok (.iload_n 1, 1) := by decide +kernel
theorem dX3_numerator_19 : decode cX3_numerator 19 = .ok (.aaload, 1) := by decide +kernel
theorem dX3_numerator_20 : decode cX3_numerator 20 = .ok (.bipush 6, 2) := by decide +kernel
theorem dX3_numerator_22 : decode cX3_numerator 22 = .ok (.laload, 1) := by decide +kernel
theorem dX3_numerator_23 : decode cX3_numerator 23 = .ok (.aload_n 0, 1) := by decide +kernel
theorem dX3_numerator_24 : decode cX3_numerator 24 = .ok (.getfield 24, 3) := by decide +kernel
theorem dX3_numerator_27 : decode cX3_numerator 27 = .ok (.iload_n 1, 1) := by decide +kernel
theorem dX3_numerator_28 : decode cX3_numerator 28 = .ok (.iaload, 1) := by decide +kernel
theorem dX3_numerator_29 : decode cX3_numerator 29 = .ok (.i2l, 1) := by decide +kernel
theorem dX3_numerator_30 : decode cX3_numerator 30 = .ok (.aload_n 0, 1) := by decide +kernel
theorem dX3_numerator_31 : decode cX3_numerator 31 = .ok (.getfield 16, 3) := by decide +kernel
theorem dX3_numerator_34 : decode cX3_numerator 34 = .ok (.lmul, 1) := by decide +kernel
theorem dX3_numerator_35 : decode cX3_numerator 35 = .ok (.ladd, 1) := by decide +kernel
theorem dX3_numerator_36 : decode cX3_numerator 36 = .ok (.lreturn, 1) := by decide +kernel
set_option maxRecDepth 20000 in
theorem ggX3_signOf_J13_compare_74951 : GoodIn wsX3_signOf wsJ13_compare_74951 := goodIn_r _ [5] (by decide +kernel) (by decide +kernel)
set_option maxRecDepth 20000 in
theorem gX3_signOf_J13_compare_74951 : GoodIn wsX3_signOf (va_wsS RX3 103 yJ13_compare_74951 wsJ13_compare_74951) := goodIn_app (goodIn_of _ (by decide +kernel)) ggX3_signOf_J13_compare_74951
theorem dX3_signOf_0 : decode cX3_signOf 0 = .ok (.iload_n 1, 1) := by decide +kernel
theorem dX3_signOf_1 : decode cX3_signOf 1 = .ok (.ifCond .lt 9, 3) := by decide +kernel
theorem dX3_signOf_4 : decode cX3_signOf 4 = .ok (.iload_n 1, 1) := by decide +kernel
theorem dX3_signOf_5 : decode cX3_signOf 5 = .ok (.bipush 27, 2) := by decide +kernel
theorem dX3_signOf_7 : decode cX3_signOf 7 = .ok (.if_icmp .lt 7, 3) := by decide +kernel
theorem dX3_signOf_10 : decode cX3_signOf 10 = .ok (.iconst 0, 1) := by decide +kernel
theorem dX3_signOf_11 : decode cX3_signOf 11 = .ok (.goto 16, 3) := by decide +kernel
theorem dX3_signOf_14 : decode cX3_signOf 14 = .ok (.aload_n 0, 1) := by decide +kernel
theorem dX3_signOf_15 : decode cX3_signOf 15 = .ok (.getfield 13, 3) := by decide +kernel
theorem dX3_signOf_18 : decode cX3_signOf 18 = .ok (.iload_n 1, 1) := by decide +kernel
theorem dX3_signOf_19 : decode cX3_signOf 19 = .ok (.aaload, 1) := by decide +kernel
theorem dX3_signOf_20 : decode cX3_signOf 20 = .ok (.bipush 6, 2) := by decide +kernel
theorem dX3_signOf_22 : decode cX3_signOf 22 = .ok (.laload, 1) := by decide +kernel
theorem dX3_signOf_23 : decode cX3_signOf 23 = .ok (.lconst 0, 1) := by decide +kernel
theorem dX3_signOf_24 : decode cX3_signOf 24 = .ok (.invokestatic 103, 3) := by decide +kernel
theorem dX3_signOf_27 : decode cX3_signOf 27 = .ok (.ireturn, 1) := by decide +kernel
set_option maxRecDepth 20000 in
theorem ggX3_settle_X3_descend : GoodIn wsX3_settle wsX3_descend := goodIn_r _ [5, 6, 7, 8, 9, 10, 4, 11, 12, 13, 14, 15, 16, 17, 18, 19, 20, 21, 22, 23, 24, 25, 26, 27, 28, 29, 30, 31, 32, 33, 34, 35, 36, 37, 38, 39, 40, 41, 42, 43, 44, 45, 46, 47, 48, 49, 50, 51, 52, 53, 54, 55, 56, 57, 58, 59, 60, 61, 62, 63, 64, 65] (by decide +kernel) (by decide +kernel)
set_option maxRecDepth 20000 in
theorem gX3_settle_X3_descend : GoodIn wsX3_settle (wsV RX3 86 RX3 yX3_descend wsX3_descend) := goodIn_app (goodIn_of _ (by decide +kernel)) ggX3_settle_X3_descend
theorem dX3_settle_0 : decode cX3_settle 0 = .ok (.aload_n 0, 1) := by decide +kernel
theorem dX3_settle_1 : decode cX3_settle 1 = .ok (.iconst (-1), 1) := by decide +kernel
theorem dX3_settle_2 : decode cX3_settle 2 = .ok (.iconst 1, 1) := by decide +kernel
theorem dX3_settle_3 : decode cX3_settle 3 = .ok (.iconst 4, 1) := by decide +kernel
theorem dX3_settle_4 : decode cX3_settle 4 = .ok (.invokevirtual 86, 3) := by decide +kernel
theorem dX3_settle_7 : decode cX3_settle 7 = .ok (.return_, 1) := by decide +kernel
set_option maxRecDepth 20000 in
theorem ggX3_goTo_X3_descend : GoodIn wsX3_goTo wsX3_descend := goodIn_r _ [5, 6, 7, 8, 9, 10, 4, 11, 12, 13, 14, 15, 16, 17, 18, 19, 20, 21, 22, 23, 24, 25, 26, 27, 28, 29, 30, 31, 32, 33, 34, 35, 36, 37, 38, 39, 40, 41, 42, 43, 44, 45, 46, 47, 48, 49, 50, 51, 52, 53, 54, 55, 56, 57, 58, 59, 60, 61, 62, 63, 64, 65] (by decide +kernel) (by decide +kernel)
set_option maxRecDepth 20000 in
theorem gX3_goTo_X3_descend : GoodIn wsX3_goTo (wsV RX3 86 RX3 yX3_descend wsX3_descend) := goodIn_app (goodIn_of _ (by decide +kernel)) ggX3_goTo_X3_descend
theorem dX3_goTo_0 : decode cX3_goTo 0 = .ok (.aload_n 0, 1) := by decide +kernel
theorem dX3_goTo_1 : decode cX3_goTo 1 = .ok (.iload_n 1, 1) := by decide +kernel
theorem dX3_goTo_2 : decode cX3_goTo 2 = .ok (.ifCond .lt 9, 3) := by decide +kernel
theorem dX3_goTo_5 : decode cX3_goTo 5 = .ok (.iload_n 1, 1) := by decide +kernel
theorem dX3_goTo_6 : decode cX3_goTo 6 = .ok (.bipush 27, 2) := by decide +kernel
theorem dX3_goTo_8 : decode cX3_goTo 8 = .ok (.if_icmp .lt 7, 3) := by decide +kernel
theorem dX3_goTo_11 : decode cX3_goTo 11 = .ok (.iconst (-1), 1) := by decide +kernel
theorem dX3_goTo_12 : decode cX3_goTo 12 = .ok (.goto 4, 3) := by decide +kernel
theorem dX3_goTo_15 : decode cX3_goTo 15 = .ok (.iload_n 1, 1) := by decide +kernel
theorem dX3_goTo_16 : decode cX3_goTo 16 = .ok (.iload_n 2, 1) := by decide +kernel
theorem dX3_goTo_17 : decode cX3_goTo 17 = .ok (.ifCond .eq 7, 3) := by decide +kernel
theorem dX3_goTo_20 : decode cX3_goTo 20 = .ok (.iconst 1, 1) := by decide +kernel
theorem dX3_goTo_21 : decode cX3_goTo 21 = .ok (.goto 4, 3) := by decide +kernel
theorem dX3_goTo_24 : decode cX3_goTo 24 = .ok (.iconst (-1), 1) := by decide +kernel
theorem dX3_goTo_25 : decode cX3_goTo 25 = .ok (.iload_n 3, 1) := by decide +kernel
theorem dX3_goTo_26 : decode cX3_goTo 26 = .ok (.invokevirtual 86, 3) := by decide +kernel
theorem dX3_goTo_29 : decode cX3_goTo 29 = .ok (.return_, 1) := by decide +kernel
set_option maxRecDepth 20000 in
theorem ggX3_descend_X3_findSlopes : GoodIn wsX3_descend wsX3_findSlopes := goodIn_r _ [7, 8, 9, 10, 11, 1, 12, 13, 14, 15, 16, 17, 6, 18, 19, 50, 51, 52, 53, 54, 55, 56, 57, 58, 59, 60, 61] (by decide +kernel) (by decide +kernel)
set_option maxRecDepth 20000 in
theorem gX3_descend_X3_findSlopes : GoodIn wsX3_descend (wsV RX3 110 RX3 yX3_findSlopes wsX3_findSlopes) := goodIn_app (goodIn_of _ (by decide +kernel)) ggX3_descend_X3_findSlopes
set_option maxRecDepth 20000 in
theorem ggX3_descend_X3_enteringColumn : GoodIn wsX3_descend wsX3_enteringColumn := goodIn_r _ [23, 24, 25, 26, 27, 6, 28, 11, 1, 8, 29, 13, 14, 30, 31, 32, 33, 50, 51, 52, 53, 54, 55, 56, 57, 58, 59, 60, 61] (by decide +kernel) (by decide +kernel)
set_option maxRecDepth 20000 in
theorem gX3_descend_X3_enteringColumn : GoodIn wsX3_descend (wsV RX3 114 RX3 yX3_enteringColumn wsX3_enteringColumn) := goodIn_app (goodIn_of _ (by decide +kernel)) ggX3_descend_X3_enteringColumn
set_option maxRecDepth 20000 in
theorem ggX3_descend_X3_directionOf : GoodIn wsX3_descend wsX3_directionOf := goodIn_r _ [28, 24, 11, 1, 8, 29, 13, 14, 30, 31, 32, 33, 50, 51, 52, 53, 54, 55, 56, 57, 58, 59, 60, 61] (by decide +kernel) (by decide +kernel)
set_option maxRecDepth 20000 in
theorem gX3_descend_X3_directionOf : GoodIn wsX3_descend (wsV RX3 117 RX3 yX3_directionOf wsX3_directionOf) := goodIn_app (goodIn_of _ (by decide +kernel)) ggX3_descend_X3_directionOf
set_option maxRecDepth 20000 in
theorem ggX3_descend_X3_leavingRow : GoodIn wsX3_descend wsX3_leavingRow := goodIn_r _ [37, 9, 10, 12, 19, 38, 39, 40, 41, 50, 51, 52, 53, 54, 55, 56, 57, 58, 59, 60, 61] (by decide +kernel) (by decide +kernel)
set_option maxRecDepth 20000 in
theorem gX3_descend_X3_leavingRow : GoodIn wsX3_descend (wsV RX3 120 RX3 yX3_leavingRow wsX3_leavingRow) := goodIn_app (goodIn_of _ (by decide +kernel)) ggX3_descend_X3_leavingRow
set_option maxRecDepth 20000 in
theorem ggX3_descend_X3_exchange : GoodIn wsX3_descend wsX3_exchange := goodIn_r _ [45, 19, 38, 39, 40, 41, 9, 29, 24, 10, 12, 46, 47, 48, 6, 49, 50, 51, 52, 53, 54, 55, 56, 57, 58, 59, 60, 61] (by decide +kernel) (by decide +kernel)
set_option maxRecDepth 20000 in
theorem gX3_descend_X3_exchange : GoodIn wsX3_descend (wsV RX3 124 RX3 yX3_exchange wsX3_exchange) := goodIn_app (goodIn_of _ (by decide +kernel)) ggX3_descend_X3_exchange
theorem dX3_descend_0 : decode cX3_descend 0 = .ok (.aload_n 0, 1) := by decide +kernel
theorem dX3_descend_1 : decode cX3_descend 1 = .ok (.iload_n 3, 1) := by decide +kernel
theorem dX3_descend_2 : decode cX3_descend 2 = .ok (.putfield 49, 3) := by decide +kernel
theorem dX3_descend_5 : decode cX3_descend 5 = .ok (.iconst 0, 1) := by decide +kernel
theorem dX3_descend_6 : decode cX3_descend 6 = .ok (.istore 4, 2) := by decide +kernel
theorem dX3_descend_8 : decode cX3_descend 8 = .ok (.iload 4, 2) := by decide +kernel
theorem dX3_descend_10 : decode cX3_descend 10 = .ok (.ldc 109, 2) := by decide +kernel
theorem dX3_descend_12 : decode cX3_descend 12 = .ok (.if_icmp .ge 61, 3) := by decide +kernel
theorem dX3_descend_15 : decode cX3_descend 15 = .ok (.aload_n 0, 1) := by decide +kernel
theorem dX3_descend_16 : decode cX3_descend 16 = .ok (.iload_n 1, 1) := by decide +kernel
theorem dX3_descend_17 : decode cX3_descend 17 = .ok (.iload_n 2, 1) := by decide +kernel
theorem dX3_descend_18 : decode cX3_descend 18 = .ok (.invokevirtual 110, 3) := by decide +kernel
theorem dX3_descend_21 : decode cX3_descend 21 = .ok (.aload_n 0, 1) := by decide +kernel
theorem dX3_descend_22 : decode cX3_descend 22 = .ok (.invokevirtual 114, 3) := by decide +kernel
theorem dX3_descend_25 : decode cX3_descend 25 = .ok (.istore 5, 2) := by decide +kernel
theorem dX3_descend_27 : decode cX3_descend 27 = .ok (.iload 5, 2) := by decide +kernel
theorem dX3_descend_29 : decode cX3_descend 29 = .ok (.ifCond .ge 4, 3) := by decide +kernel
theorem dX3_descend_32 : decode cX3_descend 32 = .ok (.return_, 1) := by decide +kernel
theorem dX3_descend_33 : decode cX3_descend 33 = .ok (.aload_n 0, 1) := by decide +kernel
theorem dX3_descend_34 : decode cX3_descend 34 = .ok (.iload 5, 2) := by decide +kernel
theorem dX3_descend_36 : decode cX3_descend 36 = .ok (.invokevirtual 117, 3) := by decide +kernel
theorem dX3_descend_39 : decode cX3_descend 39 = .ok (.istore 6, 2) := by decide +kernel
theorem dX3_descend_41 : decode cX3_descend 41 = .ok (.aload_n 0, 1) := by decide +kernel
theorem dX3_descend_42 : decode cX3_descend 42 = .ok (.iload 5, 2) := by decide +kernel
theorem dX3_descend_44 : decode cX3_descend 44 = .ok (.iload 6, 2) := by decide +kernel
theorem dX3_descend_46 : decode cX3_descend 46 = .ok (.invokevirtual 120, 3) := by decide +kernel
theorem dX3_descend_49 : decode cX3_descend 49 = .ok (.istore 7, 2) := by decide +kernel
theorem dX3_descend_51 : decode cX3_descend 51 = .ok (.iload 7, 2) := by decide +kernel
theorem dX3_descend_53 : decode cX3_descend 53 = .ok (.ifCond .ge 4, 3) := by decide +kernel
theorem dX3_descend_56 : decode cX3_descend 56 = .ok (.return_, 1) := by decide +kernel
theorem dX3_descend_57 : decode cX3_descend 57 = .ok (.aload_n 0, 1) := by decide +kernel
theorem dX3_descend_58 : decode cX3_descend 58 = .ok (.iload 7, 2) := by decide +kernel
theorem dX3_descend_60 : decode cX3_descend 60 = .ok (.iload 5, 2) := by decide +kernel
theorem dX3_descend_62 : decode cX3_descend 62 = .ok (.iload 6, 2) := by decide +kernel
theorem dX3_descend_64 : decode cX3_descend 64 = .ok (.invokevirtual 124, 3) := by decide +kernel
theorem dX3_descend_67 : decode cX3_descend 67 = .ok (.iinc 4 1, 3) := by decide +kernel
theorem dX3_descend_70 : decode cX3_descend 70 = .ok (.goto (-62), 3) := by decide +kernel
theorem dX3_descend_73 : decode cX3_descend 73 = .ok (.return_, 1) := by decide +kernel
set_option maxRecDepth 20000 in
theorem ggX3_findSlopes_X3_addSlopes : GoodIn wsX3_findSlopes wsX3_addSlopes := goodIn_r _ [13, 1, 14, 15, 16, 17, 18, 19, 20, 21, 22, 23, 24, 25, 26] (by decide +kernel) (by decide +kernel)
set_option maxRecDepth 20000 in
theorem gX3_findSlopes_X3_addSlopes : GoodIn wsX3_findSlopes (wsV RX3 127 RX3 yX3_addSlopes wsX3_addSlopes) := goodIn_app (goodIn_of _ (by decide +kernel)) ggX3_findSlopes_X3_addSlopes
theorem dX3_findSlopes_0 : decode cX3_findSlopes 0 = .ok (.iconst 0, 1) := by decide +kernel
theorem dX3_findSlopes_1 : decode cX3_findSlopes 1 = .ok (.istore_n 3, 1) := by decide +kernel
theorem dX3_findSlopes_2 : decode cX3_findSlopes 2 = .ok (.iload_n 3, 1) := by decide +kernel
theorem dX3_findSlopes_3 : decode cX3_findSlopes 3 = .ok (.iconst 4, 1) := by decide +kernel
theorem dX3_findSlopes_4 : decode cX3_findSlopes 4 = .ok (.if_icmp .gt 35, 3) := by decide +kernel
theorem dX3_findSlopes_7 : decode cX3_findSlopes 7 = .ok (.iconst 0, 1) := by decide +kernel
theorem dX3_findSlopes_8 : decode cX3_findSlopes 8 = .ok (.istore 4, 2) := by decide +kernel
theorem dX3_findSlopes_10 : decode cX3_findSlopes 10 = .ok (.iload 4, 2) := by decide +kernel
theorem dX3_findSlopes_12 : decode cX3_findSlopes 12 = .ok (.bipush 6, 2) := by decide +kernel
theorem dX3_findSlopes_14 : decode cX3_findSlopes 14 = .ok (.if_icmp .ge 19, 3) := by decide +kernel
theorem dX3_findSlopes_17 : decode cX3_findSlopes 17 = .ok (.aload_n 0, 1) := by decide +kernel
theorem dX3_findSlopes_18 : decode cX3_findSlopes 18 = .ok (.getfield 46, 3) := by decide +kernel
theorem dX3_findSlopes_21 : decode cX3_findSlopes 21 = .ok (.iload_n 3, 1) := by decide +kernel
theorem dX3_findSlopes_22 : decode cX3_findSlopes 22 = .ok (.aaload, 1) := by decide +kernel
theorem dX3_findSlopes_23 : decode cX3_findSlopes 23 = .ok (.iload 4, 2) := by decide +kernel
theorem dX3_findSlopes_25 : decode cX3_findSlopes 25 = .ok (.lconst 0, 1) := by decide +kernel
theorem dX3_findSlopes_26 : decode cX3_findSlopes 26 = .ok (.lastore, 1) := by decide +kernel
theorem dX3_findSlopes_27 : decode cX3_findSlopes 27 = .ok (.iinc 4 1, 3) := by decide +kernel
theorem dX3_findSlopes_30 : decode cX3_findSlopes 30 = .ok (.goto (-20), 3) := by decide +kernel
theorem dX3_findSlopes_33 : decode cX3_findSlopes 33 = .ok (.iinc 3 1, 3) := by decide +kernel
theorem dX3_findSlopes_36 : decode cX3_findSlopes 36 = .ok (.goto (-34), 3) := by decide +kernel
theorem dX3_findSlopes_39 : decode cX3_findSlopes 39 = .ok (.iconst 0, 1) := by decide +kernel
theorem dX3_findSlopes_40 : decode cX3_findSlopes 40 = .ok (.istore_n 3, 1) := by decide +kernel
theorem dX3_findSlopes_41 : decode cX3_findSlopes 41 = .ok (.iload_n 3, 1) := by decide +kernel
theorem dX3_findSlopes_42 : decode cX3_findSlopes 42 = .ok (.bipush 27, 2) := by decide +kernel
theorem dX3_findSlopes_44 : decode cX3_findSlopes 44 = .ok (.if_icmp .ge 77, 3) := by decide +kernel
theorem dX3_findSlopes_47 : decode cX3_findSlopes 47 = .ok (.aload_n 0, 1) := by decide +kernel
theorem dX3_findSlopes_48 : decode cX3_findSlopes 48 = .ok (.getfield 20, 3) := by decide +kernel
theorem dX3_findSlopes_51 : decode cX3_findSlopes 51 = .ok (.iload_n 3, 1) := by decide +kernel
theorem dX3_findSlopes_52 : decode cX3_findSlopes 52 = .ok (.baload, 1) := by decide +kernel
theorem dX3_findSlopes_53 : decode cX3_findSlopes 53 = .ok (.ifCond .eq 62, 3) := by decide +kernel
theorem dX3_findSlopes_56 : decode cX3_findSlopes 56 = .ok (.aload_n 0, 1) := by decide +kernel
theorem dX3_findSlopes_57 : decode cX3_findSlopes 57 = .ok (.getfield 40, 3) := by decide +kernel
theorem dX3_findSlopes_60 : decode cX3_findSlopes 60 = .ok (.iload_n 3, 1) := by decide +kernel
theorem dX3_findSlopes_61 : decode cX3_findSlopes 61 = .ok (.iaload, 1) := by decide +kernel
theorem dX3_findSlopes_62 : decode cX3_findSlopes 62 = .ok (.iconst (-1), 1) := by decide +kernel
theorem dX3_findSlopes_63 : decode cX3_findSlopes 63 = .ok (.if_icmp .ne 52, 3) := by decide +kernel
theorem dX3_findSlopes_66 : decode cX3_findSlopes 66 = .ok (.aload_n 0, 1) := by decide +kernel
theorem dX3_findSlopes_67 : decode cX3_findSlopes 67 = .ok (.getfield 28, 3) := by decide +kernel
theorem dX3_findSlopes_70 : decode cX3_findSlopes 70 = .ok (.iload_n 3, 1) := by decide +kernel
theorem dX3_findSlopes_71 : decode cX3_findSlopes 71 = .ok (.iaload, 1) := by decide +kernel
theorem dX3_findSlopes_72 : decode cX3_findSlopes 72 = .ok (.aload_n 0, 1) := by decide +kernel
theorem dX3_findSlopes_73 : decode cX3_findSlopes 73 = .ok (.getfield 49, 3) := by decide +kernel
theorem dX3_findSlopes_76 : decode cX3_findSlopes 76 = .ok (.if_icmp .ge 39, 3) := by decide +kernel
theorem dX3_findSlopes_79 : decode cX3_findSlopes 79 = .ok (.aload_n 0, 1) := by decide +kernel
theorem dX3_findSlopes_80 : decode cX3_findSlopes 80 = .ok (.aload_n 0, 1) := by decide +kernel
theorem dX3_findSlopes_81 : decode cX3_findSlopes 81 = .ok (.getfield 28, 3) := by decide +kernel
theorem dX3_findSlopes_84 : decode cX3_findSlopes 84 = .ok (.iload_n 3, 1) := by decide +kernel
theorem dX3_findSlopes_85 : decode cX3_findSlopes 85 = .ok (.iaload, 1) := by decide +kernel
theorem dX3_findSlopes_86 : decode cX3_findSlopes 86 = .ok (.iload_n 3, 1) := by decide +kernel
theorem dX3_findSlopes_87 : decode cX3_findSlopes 87 = .ok (.aload_n 0, 1) := by decide +kernel
theorem dX3_findSlopes_88 : decode cX3_findSlopes 88 = .ok (.getfield 37, 3) := by decide +kernel
theorem dX3_findSlopes_91 : decode cX3_findSlopes 91 = .ok (.iload_n 3, 1) := by decide +kernel
theorem dX3_findSlopes_92 : decode cX3_findSlopes 92 = .ok (.iaload, 1) := by decide +kernel
theorem dX3_findSlopes_93 : decode cX3_findSlopes 93 = .ok (.ifCond .le 12, 3) := by decide +kernel
theorem dX3_findSlopes_96 : decode cX3_findSlopes 96 = .ok (.aload_n 0, 1) := by decide +kernel
theorem dX3_findSlopes_97 : decode cX3_findSlopes 97 = .ok (.getfield 31, 3) := by decide +kernel
theorem dX3_findSlopes_100 : decode cX3_findSlopes 100 = .ok (.iload_n 3, 1) := by decide +kernel
theorem dX3_findSlopes_101 : decode cX3_findSlopes 101 = .ok (.iaload, 1) := by decide +kernel
theorem dX3_findSlopes_102 : decode cX3_findSlopes 102 = .ok (.goto 10, 3) := by decide +kernel
theorem dX3_findSlopes_105 : decode cX3_findSlopes 105 = .ok (.aload_n 0, 1) := by decide +kernel
theorem dX3_findSlopes_106 : decode cX3_findSlopes 106 = .ok (.getfield 34, 3) := by decide +kernel
theorem dX3_findSlopes_109 : decode cX3_findSlopes 109 = .ok (.iload_n 3, 1) := by decide +kernel
theorem dX3_findSlopes_110 : decode cX3_findSlopes 110 = .ok (.iaload, 1) := by decide +kernel
theorem dX3_findSlopes_111 : decode cX3_findSlopes 111 = .ok (.ineg, 1) := by decide +kernel
theorem dX3_findSlopes_112 : decode cX3_findSlopes 112 = .ok (.invokevirtual 127, 3) := by decide +kernel
theorem dX3_findSlopes_115 : decode cX3_findSlopes 115 = .ok (.iinc 3 1, 3) := by decide +kernel
theorem dX3_findSlopes_118 : decode cX3_findSlopes 118 = .ok (.goto (-77), 3) := by decide +kernel
theorem dX3_findSlopes_121 : decode cX3_findSlopes 121 = .ok (.iload_n 1, 1) := by decide +kernel
theorem dX3_findSlopes_122 : decode cX3_findSlopes 122 = .ok (.iconst (-1), 1) := by decide +kernel
theorem dX3_findSlopes_123 : decode cX3_findSlopes 123 = .ok (.if_icmp .eq 10, 3) := by decide +kernel
theorem dX3_findSlopes_126 : decode cX3_findSlopes 126 = .ok (.aload_n 0, 1) := by decide +kernel
theorem dX3_findSlopes_127 : decode cX3_findSlopes 127 = .ok (.iconst 4, 1) := by decide +kernel
theorem dX3_findSlopes_128 : decode cX3_findSlopes 128 = .ok (.iload_n 1, 1) := by decide +kernel
theorem dX3_findSlopes_129 : decode cX3_findSlopes 129 = .ok (.iload_n 2, 1) := by decide +kernel
theorem dX3_findSlopes_130 : decode cX3_findSlopes 130 = .ok (.invokevirtual 127, 3) := by decide +kernel
theorem dX3_findSlopes_133 : decode cX3_findSlopes 133 = .ok (.return_, 1) := by decide +kernel
theorem dX3_addSlopes_0 : decode cX3_addSlopes 0 = .ok (.iload_n 3, 1) := by decide +kernel
theorem dX3_addSlopes_1 : decode cX3_addSlopes 1 = .ok (.ifCond .eq 22, 3) := by decide +kernel
theorem dX3_addSlopes_4 : decode cX3_addSlopes 4 = .ok (.iload_n 1, 1) := by decide +kernel
theorem dX3_addSlopes_5 : decode cX3_addSlopes 5 = .ok (.ifCond .lt 18, 3) := by decide +kernel
theorem dX3_addSlopes_8 : decode cX3_addSlopes 8 = .ok (.iload_n 1, 1) := by decide +kernel
theorem dX3_addSlopes_9 : decode cX3_addSlopes 9 = .ok (.iconst 4, 1) := by decide +kernel
theorem dX3_addSlopes_10 : decode cX3_addSlopes 10 = .ok (.if_icmp .gt 13, 3) := by decide +kernel
theorem dX3_addSlopes_13 : decode cX3_addSlopes 13 = .ok (.iload_n 2, 1) := by decide +kernel
theorem dX3_addSlopes_14 : decode cX3_addSlopes 14 = .ok (.ifCond .lt 9, 3) := by decide +kernel
theorem dX3_addSlopes_17 : decode cX3_addSlopes 17 = .ok (.iload_n 2, 1) := by decide +kernel
theorem dX3_addSlopes_18 : decode cX3_addSlopes 18 = .ok (.bipush 27, 2) := by decide +kernel
theorem dX3_addSlopes_20 : decode cX3_addSlopes 20 = .ok (.if_icmp .lt 4, 3) := by decide +kernel
theorem dX3_addSlopes_23 : decode cX3_addSlopes 23 = .ok (.return_, 1) := by decide +kernel
theorem dX3_addSlopes_24 : decode cX3_addSlopes 24 = .ok (.iconst 0, 1) := by decide +kernel
theorem dX3_addSlopes_25 : decode cX3_addSlopes 25 = .ok (.istore 4, 2) := by decide +kernel
theorem dX3_addSlopes_27 : decode cX3_addSlopes 27 = .ok (.iload 4, 2) := by decide +kernel
theorem dX3_addSlopes_29 : decode cX3_addSlopes 29 = .ok (.bipush 6, 2) := by decide +kernel
theorem dX3_addSlopes_31 : decode cX3_addSlopes 31 = .ok (.if_icmp .ge 33, 3) := by decide +kernel
theorem dX3_addSlopes_34 : decode cX3_addSlopes 34 = .ok (.aload_n 0, 1) := by decide +kernel
theorem dX3_addSlopes_35 : decode cX3_addSlopes 35 = .ok (.getfield 46, 3) := by decide +kernel
theorem dX3_addSlopes_38 : decode cX3_addSlopes 38 = .ok (.iload_n 1, 1) := by decide +kernel
theorem dX3_addSlopes_39 : decode cX3_addSlopes 39 = .ok (.aaload, 1) := by decide +kernel
theorem dX3_addSlopes_40 : decode cX3_addSlopes 40 = .ok (.iload 4, 2) := by decide +kernel
theorem dX3_addSlopes_42 : decode cX3_addSlopes 42 = .ok (.dup2, 1) := by decide +kernel
theorem dX3_addSlopes_43 : decode cX3_addSlopes 43 = .ok (.laload, 1) := by decide +kernel
theorem dX3_addSlopes_44 : decode cX3_addSlopes 44 = .ok (.iload_n 3, 1) := by decide +kernel
theorem dX3_addSlopes_45 : decode cX3_addSlopes 45 = .ok (.i2l, 1) := by decide +kernel
theorem dX3_addSlopes_46 : decode cX3_addSlopes 46 = .ok (.aload_n 0, 1) := by decide +kernel
theorem dX3_addSlopes_47 : decode cX3_addSlopes 47 = .ok (.getfield 13, 3) := by decide +kernel
theorem dX3_addSlopes_50 : decode cX3_addSlopes 50 = .ok (.iload_n 2, 1) := by decide +kernel
theorem dX3_addSlopes_51 : decode cX3_addSlopes 51 = .ok (.aaload, 1) := by decide +kernel
theorem dX3_addSlopes_52 : decode cX3_addSlopes 52 = .ok (.iload 4, 2) := by decide +kernel
theorem dX3_addSlopes_54 : decode cX3_addSlopes 54 = .ok (.laload, 1) := by decide +kernel
theorem dX3_addSlopes_55 : decode cX3_addSlopes 55 = .ok (.lmul, 1) := by decide +kernel
theorem dX3_addSlopes_56 : decode cX3_addSlopes 56 = .ok (.ladd, 1) := by decide +kernel
theorem dX3_addSlopes_57 : decode cX3_addSlopes 57 = .ok (.lastore, 1) := by decide +kernel
theorem dX3_addSlopes_58 : decode cX3_addSlopes 58 = .ok (.iinc 4 1, 3) := by decide +kernel
theorem dX3_addSlopes_61 : decode cX3_addSlopes 61 = .ok (.goto (-34), 3) := by decide +kernel
theorem dX3_addSlopes_64 : decode cX3_addSlopes 64 = .ok (.return_, 1) := by decide +kernel
set_option maxRecDepth 20000 in
theorem ggX3_enteringColumn_X3_directionOf : GoodIn wsX3_enteringColumn wsX3_directionOf := goodIn_r _ [6, 1, 7, 8, 9, 10, 11, 12, 13, 14, 15, 16, 17, 18, 19, 20, 21, 22, 23, 24, 25, 26, 27, 28] (by decide +kernel) (by decide +kernel)
set_option maxRecDepth 20000 in
theorem gX3_enteringColumn_X3_directionOf : GoodIn wsX3_enteringColumn (wsV RX3 117 RX3 yX3_directionOf wsX3_directionOf) := goodIn_app (goodIn_of _ (by decide +kernel)) ggX3_enteringColumn_X3_directionOf
theorem dX3_enteringColumn_0 : decode cX3_enteringColumn 0 = .ok (.iconst (-1), 1) := by decide +kernel
theorem dX3_enteringColumn_1 : decode cX3_enteringColumn 1 = .ok (.istore_n 1, 1) := by decide +kernel
theorem dX3_enteringColumn_2 : decode cX3_enteringColumn 2 = .ok (.iconst 0, 1) := by decide +kernel
theorem dX3_enteringColumn_3 : decode cX3_enteringColumn 3 = .ok (.istore_n 2, 1) := by decide +kernel
theorem dX3_enteringColumn_4 : decode cX3_enteringColumn 4 = .ok (.iload_n 2, 1) := by decide +kernel
theorem dX3_enteringColumn_5 : decode cX3_enteringColumn 5 = .ok (.bipush 6, 2) := by decide +kernel
theorem dX3_enteringColumn_7 : decode cX3_enteringColumn 7 = .ok (.if_icmp .ge 38, 3) := by decide +kernel
theorem dX3_enteringColumn_10 : decode cX3_enteringColumn 10 = .ok (.iload_n 1, 1) := by decide +kernel
theorem dX3_enteringColumn_11 : decode cX3_enteringColumn 11 = .ok (.ifCond .lt 18, 3) := by decide +kernel
theorem dX3_enteringColumn_14 : decode cX3_enteringColumn 14 = .ok (.aload_n 0, 1) := by decide +kernel
theorem dX3_enteringColumn_15 : decode cX3_enteringColumn 15 = .ok (.getfield 43, 3) := by decide +kernel
theorem dX3_enteringColumn_18 : decode cX3_enteringColumn 18 = .ok (.iload_n 2, 1) := by decide +kernel
theorem dX3_enteringColumn_19 : decode cX3_enteringColumn 19 = .ok (.iaload, 1) := by decide +kernel
theorem dX3_enteringColumn_20 : decode cX3_enteringColumn 20 = .ok (.aload_n 0, 1) := by decide +kernel
theorem dX3_enteringColumn_21 : decode cX3_enteringColumn 21 = .ok (.getfield 43, 3) := by decide +kernel
theorem dX3_enteringColumn_24 : decode cX3_enteringColumn 24 = .ok (.iload_n 1, 1) := by decide +kernel
theorem dX3_enteringColumn_25 : decode cX3_enteringColumn 25 = .ok (.iaload, 1) := by decide +kernel
theorem dX3_enteringColumn_26 : decode cX3_enteringColumn 26 = .ok (.if_icmp .ge 13, 3) := by decide +kernel
theorem dX3_enteringColumn_29 : decode cX3_enteringColumn 29 = .ok (.aload_n 0, 1) := by decide +kernel
theorem dX3_enteringColumn_30 : decode cX3_enteringColumn 30 = .ok (.iload_n 2, 1) := by decide +kernel
theorem dX3_enteringColumn_31 : decode cX3_enteringColumn 31 = .ok (.invokevirtual 117, 3) := by decide +kernel
theorem dX3_enteringColumn_34 : decode cX3_enteringColumn 34 = .ok (.ifCond .eq 5, 3) := by decide +kernel
theorem dX3_enteringColumn_37 : decode cX3_enteringColumn 37 = .ok (.iload_n 2, 1) := by decide +kernel
theorem dX3_enteringColumn_38 : decode cX3_enteringColumn 38 = .ok (.istore_n 1, 1) := by decide +kernel
theorem dX3_enteringColumn_39 : decode cX3_enteringColumn 39 = .ok (.iinc 2 1, 3) := by decide +kernel
theorem dX3_enteringColumn_42 : decode cX3_enteringColumn 42 = .ok (.goto (-38), 3) := by decide +kernel
theorem dX3_enteringColumn_45 : decode cX3_enteringColumn 45 = .ok (.iload_n 1, 1) := by decide +kernel
theorem dX3_enteringColumn_46 : decode cX3_enteringColumn 46 = .ok (.ireturn, 1) := by decide +kernel
set_option maxRecDepth 20000 in
theorem ggX3_directionOf_J13_compare_74951 : GoodIn wsX3_directionOf wsJ13_compare_74951 := goodIn_r _ [11] (by decide +kernel) (by decide +kernel)
set_option maxRecDepth 20000 in
theorem gX3_directionOf_J13_compare_74951 : GoodIn wsX3_directionOf (va_wsS RX3 103 yJ13_compare_74951 wsJ13_compare_74951) := goodIn_app (goodIn_of _ (by decide +kernel)) ggX3_directionOf_J13_compare_74951
theorem dX3_directionOf_0 : decode cX3_directionOf 0 = .ok (.iload_n 1, 1) := by decide +kernel
theorem dX3_directionOf_1 : decode cX3_directionOf 1 = .ok (.ifCond .lt 9, 3) := by decide +kernel
theorem dX3_directionOf_4 : decode cX3_directionOf 4 = .ok (.iload_n 1, 1) := by decide +kernel
theorem dX3_directionOf_5 : decode cX3_directionOf 5 = .ok (.bipush 6, 2) := by decide +kernel
theorem dX3_directionOf_7 : decode cX3_directionOf 7 = .ok (.if_icmp .lt 5, 3) := by decide +kernel
theorem dX3_directionOf_10 : decode cX3_directionOf 10 = .ok (.iconst 0, 1) := by decide +kernel
theorem dX3_directionOf_11 : decode cX3_directionOf 11 = .ok (.ireturn, 1) := by decide +kernel
theorem dX3_directionOf_12 : decode cX3_directionOf 12 = .ok (.aload_n 0, 1) := by decide +kernel
theorem dX3_directionOf_13 : decode cX3_directionOf 13 = .ok (.getfield 43, 3) := by decide +kernel
theorem dX3_directionOf_16 : decode cX3_directionOf 16 = .ok (.iload_n 1, 1) := by decide +kernel
theorem dX3_directionOf_17 : decode cX3_directionOf 17 = .ok (.iaload, 1) := by decide +kernel
theorem dX3_directionOf_18 : decode cX3_directionOf 18 = .ok (.istore_n 2, 1) := by decide +kernel
theorem dX3_directionOf_19 : decode cX3_directionOf 19 = .ok (.iload_n 2, 1) := by decide +kernel
theorem dX3_directionOf_20 : decode cX3_directionOf 20 = .ok (.ifCond .lt 26, 3) := by decide +kernel
theorem dX3_directionOf_23 : decode cX3_directionOf 23 = .ok (.iload_n 2, 1) := by decide +kernel
theorem dX3_directionOf_24 : decode cX3_directionOf 24 = .ok (.bipush 27, 2) := by decide +kernel
theorem dX3_directionOf_26 : decode cX3_directionOf 26 = .ok (.if_icmp .ge 20, 3) := by decide +kernel
theorem dX3_directionOf_29 : decode cX3_directionOf 29 = .ok (.aload_n 0, 1) := by decide +kernel
theorem dX3_directionOf_30 : decode cX3_directionOf 30 = .ok (.getfield 28, 3) := by decide +kernel
theorem dX3_directionOf_33 : decode cX3_directionOf 33 = .ok (.iload_n 2, 1) := by decide +kernel
theorem dX3_directionOf_34 : decode cX3_directionOf 34 = .ok (.iaload, 1) := by decide +kernel
theorem dX3_directionOf_35 : decode cX3_directionOf 35 = .ok (.aload_n 0, 1) := by decide +kernel
theorem dX3_directionOf_36 : decode cX3_directionOf 36 = .ok (.getfield 49, 3) := by decide +kernel
theorem dX3_directionOf_39 : decode cX3_directionOf 39 = .ok (.if_icmp .ge 7, 3) := by decide +kernel
theorem dX3_directionOf_42 : decode cX3_directionOf 42 = .ok (.iconst 1, 1) := by decide +kernel
theorem dX3_directionOf_43 : decode cX3_directionOf 43 = .ok (.goto 4, 3) := by decide +kernel
theorem dX3_directionOf_46 : decode cX3_directionOf 46 = .ok (.iconst 0, 1) := by decide +kernel
theorem dX3_directionOf_47 : decode cX3_directionOf 47 = .ok (.istore_n 3, 1) := by decide +kernel
theorem dX3_directionOf_48 : decode cX3_directionOf 48 = .ok (.iconst 0, 1) := by decide +kernel
theorem dX3_directionOf_49 : decode cX3_directionOf 49 = .ok (.istore 4, 2) := by decide +kernel
theorem dX3_directionOf_51 : decode cX3_directionOf 51 = .ok (.iconst 0, 1) := by decide +kernel
theorem dX3_directionOf_52 : decode cX3_directionOf 52 = .ok (.istore 5, 2) := by decide +kernel
theorem dX3_directionOf_54 : decode cX3_directionOf 54 = .ok (.iconst 0, 1) := by decide +kernel
theorem dX3_directionOf_55 : decode cX3_directionOf 55 = .ok (.istore 6, 2) := by decide +kernel
theorem dX3_directionOf_57 : decode cX3_directionOf 57 = .ok (.iload 6, 2) := by decide +kernel
theorem dX3_directionOf_59 : decode cX3_directionOf 59 = .ok (.iconst 4, 1) := by decide +kernel
theorem dX3_directionOf_60 : decode cX3_directionOf 60 = .ok (.if_icmp .gt 115, 3) := by decide +kernel
theorem dX3_directionOf_63 : decode cX3_directionOf 63 = .ok (.iload_n 3, 1) := by decide +kernel
theorem dX3_directionOf_64 : decode cX3_directionOf 64 = .ok (.ifCond .eq 18, 3) := by decide +kernel
theorem dX3_directionOf_67 : decode cX3_directionOf 67 = .ok (.aload_n 0, 1) := by decide +kernel
theorem dX3_directionOf_68 : decode cX3_directionOf 68 = .ok (.getfield 28, 3) := by decide +kernel
theorem dX3_directionOf_71 : decode cX3_directionOf 71 = .ok (.iload_n 2, 1) := by decide +kernel
theorem dX3_directionOf_72 : decode cX3_directionOf 72 = .ok (.iaload, 1) := by decide +kernel
theorem dX3_directionOf_73 : decode cX3_directionOf 73 = .ok (.iload 6, 2) := by decide +kernel
theorem dX3_directionOf_75 : decode cX3_directionOf 75 = .ok (.if_icmp .ne 7, 3) := by decide +kernel
theorem dX3_directionOf_78 : decode cX3_directionOf 78 = .ok (.iconst 1, 1) := by decide +kernel
theorem dX3_directionOf_79 : decode cX3_directionOf 79 = .ok (.goto 4, 3) := by decide +kernel
theorem dX3_directionOf_82 : decode cX3_directionOf 82 = .ok (.iconst 0, 1) := by decide +kernel
theorem dX3_directionOf_83 : decode cX3_directionOf 83 = .ok (.istore 7, 2) := by decide +kernel
theorem dX3_directionOf_85 : decode cX3_directionOf 85 = .ok (.aload_n 0, 1) := by decide +kernel
theorem dX3_directionOf_86 : decode cX3_directionOf 86 = .ok (.getfield 46, 3) := by decide +kernel
theorem dX3_directionOf_89 : decode cX3_directionOf 89 = .ok (.iload 6, 2) := by decide +kernel
theorem dX3_directionOf_91 : decode cX3_directionOf 91 = .ok (.aaload, 1) := by decide +kernel
theorem dX3_directionOf_92 : decode cX3_directionOf 92 = .ok (.iload_n 1, 1) := by decide +kernel
theorem dX3_directionOf_93 : decode cX3_directionOf 93 = .ok (.laload, 1) := by decide +kernel
theorem dX3_directionOf_94 : decode cX3_directionOf 94 = .ok (.lstore 8, 2) := by decide +kernel
theorem dX3_directionOf_96 : decode cX3_directionOf 96 = .ok (.iload 4, 2) := by decide +kernel
theorem dX3_directionOf_98 : decode cX3_directionOf 98 = .ok (.ifCond .ne 34, 3) := by decide +kernel
theorem dX3_directionOf_101 : decode cX3_directionOf 101 = .ok (.iload 7, 2) := by decide +kernel
theorem dX3_directionOf_103 : decode cX3_directionOf 103 = .ok (.ifCond .eq 21, 3) := by decide +kernel
theorem dX3_directionOf_106 : decode cX3_directionOf 106 = .ok (.lload 8, 2) := by decide +kernel
theorem dX3_directionOf_108 : decode cX3_directionOf 108 = .ok (.aload_n 0, 1) := by decide +kernel
theorem dX3_directionOf_109 : decode cX3_directionOf 109 = .ok (.getfield 16, 3) := by decide +kernel
theorem dX3_directionOf_112 : decode cX3_directionOf 112 = .ok (.aload_n 0, 1) := by decide +kernel
theorem dX3_directionOf_113 : decode cX3_directionOf 113 = .ok (.getfield 31, 3) := by decide +kernel
theorem dX3_directionOf_116 : decode cX3_directionOf 116 = .ok (.iload_n 2, 1) := by decide +kernel
theorem dX3_directionOf_117 : decode cX3_directionOf 117 = .ok (.iaload, 1) := by decide +kernel
theorem dX3_directionOf_118 : decode cX3_directionOf 118 = .ok (.i2l, 1) := by decide +kernel
theorem dX3_directionOf_119 : decode cX3_directionOf 119 = .ok (.lmul, 1) := by decide +kernel
theorem dX3_directionOf_120 : decode cX3_directionOf 120 = .ok (.ladd, 1) := by decide +kernel
theorem dX3_directionOf_121 : decode cX3_directionOf 121 = .ok (.goto 5, 3) := by decide +kernel
theorem dX3_directionOf_124 : decode cX3_directionOf 124 = .ok (.lload 8, 2) := by decide +kernel
theorem dX3_directionOf_126 : decode cX3_directionOf 126 = .ok (.lconst 0, 1) := by decide +kernel
theorem dX3_directionOf_127 : decode cX3_directionOf 127 = .ok (.invokestatic 103, 3) := by decide +kernel
theorem dX3_directionOf_130 : decode cX3_directionOf 130 = .ok (.istore 4, 2) := by decide +kernel
theorem dX3_directionOf_132 : decode cX3_directionOf 132 = .ok (.iload 5, 2) := by decide +kernel
theorem dX3_directionOf_134 : decode cX3_directionOf 134 = .ok (.ifCond .ne 35, 3) := by decide +kernel
theorem dX3_directionOf_137 : decode cX3_directionOf 137 = .ok (.iload 7, 2) := by decide +kernel
theorem dX3_directionOf_139 : decode cX3_directionOf 139 = .ok (.ifCond .eq 21, 3) := by decide +kernel
theorem dX3_directionOf_142 : decode cX3_directionOf 142 = .ok (.aload_n 0, 1) := by decide +kernel
theorem dX3_directionOf_143 : decode cX3_directionOf 143 = .ok (.getfield 16, 3) := by decide +kernel
theorem dX3_directionOf_146 : decode cX3_directionOf 146 = .ok (.aload_n 0, 1) := by decide +kernel
theorem dX3_directionOf_147 : decode cX3_directionOf 147 = .ok (.getfield 34, 3) := by decide +kernel
theorem dX3_directionOf_150 : decode cX3_directionOf 150 = .ok (.iload_n 2, 1) := by decide +kernel
theorem dX3_directionOf_151 : decode cX3_directionOf 151 = .ok (.iaload, 1) := by decide +kernel
theorem dX3_directionOf_152 : decode cX3_directionOf 152 = .ok (.i2l, 1) := by decide +kernel
theorem dX3_directionOf_153 : decode cX3_directionOf 153 = .ok (.lmul, 1) := by decide +kernel
theorem dX3_directionOf_154 : decode cX3_directionOf 154 = .ok (.lload 8, 2) := by decide +kernel
theorem dX3_directionOf_156 : decode cX3_directionOf 156 = .ok (.lsub, 1) := by decide +kernel
theorem dX3_directionOf_157 : decode cX3_directionOf 157 = .ok (.goto 6, 3) := by decide +kernel
theorem dX3_directionOf_160 : decode cX3_directionOf 160 = .ok (.lload 8, 2) := by decide +kernel
theorem dX3_directionOf_162 : decode cX3_directionOf 162 = .ok (.lneg, 1) := by decide +kernel
theorem dX3_directionOf_163 : decode cX3_directionOf 163 = .ok (.lconst 0, 1) := by decide +kernel
theorem dX3_directionOf_164 : decode cX3_directionOf 164 = .ok (.invokestatic 103, 3) := by decide +kernel
theorem dX3_directionOf_167 : decode cX3_directionOf 167 = .ok (.istore 5, 2) := by decide +kernel
theorem dX3_directionOf_169 : decode cX3_directionOf 169 = .ok (.iinc 6 1, 3) := by decide +kernel
theorem dX3_directionOf_172 : decode cX3_directionOf 172 = .ok (.goto (-115), 3) := by decide +kernel
theorem dX3_directionOf_175 : decode cX3_directionOf 175 = .ok (.iload 4, 2) := by decide +kernel
theorem dX3_directionOf_177 : decode cX3_directionOf 177 = .ok (.ifCond .ge 7, 3) := by decide +kernel
theorem dX3_directionOf_180 : decode cX3_directionOf 180 = .ok (.iconst 1, 1) := by decide +kernel
theorem dX3_directionOf_181 : decode cX3_directionOf 181 = .ok (.goto 13, 3) := by decide +kernel
theorem dX3_directionOf_184 : decode cX3_directionOf 184 = .ok (.iload 5, 2) := by decide +kernel
theorem dX3_directionOf_186 : decode cX3_directionOf 186 = .ok (.ifCond .ge 7, 3) := by decide +kernel
theorem dX3_directionOf_189 : decode cX3_directionOf 189 = .ok (.iconst (-1), 1) := by decide +kernel
theorem dX3_directionOf_190 : decode cX3_directionOf 190 = .ok (.goto 4, 3) := by decide +kernel
theorem dX3_directionOf_193 : decode cX3_directionOf 193 = .ok (.iconst 0, 1) := by decide +kernel
theorem dX3_directionOf_194 : decode cX3_directionOf 194 = .ok (.ireturn, 1) := by decide +kernel
theorem dX3_leavingRow_0 : decode cX3_leavingRow 0 = .ok (.iconst (-1), 1) := by decide +kernel
theorem dX3_leavingRow_1 : decode cX3_leavingRow 1 = .ok (.istore_n 3, 1) := by decide +kernel
theorem dX3_leavingRow_2 : decode cX3_leavingRow 2 = .ok (.lconst 0, 1) := by decide +kernel
theorem dX3_leavingRow_3 : decode cX3_leavingRow 3 = .ok (.lstore 4, 2) := by decide +kernel
theorem dX3_leavingRow_5 : decode cX3_leavingRow 5 = .ok (.lconst 1, 1) := by decide +kernel
theorem dX3_leavingRow_6 : decode cX3_leavingRow 6 = .ok (.lstore 6, 2) := by decide +kernel
theorem dX3_leavingRow_8 : decode cX3_leavingRow 8 = .ok (.iload_n 1, 1) := by decide +kernel
theorem dX3_leavingRow_9 : decode cX3_leavingRow 9 = .ok (.ifCond .lt 9, 3) := by decide +kernel
theorem dX3_leavingRow_12 : decode cX3_leavingRow 12 = .ok (.iload_n 1, 1) := by decide +kernel
theorem dX3_leavingRow_13 : decode cX3_leavingRow 13 = .ok (.bipush 6, 2) := by decide +kernel
theorem dX3_leavingRow_15 : decode cX3_leavingRow 15 = .ok (.if_icmp .lt 5, 3) := by decide +kernel
theorem dX3_leavingRow_18 : decode cX3_leavingRow 18 = .ok (.iload_n 3, 1) := by decide +kernel
theorem dX3_leavingRow_19 : decode cX3_leavingRow 19 = .ok (.ireturn, 1) := by decide +kernel
theorem dX3_leavingRow_20 : decode cX3_leavingRow 20 = .ok (.iconst 0, 1) := by decide +kernel
theorem dX3_leavingRow_21 : decode cX3_leavingRow 21 = .ok (.istore 8, 2) := by decide +kernel
theorem dX3_leavingRow_23 : decode cX3_leavingRow 23 = .ok (.iload 8, 2) := by decide +kernel
theorem dX3_leavingRow_25 : decode cX3_leavingRow 25 = .ok (.bipush 27, 2) := by decide +kernel
theorem dX3_leavingRow_27 : decode cX3_leavingRow 27 = .ok (.if_icmp .ge 104, 3) := by decide +kernel
theorem dX3_leavingRow_30 : decode cX3_leavingRow 30 = .ok (.aload_n 0, 1) := by decide +kernel
theorem dX3_leavingRow_31 : decode cX3_leavingRow 31 = .ok (.getfield 20, 3) := by decide +kernel
theorem dX3_leavingRow_34 : decode cX3_leavingRow 34 = .ok (.iload 8, 2) := by decide +kernel
theorem dX3_leavingRow_36 : decode cX3_leavingRow 36 = .ok (.baload, 1) := by decide +kernel
theorem dX3_leavingRow_37 : decode cX3_leavingRow 37 = .ok (.ifCond .eq 88, 3) := by decide +kernel
theorem dX3_leavingRow_40 : decode cX3_leavingRow 40 = .ok (.aload_n 0, 1) := by decide +kernel
theorem dX3_leavingRow_41 : decode cX3_leavingRow 41 = .ok (.getfield 40, 3) := by decide +kernel
theorem dX3_leavingRow_44 : decode cX3_leavingRow 44 = .ok (.iload 8, 2) := by decide +kernel
theorem dX3_leavingRow_46 : decode cX3_leavingRow 46 = .ok (.iaload, 1) := by decide +kernel
theorem dX3_leavingRow_47 : decode cX3_leavingRow 47 = .ok (.iconst (-1), 1) := by decide +kernel
theorem dX3_leavingRow_48 : decode cX3_leavingRow 48 = .ok (.if_icmp .ne 77, 3) := by decide +kernel
theorem dX3_leavingRow_51 : decode cX3_leavingRow 51 = .ok (.aload_n 0, 1) := by decide +kernel
theorem dX3_leavingRow_52 : decode cX3_leavingRow 52 = .ok (.getfield 37, 3) := by decide +kernel
theorem dX3_leavingRow_55 : decode cX3_leavingRow 55 = .ok (.iload 8, 2) := by decide +kernel
theorem dX3_leavingRow_57 : decode cX3_leavingRow 57 = .ok (.iaload, 1) := by decide +kernel
theorem dX3_leavingRow_58 : decode cX3_leavingRow 58 = .ok (.ineg, 1) := by decide +kernel
theorem dX3_leavingRow_59 : decode cX3_leavingRow 59 = .ok (.iload_n 2, 1) := by decide +kernel
theorem dX3_leavingRow_60 : decode cX3_leavingRow 60 = .ok (.imul, 1) := by decide +kernel
theorem dX3_leavingRow_61 : decode cX3_leavingRow 61 = .ok (.i2l, 1) := by decide +kernel
theorem dX3_leavingRow_62 : decode cX3_leavingRow 62 = .ok (.aload_n 0, 1) := by decide +kernel
theorem dX3_leavingRow_63 : decode cX3_leavingRow 63 = .ok (.getfield 13, 3) := by decide +kernel
theorem dX3_leavingRow_66 : decode cX3_leavingRow 66 = .ok (.iload 8, 2) := by decide +kernel
theorem dX3_leavingRow_68 : decode cX3_leavingRow 68 = .ok (.aaload, 1) := by decide +kernel
theorem dX3_leavingRow_69 : decode cX3_leavingRow 69 = .ok (.iload_n 1, 1) := by decide +kernel
theorem dX3_leavingRow_70 : decode cX3_leavingRow 70 = .ok (.laload, 1) := by decide +kernel
theorem dX3_leavingRow_71 : decode cX3_leavingRow 71 = .ok (.lmul, 1) := by decide +kernel
theorem dX3_leavingRow_72 : decode cX3_leavingRow 72 = .ok (.lstore 9, 2) := by decide +kernel
theorem dX3_leavingRow_74 : decode cX3_leavingRow 74 = .ok (.aload_n 0, 1) := by decide +kernel
theorem dX3_leavingRow_75 : decode cX3_leavingRow 75 = .ok (.getfield 13, 3) := by decide +kernel
theorem dX3_leavingRow_78 : decode cX3_leavingRow 78 = .ok (.iload 8, 2) := by decide +kernel
theorem dX3_leavingRow_80 : decode cX3_leavingRow 80 = .ok (.aaload, 1) := by decide +kernel
theorem dX3_leavingRow_81 : decode cX3_leavingRow 81 = .ok (.bipush 6, 2) := by decide +kernel
theorem dX3_leavingRow_83 : decode cX3_leavingRow 83 = .ok (.laload, 1) := by decide +kernel
theorem dX3_leavingRow_84 : decode cX3_leavingRow 84 = .ok (.invokestatic 130, 3) := by decide +kernel
theorem dX3_leavingRow_87 : decode cX3_leavingRow 87 = .ok (.lstore 11, 2) := by decide +kernel
theorem dX3_leavingRow_89 : decode cX3_leavingRow 89 = .ok (.lload 9, 2) := by decide +kernel
theorem dX3_leavingRow_91 : decode cX3_leavingRow 91 = .ok (.lconst 0, 1) := by decide +kernel
theorem dX3_leavingRow_92 : decode cX3_leavingRow 92 = .ok (.lcmp, 1) := by decide +kernel
theorem dX3_leavingRow_93 : decode cX3_leavingRow 93 = .ok (.ifCond .le 32, 3) := by decide +kernel
theorem dX3_leavingRow_96 : decode cX3_leavingRow 96 = .ok (.iload_n 3, 1) := by decide +kernel
theorem dX3_leavingRow_97 : decode cX3_leavingRow 97 = .ok (.ifCond .lt 17, 3) := by decide +kernel
theorem dX3_leavingRow_100 : decode cX3_leavingRow 100 = .ok (.lload 11, 2) := by decide +kernel
theorem dX3_leavingRow_102 : decode cX3_leavingRow 102 = .ok (.lload 6, 2) := by decide +kernel
theorem dX3_leavingRow_104 : decode cX3_leavingRow 104 = .ok (.lmul, 1) := by decide +kernel
theorem dX3_leavingRow_105 : decode cX3_leavingRow 105 = .ok (.lload 4, 2) := by decide +kernel
theorem dX3_leavingRow_107 : decode cX3_leavingRow 107 = .ok (.lload 9, 2) := by decide +kernel
theorem dX3_leavingRow_109 : decode cX3_leavingRow 109 = .ok (.lmul, 1) := by decide +kernel
theorem dX3_leavingRow_110 : decode cX3_leavingRow 110 = .ok (.lcmp, 1) := by decide +kernel
theorem dX3_leavingRow_111 : decode cX3_leavingRow 111 = .ok (.ifCond .ge 14, 3) := by decide +kernel
theorem dX3_leavingRow_114 : decode cX3_leavingRow 114 = .ok (.iload 8, 2) := by decide +kernel
theorem dX3_leavingRow_116 : decode cX3_leavingRow 116 = .ok (.istore_n 3, 1) := by decide +kernel
theorem dX3_leavingRow_117 : decode cX3_leavingRow 117 = .ok (.lload 11, 2) := by decide +kernel
theorem dX3_leavingRow_119 : decode cX3_leavingRow 119 = .ok (.lstore 4, 2) := by decide +kernel
theorem dX3_leavingRow_121 : decode cX3_leavingRow 121 = .ok (.lload 9, 2) := by decide +kernel
theorem dX3_leavingRow_123 : decode cX3_leavingRow 123 = .ok (.lstore 6, 2) := by decide +kernel
theorem dX3_leavingRow_125 : decode cX3_leavingRow 125 = .ok (.iinc 8 1, 3) := by decide +kernel
theorem dX3_leavingRow_128 : decode cX3_leavingRow 128 = .ok (.goto (-105), 3) := by decide +kernel
theorem dX3_leavingRow_131 : decode cX3_leavingRow 131 = .ok (.iload_n 3, 1) := by decide +kernel
theorem dX3_leavingRow_132 : decode cX3_leavingRow 132 = .ok (.ireturn, 1) := by decide +kernel
set_option maxRecDepth 20000 in
theorem ggX3_exchange_X3_substitute : GoodIn wsX3_exchange wsX3_substitute := goodIn_r _ [15, 7, 16, 17, 18, 19, 20, 21, 22, 23, 24, 25, 26, 27] (by decide +kernel) (by decide +kernel)
set_option maxRecDepth 20000 in
theorem gX3_exchange_X3_substitute : GoodIn wsX3_exchange (wsV RX3 136 RX3 yX3_substitute wsX3_substitute) := goodIn_app (goodIn_of _ (by decide +kernel)) ggX3_exchange_X3_substitute
theorem dX3_exchange_0 : decode cX3_exchange 0 = .ok (.iload_n 1, 1) := by decide +kernel
theorem dX3_exchange_1 : decode cX3_exchange 1 = .ok (.ifCond .lt 19, 3) := by decide +kernel
theorem dX3_exchange_4 : decode cX3_exchange 4 = .ok (.iload_n 1, 1) := by decide +kernel
theorem dX3_exchange_5 : decode cX3_exchange 5 = .ok (.bipush 27, 2) := by decide +kernel
theorem dX3_exchange_7 : decode cX3_exchange 7 = .ok (.if_icmp .ge 13, 3) := by decide +kernel
theorem dX3_exchange_10 : decode cX3_exchange 10 = .ok (.iload_n 2, 1) := by decide +kernel
theorem dX3_exchange_11 : decode cX3_exchange 11 = .ok (.ifCond .lt 9, 3) := by decide +kernel
theorem dX3_exchange_14 : decode cX3_exchange 14 = .ok (.iload_n 2, 1) := by decide +kernel
theorem dX3_exchange_15 : decode cX3_exchange 15 = .ok (.bipush 6, 2) := by decide +kernel
theorem dX3_exchange_17 : decode cX3_exchange 17 = .ok (.if_icmp .lt 4, 3) := by decide +kernel
theorem dX3_exchange_20 : decode cX3_exchange 20 = .ok (.return_, 1) := by decide +kernel
theorem dX3_exchange_21 : decode cX3_exchange 21 = .ok (.aload_n 0, 1) := by decide +kernel
theorem dX3_exchange_22 : decode cX3_exchange 22 = .ok (.getfield 13, 3) := by decide +kernel
theorem dX3_exchange_25 : decode cX3_exchange 25 = .ok (.iload_n 1, 1) := by decide +kernel
theorem dX3_exchange_26 : decode cX3_exchange 26 = .ok (.aaload, 1) := by decide +kernel
theorem dX3_exchange_27 : decode cX3_exchange 27 = .ok (.astore 4, 2) := by decide +kernel
theorem dX3_exchange_29 : decode cX3_exchange 29 = .ok (.aload 4, 2) := by decide +kernel
theorem dX3_exchange_31 : decode cX3_exchange 31 = .ok (.iload_n 2, 1) := by decide +kernel
theorem dX3_exchange_32 : decode cX3_exchange 32 = .ok (.laload, 1) := by decide +kernel
theorem dX3_exchange_33 : decode cX3_exchange 33 = .ok (.invokestatic 130, 3) := by decide +kernel
theorem dX3_exchange_36 : decode cX3_exchange 36 = .ok (.lstore 5, 2) := by decide +kernel
theorem dX3_exchange_38 : decode cX3_exchange 38 = .ok (.lload 5, 2) := by decide +kernel
theorem dX3_exchange_40 : decode cX3_exchange 40 = .ok (.lconst 0, 1) := by decide +kernel
theorem dX3_exchange_41 : decode cX3_exchange 41 = .ok (.lcmp, 1) := by decide +kernel
theorem dX3_exchange_42 : decode cX3_exchange 42 = .ok (.ifCond .ne 4, 3) := by decide +kernel
theorem dX3_exchange_45 : decode cX3_exchange 45 = .ok (.return_, 1) := by decide +kernel
theorem dX3_exchange_46 : decode cX3_exchange 46 = .ok (.iconst 0, 1) := by decide +kernel
theorem dX3_exchange_47 : decode cX3_exchange 47 = .ok (.istore 7, 2) := by decide +kernel
theorem dX3_exchange_49 : decode cX3_exchange 49 = .ok (.iload 7, 2) := by decide +kernel
theorem dX3_exchange_51 : decode cX3_exchange 51 = .ok (.bipush 27, 2) := by decide +kernel
theorem dX3_exchange_53 : decode cX3_exchange 53 = .ok (.if_icmp .ge 39, 3) := by decide +kernel
theorem dX3_exchange_56 : decode cX3_exchange 56 = .ok (.aload_n 0, 1) := by decide +kernel
theorem dX3_exchange_57 : decode cX3_exchange 57 = .ok (.getfield 20, 3) := by decide +kernel
theorem dX3_exchange_60 : decode cX3_exchange 60 = .ok (.iload 7, 2) := by decide +kernel
theorem dX3_exchange_62 : decode cX3_exchange 62 = .ok (.baload, 1) := by decide +kernel
theorem dX3_exchange_63 : decode cX3_exchange 63 = .ok (.ifCond .eq 23, 3) := by decide +kernel
theorem dX3_exchange_66 : decode cX3_exchange 66 = .ok (.iload 7, 2) := by decide +kernel
theorem dX3_exchange_68 : decode cX3_exchange 68 = .ok (.iload_n 1, 1) := by decide +kernel
theorem dX3_exchange_69 : decode cX3_exchange 69 = .ok (.if_icmp .eq 17, 3) := by decide +kernel
theorem dX3_exchange_72 : decode cX3_exchange 72 = .ok (.aload_n 0, 1) := by decide +kernel
theorem dX3_exchange_73 : decode cX3_exchange 73 = .ok (.aload_n 0, 1) := by decide +kernel
theorem dX3_exchange_74 : decode cX3_exchange 74 = .ok (.getfield 13, 3) := by decide +kernel
theorem dX3_exchange_77 : decode cX3_exchange 77 = .ok (.iload 7, 2) := by decide +kernel
theorem dX3_exchange_79 : decode cX3_exchange 79 = .ok (.aaload, 1) := by decide +kernel
theorem dX3_exchange_80 : decode cX3_exchange 80 = .ok (.aload 4, 2) := by decide +kernel
theorem dX3_exchange_82 : decode cX3_exchange 82 = .ok (.iload_n 2, 1) := by decide +kernel
theorem dX3_exchange_83 : decode cX3_exchange 83 = .ok (.invokevirtual 136, 3) := by decide +kernel
theorem dX3_exchange_86 : decode cX3_exchange 86 = .ok (.iinc 7 1, 3) := by decide +kernel
theorem dX3_exchange_89 : decode cX3_exchange 89 = .ok (.goto (-40), 3) := by decide +kernel
theorem dX3_exchange_92 : decode cX3_exchange 92 = .ok (.iconst 0, 1) := by decide +kernel
theorem dX3_exchange_93 : decode cX3_exchange 93 = .ok (.istore 7, 2) := by decide +kernel
theorem dX3_exchange_95 : decode cX3_exchange 95 = .ok (.iload 7, 2) := by decide +kernel
theorem dX3_exchange_97 : decode cX3_exchange 97 = .ok (.bipush 6, 2) := by decide +kernel
theorem dX3_exchange_99 : decode cX3_exchange 99 = .ok (.if_icmp .gt 15, 3) := by decide +kernel
theorem dX3_exchange_102 : decode cX3_exchange 102 = .ok (.aload 4, 2) := by decide +kernel
theorem dX3_exchange_104 : decode cX3_exchange 104 = .ok (.iload 7, 2) := by decide +kernel
theorem dX3_exchange_106 : decode cX3_exchange 106 = .ok (.lconst 0, 1) := by decide +kernel
theorem dX3_exchange_107 : decode cX3_exchange 107 = .ok (.lastore, 1) := by decide +kernel
theorem dX3_exchange_108 : decode cX3_exchange 108 = .ok (.iinc 7 1, 3) := by decide +kernel
theorem dX3_exchange_111 : decode cX3_exchange 111 = .ok (.goto (-16), 3) := by decide +kernel
theorem dX3_exchange_114 : decode cX3_exchange 114 = .ok (.aload 4, 2) := by decide +kernel
theorem dX3_exchange_116 : decode cX3_exchange 116 = .ok (.iload_n 2, 1) := by decide +kernel
theorem dX3_exchange_117 : decode cX3_exchange 117 = .ok (.lload 5, 2) := by decide +kernel
theorem dX3_exchange_119 : decode cX3_exchange 119 = .ok (.lastore, 1) := by decide +kernel
theorem dX3_exchange_120 : decode cX3_exchange 120 = .ok (.aload_n 0, 1) := by decide +kernel
theorem dX3_exchange_121 : decode cX3_exchange 121 = .ok (.lload 5, 2) := by decide +kernel
theorem dX3_exchange_123 : decode cX3_exchange 123 = .ok (.putfield 16, 3) := by decide +kernel
theorem dX3_exchange_126 : decode cX3_exchange 126 = .ok (.aload_n 0, 1) := by decide +kernel
theorem dX3_exchange_127 : decode cX3_exchange 127 = .ok (.getfield 43, 3) := by decide +kernel
theorem dX3_exchange_130 : decode cX3_exchange 130 = .ok (.iload_n 2, 1) := by decide +kernel
theorem dX3_exchange_131 : decode cX3_exchange 131 = .ok (.iaload, 1) := by decide +kernel
theorem dX3_exchange_132 : decode cX3_exchange 132 = .ok (.istore 7, 2) := by decide +kernel
theorem dX3_exchange_134 : decode cX3_exchange 134 = .ok (.iload 7, 2) := by decide +kernel
theorem dX3_exchange_136 : decode cX3_exchange 136 = .ok (.ifCond .lt 26, 3) := by decide +kernel
theorem dX3_exchange_139 : decode cX3_exchange 139 = .ok (.iload 7, 2) := by decide +kernel
theorem dX3_exchange_141 : decode cX3_exchange 141 = .ok (.bipush 27, 2) := by decide +kernel
theorem dX3_exchange_143 : decode cX3_exchange 143 = .ok (.if_icmp .ge 19, 3) := by decide +kernel
theorem dX3_exchange_146 : decode cX3_exchange 146 = .ok (.aload_n 0, 1) := by decide +kernel
theorem dX3_exchange_147 : decode cX3_exchange 147 = .ok (.getfield 40, 3) := by decide +kernel
theorem dX3_exchange_150 : decode cX3_exchange 150 = .ok (.iload 7, 2) := by decide +kernel
theorem dX3_exchange_152 : decode cX3_exchange 152 = .ok (.iconst (-1), 1) := by decide +kernel
theorem dX3_exchange_153 : decode cX3_exchange 153 = .ok (.iastore, 1) := by decide +kernel
theorem dX3_exchange_154 : decode cX3_exchange 154 = .ok (.aload_n 0, 1) := by decide +kernel
theorem dX3_exchange_155 : decode cX3_exchange 155 = .ok (.getfield 37, 3) := by decide +kernel
theorem dX3_exchange_158 : decode cX3_exchange 158 = .ok (.iload 7, 2) := by decide +kernel
theorem dX3_exchange_160 : decode cX3_exchange 160 = .ok (.iload_n 3, 1) := by decide +kernel
theorem dX3_exchange_161 : decode cX3_exchange 161 = .ok (.iastore, 1) := by decide +kernel
theorem dX3_exchange_162 : decode cX3_exchange 162 = .ok (.aload_n 0, 1) := by decide +kernel
theorem dX3_exchange_163 : decode cX3_exchange 163 = .ok (.getfield 43, 3) := by decide +kernel
theorem dX3_exchange_166 : decode cX3_exchange 166 = .ok (.iload_n 2, 1) := by decide +kernel
theorem dX3_exchange_167 : decode cX3_exchange 167 = .ok (.iload_n 1, 1) := by decide +kernel
theorem dX3_exchange_168 : decode cX3_exchange 168 = .ok (.iastore, 1) := by decide +kernel
theorem dX3_exchange_169 : decode cX3_exchange 169 = .ok (.aload_n 0, 1) := by decide +kernel
theorem dX3_exchange_170 : decode cX3_exchange 170 = .ok (.getfield 40, 3) := by decide +kernel
theorem dX3_exchange_173 : decode cX3_exchange 173 = .ok (.iload_n 1, 1) := by decide +kernel
theorem dX3_exchange_174 : decode cX3_exchange 174 = .ok (.iload_n 2, 1) := by decide +kernel
theorem dX3_exchange_175 : decode cX3_exchange 175 = .ok (.iastore, 1) := by decide +kernel
theorem dX3_exchange_176 : decode cX3_exchange 176 = .ok (.return_, 1) := by decide +kernel
theorem dX3_substitute_0 : decode cX3_substitute 0 = .ok (.iload_n 3, 1) := by decide +kernel
theorem dX3_substitute_1 : decode cX3_substitute 1 = .ok (.ifCond .lt 23, 3) := by decide +kernel
theorem dX3_substitute_4 : decode cX3_substitute 4 = .ok (.iload_n 3, 1) := by decide +kernel
theorem dX3_substitute_5 : decode cX3_substitute 5 = .ok (.bipush 6, 2) := by decide +kernel
theorem dX3_substitute_7 : decode cX3_substitute 7 = .ok (.if_icmp .ge 17, 3) := by decide +kernel
theorem dX3_substitute_10 : decode cX3_substitute 10 = .ok (.aload_n 1, 1) := by decide +kernel
theorem dX3_substitute_11 : decode cX3_substitute 11 = .ok (.arraylength, 1) := by decide +kernel
theorem dX3_substitute_12 : decode cX3_substitute 12 = .ok (.bipush 6, 2) := by decide +kernel
theorem dX3_substitute_14 : decode cX3_substitute 14 = .ok (.if_icmp .le 10, 3) := by decide +kernel
theorem dX3_substitute_17 : decode cX3_substitute 17 = .ok (.aload_n 2, 1) := by decide +kernel
theorem dX3_substitute_18 : decode cX3_substitute 18 = .ok (.arraylength, 1) := by decide +kernel
theorem dX3_substitute_19 : decode cX3_substitute 19 = .ok (.bipush 6, 2) := by decide +kernel
theorem dX3_substitute_21 : decode cX3_substitute 21 = .ok (.if_icmp .gt 4, 3) := by decide +kernel
theorem dX3_substitute_24 : decode cX3_substitute 24 = .ok (.return_, 1) := by decide +kernel
theorem dX3_substitute_25 : decode cX3_substitute 25 = .ok (.aload_n 2, 1) := by decide +kernel
theorem dX3_substitute_26 : decode cX3_substitute 26 = .ok (.iload_n 3, 1) := by decide +kernel
theorem dX3_substitute_27 : decode cX3_substitute 27 = .ok (.laload, 1) := by decide +kernel
theorem dX3_substitute_28 : decode cX3_substitute 28 = .ok (.lstore 4, 2) := by decide +kernel
theorem dX3_substitute_30 : decode cX3_substitute 30 = .ok (.lload 4, 2) := by decide +kernel
theorem dX3_substitute_32 : decode cX3_substitute 32 = .ok (.lconst 0, 1) := by decide +kernel
theorem dX3_substitute_33 : decode cX3_substitute 33 = .ok (.lcmp, 1) := by decide +kernel
theorem dX3_substitute_34 : decode cX3_substitute 34 = .ok (.ifCond .ge 9, 3) := by decide +kernel
theorem dX3_substitute_37 : decode cX3_substitute 37 = .ok (.lload 4, 2) := by decide +kernel
theorem dX3_substitute_39 : decode cX3_substitute 39 = .ok (.lneg, 1) := by decide +kernel
theorem dX3_substitute_40 : decode cX3_substitute 40 = .ok (.goto 5, 3) := by decide +kernel
theorem dX3_substitute_43 : decode cX3_substitute 43 = .ok (.lload 4, 2) := by decide +kernel
theorem dX3_substitute_45 : decode cX3_substitute 45 = .ok (.lstore 6, 2) := by decide +kernel
theorem dX3_substitute_47 : decode cX3_substitute 47 = .ok (.lload 4, 2) := by decide +kernel
theorem dX3_substitute_49 : decode cX3_substitute 49 = .ok (.lconst 0, 1) := by decide +kernel
theorem dX3_substitute_50 : decode cX3_substitute 50 = .ok (.lcmp, 1) := by decide +kernel
theorem dX3_substitute_51 : decode cX3_substitute 51 = .ok (.ifCond .ge 10, 3) := by decide +kernel
theorem dX3_substitute_54 : decode cX3_substitute 54 = .ok (.aload_n 1, 1) := by decide +kernel
theorem dX3_substitute_55 : decode cX3_substitute 55 = .ok (.iload_n 3, 1) := by decide +kernel
theorem dX3_substitute_56 : decode cX3_substitute 56 = .ok (.laload, 1) := by decide +kernel
theorem dX3_substitute_57 : decode cX3_substitute 57 = .ok (.lneg, 1) := by decide +kernel
theorem dX3_substitute_58 : decode cX3_substitute 58 = .ok (.goto 6, 3) := by decide +kernel
theorem dX3_substitute_61 : decode cX3_substitute 61 = .ok (.aload_n 1, 1) := by decide +kernel
theorem dX3_substitute_62 : decode cX3_substitute 62 = .ok (.iload_n 3, 1) := by decide +kernel
theorem dX3_substitute_63 : decode cX3_substitute 63 = .ok (.laload, 1) := by decide +kernel
theorem dX3_substitute_64 : decode cX3_substitute 64 = .ok (.lstore 8, 2) := by decide +kernel
theorem dX3_substitute_66 : decode cX3_substitute 66 = .ok (.aload_n 0, 1) := by decide +kernel
theorem dX3_substitute_67 : decode cX3_substitute 67 = .ok (.getfield 16, 3) := by decide +kernel
theorem dX3_substitute_70 : decode cX3_substitute 70 = .ok (.lconst 0, 1) := by decide +kernel
theorem dX3_substitute_71 : decode cX3_substitute 71 = .ok (.lcmp, 1) := by decide +kernel
theorem dX3_substitute_72 : decode cX3_substitute 72 = .ok (.ifCond .eq 20, 3) := by decide +kernel
theorem dX3_substitute_75 : decode cX3_substitute 75 = .ok (.lload 8, 2) := by decide +kernel
theorem dX3_substitute_77 : decode cX3_substitute 77 = .ok (.lconst 0, 1) := by decide +kernel
theorem dX3_substitute_78 : decode cX3_substitute 78 = .ok (.lcmp, 1) := by decide +kernel
theorem dX3_substitute_79 : decode cX3_substitute 79 = .ok (.ifCond .ne 14, 3) := by decide +kernel
theorem dX3_substitute_82 : decode cX3_substitute 82 = .ok (.lload 6, 2) := by decide +kernel
theorem dX3_substitute_84 : decode cX3_substitute 84 = .ok (.aload_n 0, 1) := by decide +kernel
theorem dX3_substitute_85 : decode cX3_substitute 85 = .ok (.getfield 16, 3) := by decide +kernel
theorem dX3_substitute_88 : decode cX3_substitute 88 = .ok (.lcmp, 1) := by decide +kernel
theorem dX3_substitute_89 : decode cX3_substitute 89 = .ok (.ifCond .ne 4, 3) := by decide +kernel
theorem dX3_substitute_92 : decode cX3_substitute 92 = .ok (.return_, 1) := by decide +kernel
theorem dX3_substitute_93 : decode cX3_substitute 93 = .ok (.iconst 0, 1) := by decide +kernel
theorem dX3_substitute_94 : decode cX3_substitute 94 = .ok (.istore 10, 2) := by decide +kernel
theorem dX3_substitute_96 : decode cX3_substitute 96 = .ok (.iload 10, 2) := by decide +kernel
theorem dX3_substitute_98 : decode cX3_substitute 98 = .ok (.bipush 6, 2) := by decide +kernel
theorem dX3_substitute_100 : decode cX3_substitute 100 = .ok (.if_icmp .gt 33, 3) := by decide +kernel
theorem dX3_substitute_103 : decode cX3_substitute 103 = .ok (.aload_n 1, 1) := by decide +kernel
theorem dX3_substitute_104 : decode cX3_substitute 104 = .ok (.iload 10, 2) := by decide +kernel
theorem dX3_substitute_106 : decode cX3_substitute 106 = .ok (.aload_n 1, 1) := by decide +kernel
theorem dX3_substitute_107 : decode cX3_substitute 107 = .ok (.iload 10, 2) := by decide +kernel
theorem dX3_substitute_109 : decode cX3_substitute 109 = .ok (.laload, 1) := by decide +kernel
theorem dX3_substitute_110 : decode cX3_substitute 110 = .ok (.lload 6, 2) := by decide +kernel
theorem dX3_substitute_112 : decode cX3_substitute 112 = .ok (.lmul, 1) := by decide +kernel
theorem dX3_substitute_113 : decode cX3_substitute 113 = .ok (.lload 8, 2) := by decide +kernel
theorem dX3_substitute_115 : decode cX3_substitute 115 = .ok (.aload_n 2, 1) := by decide +kernel
theorem dX3_substitute_116 : decode cX3_substitute 116 = .ok (.iload 10, 2) := by decide +kernel
theorem dX3_substitute_118 : decode cX3_substitute 118 = .ok (.laload, 1) := by decide +kernel
theorem dX3_substitute_119 : decode cX3_substitute 119 = .ok (.lmul, 1) := by decide +kernel
theorem dX3_substitute_120 : decode cX3_substitute 120 = .ok (.lsub, 1) := by decide +kernel
theorem dX3_substitute_121 : decode cX3_substitute 121 = .ok (.aload_n 0, 1) := by decide +kernel
theorem dX3_substitute_122 : decode cX3_substitute 122 = .ok (.getfield 16, 3) := by decide +kernel
theorem dX3_substitute_125 : decode cX3_substitute 125 = .ok (.ldiv, 1) := by decide +kernel
theorem dX3_substitute_126 : decode cX3_substitute 126 = .ok (.lastore, 1) := by decide +kernel
theorem dX3_substitute_127 : decode cX3_substitute 127 = .ok (.iinc 10 1, 3) := by decide +kernel
theorem dX3_substitute_130 : decode cX3_substitute 130 = .ok (.goto (-34), 3) := by decide +kernel
theorem dX3_substitute_133 : decode cX3_substitute 133 = .ok (.aload_n 1, 1) := by decide +kernel
theorem dX3_substitute_134 : decode cX3_substitute 134 = .ok (.iload_n 3, 1) := by decide +kernel
theorem dX3_substitute_135 : decode cX3_substitute 135 = .ok (.lload 8, 2) := by decide +kernel
theorem dX3_substitute_137 : decode cX3_substitute 137 = .ok (.lastore, 1) := by decide +kernel
theorem dX3_substitute_138 : decode cX3_substitute 138 = .ok (.return_, 1) := by decide +kernel
end
section
/-! The world of a Dictionary: 43 cells at addresses ad 0 .. ad 42, apart. 0 the object, 1 its array of rows, 2 placed, 3 constants, 4 levels, 5 costAbove, 6 costBelow, 7 sides, 8 columnOf, 9 rowOf, 10 its array of slopes, 11 .. 37 the rows, 38 .. 42 the slopes. Its state: rows, scale, the arrays of ints by their places, slopes, countedLevels. -/
/-- the classes of arrays: char, int, long, boolean, Change, Constraint, Layout, rows of longs -/
abbrev tyW (cy : Nat → ClassId) : List (ClassId × FieldType) := [(cy 0, .char), (cy 1, .int), (cy 2, .long), (cy 3, .boolean), (cy 4, .object "LayoutSolver$Change"), (cy 5, .object "LayoutSolver$Constraint"), (cy 6, .object "LayoutSolver$Layout"), (cy 7, .array .long)]
abbrev DS : Type := (Nat → Nat → Int64) × Int64 × (Nat → Nat → Int32) × (Nat → Nat → Int64) × Int32
abbrev dRo (S : DS) : Nat → Nat → Int64 := S.1
abbrev dSc (S : DS) : Int64 := S.2.1
abbrev dI (S : DS) : Nat → Nat → Int32 := S.2.2.1
abbrev dSl (S : DS) : Nat → Nat → Int64 := S.2.2.2.1
abbrev dCt (S : DS) : Int32 := S.2.2.2.2
/-- a function of two places with another row -/
def uR {α : Type} (f : Nat → Nat → α) (i : Nat) (g : Nat → α) : Nat → Nat → α := fun a => if a = i then g else f a
theorem uR_s {α : Type} (f : Nat → Nat → α) (i : Nat) (g : Nat → α) : uR f i g i = g := by simp [uR]
theorem uR_n {α : Type} {f : Nat → Nat → α} {i j : Nat} {g : Nat → α} (h : j ≠ i) : uR f i g j = f j := by simp [uR, h]
abbrev sRo (S : DS) (i j : Nat) (v : Int64) : DS := (uR (dRo S) i (vp_updL (dRo S i) j v), dSc S, dI S, dSl S, dCt S)
abbrev sSc (S : DS) (v : Int64) : DS := (dRo S, v, dI S, dSl S, dCt S)
abbrev sI (S : DS) (k j : Nat) (v : Int32) : DS := (dRo S, dSc S, uR (dI S) k (upd (dI S k) j v), dSl S, dCt S)
abbrev sSl (S : DS) (i j : Nat) (v : Int64) : DS := (dRo S, dSc S, dI S, uR (dSl S) i (vp_updL (dSl S i) j v), dCt S)
abbrev sCt (S : DS) (v : Int32) : DS := (dRo S, dSc S, dI S, dSl S, v)
abbrev dFs (ad : Nat → Nat) (S : DS) : List Value := [.ref (ad 1), .long (dSc S), .ref (ad 2), .ref (ad 3), .ref (ad 4), .ref (ad 5), .ref (ad 6), .ref (ad 7), .ref (ad 8), .ref (ad 9), .ref (ad 10), .int (dCt S)]
def dE (cy : Nat → ClassId) (ad : Nat → Nat) (S : DS) (k : Nat) : va_E :=
  if k = 0 then .inr (3, dFs ad S) else if k = 1 then .inl (cy 7, 27, .inr (.inr (.inr (.inr (fun i => some (ad (11 + i))))))) else if k = 10 then .inl (cy 7, 5, .inr (.inr (.inr (.inr (fun i => some (ad (38 + i)))))))
  else if k = 2 then .inl (cy 3, 27, .inl (dI S 2)) else if k = 9 then .inl (cy 1, 6, .inl (dI S 9)) else if k < 9 then .inl (cy 1, 27, .inl (dI S k)) else if k < 38 then .inl (cy 2, 7, .inr (.inl (dRo S (k - 11)))) else .inl (cy 2, 6, .inr (.inl (dSl S (k - 38))))
def wD (cy : Nat → ClassId) (ad : Nat → Nat) (S : DS) : va_W := (List.range 43).map (fun k => (ad k, dE cy ad S k))
theorem wD_get {cy : Nat → ClassId} {ad : Nat → Nat} {S : DS} {k : Nat} (h : k < 43) : (wD cy ad S)[k]? = some (ad k, dE cy ad S k) := by
  simp [wD, List.getElem?_range h]
theorem wD_set {cy : Nat → ClassId} {ad : Nat → Nat} {S S' : DS} {k : Nat} {e : va_E} (h : k < 43) (hk : dE cy ad S' k = e) (hs : ∀ j, j < 43 → j ≠ k → dE cy ad S' j = dE cy ad S j) : (wD cy ad S).set k (ad k, e) = wD cy ad S' := by
  apply List.ext_getElem?
  intro j
  rw [List.getElem?_set]
  by_cases hj : j < 43
  · by_cases hjk : k = j
    · subst hjk
      rw [if_pos rfl, if_pos (by simp [wD]; exact hj), wD_get hj, hk]
    · rw [if_neg hjk, wD_get hj, wD_get hj, hs j hj (fun q => hjk q.symm)]
  · have h1 : (wD cy ad S)[j]? = none := List.getElem?_eq_none (by simp [wD]; omega)
    have h2 : (wD cy ad S')[j]? = none := List.getElem?_eq_none (by simp [wD]; omega)
    have : k ≠ j := by omega
    rw [if_neg this, h1, h2]
theorem wD_len {cy : Nat → ClassId} {ad : Nat → Nat} {S : DS} : (wD cy ad S).length = 43 := by simp [wD]
theorem wX_get {cy : Nat → ClassId} {ad : Nat → Nat} {S : DS} {X : va_W} {k : Nat} (h : k < 43) : (wD cy ad S ++ X)[k]? = some (ad k, dE cy ad S k) := by
  rw [List.getElem?_append_left (by rw [wD_len]; exact h)]
  exact wD_get h
theorem wX_set {cy : Nat → ClassId} {ad : Nat → Nat} {S S' : DS} {X : va_W} {k : Nat} {e : va_E} (h : k < 43) (hk : dE cy ad S' k = e) (hs : ∀ j, j < 43 → j ≠ k → dE cy ad S' j = dE cy ad S j) : (wD cy ad S ++ X).set k (ad k, e) = wD cy ad S' ++ X := by
  rw [List.set_append_left _ _ (by rw [wD_len]; exact h), wD_set h hk hs]
theorem dE_i {cy : Nat → ClassId} {ad : Nat → Nat} {S : DS} {k : Nat} (h : 3 ≤ k) (h2 : k < 9) : dE cy ad S k = .inl (cy 1, 27, .inl (dI S k)) := by
  unfold dE
  rw [if_neg (by omega), if_neg (by omega), if_neg (by omega), if_neg (by omega), if_neg (by omega), if_pos (by omega)]
theorem dE_r {cy : Nat → ClassId} {ad : Nat → Nat} {S : DS} {i : Nat} (h : i < 27) : dE cy ad S (11 + i) = .inl (cy 2, 7, .inr (.inl (dRo S i))) := by
  unfold dE
  rw [if_neg (by omega), if_neg (by omega), if_neg (by omega), if_neg (by omega), if_neg (by omega), if_neg (by omega), if_pos (by omega), show 11 + i - 11 = i by omega]
theorem dE_s {cy : Nat → ClassId} {ad : Nat → Nat} {S : DS} {i : Nat} : dE cy ad S (38 + i) = .inl (cy 2, 6, .inr (.inl (dSl S i))) := by
  unfold dE
  rw [if_neg (by omega), if_neg (by omega), if_neg (by omega), if_neg (by omega), if_neg (by omega), if_neg (by omega), if_neg (by omega), show 38 + i - 38 = i by omega]
/-- cells that a state's change leaves alone -/
theorem dE_c {cy : Nat → ClassId} {ad : Nat → Nat} {S S' : DS} {k : Nat} (h0 : k = 0 → dSc S' = dSc S ∧ dCt S' = dCt S) (h1 : 2 ≤ k → k < 10 → dI S' k = dI S k) (h2 : 11 ≤ k → k < 38 → dRo S' (k - 11) = dRo S (k - 11)) (h3 : 38 ≤ k → dSl S' (k - 38) = dSl S (k - 38)) : dE cy ad S' k = dE cy ad S k := by
  by_cases k0 : k = 0
  · obtain ⟨a, b⟩ := h0 k0
    simp only [dE, if_pos k0, dFs, a, b]
  by_cases k1 : k = 1
  · subst k1; rfl
  by_cases k10 : k = 10
  · subst k10; rfl
  by_cases k2 : k = 2
  · subst k2; simp only [dE, h1 (by omega) (by omega)]; rfl
  by_cases k9 : k = 9
  · subst k9; simp only [dE, h1 (by omega) (by omega)]; rfl
  by_cases k8 : k < 9
  · rw [dE_i (by omega) k8, dE_i (by omega) k8, h1 (by omega) (by omega)]
  by_cases k38 : k < 38
  · obtain ⟨i, rfl⟩ : ∃ i, k = 11 + i := ⟨k - 11, by omega⟩
    rw [dE_r (by omega), dE_r (by omega)]
    have := h2 (by omega) k38
    rw [show 11 + i - 11 = i by omega] at this
    rw [this]
  · obtain ⟨i, rfl⟩ : ∃ i, k = 38 + i := ⟨k - 38, by omega⟩
    rw [dE_s, dE_s]
    have := h3 (by omega)
    rw [show 38 + i - 38 = i by omega] at this
    rw [this]
theorem TX3_1 (k : Nat) : (TX3 k).1 = RX3 := by
  unfold TX3
  split <;> rfl
section VD
variable {p : Program} {l : Launch} {e : Env} {R : Room} {s : State} {m : MethodId} {args : Array Value} {below : List Frame} {meth : Method} {c : Code} {H : Heap} {locs : List Loc} {cells slots : Nat} {Q : State → Prop}
variable {cc : ByteArray} {pc : Nat} {ls : Array Slot} {rest : List Value} {D : va_G} {A : Nat → Prop} {H0 : Heap} {cy : Nat → ClassId} {ad : Nat → Nat} {S : DS} {X : va_W}
theorem rD_get (hexec : p.tables.exec = Jvm.exec) (hb : c.code = cc) {own : String} {Ts : List Cond} {index : Nat} (hts : ∀ w ∈ Ts, w.before args s = true) (hin : ∀ w ∈ u_ws RX3 TX3 12, w ∈ Ts) (hown : s.vm.findClass own = some m.cls) (hK : va_K D vwCl (tyW cy) s) (hP : va_P D vwCl (wD cy ad S ++ X) H) (k : Nat) {v : Value} (hk : k < 12) (hv : (dFs ad S)[k]? = some v) (hm : Cond.fieldLink own index RX3 (TX3 k).2.1 (TX3 k).2.2.1 ∈ Ts) (hdg : decode cc pc = .ok (.getfield index, 3))
    (kk : W p l e R s m args below meth c H locs cells slots Q (F0 m (pc + 3) ls (v :: rest))) : W p l e R s m args below meth c H locs cells slots Q (F0 m pc ls (.ref (ad 0) :: rest)) :=
  va_get (ci := 3) (C := RX3) (T := TX3) (N := 12) hexec hb hts hin hown hK hP 0 (wX_get (by decide)) rfl k hk (hts _ hm) (fun x h => by rw [TX3_1] at h; exact h) hv hdg kk
theorem rD_putSc (hexec : p.tables.exec = Jvm.exec) (hb : c.code = cc) {own : String} {Ts : List Cond} {index : Nat} (hts : ∀ w ∈ Ts, w.before args s = true) (hin : ∀ w ∈ u_ws RX3 TX3 12, w ∈ Ts) (hown : s.vm.findClass own = some m.cls) (hK : va_K D vwCl (tyW cy) s) (hP : va_P D vwCl (wD cy ad S ++ X) H) (hD : va_D A (wD cy ad S ++ X)) (hS : va_S A H0 H locs) {v : Int64} (hm : Cond.fieldLink own index RX3 "scale" "J" ∈ Ts) (hdg : decode cc pc = .ok (.putfield index, 3))
    (kk : ∀ (H : Heap) (locs : List Loc), va_P D vwCl (wD cy ad (sSc S v) ++ X) H → va_D A (wD cy ad (sSc S v) ++ X) → va_S A H0 H locs → W p l e R s m args below meth c H locs cells slots Q (F0 m (pc + 3) ls rest)) : W p l e R s m args below meth c H locs cells slots Q (F0 m pc ls (.long v :: .ref (ad 0) :: rest)) := by
  refine va_put (ty := .long) (ci := 3) (C := RX3) (T := TX3) (N := 12) hexec hb hts hin tyX3 tyX3_ok nmX3 hown hK hP hD hS 0 (wX_get (by decide)) rfl 1 (by decide) (hts _ hm) (fun x h => h) rfl rfl rfl rfl (by show 1 < 12; decide) hdg (fun H1 locs1 a1 a2 a3 => ?_)
  have e1 : (wD cy ad S ++ X).set 0 (ad 0, .inr (3, (dFs ad S).set 1 (.long v))) = wD cy ad (sSc S v) ++ X := wX_set (by decide) rfl (fun j _ h0 => dE_c (fun h => absurd h h0) (fun _ _ => rfl) (fun _ _ => rfl) (fun _ => rfl))
  exact kk H1 locs1 (e1 ▸ a1) (e1 ▸ a2) a3
theorem rD_putCt (hexec : p.tables.exec = Jvm.exec) (hb : c.code = cc) {own : String} {Ts : List Cond} {index : Nat} (hts : ∀ w ∈ Ts, w.before args s = true) (hin : ∀ w ∈ u_ws RX3 TX3 12, w ∈ Ts) (hown : s.vm.findClass own = some m.cls) (hK : va_K D vwCl (tyW cy) s) (hP : va_P D vwCl (wD cy ad S ++ X) H) (hD : va_D A (wD cy ad S ++ X)) (hS : va_S A H0 H locs) {v : Int32} (hm : Cond.fieldLink own index RX3 "countedLevels" "I" ∈ Ts) (hdg : decode cc pc = .ok (.putfield index, 3))
    (kk : ∀ (H : Heap) (locs : List Loc), va_P D vwCl (wD cy ad (sCt S v) ++ X) H → va_D A (wD cy ad (sCt S v) ++ X) → va_S A H0 H locs → W p l e R s m args below meth c H locs cells slots Q (F0 m (pc + 3) ls rest)) : W p l e R s m args below meth c H locs cells slots Q (F0 m pc ls (.int v :: .ref (ad 0) :: rest)) := by
  refine va_put (ty := .int) (ci := 3) (C := RX3) (T := TX3) (N := 12) hexec hb hts hin tyX3 tyX3_ok nmX3 hown hK hP hD hS 0 (wX_get (by decide)) rfl 11 (by decide) (hts _ hm) (fun x h => h) rfl rfl rfl rfl (by show 11 < 12; decide) hdg (fun H1 locs1 a1 a2 a3 => ?_)
  have e1 : (wD cy ad S ++ X).set 0 (ad 0, .inr (3, (dFs ad S).set 11 (.int v))) = wD cy ad (sCt S v) ++ X := wX_set (by decide) rfl (fun j _ h0 => dE_c (fun h => absurd h h0) (fun _ _ => rfl) (fun _ _ => rfl) (fun _ => rfl))
  exact kk H1 locs1 (e1 ▸ a1) (e1 ▸ a2) a3
/-- an array of ints is read (3 .. 8; 9; 2 the booleans) -/
theorem rD_ild (hexec : p.tables.exec = Jvm.exec) (hb : c.code = cc) (hK : va_K D vwCl (tyW cy) s) (hP : va_P D vwCl (wD cy ad S ++ X) H) (k : Nat) (h3 : 3 ≤ k) (h9 : k < 9) {i : Nat} (hi : i < 27) (hdg : decode cc pc = .ok (.iaload, 1)) (kk : W p l e R s m args below meth c H locs cells slots Q (F0 m (pc + 1) ls (.int (dI S k i) :: rest))) : W p l e R s m args below meth c H locs cells slots Q (F0 m pc ls (.int (nI i) :: .ref (ad k) :: rest)) :=
  va_iald hexec hb hK hP k 1 ((wX_get (by omega)).trans (by rw [dE_i h3 h9])) rfl (vp_in_nI hi (by decide)) hdg (by rw [nI_clamp (by omega)]; exact kk)
theorem rD_ild9 (hexec : p.tables.exec = Jvm.exec) (hb : c.code = cc) (hK : va_K D vwCl (tyW cy) s) (hP : va_P D vwCl (wD cy ad S ++ X) H) {i : Nat} (hi : i < 6) (hdg : decode cc pc = .ok (.iaload, 1)) (kk : W p l e R s m args below meth c H locs cells slots Q (F0 m (pc + 1) ls (.int (dI S 9 i) :: rest))) : W p l e R s m args below meth c H locs cells slots Q (F0 m pc ls (.int (nI i) :: .ref (ad 9) :: rest)) :=
  va_iald hexec hb hK hP 9 1 (wX_get (by decide)) rfl (vp_in_nI hi (by decide)) hdg (by rw [nI_clamp (by omega)]; exact kk)
theorem rD_zld (hexec : p.tables.exec = Jvm.exec) (hb : c.code = cc) (hK : va_K D vwCl (tyW cy) s) (hP : va_P D vwCl (wD cy ad S ++ X) H) {i : Nat} (hi : i < 27) (hdg : decode cc pc = .ok (.baload, 1)) (kk : W p l e R s m args below meth c H locs cells slots Q (F0 m (pc + 1) ls (.int (dI S 2 i) :: rest))) : W p l e R s m args below meth c H locs cells slots Q (F0 m pc ls (.int (nI i) :: .ref (ad 2) :: rest)) :=
  va_zald hexec hb hK hP 2 3 (wX_get (by decide)) rfl (vp_in_nI hi (by decide)) hdg (by rw [nI_clamp (by omega)]; exact kk)
theorem rD_ist (hexec : p.tables.exec = Jvm.exec) (hb : c.code = cc) (hK : va_K D vwCl (tyW cy) s) (hP : va_P D vwCl (wD cy ad S ++ X) H) (hD : va_D A (wD cy ad S ++ X)) (hS : va_S A H0 H locs) (k : Nat) (h3 : 3 ≤ k) (h9 : k < 9) {i : Nat} {x : Int32} (hi : i < 27) (hdg : decode cc pc = .ok (.iastore, 1)) (kk : ∀ (H : Heap) (locs : List Loc), va_P D vwCl (wD cy ad (sI S k i x) ++ X) H → va_D A (wD cy ad (sI S k i x) ++ X) → va_S A H0 H locs → W p l e R s m args below meth c H locs cells slots Q (F0 m (pc + 1) ls rest)) : W p l e R s m args below meth c H locs cells slots Q (F0 m pc ls (.int x :: .int (nI i) :: .ref (ad k) :: rest)) := by
  refine va_iast hexec hb hK hP hD hS k 1 ((wX_get (by omega)).trans (by rw [dE_i h3 h9])) rfl (vp_in_nI hi (by decide)) hdg (fun H1 locs1 a1 a2 a3 => ?_)
  rw [nI_clamp (by omega)] at a1 a2
  have e1 : (wD cy ad S ++ X).set k (ad k, .inl (cy 1, 27, .inl (upd (dI S k) i x))) = wD cy ad (sI S k i x) ++ X := wX_set (by omega) (by rw [dE_i h3 h9]; exact congrArg (fun f => (Sum.inl (cy 1, 27, Sum.inl f) : va_E)) (uR_s (dI S) k _)) (fun j _ h0 => dE_c (fun _ => ⟨rfl, rfl⟩) (fun _ _ => uR_n h0) (fun _ _ => rfl) (fun _ => rfl))
  exact kk H1 locs1 (e1 ▸ a1) (e1 ▸ a2) a3
theorem rD_ist9 (hexec : p.tables.exec = Jvm.exec) (hb : c.code = cc) (hK : va_K D vwCl (tyW cy) s) (hP : va_P D vwCl (wD cy ad S ++ X) H) (hD : va_D A (wD cy ad S ++ X)) (hS : va_S A H0 H locs) {i : Nat} {x : Int32} (hi : i < 6) (hdg : decode cc pc = .ok (.iastore, 1)) (kk : ∀ (H : Heap) (locs : List Loc), va_P D vwCl (wD cy ad (sI S 9 i x) ++ X) H → va_D A (wD cy ad (sI S 9 i x) ++ X) → va_S A H0 H locs → W p l e R s m args below meth c H locs cells slots Q (F0 m (pc + 1) ls rest)) : W p l e R s m args below meth c H locs cells slots Q (F0 m pc ls (.int x :: .int (nI i) :: .ref (ad 9) :: rest)) := by
  refine va_iast hexec hb hK hP hD hS 9 1 (wX_get (by decide)) rfl (vp_in_nI hi (by decide)) hdg (fun H1 locs1 a1 a2 a3 => ?_)
  rw [nI_clamp (by omega)] at a1 a2
  have e1 : (wD cy ad S ++ X).set 9 (ad 9, .inl (cy 1, 6, .inl (upd (dI S 9) i x))) = wD cy ad (sI S 9 i x) ++ X := wX_set (by omega) (congrArg (fun f => (Sum.inl (cy 1, 6, Sum.inl f) : va_E)) (uR_s (dI S) 9 _)) (fun j _ h0 => dE_c (fun _ => ⟨rfl, rfl⟩) (fun _ _ => uR_n h0) (fun _ _ => rfl) (fun _ => rfl))
  exact kk H1 locs1 (e1 ▸ a1) (e1 ▸ a2) a3
theorem rD_zst (hexec : p.tables.exec = Jvm.exec) (hb : c.code = cc) (hK : va_K D vwCl (tyW cy) s) (hP : va_P D vwCl (wD cy ad S ++ X) H) (hD : va_D A (wD cy ad S ++ X)) (hS : va_S A H0 H locs) {i : Nat} {x : Int32} (hi : i < 27) (hx : vp_nar .boolean x = x) (hdg : decode cc pc = .ok (.bastore, 1)) (kk : ∀ (H : Heap) (locs : List Loc), va_P D vwCl (wD cy ad (sI S 2 i x) ++ X) H → va_D A (wD cy ad (sI S 2 i x) ++ X) → va_S A H0 H locs → W p l e R s m args below meth c H locs cells slots Q (F0 m (pc + 1) ls rest)) : W p l e R s m args below meth c H locs cells slots Q (F0 m pc ls (.int x :: .int (nI i) :: .ref (ad 2) :: rest)) := by
  refine va_zast hexec hb hK hP hD hS 2 3 (wX_get (by decide)) rfl (vp_in_nI hi (by decide)) hdg (fun H1 locs1 a1 a2 a3 => ?_)
  rw [nI_clamp (by omega)] at a1 a2
  rw [hx] at a1 a2
  have e1 : (wD cy ad S ++ X).set 2 (ad 2, .inl (cy 3, 27, .inl (upd (dI S 2) i x))) = wD cy ad (sI S 2 i x) ++ X := wX_set (by omega) (congrArg (fun f => (Sum.inl (cy 3, 27, Sum.inl f) : va_E)) (uR_s (dI S) 2 _)) (fun j _ h0 => dE_c (fun _ => ⟨rfl, rfl⟩) (fun _ _ => uR_n h0) (fun _ _ => rfl) (fun _ => rfl))
  exact kk H1 locs1 (e1 ▸ a1) (e1 ▸ a2) a3
theorem rD_aald {q n : Nat} {f : Nat → Nat} (hexec : p.tables.exec = Jvm.exec) (hb : c.code = cc) (hK : va_K D vwCl (tyW cy) s) (hP : va_P D vwCl (wD cy ad S ++ X) H) (hq : (wD cy ad S ++ X)[q]? = some (ad q, .inl (cy 7, n, .inr (.inr (.inr (.inr (fun i => some (f i)))))))) {i : Nat} (hi : i < n) (hn9 : n < 2 ^ 31) (hdg : decode cc pc = .ok (.aaload, 1)) (kk : W p l e R s m args below meth c H locs cells slots Q (F0 m (pc + 1) ls (.ref (f i) :: rest))) : W p l e R s m args below meth c H locs cells slots Q (F0 m pc ls (.int (nI i) :: .ref (ad q) :: rest)) := by
  have hv : vp_in (nI i) n := vp_in_nI hi hn9
  have hc : (nI i).toNatClampNeg = i := nI_clamp (by omega)
  exact W.aald (v := va_rf (some (f i))) (ty := .array .long) hexec hb (hP q _ hq) ((hK.2 7 _ rfl).1 n (fun j => va_rf (some (f j)))) rfl (fun q => by cases q) (by show ¬ (nI i < 0 ∨ (arrV _ _ _).slots.size ≤ _); rw [arrV_size]; exact hv) (by show (arrV _ _ _).slots[_]? = _; rw [hc, arrV_read _ _ hi]) rfl rfl hdg kk
theorem rD_row (hexec : p.tables.exec = Jvm.exec) (hb : c.code = cc) (hK : va_K D vwCl (tyW cy) s) (hP : va_P D vwCl (wD cy ad S ++ X) H) {i : Nat} (hi : i < 27) (hdg : decode cc pc = .ok (.aaload, 1)) (kk : W p l e R s m args below meth c H locs cells slots Q (F0 m (pc + 1) ls (.ref (ad (11 + i)) :: rest))) : W p l e R s m args below meth c H locs cells slots Q (F0 m pc ls (.int (nI i) :: .ref (ad 1) :: rest)) :=
  rD_aald (q := 1) (f := fun i => ad (11 + i)) hexec hb hK hP (wX_get (by decide)) hi (by decide) hdg kk
theorem rD_slo (hexec : p.tables.exec = Jvm.exec) (hb : c.code = cc) (hK : va_K D vwCl (tyW cy) s) (hP : va_P D vwCl (wD cy ad S ++ X) H) {i : Nat} (hi : i < 5) (hdg : decode cc pc = .ok (.aaload, 1)) (kk : W p l e R s m args below meth c H locs cells slots Q (F0 m (pc + 1) ls (.ref (ad (38 + i)) :: rest))) : W p l e R s m args below meth c H locs cells slots Q (F0 m pc ls (.int (nI i) :: .ref (ad 10) :: rest)) :=
  rD_aald (q := 10) (f := fun i => ad (38 + i)) hexec hb hK hP (wX_get (by decide)) hi (by decide) hdg kk
theorem wD_r {i : Nat} (h : i < 27) : (wD cy ad S ++ X)[11 + i]? = some (ad (11 + i), .inl (cy 2, 7, .inr (.inl (dRo S i)))) := (wX_get (by omega)).trans (by rw [dE_r h])
theorem wD_s {i : Nat} (h : i < 5) : (wD cy ad S ++ X)[38 + i]? = some (ad (38 + i), .inl (cy 2, 6, .inr (.inl (dSl S i)))) := (wX_get (by omega)).trans (by rw [dE_s])
theorem rD_lld (hexec : p.tables.exec = Jvm.exec) (hb : c.code = cc) (hK : va_K D vwCl (tyW cy) s) (hP : va_P D vwCl (wD cy ad S ++ X) H) {n : Nat} (hn : n < 27) {i : Nat} (hi : i < 7) (hdg : decode cc pc = .ok (.laload, 1)) (kk : W p l e R s m args below meth c H locs cells slots Q (F0 m (pc + 1) ls (.long (dRo S n i) :: rest))) : W p l e R s m args below meth c H locs cells slots Q (F0 m pc ls (.int (nI i) :: .ref (ad (11 + n)) :: rest)) :=
  va_lald hexec hb hK hP (11 + n) 2 (wD_r hn) rfl (vp_in_nI hi (by decide)) hdg (by rw [nI_clamp (by omega)]; exact kk)
theorem rD_sld (hexec : p.tables.exec = Jvm.exec) (hb : c.code = cc) (hK : va_K D vwCl (tyW cy) s) (hP : va_P D vwCl (wD cy ad S ++ X) H) {n : Nat} (hn : n < 5) {i : Nat} (hi : i < 6) (hdg : decode cc pc = .ok (.laload, 1)) (kk : W p l e R s m args below meth c H locs cells slots Q (F0 m (pc + 1) ls (.long (dSl S n i) :: rest))) : W p l e R s m args below meth c H locs cells slots Q (F0 m pc ls (.int (nI i) :: .ref (ad (38 + n)) :: rest)) :=
  va_lald hexec hb hK hP (38 + n) 2 (wD_s hn) rfl (vp_in_nI hi (by decide)) hdg (by rw [nI_clamp (by omega)]; exact kk)
theorem rD_lst (hexec : p.tables.exec = Jvm.exec) (hb : c.code = cc) (hK : va_K D vwCl (tyW cy) s) (hP : va_P D vwCl (wD cy ad S ++ X) H) (hD : va_D A (wD cy ad S ++ X)) (hS : va_S A H0 H locs) {n : Nat} (hn : n < 27) {i : Nat} {x : Int64} (hi : i < 7) (hdg : decode cc pc = .ok (.lastore, 1)) (kk : ∀ (H : Heap) (locs : List Loc), va_P D vwCl (wD cy ad (sRo S n i x) ++ X) H → va_D A (wD cy ad (sRo S n i x) ++ X) → va_S A H0 H locs → W p l e R s m args below meth c H locs cells slots Q (F0 m (pc + 1) ls rest)) : W p l e R s m args below meth c H locs cells slots Q (F0 m pc ls (.long x :: .int (nI i) :: .ref (ad (11 + n)) :: rest)) := by
  refine va_last hexec hb hK hP hD hS (11 + n) 2 (wD_r hn) rfl (vp_in_nI hi (by decide)) hdg (fun H1 locs1 a1 a2 a3 => ?_)
  rw [nI_clamp (by omega)] at a1 a2
  have e1 : (wD cy ad S ++ X).set (11 + n) (ad (11 + n), .inl (cy 2, 7, .inr (.inl (vp_updL (dRo S n) i x)))) = wD cy ad (sRo S n i x) ++ X := wX_set (by omega) (by rw [dE_r hn]; exact congrArg (fun f => (Sum.inl (cy 2, 7, Sum.inr (Sum.inl f)) : va_E)) (uR_s (dRo S) n _)) (fun j _ h0 => dE_c (fun _ => ⟨rfl, rfl⟩) (fun _ _ => rfl) (fun _ _ => uR_n (by omega)) (fun _ => rfl))
  exact kk H1 locs1 (e1 ▸ a1) (e1 ▸ a2) a3
theorem rD_sst (hexec : p.tables.exec = Jvm.exec) (hb : c.code = cc) (hK : va_K D vwCl (tyW cy) s) (hP : va_P D vwCl (wD cy ad S ++ X) H) (hD : va_D A (wD cy ad S ++ X)) (hS : va_S A H0 H locs) {n : Nat} (hn : n < 5) {i : Nat} {x : Int64} (hi : i < 6) (hdg : decode cc pc = .ok (.lastore, 1)) (kk : ∀ (H : Heap) (locs : List Loc), va_P D vwCl (wD cy ad (sSl S n i x) ++ X) H → va_D A (wD cy ad (sSl S n i x) ++ X) → va_S A H0 H locs → W p l e R s m args below meth c H locs cells slots Q (F0 m (pc + 1) ls rest)) : W p l e R s m args below meth c H locs cells slots Q (F0 m pc ls (.long x :: .int (nI i) :: .ref (ad (38 + n)) :: rest)) := by
  refine va_last hexec hb hK hP hD hS (38 + n) 2 (wD_s hn) rfl (vp_in_nI hi (by decide)) hdg (fun H1 locs1 a1 a2 a3 => ?_)
  rw [nI_clamp (by omega)] at a1 a2
  have e1 : (wD cy ad S ++ X).set (38 + n) (ad (38 + n), .inl (cy 2, 6, .inr (.inl (vp_updL (dSl S n) i x)))) = wD cy ad (sSl S n i x) ++ X := wX_set (by omega) (by rw [dE_s]; exact congrArg (fun f => (Sum.inl (cy 2, 6, Sum.inr (Sum.inl f)) : va_E)) (uR_s (dSl S) n _)) (fun j _ h0 => dE_c (fun _ => ⟨rfl, rfl⟩) (fun _ _ => rfl) (fun _ _ => rfl) (fun _ => uR_n (by omega)))
  exact kk H1 locs1 (e1 ▸ a1) (e1 ▸ a2) a3
theorem rD_alen (hexec : p.tables.exec = Jvm.exec) (hb : c.code = cc) (hK : va_K D vwCl (tyW cy) s) (hP : va_P D vwCl (wD cy ad S ++ X) H) {n : Nat} (hn : n < 27) (hdg : decode cc pc = .ok (.arraylength, 1)) (kk : W p l e R s m args below meth c H locs cells slots Q (F0 m (pc + 1) ls (.int (nI 7) :: rest))) : W p l e R s m args below meth c H locs cells slots Q (F0 m pc ls (.ref (ad (11 + n)) :: rest)) :=
  va_alen hexec hb hK hP (11 + n) 2 (wD_r hn) rfl rfl hdg kk
end VD
/-- a method of a Dictionary: its start -/
def dPc (D : va_G) (cy : Nat → ClassId) (ad : Nat → Nat) (X : va_W) (S : DS) (sz : Nat) (As : List Value) : Array Value → State → Prop := va_Pc As (fun U => U.heap.size = sz ∧ va_P D vwCl (wD cy ad S ++ X) U.heap ∧ va_K D vwCl (tyW cy) U ∧ va_D (fun _ => True) (wD cy ad S ++ X))
/-- .. and the world behind it -/
def dB (D : va_G) (cy : Nat → ClassId) (ad : Nat → Nat) (X : va_W) (A : Nat → Prop) (S : DS) (t : State) : Prop := va_P D vwCl (wD cy ad S ++ X) t.heap ∧ va_K D vwCl (tyW cy) t ∧ va_D A (wD cy ad S ++ X)
abbrev dA (cy : Nat → ClassId) (ad : Nat → Nat) (X : va_W) (S : DS) (sz : Nat) : Nat → Prop := va_A (wD cy ad S ++ X) sz
def dQi (D : va_G) (cy : Nat → ClassId) (ad : Nat → Nat) (X : va_W) (S : DS) (sz : Nat) (post : Int32 → DS → Prop) : Array Value → State → Outcome → State → Prop := va_Qi post (dB D cy ad X (dA cy ad X S sz)) (dA cy ad X S sz)
def dQl (D : va_G) (cy : Nat → ClassId) (ad : Nat → Nat) (X : va_W) (S : DS) (sz : Nat) (post : Int64 → DS → Prop) : Array Value → State → Outcome → State → Prop := va_Ql post (dB D cy ad X (dA cy ad X S sz)) (dA cy ad X S sz)
def dQv (D : va_G) (cy : Nat → ClassId) (ad : Nat → Nat) (X : va_W) (S : DS) (sz : Nat) (post : DS → Prop) : Array Value → State → Outcome → State → Prop := va_Qv post (dB D cy ad X (dA cy ad X S sz)) (dA cy ad X S sz)
abbrev rm9 (f n : Nat) : Room := { frames := f, cells := 0, slots := 0, locals := n }
theorem dHead {l : Launch} {y : MethodName} {ws ws' : List Cond} {rm : Room} {cc : ByteArray} {maxL : Nat} {ret : Option FieldType} {D : va_G} {cy : Nat → ClassId} {ad : Nat → Nat} {X : va_W} {S : DS} {sz : Nat} {As : List Value} {Qc : Array Value → State → Outcome → State → Prop} {mc ms : Nat} {free : Addr → Prop} (hy : plainName y.cls = true) (hw : ws = Cond.code y cc maxL ret :: ws') (hn : (lg_sl As).length ≤ maxL)
    (body : ∀ (p : Program) (e : Env) (s : State) (m : MethodId) (below : List Frame) (meth : Method) (c : Code) (ls : Array Slot), p.tables.exec = Jvm.exec → c.code = cc → meth.sig.returnType = ret → meth.locks = false → c.maxLocals = maxL → s.vm.findClass y.cls = some m.cls → (∀ w ∈ ws, w.before As.toArray s = true) → s.heap.size = sz → va_P D vwCl (wD cy ad S ++ X) s.heap → va_K D vwCl (tyW cy) s → va_D (dA cy ad X S sz) (wD cy ad S ++ X) → va_S (dA cy ad X S sz) s.heap s.heap [] → (∀ q : Nat, s.heap.size ≤ q → dA cy ad X S sz q) → lv_has ls maxL (lv_args 0 As) →
      W p l e (headSpec ws rm).room s m As.toArray below meth c s.heap [] 0 0 (MQ below Qc As.toArray s mc ms free) (F0 m 0 ls [])) : Met l y ws rm (dPc D cy ad X S sz As) Qc mc ms free := by
  refine Met.ofW (cc := cc) (maxL := maxL) (ret := ret) hy hw ?_
  intro p e s m args below meth c s₁ B hml hv
  obtain ⟨rfl, hsz, hP, hK, hD0⟩ := hv
  rw [lg_entry_eq]
  exact body p e s m below meth c _ B.exec B.bytes B.returns B.notSynchronized hml (findClass_of_methodNamed B.named) (atoms_spec (ws := ws) B.pre) hsz hP hK (hsz ▸ hD0.self) va_S.rf (fun q h => Or.inr (hsz ▸ h)) (lv_entry As hn)
theorem dBlind {D : va_G} {cy : Nat → ClassId} {ad : Nat → Nat} {X : va_W} {S : DS} {sz : Nat} {As : List Value} : FrameBlind (dPc D cy ad X S sz As) := fun a U g mk q => by
  obtain ⟨q0, q1, qP, qK, qD⟩ := q
  exact ⟨q0, q1, qP, va_K.moved (u := U) (U := U.calling g mk a) (Vm.Alike.refl U.vm) qK, qD⟩
section VDC
variable {p : Program} {l : Launch} {e : Env} {R : Room} {s : State} {m : MethodId} {args : Array Value} {below : List Frame} {meth : Method} {c : Code} {H : Heap} {locs : List Loc} {cells slots : Nat} {Q : State → Prop}
variable {cc : ByteArray} {pc : Nat} {ls : Array Slot} {rest : List Value} {D : va_G} {A : Nat → Prop} {H0 : Heap} {cy : Nat → ClassId} {ad : Nat → Nat} {S : DS} {X : va_W}
theorem dFree (hD : va_D A (wD cy ad S ++ X)) (hS : va_S A H0 H locs) (hA : ∀ q, H0.size ≤ q → A q) : ∀ q, dA cy ad X S H.size q → A q := fun q h => by
  rcases h with ⟨k, e, h⟩ | h
  · exact hD.2 k (q, e) h
  · exact hA q (Nat.le_trans hS.1 h)
/-- behind a call of a method of the same Dictionary -/
theorem dBack {S' : DS} {t : State} {H1 : Heap} (hD : va_D A (wD cy ad S ++ X)) (hS : va_S A H0 H locs) (hA : ∀ q, H0.size ≤ q → A q) (ht : t.heap = H1) (hB : dB D cy ad X (dA cy ad X S H.size) S' t) : va_P D vwCl (wD cy ad S' ++ X) H1 ∧ va_D A (wD cy ad S' ++ X) := by
  obtain ⟨h1, -, h3⟩ := hB
  exact ⟨ht ▸ h1, h3.weaken (fun _ q _ h => dFree hD hS hA q.1 h)⟩
variable {y : MethodName} {bytes : ByteArray} {maxL nL n index : Nat} {ws ws' : List Cond} {rm : Room} {Ts : List Cond} {own : String} {As : List Value}
theorem dCalli {ret : Option FieldType} {post : Int32 → DS → Prop} (hexec : p.tables.exec = Jvm.exec) (hb : c.code = cc) (hml : c.maxLocals = nL) (hown : s.vm.findClass own = some m.cls) (hts : ∀ w ∈ Ts, w.before args s = true) (hK : va_K D vwCl (tyW cy) s) (hP : va_P D vwCl (wD cy ad S ++ X) H) (hD : va_D A (wD cy ad S ++ X)) (hS : va_S A H0 H locs) (hA : ∀ q, H0.size ≤ q → A q) (hls : ls.size = nL)
    (hM : Met l y ws rm (dPc D cy ad X S H.size (.ref (ad 0) :: As)) (dQi D cy ad X S H.size post) 0 0 (dA cy ad X S H.size)) (cw : CallW R s args own RX3 index y bytes maxL ret ws rm 0 0 n) (hn : As.length = n) {st : List Value} (hst : st = As.reverse ++ .ref (ad 0) :: rest) (hW : (rest.map fun v => v.category).sum ≤ 8) (hf : cells + 0 ≤ R.cells ∧ slots + 0 ≤ R.slots) (hdg : decode cc pc = .ok (.invokevirtual index, 3))
    (kk : ∀ (r : Int32) (S' : DS) (H : Heap) (locs : List Loc), post r S' → va_P D vwCl (wD cy ad S' ++ X) H → va_D A (wD cy ad S' ++ X) → va_S A H0 H locs → W p l e R s m args below meth c H locs cells slots Q (F0 m (pc + 3) ls (.int r :: rest))) : W p l e R s m args below meth c H locs cells slots Q (F0 m pc ls st) := by
  refine va_calli (va_runV (As := As) (rest := rest) ⟨hexec, hb, hml, hown, hts⟩ hM cw ⟨dBlind, va_recv hK hP (ci := 3) (q0 := 0) (fs := dFs ad S) rfl (wX_get (by decide)), fun U hU hW => ⟨rfl, by rw [hU], by rw [hU]; exact hP, va_K.moved hW.alike hK, hD.weaken (fun _ _ _ _ => trivial)⟩⟩ rfl hn hls hst (lv_room hW) hdg hf) hS (fun q _ h => dFree hD hS hA q h) (dFree hD hS hA) (fun r S' t H1 locs1 ht hvm hp hB hz hk hS1 => ?_)
  obtain ⟨h1, h2⟩ := dBack hD hS hA ht hB
  exact kk r S' H1 locs1 hp h1 h2 hS1
theorem dCalll {post : Int64 → DS → Prop} (hexec : p.tables.exec = Jvm.exec) (hb : c.code = cc) (hml : c.maxLocals = nL) (hown : s.vm.findClass own = some m.cls) (hts : ∀ w ∈ Ts, w.before args s = true) (hK : va_K D vwCl (tyW cy) s) (hP : va_P D vwCl (wD cy ad S ++ X) H) (hD : va_D A (wD cy ad S ++ X)) (hS : va_S A H0 H locs) (hA : ∀ q, H0.size ≤ q → A q) (hls : ls.size = nL)
    (hM : Met l y ws rm (dPc D cy ad X S H.size (.ref (ad 0) :: As)) (dQl D cy ad X S H.size post) 0 0 (dA cy ad X S H.size)) (cw : CallW R s args own RX3 index y bytes maxL (some .long) ws rm 0 0 n) (hn : As.length = n) {st : List Value} (hst : st = As.reverse ++ .ref (ad 0) :: rest) (hW : (rest.map fun v => v.category).sum ≤ 8) (hf : cells + 0 ≤ R.cells ∧ slots + 0 ≤ R.slots) (hdg : decode cc pc = .ok (.invokevirtual index, 3))
    (kk : ∀ (r : Int64) (S' : DS) (H : Heap) (locs : List Loc), post r S' → va_P D vwCl (wD cy ad S' ++ X) H → va_D A (wD cy ad S' ++ X) → va_S A H0 H locs → W p l e R s m args below meth c H locs cells slots Q (F0 m (pc + 3) ls (.long r :: rest))) : W p l e R s m args below meth c H locs cells slots Q (F0 m pc ls st) := by
  refine va_calll (va_runV (As := As) (rest := rest) ⟨hexec, hb, hml, hown, hts⟩ hM cw ⟨dBlind, va_recv hK hP (ci := 3) (q0 := 0) (fs := dFs ad S) rfl (wX_get (by decide)), fun U hU hW => ⟨rfl, by rw [hU], by rw [hU]; exact hP, va_K.moved hW.alike hK, hD.weaken (fun _ _ _ _ => trivial)⟩⟩ rfl hn hls hst (lv_room hW) hdg hf) hS (fun q _ h => dFree hD hS hA q h) (dFree hD hS hA) (fun r S' t H1 locs1 ht hvm hp hB hz hk hS1 => ?_)
  obtain ⟨h1, h2⟩ := dBack hD hS hA ht hB
  exact kk r S' H1 locs1 hp h1 h2 hS1
theorem dCallv {post : DS → Prop} (hexec : p.tables.exec = Jvm.exec) (hb : c.code = cc) (hml : c.maxLocals = nL) (hown : s.vm.findClass own = some m.cls) (hts : ∀ w ∈ Ts, w.before args s = true) (hK : va_K D vwCl (tyW cy) s) (hP : va_P D vwCl (wD cy ad S ++ X) H) (hD : va_D A (wD cy ad S ++ X)) (hS : va_S A H0 H locs) (hA : ∀ q, H0.size ≤ q → A q) (hls : ls.size = nL)
    (hM : Met l y ws rm (dPc D cy ad X S H.size (.ref (ad 0) :: As)) (dQv D cy ad X S H.size post) 0 0 (dA cy ad X S H.size)) (cw : CallW R s args own RX3 index y bytes maxL none ws rm 0 0 n) (hn : As.length = n) {st : List Value} (hst : st = As.reverse ++ .ref (ad 0) :: rest) (hW : (rest.map fun v => v.category).sum ≤ 8) (hf : cells + 0 ≤ R.cells ∧ slots + 0 ≤ R.slots) (hdg : decode cc pc = .ok (.invokevirtual index, 3))
    (kk : ∀ (S' : DS) (H : Heap) (locs : List Loc), post S' → va_P D vwCl (wD cy ad S' ++ X) H → va_D A (wD cy ad S' ++ X) → va_S A H0 H locs → W p l e R s m args below meth c H locs cells slots Q (F0 m (pc + 3) ls rest)) : W p l e R s m args below meth c H locs cells slots Q (F0 m pc ls st) := by
  refine va_callv (va_runV (As := As) (rest := rest) ⟨hexec, hb, hml, hown, hts⟩ hM cw ⟨dBlind, va_recv hK hP (ci := 3) (q0 := 0) (fs := dFs ad S) rfl (wX_get (by decide)), fun U hU hW => ⟨rfl, by rw [hU], by rw [hU]; exact hP, va_K.moved hW.alike hK, hD.weaken (fun _ _ _ _ => trivial)⟩⟩ rfl hn hls hst (lv_room hW) hdg hf) hS (fun q _ h => dFree hD hS hA q h) (dFree hD hS hA) (fun S' t H1 locs1 ht hvm hp hB hz hk hS1 => ?_)
  obtain ⟨h1, h2⟩ := dBack hD hS hA ht hB
  exact kk S' H1 locs1 hp h1 h2 hS1
end VDC
/-! A static method that looks at its numbers alone: its start, its end, a call of it from any world. -/
abbrev pPc (sz : Nat) (As : List Value) : Array Value → State → Prop := va_Pc As (fun U => U.heap.size = sz)
abbrev pQi (sz : Nat) (post : Int32 → Prop) : Array Value → State → Outcome → State → Prop := va_Qi (fun r (_ : Unit) => post r) (fun _ _ => True) (fun q => sz ≤ q)
abbrev pQl (sz : Nat) (post : Int64 → Prop) : Array Value → State → Outcome → State → Prop := va_Ql (fun r (_ : Unit) => post r) (fun _ _ => True) (fun q => sz ≤ q)
theorem pHead {l : Launch} {y : MethodName} {ws ws' : List Cond} {rm : Room} {cc : ByteArray} {maxL : Nat} {ret : Option FieldType} {sz : Nat} {As : List Value} {Qc : Array Value → State → Outcome → State → Prop} {mc ms : Nat} {free : Addr → Prop} (hy : plainName y.cls = true) (hw : ws = Cond.code y cc maxL ret :: ws') (hn : (lg_sl As).length ≤ maxL)
    (body : ∀ (p : Program) (e : Env) (s : State) (m : MethodId) (below : List Frame) (meth : Method) (c : Code) (ls : Array Slot), p.tables.exec = Jvm.exec → c.code = cc → meth.sig.returnType = ret → meth.locks = false → c.maxLocals = maxL → s.vm.findClass y.cls = some m.cls → (∀ w ∈ ws, w.before As.toArray s = true) → s.heap.size = sz → va_S (fun q => sz ≤ q) s.heap s.heap [] → lv_has ls maxL (lv_args 0 As) →
      W p l e (headSpec ws rm).room s m As.toArray below meth c s.heap [] 0 0 (MQ below Qc As.toArray s mc ms free) (F0 m 0 ls [])) : Met l y ws rm (pPc sz As) Qc mc ms free := by
  refine Met.ofW (cc := cc) (maxL := maxL) (ret := ret) hy hw ?_
  intro p e s m args below meth c s₁ B hml hv
  obtain ⟨rfl, hsz⟩ := hv
  rw [lg_entry_eq]
  exact body p e s m below meth c _ B.exec B.bytes B.returns B.notSynchronized hml (findClass_of_methodNamed B.named) (atoms_spec (ws := ws) B.pre) hsz va_S.rf (lv_entry As hn)
theorem pBlind {sz : Nat} {As : List Value} : FrameBlind (pPc sz As) := fun _ _ _ _ q => q
section VPC
variable {p : Program} {l : Launch} {e : Env} {R : Room} {s : State} {m : MethodId} {args : Array Value} {below : List Frame} {meth : Method} {c : Code} {H : Heap} {locs : List Loc} {cells slots : Nat} {Q : State → Prop}
variable {cc : ByteArray} {pc : Nat} {ls : Array Slot} {rest : List Value} {D : va_G} {A : Nat → Prop} {H0 : Heap} {cl : List vw_C} {ws0 : va_W}
variable {y : MethodName} {bytes : ByteArray} {maxL nL n index : Nat} {ws ws' : List Cond} {rm : Room} {Ts : List Cond} {own : String} {As : List Value}
theorem pCalli {ret : Option FieldType} {post : Int32 → Prop} (hexec : p.tables.exec = Jvm.exec) (hb : c.code = cc) (hml : c.maxLocals = nL) (hown : s.vm.findClass own = some m.cls) (hts : ∀ w ∈ Ts, w.before args s = true) (hP : va_P D cl ws0 H) (hS : va_S A H0 H locs) (hA : ∀ q, H0.size ≤ q → A q) (hls : ls.size = nL)
    (hM : Met l y ws rm (pPc H.size As) (pQi H.size post) 0 0 (fun q => H.size ≤ q)) (cw : CallB R s args own index y bytes maxL ret ws rm 0 0 n ∧ (Cond.static y).before args s = true) (hn : As.length = n) {st : List Value} (hst : st = As.reverse ++ rest) (hW : (rest.map fun v => v.category).sum ≤ 8) (hf : cells + 0 ≤ R.cells ∧ slots + 0 ≤ R.slots) (hdg : decode cc pc = .ok (.invokestatic index, 3))
    (kk : ∀ (r : Int32) (H : Heap) (locs : List Loc), post r → va_P D cl ws0 H → va_S A H0 H locs → W p l e R s m args below meth c H locs cells slots Q (F0 m (pc + 3) ls (.int r :: rest))) : W p l e R s m args below meth c H locs cells slots Q (F0 m pc ls st) := by
  refine va_calli (va_runS (As := As) (rest := rest) ⟨hexec, hb, hml, hown, hts⟩ hM cw ⟨pBlind, fun U hU hW => ⟨rfl, by show U.heap.size = _; rw [hU]⟩⟩ rfl hn hls hst (lv_room hW) hdg hf) hS (fun q h1 h2 => absurd h2 (Nat.not_le.mpr h1)) (fun q h => hA q (Nat.le_trans hS.1 h)) (fun r u t H1 locs1 ht hvm hp hB hz hk hS1 => ?_)
  exact kk r H1 locs1 hp (hP.kept (fun k q hq => hk q.1 (hP k q hq).lt (Nat.not_le.mpr (hP k q hq).lt))) hS1
theorem pCalll {post : Int64 → Prop} (hexec : p.tables.exec = Jvm.exec) (hb : c.code = cc) (hml : c.maxLocals = nL) (hown : s.vm.findClass own = some m.cls) (hts : ∀ w ∈ Ts, w.before args s = true) (hP : va_P D cl ws0 H) (hS : va_S A H0 H locs) (hA : ∀ q, H0.size ≤ q → A q) (hls : ls.size = nL)
    (hM : Met l y ws rm (pPc H.size As) (pQl H.size post) 0 0 (fun q => H.size ≤ q)) (cw : CallB R s args own index y bytes maxL (some .long) ws rm 0 0 n ∧ (Cond.static y).before args s = true) (hn : As.length = n) {st : List Value} (hst : st = As.reverse ++ rest) (hW : (rest.map fun v => v.category).sum ≤ 8) (hf : cells + 0 ≤ R.cells ∧ slots + 0 ≤ R.slots) (hdg : decode cc pc = .ok (.invokestatic index, 3))
    (kk : ∀ (r : Int64) (H : Heap) (locs : List Loc), post r → va_P D cl ws0 H → va_S A H0 H locs → W p l e R s m args below meth c H locs cells slots Q (F0 m (pc + 3) ls (.long r :: rest))) : W p l e R s m args below meth c H locs cells slots Q (F0 m pc ls st) := by
  refine va_calll (va_runS (As := As) (rest := rest) ⟨hexec, hb, hml, hown, hts⟩ hM cw ⟨pBlind, fun U hU hW => ⟨rfl, by show U.heap.size = _; rw [hU]⟩⟩ rfl hn hls hst (lv_room hW) hdg hf) hS (fun q h1 h2 => absurd h2 (Nat.not_le.mpr h1)) (fun q h => hA q (Nat.le_trans hS.1 h)) (fun r u t H1 locs1 ht hvm hp hB hz hk hS1 => ?_)
  exact kk r H1 locs1 hp (hP.kept (fun k q hq => hk q.1 (hP k q hq).lt (Nat.not_le.mpr (hP k q hq).lt))) hS1
end VPC
/-- Long.compare -/
def cmpL (x y : Int64) : Int32 := if 0 ≤ lg_cmp x y then (if ¬ lg_cmp x y = 0 then nI 1 else 0) else -1
end
section
/-- n rounds of f, from the number k on -/
def lpN {α : Type} (f : Nat → α → α) : Nat → Nat → α → α
  | 0, _, a => a
  | n + 1, k, a => lpN f n (k + 1) (f k a)
theorem lpN_s {α : Type} {f : Nat → α → α} {n k : Nat} {a : α} : lpN f (n + 1) k a = lpN f n (k + 1) (f k a) := rfl
theorem ixN {x : Int32} (N : Nat) (h0 : ¬ x < 0) (h1 : x < nI N) (hN : N < 2 ^ 31) : ∃ k : Nat, k < N ∧ x = nI k := by
  rcases pk_ix x hN with h | h | h
  · exact absurd h h0
  · exact absurd h (Int32.not_le.mpr h1)
  · exact h
theorem ixL {x : Int32} (N : Nat) (h0 : ¬ x < 0) (h1 : ¬ nI N < x) (hN : N + 1 < 2 ^ 31) : ∃ k : Nat, k < N + 1 ∧ x = nI k := by
  rcases pk_ix x hN with h | h | h
  · exact absurd h h0
  · have h2 : nI N < nI (N + 1) := nI_lt (by omega) hN
    exact absurd (Int32.lt_of_lt_of_le h2 h) h1
  · exact h
/-- what the excess of a row costs -/
def kCost (S : DS) (k : Nat) : Int64 := if lg_cmp (dRo S k 6) 0 ≤ 0 then (dI S 6 k).toInt64 * -dRo S k 6 else (dI S 5 k).toInt64 * dRo S k 6
/-- slopes of a level, with those of a row -/
def kAdd1 (L k : Nat) (f : Int32) (c : Nat) (S : DS) : DS := sSl S L c (dSl S L c + f.toInt64 * dRo S k c)
def kAdd (S : DS) (lv : Int32) (k : Nat) (f : Int32) : DS := if f = 0 then S else if lv < 0 then S else if nI 4 < lv then S else lpN (kAdd1 lv.toNatClampNeg k f) 6 0 S
set_option maxHeartbeats 4000000 in
set_option maxRecDepth 100000 in
theorem cJ_cmp (l : Launch) (sz : Nat) (x y : Int64) : Met l yJ13_compare_74951 wsJ13_compare_74951 (rm9 0 0) (pPc sz [.long x, .long y]) (pQi sz (fun r => r = cmpL x y)) 0 0 (fun q => sz ≤ q) := by
  refine pHead (cc := cJ13_compare_74951) (maxL := 4) (ret := (some .int)) (by decide) rfl (Nat.le_of_ble_eq_true rfl) ?_
  intro p e s m below meth c ls hx hb hr hlocks hml hown hts hsz hS hl
  have hown : s.vm.findClass RJ13 = some m.cls := hown
  have hl : lv_has ls 4 [(0, .long x), (2, .long y)] := hl
  refine lv_lload_n hx hb dJ13_compare_74951_0 rfl (lv_at hl 0 rfl) ?_
  refine lv_lload_n hx hb dJ13_compare_74951_1 rfl (lv_at hl 1 rfl) ?_
  refine W.lcmp hx hb dJ13_compare_74951_2 ?_
  refine lv_if_ge (tgt := 10) hx hb dJ13_compare_74951_3 (by decide) (fun c1 => ?_) (fun c1 => ?_)
  · skip
    refine lv_lload_n hx hb dJ13_compare_74951_10 rfl (lv_at hl 0 rfl) ?_
    refine lv_lload_n hx hb dJ13_compare_74951_11 rfl (lv_at hl 1 rfl) ?_
    refine W.lcmp hx hb dJ13_compare_74951_12 ?_
    refine lv_if_ne (tgt := 20) hx hb dJ13_compare_74951_13 (by decide) (fun c2 => ?_) (fun c2 => ?_)
    · skip
      refine lv_iconst (v := nI 1) hx hb dJ13_compare_74951_20 (by decide) ?_
      exact W.iret hx hb hr (fun t ht hW => ⟨⟨_, (), rfl, by simp [cmpL, nI_0, c1, c2], trivial⟩, hS.F ht⟩) hS.2.2 dJ13_compare_74951_21
    · skip
      refine lv_iconst (v := nI 0) hx hb dJ13_compare_74951_16 (by decide) ?_
      refine lv_goto (tgt := 21) hx hb dJ13_compare_74951_17 (by decide) ?_
      exact W.iret hx hb hr (fun t ht hW => ⟨⟨_, (), rfl, by simp [cmpL, nI_0, c1, c2], trivial⟩, hS.F ht⟩) hS.2.2 dJ13_compare_74951_21
  · skip
    refine lv_iconst (v := -1) hx hb dJ13_compare_74951_6 (by decide) ?_
    refine lv_goto (tgt := 21) hx hb dJ13_compare_74951_7 (by decide) ?_
    exact W.iret hx hb hr (fun t ht hW => ⟨⟨_, (), rfl, by simp [cmpL, nI_0, c1], trivial⟩, hS.F ht⟩) hS.2.2 dJ13_compare_74951_21
set_option maxHeartbeats 4000000 in
set_option maxRecDepth 100000 in
theorem cD_costOf (l : Launch) (D : va_G) (cy : Nat → ClassId) (ad : Nat → Nat) (X : va_W) (S : DS) (sz : Nat) {k : Nat} (hk : k < 27) : Met l yX3_costOf wsX3_costOf (rm9 0 0) (dPc D cy ad X S sz [.ref (ad 0), .int (nI k)]) (dQl D cy ad X S sz (fun r S' => r = kCost S k ∧ S' = S)) 0 0 (dA cy ad X S sz) := by
  refine dHead (cc := cX3_costOf) (maxL := 4) (ret := (some .long)) (by decide) rfl (Nat.le_of_ble_eq_true rfl) ?_
  intro p e s m below meth c ls hx hb hr hlocks hml hown hts hsz hP hK hD hS hA hl
  have hin : ∀ w ∈ u_ws RX3 TX3 12, w ∈ wsX3_costOf := by decide +kernel
  have hown : s.vm.findClass RX3 = some m.cls := hown
  have hl : lv_has ls 4 [(0, .ref (ad 0)), (1, .int (nI k))] := hl
  refine lv_iload_n hx hb dX3_costOf_0 rfl (lv_at hl 1 rfl) ?_
  refine lv_if_lt (tgt := 10) hx hb dX3_costOf_1 (by decide) (fun c1 => ?_) (fun c1 => ?_)
  · exact absurd c1 (nI_pos (by omega))
  · skip
    refine lv_iload_n hx hb dX3_costOf_4 rfl (lv_at hl 1 rfl) ?_
    refine lv_bipush (v := nI 27) hx hb dX3_costOf_5 (by decide) ?_
    refine lv_icmp_lt (tgt := 12) hx hb dX3_costOf_7 (by decide) (fun c2 => ?_) (fun c2 => ?_)
    · rw [nI_ltI (by omega) (by omega)] at c2
      refine lv_aload_n hx hb dX3_costOf_12 rfl (lv_at hl 0 rfl) ?_
      refine rD_get (v := .ref (ad 1)) hx hb hts hin hown hK hP 0 (by decide) rfl (by decide +kernel) dX3_costOf_13 ?_
      refine lv_iload_n hx hb dX3_costOf_16 rfl (lv_at hl 1 rfl) ?_
      refine rD_row (i := k) hx hb hK hP (by omega) dX3_costOf_17 ?_
      refine lv_bipush (v := nI 6) hx hb dX3_costOf_18 (by decide) ?_
      refine rD_lld (n := k) (i := 6) hx hb hK hP (by omega) (by omega) dX3_costOf_20 ?_
      refine lv_lstore_n (lv' := [(2, .long (dRo S k 6)), (0, .ref (ad 0)), (1, .int (nI k))]) hx hb dX3_costOf_21 rfl hl (by decide) rfl (fun ls hl => ?_)
      refine lv_lload_n hx hb dX3_costOf_22 rfl (lv_at hl 0 rfl) ?_
      refine lv_lconst (v := 0) hx hb dX3_costOf_23 (by decide) ?_
      refine W.lcmp hx hb dX3_costOf_24 ?_
      refine lv_if_le (tgt := 40) hx hb dX3_costOf_25 (by decide) (fun c3 => ?_) (fun c3 => ?_)
      · skip
        refine lv_aload_n hx hb dX3_costOf_40 rfl (lv_at hl 1 rfl) ?_
        refine rD_get (v := .ref (ad 6)) hx hb hts hin hown hK hP 6 (by decide) rfl (by decide +kernel) dX3_costOf_41 ?_
        refine lv_iload_n hx hb dX3_costOf_44 rfl (lv_at hl 2 rfl) ?_
        refine rD_ild (i := k) hx hb hK hP 6 (by decide) (by decide) (by omega) dX3_costOf_45 ?_
        refine lv_i2l hx hb dX3_costOf_46 (v := (dI S 6 k).toInt64) rfl ?_
        refine lv_lload_n hx hb dX3_costOf_47 rfl (lv_at hl 0 rfl) ?_
        refine lv_lneg hx hb dX3_costOf_48 ?_
        refine lv_lmul hx hb dX3_costOf_49 ?_
        exact W.lret hx hb hr (fun t ht hW => ⟨⟨_, _, rfl, ⟨by simp [kCost, c1, c3, c2], rfl⟩, by rw [ht]; exact hP, va_K.moved hW.alike hK, hD⟩, hS.F ht⟩) hS.2.2 dX3_costOf_50
      · skip
        refine lv_aload_n hx hb dX3_costOf_28 rfl (lv_at hl 1 rfl) ?_
        refine rD_get (v := .ref (ad 5)) hx hb hts hin hown hK hP 5 (by decide) rfl (by decide +kernel) dX3_costOf_29 ?_
        refine lv_iload_n hx hb dX3_costOf_32 rfl (lv_at hl 2 rfl) ?_
        refine rD_ild (i := k) hx hb hK hP 5 (by decide) (by decide) (by omega) dX3_costOf_33 ?_
        refine lv_i2l hx hb dX3_costOf_34 (v := (dI S 5 k).toInt64) rfl ?_
        refine lv_lload_n hx hb dX3_costOf_35 rfl (lv_at hl 0 rfl) ?_
        refine lv_lmul hx hb dX3_costOf_36 ?_
        refine lv_goto (tgt := 50) hx hb dX3_costOf_37 (by decide) ?_
        exact W.lret hx hb hr (fun t ht hW => ⟨⟨_, _, rfl, ⟨by simp [kCost, c1, c3, c2], rfl⟩, by rw [ht]; exact hP, va_K.moved hW.alike hK, hD⟩, hS.F ht⟩) hS.2.2 dX3_costOf_50
    · exact absurd c2 (by rw [nI_ltI (by omega) (by omega)]; omega)
set_option maxHeartbeats 4000000 in
set_option maxRecDepth 100000 in
theorem cD_addSlopes (l : Launch) (D : va_G) (cy : Nat → ClassId) (ad : Nat → Nat) (X : va_W) (S : DS) (sz : Nat) {k : Nat} (hk : k < 27) (lv f : Int32) : Met l yX3_addSlopes wsX3_addSlopes (rm9 0 0) (dPc D cy ad X S sz [.ref (ad 0), .int lv, .int (nI k), .int f]) (dQv D cy ad X S sz (fun S' => S' = kAdd S lv k f)) 0 0 (dA cy ad X S sz) := by
  refine dHead (cc := cX3_addSlopes) (maxL := 5) (ret := none) (by decide) rfl (Nat.le_of_ble_eq_true rfl) ?_
  intro p e s m below meth c ls hx hb hr hlocks hml hown hts hsz hP hK hD hS hA hl
  have hin : ∀ w ∈ u_ws RX3 TX3 12, w ∈ wsX3_addSlopes := by decide +kernel
  have hown : s.vm.findClass RX3 = some m.cls := hown
  have hl : lv_has ls 5 [(0, .ref (ad 0)), (1, .int lv), (2, .int (nI k)), (3, .int f)] := hl
  refine lv_iload_n hx hb dX3_addSlopes_0 rfl (lv_at hl 3 rfl) ?_
  refine lv_if_eq (tgt := 23) hx hb dX3_addSlopes_1 (by decide) (fun c1 => ?_) (fun c1 => ?_)
  · skip
    exact W.vret hx hb hr (fun t ht hW => ⟨⟨_, rfl, by simp [kAdd, c1], by rw [ht]; exact hP, va_K.moved hW.alike hK, hD⟩, hS.F ht⟩) hS.2.2 dX3_addSlopes_23
  · skip
    refine lv_iload_n hx hb dX3_addSlopes_4 rfl (lv_at hl 1 rfl) ?_
    refine lv_if_lt (tgt := 23) hx hb dX3_addSlopes_5 (by decide) (fun c2 => ?_) (fun c2 => ?_)
    · skip
      exact W.vret hx hb hr (fun t ht hW => ⟨⟨_, rfl, by simp [kAdd, c1, c2], by rw [ht]; exact hP, va_K.moved hW.alike hK, hD⟩, hS.F ht⟩) hS.2.2 dX3_addSlopes_23
    · skip
      refine lv_iload_n hx hb dX3_addSlopes_8 rfl (lv_at hl 1 rfl) ?_
      refine lv_iconst (v := nI 4) hx hb dX3_addSlopes_9 (by decide) ?_
      refine lv_icmp_gt (tgt := 23) hx hb dX3_addSlopes_10 (by decide) (fun c3 => ?_) (fun c3 => ?_)
      · skip
        exact W.vret hx hb hr (fun t ht hW => ⟨⟨_, rfl, by simp [kAdd, c1, c2, c3], by rw [ht]; exact hP, va_K.moved hW.alike hK, hD⟩, hS.F ht⟩) hS.2.2 dX3_addSlopes_23
      · skip
        refine lv_iload_n hx hb dX3_addSlopes_13 rfl (lv_at hl 2 rfl) ?_
        refine lv_if_lt (tgt := 23) hx hb dX3_addSlopes_14 (by decide) (fun c4 => ?_) (fun c4 => ?_)
        · exact absurd c4 (nI_pos (by omega))
        · skip
          refine lv_iload_n hx hb dX3_addSlopes_17 rfl (lv_at hl 2 rfl) ?_
          refine lv_bipush (v := nI 27) hx hb dX3_addSlopes_18 (by decide) ?_
          refine lv_icmp_lt (tgt := 24) hx hb dX3_addSlopes_20 (by decide) (fun c5 => ?_) (fun c5 => ?_)
          · rw [nI_ltI (by omega) (by omega)] at c5
            obtain ⟨L, hL, hlv⟩ := ixL 4 c2 c3 (by decide)
            rw [hlv] at hl
            refine lv_iconst (v := nI 0) hx hb dX3_addSlopes_24 (by decide) ?_
            refine lv_istore (lv' := [(4, .int (nI 0)), (0, .ref (ad 0)), (1, .int (nI L)), (2, .int (nI k)), (3, .int f)]) hx hb dX3_addSlopes_25 hl (by decide) rfl (fun ls hl => ?_)
            have L27 : ∀ (n j : Nat) (U : DS) (H : Heap) (locs : List Loc) (ls : Array Slot), j + n = 6 → va_P D vwCl (wD cy ad U ++ X) H → va_D (dA cy ad X S sz) (wD cy ad U ++ X) → va_S (dA cy ad X S sz) s.heap H locs → lv_has ls 5 [(4, .int (nI j)), (0, .ref (ad 0)), (1, .int (nI L)), (2, .int (nI k)), (3, .int f)] → (∀ (H : Heap) (locs : List Loc) (ls : Array Slot), va_P D vwCl (wD cy ad (lpN (kAdd1 L k f) n j U) ++ X) H → va_D (dA cy ad X S sz) (wD cy ad (lpN (kAdd1 L k f) n j U) ++ X) → va_S (dA cy ad X S sz) s.heap H locs → lv_has ls 5 [(4, .int (nI 6)), (0, .ref (ad 0)), (1, .int (nI L)), (2, .int (nI k)), (3, .int f)] → W p l e (headSpec wsX3_addSlopes (rm9 0 0)).room s m ([.ref (ad 0), .int lv, .int (nI k), .int f] : List Value).toArray below meth c H locs 0 0 (MQ below (dQv D cy ad X S sz (fun S' => S' = kAdd S lv k f)) ([.ref (ad 0), .int lv, .int (nI k), .int f] : List Value).toArray s 0 0 (dA cy ad X S sz)) (F0 m 64 ls [])) → W p l e (headSpec wsX3_addSlopes (rm9 0 0)).room s m ([.ref (ad 0), .int lv, .int (nI k), .int f] : List Value).toArray below meth c H locs 0 0 (MQ below (dQv D cy ad X S sz (fun S' => S' = kAdd S lv k f)) ([.ref (ad 0), .int lv, .int (nI k), .int f] : List Value).toArray s 0 0 (dA cy ad X S sz)) (F0 m 27 ls []) := by
              intro n
              induction n with
              | zero =>
                intro j U H locs ls hk hP hD hS hl hex
                obtain rfl : j = 6 := by omega
                refine lv_iload hx hb dX3_addSlopes_27 (lv_at hl 0 rfl) ?_
                refine lv_bipush (v := nI 6) hx hb dX3_addSlopes_29 (by decide) ?_
                refine lv_icmp_ge (tgt := 64) hx hb dX3_addSlopes_31 (by decide) (fun c6 => ?_) (fun c6 => ?_)
                · rw [nI_leI (by omega) (by omega)] at c6
                  exact hex _ _ _ hP hD hS (lv_sub hl [0, 1, 2, 3, 4] rfl)
                · exact absurd c6 (by rw [nI_leI (by omega) (by omega)]; omega)
              | succ n ih =>
                intro j U H locs ls hk hP hD hS hl hex
                have hk27 : j < 6 := by omega
                refine lv_iload hx hb dX3_addSlopes_27 (lv_at hl 0 rfl) ?_
                refine lv_bipush (v := nI 6) hx hb dX3_addSlopes_29 (by decide) ?_
                refine lv_icmp_ge (tgt := 64) hx hb dX3_addSlopes_31 (by decide) (fun c7 => ?_) (fun c7 => ?_)
                · exact absurd c7 (by rw [nI_leI (by omega) (by omega)]; omega)
                · rw [nI_leI (by omega) (by omega)] at c7
                  refine lv_aload_n hx hb dX3_addSlopes_34 rfl (lv_at hl 1 rfl) ?_
                  refine rD_get (v := .ref (ad 10)) hx hb hts hin hown hK hP 10 (by decide) rfl (by decide +kernel) dX3_addSlopes_35 ?_
                  refine lv_iload_n hx hb dX3_addSlopes_38 rfl (lv_at hl 2 rfl) ?_
                  refine rD_slo (i := L) hx hb hK hP (by omega) dX3_addSlopes_39 ?_
                  refine lv_iload hx hb dX3_addSlopes_40 (lv_at hl 0 rfl) ?_
                  refine lv_dup2_11 hx hb dX3_addSlopes_42 rfl rfl ?_
                  refine rD_sld (n := L) (i := j) hx hb hK hP (by omega) (by omega) dX3_addSlopes_43 ?_
                  refine lv_iload_n hx hb dX3_addSlopes_44 rfl (lv_at hl 4 rfl) ?_
                  refine lv_i2l hx hb dX3_addSlopes_45 (v := f.toInt64) rfl ?_
                  refine lv_aload_n hx hb dX3_addSlopes_46 rfl (lv_at hl 1 rfl) ?_
                  refine rD_get (v := .ref (ad 1)) hx hb hts hin hown hK hP 0 (by decide) rfl (by decide +kernel) dX3_addSlopes_47 ?_
                  refine lv_iload_n hx hb dX3_addSlopes_50 rfl (lv_at hl 3 rfl) ?_
                  refine rD_row (i := k) hx hb hK hP (by omega) dX3_addSlopes_51 ?_
                  refine lv_iload hx hb dX3_addSlopes_52 (lv_at hl 0 rfl) ?_
                  refine rD_lld (n := k) (i := j) hx hb hK hP (by omega) (by omega) dX3_addSlopes_54 ?_
                  refine lv_lmul hx hb dX3_addSlopes_55 ?_
                  refine lv_ladd hx hb dX3_addSlopes_56 ?_
                  refine rD_sst (n := L) (i := j) hx hb hK hP hD hS (by omega) (by omega) dX3_addSlopes_57 (fun H locs hP hD hS => ?_)
                  refine lv_iinc (v := nI (j + 1)) (lv' := [(4, .int (nI (j + 1))), (0, .ref (ad 0)), (1, .int (nI L)), (2, .int (nI k)), (3, .int f)]) hx hb dX3_addSlopes_58 hl (k := 0) rfl (nI_1 _) (by decide) rfl (fun ls hl => ?_)
                  refine lv_goto (tgt := 27) hx hb dX3_addSlopes_61 (by decide) ?_
                  have he : (kAdd1 L k f) j U = (sSl U L j ((dSl U L j) + (f.toInt64 * (dRo U k j)))) := rfl
                  rw [lpN_s, he] at hex
                  exact ih ((j + 1)) (sSl U L j ((dSl U L j) + (f.toInt64 * (dRo U k j)))) _ _ _ (by omega) hP hD hS (lv_sub hl [0, 1, 2, 3, 4] rfl) hex
            refine L27 6 0 S _ _ _ (by omega) hP hD hS (lv_sub hl [0, 1, 2, 3, 4] rfl) (fun H locs ls hP hD hS hl => ?_)
            exact W.vret hx hb hr (fun t ht hW => ⟨⟨_, rfl, by have e9 : lv.toNatClampNeg = L := (by rw [hlv, nI_clamp (by omega)]); simp [kAdd, e9, c1, c2, c3, c4, c5], by rw [ht]; exact hP, va_K.moved hW.alike hK, hD⟩, hS.F ht⟩) hS.2.2 dX3_addSlopes_64
          · exact absurd c5 (by rw [nI_ltI (by omega) (by omega)]; omega)
end
section
/-! slopes, directions, the entering column -/
def kZ1 (L c : Nat) (S : DS) : DS := sSl S L c 0
def kZ2 (L : Nat) (S : DS) : DS := lpN (kZ1 L) 6 0 S
def kF1 (k : Nat) (S : DS) : DS := if dI S 2 k = 0 then S else if ¬ dI S 8 k = -1 then S else if dCt S ≤ dI S 4 k then S else kAdd S (dI S 4 k) k (if dI S 7 k ≤ 0 then -(dI S 6 k) else dI S 5 k)
/-- findSlopes -/
def kFind (S : DS) (aim sg : Int32) : DS := if aim = -1 then lpN kF1 27 0 (lpN kZ2 5 0 S) else kAdd (lpN kF1 27 0 (lpN kZ2 5 0 S)) (nI 4) aim.toNatClampNeg sg
/-- whether the row of a column has costs that count -/
def kHas (S : DS) (row : Int32) : Int32 := if row < 0 then nI 0 else if nI 27 ≤ row then nI 0 else if dCt S ≤ dI S 4 row.toNatClampNeg then nI 0 else nI 1
def kOwn (S : DS) (row : Int32) (L : Nat) : Int32 := if kHas S row = 0 then nI 0 else if ¬ dI S 4 row.toNatClampNeg = nI L then nI 0 else nI 1
def fDir (S : DS) (c : Nat) (row : Int32) (L : Nat) (q : Int32 × Int32) : Int32 × Int32 :=
  (if ¬ q.1 = 0 then q.1 else cmpL (if kOwn S row L = 0 then dSl S L c else dSl S L c + dSc S * (dI S 5 row.toNatClampNeg).toInt64) 0,
   if ¬ q.2 = 0 then q.2 else cmpL (if kOwn S row L = 0 then -dSl S L c else dSc S * (dI S 6 row.toNatClampNeg).toInt64 - dSl S L c) 0)
/-- directionOf -/
def kDir (S : DS) (c : Nat) : Int32 := if 0 ≤ (lpN (fDir S c (dI S 9 c)) 5 0 (nI 0, nI 0)).1 then (if 0 ≤ (lpN (fDir S c (dI S 9 c)) 5 0 (nI 0, nI 0)).2 then nI 0 else -1) else nI 1
theorem kHas_ne {S : DS} {row : Int32} (h : ¬ kHas S row = 0) : ∃ r : Nat, r < 27 ∧ row = nI r := by
  unfold kHas at h
  by_cases h1 : row < 0
  · rw [if_pos h1] at h; exact absurd nI_0 h
  by_cases h2 : nI 27 ≤ row
  · rw [if_neg h1, if_pos h2] at h; exact absurd nI_0 h
  exact ixN 27 h1 (Int32.not_le.mp h2) (by decide)
theorem kOwn_ne {S : DS} {row : Int32} {L : Nat} (h : ¬ kOwn S row L = 0) : ∃ r : Nat, r < 27 ∧ row = nI r := by
  unfold kOwn at h
  by_cases h1 : kHas S row = 0
  · rw [if_pos h1] at h; exact absurd nI_0 h
  exact kHas_ne h1
/-- enteringColumn -/
def fEnt (S : DS) (c : Nat) (f : Int32) : Int32 := if f < 0 then (if kDir S c = 0 then f else nI c) else if dI S 9 f.toNatClampNeg ≤ dI S 9 c then f else (if kDir S c = 0 then f else nI c)
def kEnt (S : DS) : Int32 := lpN (fEnt S) 6 0 (-1)
set_option maxHeartbeats 4000000 in
set_option maxRecDepth 100000 in
theorem cD_findSlopes (l : Launch) (D : va_G) (cy : Nat → ClassId) (ad : Nat → Nat) (X : va_W) (S : DS) (sz : Nat) (aim sg : Int32) (haim : aim = -1 ∨ ∃ a : Nat, a < 27 ∧ aim = nI a) : Met l yX3_findSlopes wsX3_findSlopes (rm9 1 24) (dPc D cy ad X S sz [.ref (ad 0), .int aim, .int sg]) (dQv D cy ad X S sz (fun S' => S' = kFind S aim sg)) 0 0 (dA cy ad X S sz) := by
  refine dHead (cc := cX3_findSlopes) (maxL := 5) (ret := none) (by decide) rfl (Nat.le_of_ble_eq_true rfl) ?_
  intro p e s m below meth c ls hx hb hr hlocks hml hown hts hsz hP hK hD hS hA hl
  have hin : ∀ w ∈ u_ws RX3 TX3 12, w ∈ wsX3_findSlopes := by decide +kernel
  have hown : s.vm.findClass RX3 = some m.cls := hown
  have hl : lv_has ls 5 [(0, .ref (ad 0)), (1, .int aim), (2, .int sg)] := hl
  refine lv_iconst (v := nI 0) hx hb dX3_findSlopes_0 (by decide) ?_
  refine lv_istore_n (lv' := [(3, .int (nI 0)), (0, .ref (ad 0)), (1, .int aim), (2, .int sg)]) hx hb dX3_findSlopes_1 rfl hl (by decide) rfl (fun ls hl => ?_)
  have L2 : ∀ (n i : Nat) (U : DS) (H : Heap) (locs : List Loc) (ls : Array Slot), i + n = 5 → va_P D vwCl (wD cy ad U ++ X) H → va_D (dA cy ad X S sz) (wD cy ad U ++ X) → va_S (dA cy ad X S sz) s.heap H locs → lv_has ls 5 [(3, .int (nI i)), (0, .ref (ad 0)), (1, .int aim), (2, .int sg)] → (∀ (H : Heap) (locs : List Loc) (ls : Array Slot), va_P D vwCl (wD cy ad (lpN (kZ2) n i U) ++ X) H → va_D (dA cy ad X S sz) (wD cy ad (lpN (kZ2) n i U) ++ X) → va_S (dA cy ad X S sz) s.heap H locs → lv_has ls 5 [(3, .int (nI 5)), (0, .ref (ad 0)), (1, .int aim), (2, .int sg)] → W p l e (headSpec wsX3_findSlopes (rm9 1 24)).room s m ([.ref (ad 0), .int aim, .int sg] : List Value).toArray below meth c H locs 0 0 (MQ below (dQv D cy ad X S sz (fun S' => S' = kFind S aim sg)) ([.ref (ad 0), .int aim, .int sg] : List Value).toArray s 0 0 (dA cy ad X S sz)) (F0 m 39 ls [])) → W p l e (headSpec wsX3_findSlopes (rm9 1 24)).room s m ([.ref (ad 0), .int aim, .int sg] : List Value).toArray below meth c H locs 0 0 (MQ below (dQv D cy ad X S sz (fun S' => S' = kFind S aim sg)) ([.ref (ad 0), .int aim, .int sg] : List Value).toArray s 0 0 (dA cy ad X S sz)) (F0 m 2 ls []) := by
    intro n
    induction n with
    | zero =>
      intro i U H locs ls hk hP hD hS hl hex
      obtain rfl : i = 5 := by omega
      refine lv_iload_n hx hb dX3_findSlopes_2 rfl (lv_at hl 0 rfl) ?_
      refine lv_iconst (v := nI 4) hx hb dX3_findSlopes_3 (by decide) ?_
      refine lv_icmp_gt (tgt := 39) hx hb dX3_findSlopes_4 (by decide) (fun c1 => ?_) (fun c1 => ?_)
      · rw [nI_ltI (by omega) (by omega)] at c1
        exact hex _ _ _ hP hD hS (lv_sub hl [0, 1, 2, 3] rfl)
      · exact absurd c1 (by rw [nI_ltI (by omega) (by omega)]; omega)
    | succ n ih =>
      intro i U H locs ls hk hP hD hS hl hex
      have hk2 : i < 5 := by omega
      refine lv_iload_n hx hb dX3_findSlopes_2 rfl (lv_at hl 0 rfl) ?_
      refine lv_iconst (v := nI 4) hx hb dX3_findSlopes_3 (by decide) ?_
      refine lv_icmp_gt (tgt := 39) hx hb dX3_findSlopes_4 (by decide) (fun c2 => ?_) (fun c2 => ?_)
      · exact absurd c2 (by rw [nI_ltI (by omega) (by omega)]; omega)
      · rw [nI_ltI (by omega) (by omega)] at c2
        refine lv_iconst (v := nI 0) hx hb dX3_findSlopes_7 (by decide) ?_
        refine lv_istore (lv' := [(4, .int (nI 0)), (3, .int (nI i)), (0, .ref (ad 0)), (1, .int aim), (2, .int sg)]) hx hb dX3_findSlopes_8 hl (by decide) rfl (fun ls hl => ?_)
        have L10 : ∀ (n j : Nat) (V : DS) (H : Heap) (locs : List Loc) (ls : Array Slot), j + n = 6 → va_P D vwCl (wD cy ad V ++ X) H → va_D (dA cy ad X S sz) (wD cy ad V ++ X) → va_S (dA cy ad X S sz) s.heap H locs → lv_has ls 5 [(4, .int (nI j)), (0, .ref (ad 0)), (1, .int aim), (2, .int sg), (3, .int (nI i))] → (∀ (H : Heap) (locs : List Loc) (ls : Array Slot), va_P D vwCl (wD cy ad (lpN (kZ1 i) n j V) ++ X) H → va_D (dA cy ad X S sz) (wD cy ad (lpN (kZ1 i) n j V) ++ X) → va_S (dA cy ad X S sz) s.heap H locs → lv_has ls 5 [(4, .int (nI 6)), (0, .ref (ad 0)), (1, .int aim), (2, .int sg), (3, .int (nI i))] → W p l e (headSpec wsX3_findSlopes (rm9 1 24)).room s m ([.ref (ad 0), .int aim, .int sg] : List Value).toArray below meth c H locs 0 0 (MQ below (dQv D cy ad X S sz (fun S' => S' = kFind S aim sg)) ([.ref (ad 0), .int aim, .int sg] : List Value).toArray s 0 0 (dA cy ad X S sz)) (F0 m 33 ls [])) → W p l e (headSpec wsX3_findSlopes (rm9 1 24)).room s m ([.ref (ad 0), .int aim, .int sg] : List Value).toArray below meth c H locs 0 0 (MQ below (dQv D cy ad X S sz (fun S' => S' = kFind S aim sg)) ([.ref (ad 0), .int aim, .int sg] : List Value).toArray s 0 0 (dA cy ad X S sz)) (F0 m 10 ls []) := by
          intro n
          induction n with
          | zero =>
            intro j V H locs ls hk hP hD hS hl hex
            obtain rfl : j = 6 := by omega
            refine lv_iload hx hb dX3_findSlopes_10 (lv_at hl 0 rfl) ?_
            refine lv_bipush (v := nI 6) hx hb dX3_findSlopes_12 (by decide) ?_
            refine lv_icmp_ge (tgt := 33) hx hb dX3_findSlopes_14 (by decide) (fun c3 => ?_) (fun c3 => ?_)
            · rw [nI_leI (by omega) (by omega)] at c3
              exact hex _ _ _ hP hD hS (lv_sub hl [0, 1, 2, 3, 4] rfl)
            · exact absurd c3 (by rw [nI_leI (by omega) (by omega)]; omega)
          | succ n ih =>
            intro j V H locs ls hk hP hD hS hl hex
            have hk10 : j < 6 := by omega
            refine lv_iload hx hb dX3_findSlopes_10 (lv_at hl 0 rfl) ?_
            refine lv_bipush (v := nI 6) hx hb dX3_findSlopes_12 (by decide) ?_
            refine lv_icmp_ge (tgt := 33) hx hb dX3_findSlopes_14 (by decide) (fun c4 => ?_) (fun c4 => ?_)
            · exact absurd c4 (by rw [nI_leI (by omega) (by omega)]; omega)
            · rw [nI_leI (by omega) (by omega)] at c4
              refine lv_aload_n hx hb dX3_findSlopes_17 rfl (lv_at hl 1 rfl) ?_
              refine rD_get (v := .ref (ad 10)) hx hb hts hin hown hK hP 10 (by decide) rfl (by decide +kernel) dX3_findSlopes_18 ?_
              refine lv_iload_n hx hb dX3_findSlopes_21 rfl (lv_at hl 4 rfl) ?_
              refine rD_slo (i := i) hx hb hK hP (by omega) dX3_findSlopes_22 ?_
              refine lv_iload hx hb dX3_findSlopes_23 (lv_at hl 0 rfl) ?_
              refine lv_lconst (v := 0) hx hb dX3_findSlopes_25 (by decide) ?_
              refine rD_sst (n := i) (i := j) hx hb hK hP hD hS (by omega) (by omega) dX3_findSlopes_26 (fun H locs hP hD hS => ?_)
              refine lv_iinc (v := nI (j + 1)) (lv' := [(4, .int (nI (j + 1))), (0, .ref (ad 0)), (1, .int aim), (2, .int sg), (3, .int (nI i))]) hx hb dX3_findSlopes_27 hl (k := 0) rfl (nI_1 _) (by decide) rfl (fun ls hl => ?_)
              refine lv_goto (tgt := 10) hx hb dX3_findSlopes_30 (by decide) ?_
              have he : (kZ1 i) j V = (sSl V i j 0) := rfl
              rw [lpN_s, he] at hex
              exact ih ((j + 1)) (sSl V i j 0) _ _ _ (by omega) hP hD hS (lv_sub hl [0, 1, 2, 3, 4] rfl) hex
        refine L10 6 0 U _ _ _ (by omega) hP hD hS (lv_sub hl [0, 2, 3, 4, 1] rfl) (fun H locs ls hP hD hS hl => ?_)
        refine lv_iinc (v := nI (i + 1)) (lv' := [(3, .int (nI (i + 1))), (4, .int (nI 6)), (0, .ref (ad 0)), (1, .int aim), (2, .int sg)]) hx hb dX3_findSlopes_33 hl (k := 4) rfl (nI_1 _) (by decide) rfl (fun ls hl => ?_)
        refine lv_goto (tgt := 2) hx hb dX3_findSlopes_36 (by decide) ?_
        have he : (kZ2) i U = (lpN (kZ1 i) 6 0 U) := rfl
        rw [lpN_s, he] at hex
        exact ih ((i + 1)) (lpN (kZ1 i) 6 0 U) _ _ _ (by omega) hP hD hS (lv_sub hl [0, 2, 3, 4] rfl) hex
  refine L2 5 0 S _ _ _ (by omega) hP hD hS (lv_sub hl [0, 1, 2, 3] rfl) (fun H locs ls hP hD hS hl => ?_)
  refine lv_iconst (v := nI 0) hx hb dX3_findSlopes_39 (by decide) ?_
  refine lv_istore_n (lv' := [(3, .int (nI 0)), (0, .ref (ad 0)), (1, .int aim), (2, .int sg)]) hx hb dX3_findSlopes_40 rfl hl (by decide) rfl (fun ls hl => ?_)
  have L41 : ∀ (n k : Nat) (U : DS) (H : Heap) (locs : List Loc) (ls : Array Slot), k + n = 27 → va_P D vwCl (wD cy ad U ++ X) H → va_D (dA cy ad X S sz) (wD cy ad U ++ X) → va_S (dA cy ad X S sz) s.heap H locs → lv_has ls 5 [(3, .int (nI k)), (0, .ref (ad 0)), (1, .int aim), (2, .int sg)] → (∀ (H : Heap) (locs : List Loc) (ls : Array Slot), va_P D vwCl (wD cy ad (lpN (kF1) n k U) ++ X) H → va_D (dA cy ad X S sz) (wD cy ad (lpN (kF1) n k U) ++ X) → va_S (dA cy ad X S sz) s.heap H locs → lv_has ls 5 [(3, .int (nI 27)), (0, .ref (ad 0)), (1, .int aim), (2, .int sg)] → W p l e (headSpec wsX3_findSlopes (rm9 1 24)).room s m ([.ref (ad 0), .int aim, .int sg] : List Value).toArray below meth c H locs 0 0 (MQ below (dQv D cy ad X S sz (fun S' => S' = kFind S aim sg)) ([.ref (ad 0), .int aim, .int sg] : List Value).toArray s 0 0 (dA cy ad X S sz)) (F0 m 121 ls [])) → W p l e (headSpec wsX3_findSlopes (rm9 1 24)).room s m ([.ref (ad 0), .int aim, .int sg] : List Value).toArray below meth c H locs 0 0 (MQ below (dQv D cy ad X S sz (fun S' => S' = kFind S aim sg)) ([.ref (ad 0), .int aim, .int sg] : List Value).toArray s 0 0 (dA cy ad X S sz)) (F0 m 41 ls []) := by
    intro n
    induction n with
    | zero =>
      intro k U H locs ls hk hP hD hS hl hex
      obtain rfl : k = 27 := by omega
      refine lv_iload_n hx hb dX3_findSlopes_41 rfl (lv_at hl 0 rfl) ?_
      refine lv_bipush (v := nI 27) hx hb dX3_findSlopes_42 (by decide) ?_
      refine lv_icmp_ge (tgt := 121) hx hb dX3_findSlopes_44 (by decide) (fun c5 => ?_) (fun c5 => ?_)
      · rw [nI_leI (by omega) (by omega)] at c5
        exact hex _ _ _ hP hD hS (lv_sub hl [0, 1, 2, 3] rfl)
      · exact absurd c5 (by rw [nI_leI (by omega) (by omega)]; omega)
    | succ n ih =>
      intro k U H locs ls hk hP hD hS hl hex
      have hk41 : k < 27 := by omega
      refine lv_iload_n hx hb dX3_findSlopes_41 rfl (lv_at hl 0 rfl) ?_
      refine lv_bipush (v := nI 27) hx hb dX3_findSlopes_42 (by decide) ?_
      refine lv_icmp_ge (tgt := 121) hx hb dX3_findSlopes_44 (by decide) (fun c6 => ?_) (fun c6 => ?_)
      · exact absurd c6 (by rw [nI_leI (by omega) (by omega)]; omega)
      · rw [nI_leI (by omega) (by omega)] at c6
        refine lv_aload_n hx hb dX3_findSlopes_47 rfl (lv_at hl 1 rfl) ?_
        refine rD_get (v := .ref (ad 2)) hx hb hts hin hown hK hP 2 (by decide) rfl (by decide +kernel) dX3_findSlopes_48 ?_
        refine lv_iload_n hx hb dX3_findSlopes_51 rfl (lv_at hl 0 rfl) ?_
        refine rD_zld (i := k) hx hb hK hP (by omega) dX3_findSlopes_52 ?_
        refine lv_if_eq (tgt := 115) hx hb dX3_findSlopes_53 (by decide) (fun c7 => ?_) (fun c7 => ?_)
        · skip
          refine lv_iinc (v := nI (k + 1)) (lv' := [(3, .int (nI (k + 1))), (0, .ref (ad 0)), (1, .int aim), (2, .int sg)]) hx hb dX3_findSlopes_115 hl (k := 0) rfl (nI_1 _) (by decide) rfl (fun ls hl => ?_)
          refine lv_goto (tgt := 41) hx hb dX3_findSlopes_118 (by decide) ?_
          have he : (kF1) k U = U := by simp [kF1, c7, c6]
          rw [lpN_s, he] at hex
          exact ih ((k + 1)) U _ _ _ (by omega) hP hD hS (lv_sub hl [0, 1, 2, 3] rfl) hex
        · skip
          refine lv_aload_n hx hb dX3_findSlopes_56 rfl (lv_at hl 1 rfl) ?_
          refine rD_get (v := .ref (ad 8)) hx hb hts hin hown hK hP 8 (by decide) rfl (by decide +kernel) dX3_findSlopes_57 ?_
          refine lv_iload_n hx hb dX3_findSlopes_60 rfl (lv_at hl 0 rfl) ?_
          refine rD_ild (i := k) hx hb hK hP 8 (by decide) (by decide) (by omega) dX3_findSlopes_61 ?_
          refine lv_iconst (v := -1) hx hb dX3_findSlopes_62 (by decide) ?_
          refine lv_icmp_ne (tgt := 115) hx hb dX3_findSlopes_63 (by decide) (fun c8 => ?_) (fun c8 => ?_)
          · skip
            refine lv_iinc (v := nI (k + 1)) (lv' := [(3, .int (nI (k + 1))), (0, .ref (ad 0)), (1, .int aim), (2, .int sg)]) hx hb dX3_findSlopes_115 hl (k := 0) rfl (nI_1 _) (by decide) rfl (fun ls hl => ?_)
            refine lv_goto (tgt := 41) hx hb dX3_findSlopes_118 (by decide) ?_
            have he : (kF1) k U = U := by simp [kF1, c7, c8, c6]
            rw [lpN_s, he] at hex
            exact ih ((k + 1)) U _ _ _ (by omega) hP hD hS (lv_sub hl [0, 1, 2, 3] rfl) hex
          · skip
            refine lv_aload_n hx hb dX3_findSlopes_66 rfl (lv_at hl 1 rfl) ?_
            refine rD_get (v := .ref (ad 4)) hx hb hts hin hown hK hP 4 (by decide) rfl (by decide +kernel) dX3_findSlopes_67 ?_
            refine lv_iload_n hx hb dX3_findSlopes_70 rfl (lv_at hl 0 rfl) ?_
            refine rD_ild (i := k) hx hb hK hP 4 (by decide) (by decide) (by omega) dX3_findSlopes_71 ?_
            refine lv_aload_n hx hb dX3_findSlopes_72 rfl (lv_at hl 1 rfl) ?_
            refine rD_get (v := .int (dCt U)) hx hb hts hin hown hK hP 11 (by decide) rfl (by decide +kernel) dX3_findSlopes_73 ?_
            refine lv_icmp_ge (tgt := 115) hx hb dX3_findSlopes_76 (by decide) (fun c9 => ?_) (fun c9 => ?_)
            · skip
              refine lv_iinc (v := nI (k + 1)) (lv' := [(3, .int (nI (k + 1))), (0, .ref (ad 0)), (1, .int aim), (2, .int sg)]) hx hb dX3_findSlopes_115 hl (k := 0) rfl (nI_1 _) (by decide) rfl (fun ls hl => ?_)
              refine lv_goto (tgt := 41) hx hb dX3_findSlopes_118 (by decide) ?_
              have he : (kF1) k U = U := by simp [kF1, c7, c8, c9, c6]
              rw [lpN_s, he] at hex
              exact ih ((k + 1)) U _ _ _ (by omega) hP hD hS (lv_sub hl [0, 1, 2, 3] rfl) hex
            · skip
              refine lv_aload_n hx hb dX3_findSlopes_79 rfl (lv_at hl 1 rfl) ?_
              refine lv_aload_n hx hb dX3_findSlopes_80 rfl (lv_at hl 1 rfl) ?_
              refine rD_get (v := .ref (ad 4)) hx hb hts hin hown hK hP 4 (by decide) rfl (by decide +kernel) dX3_findSlopes_81 ?_
              refine lv_iload_n hx hb dX3_findSlopes_84 rfl (lv_at hl 0 rfl) ?_
              refine rD_ild (i := k) hx hb hK hP 4 (by decide) (by decide) (by omega) dX3_findSlopes_85 ?_
              refine lv_iload_n hx hb dX3_findSlopes_86 rfl (lv_at hl 0 rfl) ?_
              refine lv_aload_n hx hb dX3_findSlopes_87 rfl (lv_at hl 1 rfl) ?_
              refine rD_get (v := .ref (ad 7)) hx hb hts hin hown hK hP 7 (by decide) rfl (by decide +kernel) dX3_findSlopes_88 ?_
              refine lv_iload_n hx hb dX3_findSlopes_91 rfl (lv_at hl 0 rfl) ?_
              refine rD_ild (i := k) hx hb hK hP 7 (by decide) (by decide) (by omega) dX3_findSlopes_92 ?_
              refine lv_if_le (tgt := 105) hx hb dX3_findSlopes_93 (by decide) (fun c10 => ?_) (fun c10 => ?_)
              · skip
                refine lv_aload_n hx hb dX3_findSlopes_105 rfl (lv_at hl 1 rfl) ?_
                refine rD_get (v := .ref (ad 6)) hx hb hts hin hown hK hP 6 (by decide) rfl (by decide +kernel) dX3_findSlopes_106 ?_
                refine lv_iload_n hx hb dX3_findSlopes_109 rfl (lv_at hl 0 rfl) ?_
                refine rD_ild (i := k) hx hb hK hP 6 (by decide) (by decide) (by omega) dX3_findSlopes_110 ?_
                refine lv_ineg hx hb dX3_findSlopes_111 ?_
                refine dCallv (As := [.int (dI U 4 k), .int (nI k), .int (-(dI U 6 k))]) (rest := []) hx hb hml hown hts hK hP hD hS hA hl.1 (cD_addSlopes l D cy ad _ _ _ (k := k) (by omega) (dI U 4 k) (-(dI U 6 k))) (cwV 3 hts gX3_findSlopes_X3_addSlopes rfl rfl rfl (by decide +kernel) ⟨Nat.le_of_ble_eq_true rfl, Nat.le_of_ble_eq_true rfl⟩) rfl rfl (Nat.le_of_ble_eq_true rfl) ⟨Nat.le_of_ble_eq_true rfl, Nat.le_of_ble_eq_true rfl⟩ dX3_findSlopes_112 (fun S11 H locs e11 hP hD hS => ?_)
                rw [show S11 = _ from e11] at hP hD
                refine lv_iinc (v := nI (k + 1)) (lv' := [(3, .int (nI (k + 1))), (0, .ref (ad 0)), (1, .int aim), (2, .int sg)]) hx hb dX3_findSlopes_115 hl (k := 0) rfl (nI_1 _) (by decide) rfl (fun ls hl => ?_)
                refine lv_goto (tgt := 41) hx hb dX3_findSlopes_118 (by decide) ?_
                have he : (kF1) k U = (kAdd U (dI U 4 k) k (-(dI U 6 k))) := by simp [kF1, c7, c8, c9, c10, c6]
                rw [lpN_s, he] at hex
                exact ih ((k + 1)) (kAdd U (dI U 4 k) k (-(dI U 6 k))) _ _ _ (by omega) hP hD hS (lv_sub hl [0, 1, 2, 3] rfl) hex
              · skip
                refine lv_aload_n hx hb dX3_findSlopes_96 rfl (lv_at hl 1 rfl) ?_
                refine rD_get (v := .ref (ad 5)) hx hb hts hin hown hK hP 5 (by decide) rfl (by decide +kernel) dX3_findSlopes_97 ?_
                refine lv_iload_n hx hb dX3_findSlopes_100 rfl (lv_at hl 0 rfl) ?_
                refine rD_ild (i := k) hx hb hK hP 5 (by decide) (by decide) (by omega) dX3_findSlopes_101 ?_
                refine lv_goto (tgt := 112) hx hb dX3_findSlopes_102 (by decide) ?_
                refine dCallv (As := [.int (dI U 4 k), .int (nI k), .int (dI U 5 k)]) (rest := []) hx hb hml hown hts hK hP hD hS hA hl.1 (cD_addSlopes l D cy ad _ _ _ (k := k) (by omega) (dI U 4 k) (dI U 5 k)) (cwV 3 hts gX3_findSlopes_X3_addSlopes rfl rfl rfl (by decide +kernel) ⟨Nat.le_of_ble_eq_true rfl, Nat.le_of_ble_eq_true rfl⟩) rfl rfl (Nat.le_of_ble_eq_true rfl) ⟨Nat.le_of_ble_eq_true rfl, Nat.le_of_ble_eq_true rfl⟩ dX3_findSlopes_112 (fun S12 H locs e12 hP hD hS => ?_)
                rw [show S12 = _ from e12] at hP hD
                refine lv_iinc (v := nI (k + 1)) (lv' := [(3, .int (nI (k + 1))), (0, .ref (ad 0)), (1, .int aim), (2, .int sg)]) hx hb dX3_findSlopes_115 hl (k := 0) rfl (nI_1 _) (by decide) rfl (fun ls hl => ?_)
                refine lv_goto (tgt := 41) hx hb dX3_findSlopes_118 (by decide) ?_
                have he : (kF1) k U = (kAdd U (dI U 4 k) k (dI U 5 k)) := by simp [kF1, c7, c8, c9, c10, c6]
                rw [lpN_s, he] at hex
                exact ih ((k + 1)) (kAdd U (dI U 4 k) k (dI U 5 k)) _ _ _ (by omega) hP hD hS (lv_sub hl [0, 1, 2, 3] rfl) hex
  refine L41 27 0 (lpN (kZ2) 5 0 S) _ _ _ (by omega) hP hD hS (lv_sub hl [0, 1, 2, 3] rfl) (fun H locs ls hP hD hS hl => ?_)
  refine lv_iload_n hx hb dX3_findSlopes_121 rfl (lv_at hl 2 rfl) ?_
  refine lv_iconst (v := -1) hx hb dX3_findSlopes_122 (by decide) ?_
  refine lv_icmp_eq (tgt := 133) hx hb dX3_findSlopes_123 (by decide) (fun c13 => ?_) (fun c13 => ?_)
  · skip
    exact W.vret hx hb hr (fun t ht hW => ⟨⟨_, rfl, by simp only [kFind]; rw [if_pos (by assumption)], by rw [ht]; exact hP, va_K.moved hW.alike hK, hD⟩, hS.F ht⟩) hS.2.2 dX3_findSlopes_133
  · skip
    obtain ⟨a, ha, hae⟩ := haim.resolve_left c13
    rw [hae] at hl
    refine lv_aload_n hx hb dX3_findSlopes_126 rfl (lv_at hl 1 rfl) ?_
    refine lv_iconst (v := nI 4) hx hb dX3_findSlopes_127 (by decide) ?_
    refine lv_iload_n hx hb dX3_findSlopes_128 rfl (lv_at hl 2 rfl) ?_
    refine lv_iload_n hx hb dX3_findSlopes_129 rfl (lv_at hl 3 rfl) ?_
    refine dCallv (As := [.int (nI 4), .int (nI a), .int sg]) (rest := []) hx hb hml hown hts hK hP hD hS hA hl.1 (cD_addSlopes l D cy ad _ _ _ (k := a) (by omega) (nI 4) sg) (cwV 3 hts gX3_findSlopes_X3_addSlopes rfl rfl rfl (by decide +kernel) ⟨Nat.le_of_ble_eq_true rfl, Nat.le_of_ble_eq_true rfl⟩) rfl rfl (Nat.le_of_ble_eq_true rfl) ⟨Nat.le_of_ble_eq_true rfl, Nat.le_of_ble_eq_true rfl⟩ dX3_findSlopes_130 (fun S14 H locs e14 hP hD hS => ?_)
    rw [show S14 = _ from e14] at hP hD
    exact W.vret hx hb hr (fun t ht hW => ⟨⟨_, rfl, by have e9 : aim.toNatClampNeg = a := (by rw [hae, nI_clamp (by omega)]); simp only [kFind, e9]; rw [if_neg (by assumption)], by rw [ht]; exact hP, va_K.moved hW.alike hK, hD⟩, hS.F ht⟩) hS.2.2 dX3_findSlopes_133
set_option maxHeartbeats 4000000 in
set_option maxRecDepth 100000 in
theorem cD_directionOf (l : Launch) (D : va_G) (cy : Nat → ClassId) (ad : Nat → Nat) (X : va_W) (S : DS) (sz : Nat) {c0 : Nat} (hc0 : c0 < 6) : Met l yX3_directionOf wsX3_directionOf (rm9 1 23) (dPc D cy ad X S sz [.ref (ad 0), .int (nI c0)]) (dQi D cy ad X S sz (fun r S' => r = kDir S c0 ∧ S' = S)) 0 0 (dA cy ad X S sz) := by
  refine dHead (cc := cX3_directionOf) (maxL := 10) (ret := (some .int)) (by decide) rfl (Nat.le_of_ble_eq_true rfl) ?_
  intro p e s m below meth c ls hx hb hr hlocks hml hown hts hsz hP hK hD hS hA hl
  have hin : ∀ w ∈ u_ws RX3 TX3 12, w ∈ wsX3_directionOf := by decide +kernel
  have hown : s.vm.findClass RX3 = some m.cls := hown
  have hl : lv_has ls 10 [(0, .ref (ad 0)), (1, .int (nI c0))] := hl
  refine lv_iload_n hx hb dX3_directionOf_0 rfl (lv_at hl 1 rfl) ?_
  refine lv_if_lt (tgt := 10) hx hb dX3_directionOf_1 (by decide) (fun c1 => ?_) (fun c1 => ?_)
  · exact absurd c1 (nI_pos (by omega))
  · skip
    refine lv_iload_n hx hb dX3_directionOf_4 rfl (lv_at hl 1 rfl) ?_
    refine lv_bipush (v := nI 6) hx hb dX3_directionOf_5 (by decide) ?_
    refine lv_icmp_lt (tgt := 12) hx hb dX3_directionOf_7 (by decide) (fun c2 => ?_) (fun c2 => ?_)
    · rw [nI_ltI (by omega) (by omega)] at c2
      refine lv_aload_n hx hb dX3_directionOf_12 rfl (lv_at hl 0 rfl) ?_
      refine rD_get (v := .ref (ad 9)) hx hb hts hin hown hK hP 9 (by decide) rfl (by decide +kernel) dX3_directionOf_13 ?_
      refine lv_iload_n hx hb dX3_directionOf_16 rfl (lv_at hl 1 rfl) ?_
      refine rD_ild9 (i := c0) hx hb hK hP (by omega) dX3_directionOf_17 ?_
      refine lv_istore_n (lv' := [(2, .int (dI S 9 c0)), (0, .ref (ad 0)), (1, .int (nI c0))]) hx hb dX3_directionOf_18 rfl hl (by decide) rfl (fun ls hl => ?_)
      have J47 : ∀ (hc : Int32) (H : Heap) (locs : List Loc) (ls : Array Slot), hc = kHas S (dI S 9 c0) → va_P D vwCl (wD cy ad S ++ X) H → va_D (dA cy ad X S sz) (wD cy ad S ++ X) → va_S (dA cy ad X S sz) s.heap H locs → lv_has ls 10 [(0, .ref (ad 0)), (1, .int (nI c0)), (2, .int (dI S 9 c0))] → W p l e (headSpec wsX3_directionOf (rm9 1 23)).room s m ([.ref (ad 0), .int (nI c0)] : List Value).toArray below meth c H locs 0 0 (MQ below (dQi D cy ad X S sz (fun r S' => r = kDir S c0 ∧ S' = S)) ([.ref (ad 0), .int (nI c0)] : List Value).toArray s 0 0 (dA cy ad X S sz)) (F0 m 47 ls [.int hc]) := by
        intro hc H locs ls hhc hP hD hS hl
        refine lv_istore_n (lv' := [(3, .int hc), (0, .ref (ad 0)), (1, .int (nI c0)), (2, .int (dI S 9 c0))]) hx hb dX3_directionOf_47 rfl hl (by decide) rfl (fun ls hl => ?_)
        refine lv_iconst (v := nI 0) hx hb dX3_directionOf_48 (by decide) ?_
        refine lv_istore (lv' := [(4, .int (nI 0)), (3, .int hc), (0, .ref (ad 0)), (1, .int (nI c0)), (2, .int (dI S 9 c0))]) hx hb dX3_directionOf_49 hl (by decide) rfl (fun ls hl => ?_)
        refine lv_iconst (v := nI 0) hx hb dX3_directionOf_51 (by decide) ?_
        refine lv_istore (lv' := [(5, .int (nI 0)), (4, .int (nI 0)), (3, .int hc), (0, .ref (ad 0)), (1, .int (nI c0)), (2, .int (dI S 9 c0))]) hx hb dX3_directionOf_52 hl (by decide) rfl (fun ls hl => ?_)
        refine lv_iconst (v := nI 0) hx hb dX3_directionOf_54 (by decide) ?_
        refine lv_istore (lv' := [(6, .int (nI 0)), (5, .int (nI 0)), (4, .int (nI 0)), (3, .int hc), (0, .ref (ad 0)), (1, .int (nI c0)), (2, .int (dI S 9 c0))]) hx hb dX3_directionOf_55 hl (by decide) rfl (fun ls hl => ?_)
        have L57 : ∀ (n i : Nat) (q : Int32 × Int32) (H : Heap) (locs : List Loc) (ls : Array Slot), i + n = 5 → va_P D vwCl (wD cy ad S ++ X) H → va_D (dA cy ad X S sz) (wD cy ad S ++ X) → va_S (dA cy ad X S sz) s.heap H locs → lv_has ls 10 [(6, .int (nI i)), (0, .ref (ad 0)), (1, .int (nI c0)), (2, .int (dI S 9 c0)), (3, .int hc), (4, .int q.1), (5, .int q.2)] → (∀ (H : Heap) (locs : List Loc) (ls : Array Slot), va_P D vwCl (wD cy ad S ++ X) H → va_D (dA cy ad X S sz) (wD cy ad S ++ X) → va_S (dA cy ad X S sz) s.heap H locs → lv_has ls 10 [(6, .int (nI 5)), (0, .ref (ad 0)), (1, .int (nI c0)), (2, .int (dI S 9 c0)), (3, .int hc), (4, .int ((lpN (fDir S c0 (dI S 9 c0)) n i q).1)), (5, .int ((lpN (fDir S c0 (dI S 9 c0)) n i q).2))] → W p l e (headSpec wsX3_directionOf (rm9 1 23)).room s m ([.ref (ad 0), .int (nI c0)] : List Value).toArray below meth c H locs 0 0 (MQ below (dQi D cy ad X S sz (fun r S' => r = kDir S c0 ∧ S' = S)) ([.ref (ad 0), .int (nI c0)] : List Value).toArray s 0 0 (dA cy ad X S sz)) (F0 m 175 ls [])) → W p l e (headSpec wsX3_directionOf (rm9 1 23)).room s m ([.ref (ad 0), .int (nI c0)] : List Value).toArray below meth c H locs 0 0 (MQ below (dQi D cy ad X S sz (fun r S' => r = kDir S c0 ∧ S' = S)) ([.ref (ad 0), .int (nI c0)] : List Value).toArray s 0 0 (dA cy ad X S sz)) (F0 m 57 ls []) := by
          intro n
          induction n with
          | zero =>
            intro i q H locs ls hk hP hD hS hl hex
            obtain rfl : i = 5 := by omega
            refine lv_iload hx hb dX3_directionOf_57 (lv_at hl 0 rfl) ?_
            refine lv_iconst (v := nI 4) hx hb dX3_directionOf_59 (by decide) ?_
            refine lv_icmp_gt (tgt := 175) hx hb dX3_directionOf_60 (by decide) (fun c3 => ?_) (fun c3 => ?_)
            · rw [nI_ltI (by omega) (by omega)] at c3
              exact hex _ _ _ hP hD hS (lv_sub hl [0, 1, 2, 3, 4, 5, 6] rfl)
            · exact absurd c3 (by rw [nI_ltI (by omega) (by omega)]; omega)
          | succ n ih =>
            intro i q H locs ls hk hP hD hS hl hex
            have hk57 : i < 5 := by omega
            refine lv_iload hx hb dX3_directionOf_57 (lv_at hl 0 rfl) ?_
            refine lv_iconst (v := nI 4) hx hb dX3_directionOf_59 (by decide) ?_
            refine lv_icmp_gt (tgt := 175) hx hb dX3_directionOf_60 (by decide) (fun c4 => ?_) (fun c4 => ?_)
            · exact absurd c4 (by rw [nI_ltI (by omega) (by omega)]; omega)
            · rw [nI_ltI (by omega) (by omega)] at c4
              have J83 : ∀ (ow : Int32) (H : Heap) (locs : List Loc) (ls : Array Slot), ow = kOwn S (dI S 9 c0) i → va_P D vwCl (wD cy ad S ++ X) H → va_D (dA cy ad X S sz) (wD cy ad S ++ X) → va_S (dA cy ad X S sz) s.heap H locs → lv_has ls 10 [(0, .ref (ad 0)), (1, .int (nI c0)), (2, .int (dI S 9 c0)), (3, .int hc), (4, .int q.1), (5, .int q.2), (6, .int (nI i))] → W p l e (headSpec wsX3_directionOf (rm9 1 23)).room s m ([.ref (ad 0), .int (nI c0)] : List Value).toArray below meth c H locs 0 0 (MQ below (dQi D cy ad X S sz (fun r S' => r = kDir S c0 ∧ S' = S)) ([.ref (ad 0), .int (nI c0)] : List Value).toArray s 0 0 (dA cy ad X S sz)) (F0 m 83 ls [.int ow]) := by
                intro ow H locs ls how hP hD hS hl
                refine lv_istore (lv' := [(7, .int ow), (0, .ref (ad 0)), (1, .int (nI c0)), (2, .int (dI S 9 c0)), (3, .int hc), (4, .int q.1), (5, .int q.2), (6, .int (nI i))]) hx hb dX3_directionOf_83 hl (by decide) rfl (fun ls hl => ?_)
                refine lv_aload_n hx hb dX3_directionOf_85 rfl (lv_at hl 1 rfl) ?_
                refine rD_get (v := .ref (ad 10)) hx hb hts hin hown hK hP 10 (by decide) rfl (by decide +kernel) dX3_directionOf_86 ?_
                refine lv_iload hx hb dX3_directionOf_89 (lv_at hl 7 rfl) ?_
                refine rD_slo (i := i) hx hb hK hP (by omega) dX3_directionOf_91 ?_
                refine lv_iload_n hx hb dX3_directionOf_92 rfl (lv_at hl 2 rfl) ?_
                refine rD_sld (n := i) (i := c0) hx hb hK hP (by omega) (by omega) dX3_directionOf_93 ?_
                refine lv_lstore (lv' := [(8, .long (dSl S i c0)), (7, .int ow), (0, .ref (ad 0)), (1, .int (nI c0)), (2, .int (dI S 9 c0)), (3, .int hc), (4, .int q.1), (5, .int q.2), (6, .int (nI i))]) hx hb dX3_directionOf_94 hl (by decide) rfl (fun ls hl => ?_)
                refine lv_iload hx hb dX3_directionOf_96 (lv_at hl 6 rfl) ?_
                refine lv_if_ne (tgt := 132) hx hb dX3_directionOf_98 (by decide) (fun c5 => ?_) (fun c5 => ?_)
                · skip
                  refine lv_iload hx hb dX3_directionOf_132 (lv_at hl 7 rfl) ?_
                  refine lv_if_ne (tgt := 169) hx hb dX3_directionOf_134 (by decide) (fun c6 => ?_) (fun c6 => ?_)
                  · skip
                    refine lv_iinc (v := nI (i + 1)) (lv' := [(6, .int (nI (i + 1))), (8, .long (dSl S i c0)), (7, .int ow), (0, .ref (ad 0)), (1, .int (nI c0)), (2, .int (dI S 9 c0)), (3, .int hc), (4, .int q.1), (5, .int q.2)]) hx hb dX3_directionOf_169 hl (k := 8) rfl (nI_1 _) (by decide) rfl (fun ls hl => ?_)
                    refine lv_goto (tgt := 57) hx hb dX3_directionOf_172 (by decide) ?_
                    have he : (fDir S c0 (dI S 9 c0)) i q = (q.1, q.2) := by simp [fDir, ← how, c1, c5, c6, c2, c4]
                    rw [lpN_s, he] at hex
                    exact ih ((i + 1)) (q.1, q.2) _ _ _ (by omega) hP hD hS (lv_sub hl [0, 3, 4, 5, 6, 7, 8] rfl) hex
                  · skip
                    refine lv_iload hx hb dX3_directionOf_137 (lv_at hl 1 rfl) ?_
                    refine lv_if_eq (tgt := 160) hx hb dX3_directionOf_139 (by decide) (fun c7 => ?_) (fun c7 => ?_)
                    · skip
                      refine lv_lload hx hb dX3_directionOf_160 (lv_at hl 0 rfl) ?_
                      refine lv_lneg hx hb dX3_directionOf_162 ?_
                      refine lv_lconst (v := 0) hx hb dX3_directionOf_163 (by decide) ?_
                      refine pCalli (As := [.long (-(dSl S i c0)), .long 0]) (rest := []) hx hb hml hown hts hP hS hA hl.1 (cJ_cmp l _ (-(dSl S i c0)) 0) (va_cwS 2 hts gX3_directionOf_J13_compare_74951 rfl rfl rfl (by decide +kernel) ⟨Nat.le_of_ble_eq_true rfl, Nat.le_of_ble_eq_true rfl⟩) rfl rfl (Nat.le_of_ble_eq_true rfl) ⟨Nat.le_of_ble_eq_true rfl, Nat.le_of_ble_eq_true rfl⟩ dX3_directionOf_164 (fun r8 H locs e8 hP hS => ?_)
                      rw [show r8 = cmpL (-(dSl S i c0)) 0 from e8]
                      refine lv_istore (lv' := [(5, .int (cmpL (-(dSl S i c0)) 0)), (8, .long (dSl S i c0)), (7, .int ow), (0, .ref (ad 0)), (1, .int (nI c0)), (2, .int (dI S 9 c0)), (3, .int hc), (4, .int q.1), (6, .int (nI i))]) hx hb dX3_directionOf_167 hl (by decide) rfl (fun ls hl => ?_)
                      refine lv_iinc (v := nI (i + 1)) (lv' := [(6, .int (nI (i + 1))), (5, .int (cmpL (-(dSl S i c0)) 0)), (8, .long (dSl S i c0)), (7, .int ow), (0, .ref (ad 0)), (1, .int (nI c0)), (2, .int (dI S 9 c0)), (3, .int hc), (4, .int q.1)]) hx hb dX3_directionOf_169 hl (k := 8) rfl (nI_1 _) (by decide) rfl (fun ls hl => ?_)
                      refine lv_goto (tgt := 57) hx hb dX3_directionOf_172 (by decide) ?_
                      have he : (fDir S c0 (dI S 9 c0)) i q = (q.1, cmpL (-(dSl S i c0)) 0) := by simp [fDir, ← how, c1, c5, c6, c7, c2, c4]
                      rw [lpN_s, he] at hex
                      exact ih ((i + 1)) (q.1, cmpL (-(dSl S i c0)) 0) _ _ _ (by omega) hP hD hS (lv_sub hl [0, 4, 5, 6, 7, 8, 1] rfl) hex
                    · skip
                      obtain ⟨r, hr, hre⟩ := kOwn_ne (how ▸ c7)
                      have e8 : (dI S 9 c0).toNatClampNeg = r := (by rw [hre, nI_clamp (by omega)])
                      rw [hre] at hl
                      refine lv_aload_n hx hb dX3_directionOf_142 rfl (lv_at hl 2 rfl) ?_
                      refine rD_get (v := .long (dSc S)) hx hb hts hin hown hK hP 1 (by decide) rfl (by decide +kernel) dX3_directionOf_143 ?_
                      refine lv_aload_n hx hb dX3_directionOf_146 rfl (lv_at hl 2 rfl) ?_
                      refine rD_get (v := .ref (ad 6)) hx hb hts hin hown hK hP 6 (by decide) rfl (by decide +kernel) dX3_directionOf_147 ?_
                      refine lv_iload_n hx hb dX3_directionOf_150 rfl (lv_at hl 4 rfl) ?_
                      refine rD_ild (i := r) hx hb hK hP 6 (by decide) (by decide) (by omega) dX3_directionOf_151 ?_
                      refine lv_i2l hx hb dX3_directionOf_152 (v := (dI S 6 r).toInt64) rfl ?_
                      refine lv_lmul hx hb dX3_directionOf_153 ?_
                      refine lv_lload hx hb dX3_directionOf_154 (lv_at hl 0 rfl) ?_
                      refine lv_lsub hx hb dX3_directionOf_156 ?_
                      refine lv_goto (tgt := 163) hx hb dX3_directionOf_157 (by decide) ?_
                      refine lv_lconst (v := 0) hx hb dX3_directionOf_163 (by decide) ?_
                      refine pCalli (As := [.long (((dSc S) * ((dI S 6 r).toInt64)) - (dSl S i c0)), .long 0]) (rest := []) hx hb hml hown hts hP hS hA hl.1 (cJ_cmp l _ (((dSc S) * ((dI S 6 r).toInt64)) - (dSl S i c0)) 0) (va_cwS 2 hts gX3_directionOf_J13_compare_74951 rfl rfl rfl (by decide +kernel) ⟨Nat.le_of_ble_eq_true rfl, Nat.le_of_ble_eq_true rfl⟩) rfl rfl (Nat.le_of_ble_eq_true rfl) ⟨Nat.le_of_ble_eq_true rfl, Nat.le_of_ble_eq_true rfl⟩ dX3_directionOf_164 (fun r9 H locs e9 hP hS => ?_)
                      rw [show r9 = cmpL (((dSc S) * ((dI S 6 r).toInt64)) - (dSl S i c0)) 0 from e9]
                      refine lv_istore (lv' := [(5, .int (cmpL (((dSc S) * ((dI S 6 r).toInt64)) - (dSl S i c0)) 0)), (8, .long (dSl S i c0)), (7, .int ow), (0, .ref (ad 0)), (1, .int (nI c0)), (2, .int (nI r)), (3, .int hc), (4, .int q.1), (6, .int (nI i))]) hx hb dX3_directionOf_167 hl (by decide) rfl (fun ls hl => ?_)
                      refine lv_iinc (v := nI (i + 1)) (lv' := [(6, .int (nI (i + 1))), (5, .int (cmpL (((dSc S) * ((dI S 6 r).toInt64)) - (dSl S i c0)) 0)), (8, .long (dSl S i c0)), (7, .int ow), (0, .ref (ad 0)), (1, .int (nI c0)), (2, .int (nI r)), (3, .int hc), (4, .int q.1)]) hx hb dX3_directionOf_169 hl (k := 8) rfl (nI_1 _) (by decide) rfl (fun ls hl => ?_)
                      refine lv_goto (tgt := 57) hx hb dX3_directionOf_172 (by decide) ?_
                      rw [← hre] at hl
                      have he : (fDir S c0 (dI S 9 c0)) i q = (q.1, cmpL (((dSc S) * ((dI S 6 r).toInt64)) - (dSl S i c0)) 0) := by simp [fDir, ← how, c1, c5, c6, c7, c2, c4, e8]
                      rw [lpN_s, he] at hex
                      exact ih ((i + 1)) (q.1, cmpL (((dSc S) * ((dI S 6 r).toInt64)) - (dSl S i c0)) 0) _ _ _ (by omega) hP hD hS (lv_sub hl [0, 4, 5, 6, 7, 8, 1] rfl) hex
                · skip
                  refine lv_iload hx hb dX3_directionOf_101 (lv_at hl 1 rfl) ?_
                  refine lv_if_eq (tgt := 124) hx hb dX3_directionOf_103 (by decide) (fun c10 => ?_) (fun c10 => ?_)
                  · skip
                    refine lv_lload hx hb dX3_directionOf_124 (lv_at hl 0 rfl) ?_
                    refine lv_lconst (v := 0) hx hb dX3_directionOf_126 (by decide) ?_
                    refine pCalli (As := [.long (dSl S i c0), .long 0]) (rest := []) hx hb hml hown hts hP hS hA hl.1 (cJ_cmp l _ (dSl S i c0) 0) (va_cwS 2 hts gX3_directionOf_J13_compare_74951 rfl rfl rfl (by decide +kernel) ⟨Nat.le_of_ble_eq_true rfl, Nat.le_of_ble_eq_true rfl⟩) rfl rfl (Nat.le_of_ble_eq_true rfl) ⟨Nat.le_of_ble_eq_true rfl, Nat.le_of_ble_eq_true rfl⟩ dX3_directionOf_127 (fun r11 H locs e11 hP hS => ?_)
                    rw [show r11 = cmpL (dSl S i c0) 0 from e11]
                    refine lv_istore (lv' := [(4, .int (cmpL (dSl S i c0) 0)), (8, .long (dSl S i c0)), (7, .int ow), (0, .ref (ad 0)), (1, .int (nI c0)), (2, .int (dI S 9 c0)), (3, .int hc), (5, .int q.2), (6, .int (nI i))]) hx hb dX3_directionOf_130 hl (by decide) rfl (fun ls hl => ?_)
                    refine lv_iload hx hb dX3_directionOf_132 (lv_at hl 7 rfl) ?_
                    refine lv_if_ne (tgt := 169) hx hb dX3_directionOf_134 (by decide) (fun c12 => ?_) (fun c12 => ?_)
                    · skip
                      refine lv_iinc (v := nI (i + 1)) (lv' := [(6, .int (nI (i + 1))), (4, .int (cmpL (dSl S i c0) 0)), (8, .long (dSl S i c0)), (7, .int ow), (0, .ref (ad 0)), (1, .int (nI c0)), (2, .int (dI S 9 c0)), (3, .int hc), (5, .int q.2)]) hx hb dX3_directionOf_169 hl (k := 8) rfl (nI_1 _) (by decide) rfl (fun ls hl => ?_)
                      refine lv_goto (tgt := 57) hx hb dX3_directionOf_172 (by decide) ?_
                      have he : (fDir S c0 (dI S 9 c0)) i q = (cmpL (dSl S i c0) 0, q.2) := by simp [fDir, ← how, c1, c5, c10, c12, c2, c4]
                      rw [lpN_s, he] at hex
                      exact ih ((i + 1)) (cmpL (dSl S i c0) 0, q.2) _ _ _ (by omega) hP hD hS (lv_sub hl [0, 4, 5, 6, 7, 1, 8] rfl) hex
                    · skip
                      refine lv_iload hx hb dX3_directionOf_137 (lv_at hl 2 rfl) ?_
                      refine lv_if_eq (tgt := 160) hx hb dX3_directionOf_139 (by decide) (fun c13 => ?_) (fun c13 => ?_)
                      · skip
                        refine lv_lload hx hb dX3_directionOf_160 (lv_at hl 1 rfl) ?_
                        refine lv_lneg hx hb dX3_directionOf_162 ?_
                        refine lv_lconst (v := 0) hx hb dX3_directionOf_163 (by decide) ?_
                        refine pCalli (As := [.long (-(dSl S i c0)), .long 0]) (rest := []) hx hb hml hown hts hP hS hA hl.1 (cJ_cmp l _ (-(dSl S i c0)) 0) (va_cwS 2 hts gX3_directionOf_J13_compare_74951 rfl rfl rfl (by decide +kernel) ⟨Nat.le_of_ble_eq_true rfl, Nat.le_of_ble_eq_true rfl⟩) rfl rfl (Nat.le_of_ble_eq_true rfl) ⟨Nat.le_of_ble_eq_true rfl, Nat.le_of_ble_eq_true rfl⟩ dX3_directionOf_164 (fun r14 H locs e14 hP hS => ?_)
                        rw [show r14 = cmpL (-(dSl S i c0)) 0 from e14]
                        refine lv_istore (lv' := [(5, .int (cmpL (-(dSl S i c0)) 0)), (4, .int (cmpL (dSl S i c0) 0)), (8, .long (dSl S i c0)), (7, .int ow), (0, .ref (ad 0)), (1, .int (nI c0)), (2, .int (dI S 9 c0)), (3, .int hc), (6, .int (nI i))]) hx hb dX3_directionOf_167 hl (by decide) rfl (fun ls hl => ?_)
                        refine lv_iinc (v := nI (i + 1)) (lv' := [(6, .int (nI (i + 1))), (5, .int (cmpL (-(dSl S i c0)) 0)), (4, .int (cmpL (dSl S i c0) 0)), (8, .long (dSl S i c0)), (7, .int ow), (0, .ref (ad 0)), (1, .int (nI c0)), (2, .int (dI S 9 c0)), (3, .int hc)]) hx hb dX3_directionOf_169 hl (k := 8) rfl (nI_1 _) (by decide) rfl (fun ls hl => ?_)
                        refine lv_goto (tgt := 57) hx hb dX3_directionOf_172 (by decide) ?_
                        have he : (fDir S c0 (dI S 9 c0)) i q = (cmpL (dSl S i c0) 0, cmpL (-(dSl S i c0)) 0) := by simp [fDir, ← how, c1, c5, c13, c12, c2, c4]
                        rw [lpN_s, he] at hex
                        exact ih ((i + 1)) (cmpL (dSl S i c0) 0, cmpL (-(dSl S i c0)) 0) _ _ _ (by omega) hP hD hS (lv_sub hl [0, 5, 6, 7, 8, 2, 1] rfl) hex
                      · exact absurd c10 c13
                  · skip
                    obtain ⟨r, hr, hre⟩ := kOwn_ne (how ▸ c10)
                    have e8 : (dI S 9 c0).toNatClampNeg = r := (by rw [hre, nI_clamp (by omega)])
                    rw [hre] at hl
                    refine lv_lload hx hb dX3_directionOf_106 (lv_at hl 0 rfl) ?_
                    refine lv_aload_n hx hb dX3_directionOf_108 rfl (lv_at hl 2 rfl) ?_
                    refine rD_get (v := .long (dSc S)) hx hb hts hin hown hK hP 1 (by decide) rfl (by decide +kernel) dX3_directionOf_109 ?_
                    refine lv_aload_n hx hb dX3_directionOf_112 rfl (lv_at hl 2 rfl) ?_
                    refine rD_get (v := .ref (ad 5)) hx hb hts hin hown hK hP 5 (by decide) rfl (by decide +kernel) dX3_directionOf_113 ?_
                    refine lv_iload_n hx hb dX3_directionOf_116 rfl (lv_at hl 4 rfl) ?_
                    refine rD_ild (i := r) hx hb hK hP 5 (by decide) (by decide) (by omega) dX3_directionOf_117 ?_
                    refine lv_i2l hx hb dX3_directionOf_118 (v := (dI S 5 r).toInt64) rfl ?_
                    refine lv_lmul hx hb dX3_directionOf_119 ?_
                    refine lv_ladd hx hb dX3_directionOf_120 ?_
                    refine lv_goto (tgt := 126) hx hb dX3_directionOf_121 (by decide) ?_
                    refine lv_lconst (v := 0) hx hb dX3_directionOf_126 (by decide) ?_
                    refine pCalli (As := [.long ((dSl S i c0) + ((dSc S) * ((dI S 5 r).toInt64))), .long 0]) (rest := []) hx hb hml hown hts hP hS hA hl.1 (cJ_cmp l _ ((dSl S i c0) + ((dSc S) * ((dI S 5 r).toInt64))) 0) (va_cwS 2 hts gX3_directionOf_J13_compare_74951 rfl rfl rfl (by decide +kernel) ⟨Nat.le_of_ble_eq_true rfl, Nat.le_of_ble_eq_true rfl⟩) rfl rfl (Nat.le_of_ble_eq_true rfl) ⟨Nat.le_of_ble_eq_true rfl, Nat.le_of_ble_eq_true rfl⟩ dX3_directionOf_127 (fun r15 H locs e15 hP hS => ?_)
                    rw [show r15 = cmpL ((dSl S i c0) + ((dSc S) * ((dI S 5 r).toInt64))) 0 from e15]
                    refine lv_istore (lv' := [(4, .int (cmpL ((dSl S i c0) + ((dSc S) * ((dI S 5 r).toInt64))) 0)), (8, .long (dSl S i c0)), (7, .int ow), (0, .ref (ad 0)), (1, .int (nI c0)), (2, .int (nI r)), (3, .int hc), (5, .int q.2), (6, .int (nI i))]) hx hb dX3_directionOf_130 hl (by decide) rfl (fun ls hl => ?_)
                    refine lv_iload hx hb dX3_directionOf_132 (lv_at hl 7 rfl) ?_
                    refine lv_if_ne (tgt := 169) hx hb dX3_directionOf_134 (by decide) (fun c16 => ?_) (fun c16 => ?_)
                    · skip
                      refine lv_iinc (v := nI (i + 1)) (lv' := [(6, .int (nI (i + 1))), (4, .int (cmpL ((dSl S i c0) + ((dSc S) * ((dI S 5 r).toInt64))) 0)), (8, .long (dSl S i c0)), (7, .int ow), (0, .ref (ad 0)), (1, .int (nI c0)), (2, .int (nI r)), (3, .int hc), (5, .int q.2)]) hx hb dX3_directionOf_169 hl (k := 8) rfl (nI_1 _) (by decide) rfl (fun ls hl => ?_)
                      refine lv_goto (tgt := 57) hx hb dX3_directionOf_172 (by decide) ?_
                      rw [← hre] at hl
                      have he : (fDir S c0 (dI S 9 c0)) i q = (cmpL ((dSl S i c0) + ((dSc S) * ((dI S 5 r).toInt64))) 0, q.2) := by simp [fDir, ← how, c1, c5, c10, c16, c2, c4, e8]
                      rw [lpN_s, he] at hex
                      exact ih ((i + 1)) (cmpL ((dSl S i c0) + ((dSc S) * ((dI S 5 r).toInt64))) 0, q.2) _ _ _ (by omega) hP hD hS (lv_sub hl [0, 4, 5, 6, 7, 1, 8] rfl) hex
                    · skip
                      refine lv_iload hx hb dX3_directionOf_137 (lv_at hl 2 rfl) ?_
                      refine lv_if_eq (tgt := 160) hx hb dX3_directionOf_139 (by decide) (fun c17 => ?_) (fun c17 => ?_)
                      · exact absurd c17 c10
                      · skip
                        refine lv_aload_n hx hb dX3_directionOf_142 rfl (lv_at hl 3 rfl) ?_
                        refine rD_get (v := .long (dSc S)) hx hb hts hin hown hK hP 1 (by decide) rfl (by decide +kernel) dX3_directionOf_143 ?_
                        refine lv_aload_n hx hb dX3_directionOf_146 rfl (lv_at hl 3 rfl) ?_
                        refine rD_get (v := .ref (ad 6)) hx hb hts hin hown hK hP 6 (by decide) rfl (by decide +kernel) dX3_directionOf_147 ?_
                        refine lv_iload_n hx hb dX3_directionOf_150 rfl (lv_at hl 5 rfl) ?_
                        refine rD_ild (i := r) hx hb hK hP 6 (by decide) (by decide) (by omega) dX3_directionOf_151 ?_
                        refine lv_i2l hx hb dX3_directionOf_152 (v := (dI S 6 r).toInt64) rfl ?_
                        refine lv_lmul hx hb dX3_directionOf_153 ?_
                        refine lv_lload hx hb dX3_directionOf_154 (lv_at hl 1 rfl) ?_
                        refine lv_lsub hx hb dX3_directionOf_156 ?_
                        refine lv_goto (tgt := 163) hx hb dX3_directionOf_157 (by decide) ?_
                        refine lv_lconst (v := 0) hx hb dX3_directionOf_163 (by decide) ?_
                        refine pCalli (As := [.long (((dSc S) * ((dI S 6 r).toInt64)) - (dSl S i c0)), .long 0]) (rest := []) hx hb hml hown hts hP hS hA hl.1 (cJ_cmp l _ (((dSc S) * ((dI S 6 r).toInt64)) - (dSl S i c0)) 0) (va_cwS 2 hts gX3_directionOf_J13_compare_74951 rfl rfl rfl (by decide +kernel) ⟨Nat.le_of_ble_eq_true rfl, Nat.le_of_ble_eq_true rfl⟩) rfl rfl (Nat.le_of_ble_eq_true rfl) ⟨Nat.le_of_ble_eq_true rfl, Nat.le_of_ble_eq_true rfl⟩ dX3_directionOf_164 (fun r18 H locs e18 hP hS => ?_)
                        rw [show r18 = cmpL (((dSc S) * ((dI S 6 r).toInt64)) - (dSl S i c0)) 0 from e18]
                        refine lv_istore (lv' := [(5, .int (cmpL (((dSc S) * ((dI S 6 r).toInt64)) - (dSl S i c0)) 0)), (4, .int (cmpL ((dSl S i c0) + ((dSc S) * ((dI S 5 r).toInt64))) 0)), (8, .long (dSl S i c0)), (7, .int ow), (0, .ref (ad 0)), (1, .int (nI c0)), (2, .int (nI r)), (3, .int hc), (6, .int (nI i))]) hx hb dX3_directionOf_167 hl (by decide) rfl (fun ls hl => ?_)
                        refine lv_iinc (v := nI (i + 1)) (lv' := [(6, .int (nI (i + 1))), (5, .int (cmpL (((dSc S) * ((dI S 6 r).toInt64)) - (dSl S i c0)) 0)), (4, .int (cmpL ((dSl S i c0) + ((dSc S) * ((dI S 5 r).toInt64))) 0)), (8, .long (dSl S i c0)), (7, .int ow), (0, .ref (ad 0)), (1, .int (nI c0)), (2, .int (nI r)), (3, .int hc)]) hx hb dX3_directionOf_169 hl (k := 8) rfl (nI_1 _) (by decide) rfl (fun ls hl => ?_)
                        refine lv_goto (tgt := 57) hx hb dX3_directionOf_172 (by decide) ?_
                        rw [← hre] at hl
                        have he : (fDir S c0 (dI S 9 c0)) i q = (cmpL ((dSl S i c0) + ((dSc S) * ((dI S 5 r).toInt64))) 0, cmpL (((dSc S) * ((dI S 6 r).toInt64)) - (dSl S i c0)) 0) := by simp [fDir, ← how, c1, c5, c17, c16, c2, c4, e8]
                        rw [lpN_s, he] at hex
                        exact ih ((i + 1)) (cmpL ((dSl S i c0) + ((dSc S) * ((dI S 5 r).toInt64))) 0, cmpL (((dSc S) * ((dI S 6 r).toInt64)) - (dSl S i c0)) 0) _ _ _ (by omega) hP hD hS (lv_sub hl [0, 5, 6, 7, 8, 2, 1] rfl) hex
              refine lv_iload_n hx hb dX3_directionOf_63 rfl (lv_at hl 4 rfl) ?_
              refine lv_if_eq (tgt := 82) hx hb dX3_directionOf_64 (by decide) (fun c19 => ?_) (fun c19 => ?_)
              · skip
                refine lv_iconst (v := nI 0) hx hb dX3_directionOf_82 (by decide) ?_
                exact J83 _ _ _ _ (by simp [kOwn, ← hhc, c1, c19, c2, c4]) hP hD hS (lv_sub hl [1, 2, 3, 4, 5, 6, 0] rfl)
              · skip
                obtain ⟨r, hr, hre⟩ := kHas_ne (hhc ▸ c19)
                rw [hre] at hl
                refine lv_aload_n hx hb dX3_directionOf_67 rfl (lv_at hl 1 rfl) ?_
                refine rD_get (v := .ref (ad 4)) hx hb hts hin hown hK hP 4 (by decide) rfl (by decide +kernel) dX3_directionOf_68 ?_
                refine lv_iload_n hx hb dX3_directionOf_71 rfl (lv_at hl 3 rfl) ?_
                refine rD_ild (i := r) hx hb hK hP 4 (by decide) (by decide) (by omega) dX3_directionOf_72 ?_
                refine lv_iload hx hb dX3_directionOf_73 (lv_at hl 0 rfl) ?_
                refine lv_icmp_ne (tgt := 82) hx hb dX3_directionOf_75 (by decide) (fun c20 => ?_) (fun c20 => ?_)
                · skip
                  refine lv_iconst (v := nI 0) hx hb dX3_directionOf_82 (by decide) ?_
                  rw [← hre] at hl
                  exact J83 _ _ _ _ (by have e9 : (dI S 9 c0).toNatClampNeg = r := (by rw [hre, nI_clamp (by omega)]); simp [kOwn, ← hhc, e9, c1, c19, c20, c2, c4]) hP hD hS (lv_sub hl [1, 2, 3, 4, 5, 6, 0] rfl)
                · skip
                  refine lv_iconst (v := nI 1) hx hb dX3_directionOf_78 (by decide) ?_
                  refine lv_goto (tgt := 83) hx hb dX3_directionOf_79 (by decide) ?_
                  rw [← hre] at hl
                  exact J83 _ _ _ _ (by have e9 : (dI S 9 c0).toNatClampNeg = r := (by rw [hre, nI_clamp (by omega)]); simp [kOwn, ← hhc, e9, c1, c19, c20, c2, c4]) hP hD hS (lv_sub hl [1, 2, 3, 4, 5, 6, 0] rfl)
        refine L57 5 0 (nI 0, nI 0) _ _ _ (by omega) hP hD hS (lv_sub hl [0, 4, 5, 6, 3, 2, 1] rfl) (fun H locs ls hP hD hS hl => ?_)
        refine lv_iload hx hb dX3_directionOf_175 (lv_at hl 5 rfl) ?_
        refine lv_if_ge (tgt := 184) hx hb dX3_directionOf_177 (by decide) (fun c21 => ?_) (fun c21 => ?_)
        · skip
          refine lv_iload hx hb dX3_directionOf_184 (lv_at hl 6 rfl) ?_
          refine lv_if_ge (tgt := 193) hx hb dX3_directionOf_186 (by decide) (fun c22 => ?_) (fun c22 => ?_)
          · skip
            refine lv_iconst (v := nI 0) hx hb dX3_directionOf_193 (by decide) ?_
            exact W.iret hx hb hr (fun t ht hW => ⟨⟨_, _, rfl, ⟨by simp [kDir, c21, c22], rfl⟩, by rw [ht]; exact hP, va_K.moved hW.alike hK, hD⟩, hS.F ht⟩) hS.2.2 dX3_directionOf_194
          · skip
            refine lv_iconst (v := -1) hx hb dX3_directionOf_189 (by decide) ?_
            refine lv_goto (tgt := 194) hx hb dX3_directionOf_190 (by decide) ?_
            exact W.iret hx hb hr (fun t ht hW => ⟨⟨_, _, rfl, ⟨by simp [kDir, c21, c22], rfl⟩, by rw [ht]; exact hP, va_K.moved hW.alike hK, hD⟩, hS.F ht⟩) hS.2.2 dX3_directionOf_194
        · skip
          refine lv_iconst (v := nI 1) hx hb dX3_directionOf_180 (by decide) ?_
          refine lv_goto (tgt := 194) hx hb dX3_directionOf_181 (by decide) ?_
          exact W.iret hx hb hr (fun t ht hW => ⟨⟨_, _, rfl, ⟨by simp [kDir, c21], rfl⟩, by rw [ht]; exact hP, va_K.moved hW.alike hK, hD⟩, hS.F ht⟩) hS.2.2 dX3_directionOf_194
      refine lv_iload_n hx hb dX3_directionOf_19 rfl (lv_at hl 0 rfl) ?_
      refine lv_if_lt (tgt := 46) hx hb dX3_directionOf_20 (by decide) (fun c23 => ?_) (fun c23 => ?_)
      · skip
        refine lv_iconst (v := nI 0) hx hb dX3_directionOf_46 (by decide) ?_
        exact J47 _ _ _ _ (by simp [kHas, c1, c23, c2]) hP hD hS (lv_sub hl [1, 2, 0] rfl)
      · skip
        refine lv_iload_n hx hb dX3_directionOf_23 rfl (lv_at hl 0 rfl) ?_
        refine lv_bipush (v := nI 27) hx hb dX3_directionOf_24 (by decide) ?_
        refine lv_icmp_ge (tgt := 46) hx hb dX3_directionOf_26 (by decide) (fun c24 => ?_) (fun c24 => ?_)
        · skip
          refine lv_iconst (v := nI 0) hx hb dX3_directionOf_46 (by decide) ?_
          exact J47 _ _ _ _ (by simp [kHas, c1, c23, c24, c2]) hP hD hS (lv_sub hl [1, 2, 0] rfl)
        · skip
          obtain ⟨r, hr, hre⟩ := ixN 27 c23 (Int32.not_le.mp c24) (by decide)
          rw [hre] at hl
          refine lv_aload_n hx hb dX3_directionOf_29 rfl (lv_at hl 1 rfl) ?_
          refine rD_get (v := .ref (ad 4)) hx hb hts hin hown hK hP 4 (by decide) rfl (by decide +kernel) dX3_directionOf_30 ?_
          refine lv_iload_n hx hb dX3_directionOf_33 rfl (lv_at hl 0 rfl) ?_
          refine rD_ild (i := r) hx hb hK hP 4 (by decide) (by decide) (by omega) dX3_directionOf_34 ?_
          refine lv_aload_n hx hb dX3_directionOf_35 rfl (lv_at hl 1 rfl) ?_
          refine rD_get (v := .int (dCt S)) hx hb hts hin hown hK hP 11 (by decide) rfl (by decide +kernel) dX3_directionOf_36 ?_
          refine lv_icmp_ge (tgt := 46) hx hb dX3_directionOf_39 (by decide) (fun c25 => ?_) (fun c25 => ?_)
          · skip
            refine lv_iconst (v := nI 0) hx hb dX3_directionOf_46 (by decide) ?_
            rw [← hre] at hl
            exact J47 _ _ _ _ (by have e9 : (dI S 9 c0).toNatClampNeg = r := (by rw [hre, nI_clamp (by omega)]); simp [kHas, e9, c1, c23, c24, c25, c2]) hP hD hS (lv_sub hl [1, 2, 0] rfl)
          · skip
            refine lv_iconst (v := nI 1) hx hb dX3_directionOf_42 (by decide) ?_
            refine lv_goto (tgt := 47) hx hb dX3_directionOf_43 (by decide) ?_
            rw [← hre] at hl
            exact J47 _ _ _ _ (by have e9 : (dI S 9 c0).toNatClampNeg = r := (by rw [hre, nI_clamp (by omega)]); simp [kHas, e9, c1, c23, c24, c25, c2]) hP hD hS (lv_sub hl [1, 2, 0] rfl)
    · exact absurd c2 (by rw [nI_ltI (by omega) (by omega)]; omega)
theorem lpN_inv {α : Type} {f : Nat → α → α} (P : α → Prop) : ∀ (n k : Nat) (a : α), (∀ (j : Nat) (b : α), j < k + n → P b → P (f j b)) → P a → P (lpN f n k a) := by
  intro n
  induction n with
  | zero => intro k a _ ha; exact ha
  | succ n ih =>
    intro k a h ha
    exact ih (k + 1) _ (fun j b hj hb => h j b (by omega) hb) (h k a (by omega) ha)
theorem entIx {q : Int32} {N : Nat} (h : q = -1 ∨ ∃ j : Nat, j < N ∧ q = nI j) (h0 : ¬ q < 0) : ∃ j : Nat, j < N ∧ q = nI j := by
  rcases h with rfl | h
  · exact absurd (by decide) h0
  · exact h
theorem kEnt_ix {S : DS} : kEnt S = -1 ∨ ∃ j : Nat, j < 6 ∧ kEnt S = nI j := by
  refine lpN_inv (fun q : Int32 => q = -1 ∨ ∃ j : Nat, j < 6 ∧ q = nI j) 6 0 (-1) (fun j b hj hb => ?_) (Or.inl rfl)
  unfold fEnt
  split
  · split
    · exact hb
    · exact Or.inr ⟨j, by omega, rfl⟩
  · split
    · exact hb
    · split
      · exact hb
      · exact Or.inr ⟨j, by omega, rfl⟩
set_option maxHeartbeats 4000000 in
set_option maxRecDepth 100000 in
theorem cD_enteringColumn (l : Launch) (D : va_G) (cy : Nat → ClassId) (ad : Nat → Nat) (X : va_W) (S : DS) (sz : Nat)  : Met l yX3_enteringColumn wsX3_enteringColumn (rm9 2 52) (dPc D cy ad X S sz [.ref (ad 0)]) (dQi D cy ad X S sz (fun r S' => r = kEnt S ∧ S' = S)) 0 0 (dA cy ad X S sz) := by
  refine dHead (cc := cX3_enteringColumn) (maxL := 3) (ret := (some .int)) (by decide) rfl (Nat.le_of_ble_eq_true rfl) ?_
  intro p e s m below meth c ls hx hb hr hlocks hml hown hts hsz hP hK hD hS hA hl
  have hin : ∀ w ∈ u_ws RX3 TX3 12, w ∈ wsX3_enteringColumn := by decide +kernel
  have hown : s.vm.findClass RX3 = some m.cls := hown
  have hl : lv_has ls 3 [(0, .ref (ad 0))] := hl
  refine lv_iconst (v := -1) hx hb dX3_enteringColumn_0 (by decide) ?_
  refine lv_istore_n (lv' := [(1, .int (-1)), (0, .ref (ad 0))]) hx hb dX3_enteringColumn_1 rfl hl (by decide) rfl (fun ls hl => ?_)
  refine lv_iconst (v := nI 0) hx hb dX3_enteringColumn_2 (by decide) ?_
  refine lv_istore_n (lv' := [(2, .int (nI 0)), (1, .int (-1)), (0, .ref (ad 0))]) hx hb dX3_enteringColumn_3 rfl hl (by decide) rfl (fun ls hl => ?_)
  have L4 : ∀ (n k : Nat) (q : Int32) (H : Heap) (locs : List Loc) (ls : Array Slot), k + n = 6 → (q = -1 ∨ ∃ j : Nat, j < 6 ∧ q = nI j) → va_P D vwCl (wD cy ad S ++ X) H → va_D (dA cy ad X S sz) (wD cy ad S ++ X) → va_S (dA cy ad X S sz) s.heap H locs → lv_has ls 3 [(2, .int (nI k)), (0, .ref (ad 0)), (1, .int q)] → (∀ (H : Heap) (locs : List Loc) (ls : Array Slot), ((lpN (fEnt S) n k q) = -1 ∨ ∃ j : Nat, j < 6 ∧ (lpN (fEnt S) n k q) = nI j) → va_P D vwCl (wD cy ad S ++ X) H → va_D (dA cy ad X S sz) (wD cy ad S ++ X) → va_S (dA cy ad X S sz) s.heap H locs → lv_has ls 3 [(2, .int (nI 6)), (0, .ref (ad 0)), (1, .int (lpN (fEnt S) n k q))] → W p l e (headSpec wsX3_enteringColumn (rm9 2 52)).room s m ([.ref (ad 0)] : List Value).toArray below meth c H locs 0 0 (MQ below (dQi D cy ad X S sz (fun r S' => r = kEnt S ∧ S' = S)) ([.ref (ad 0)] : List Value).toArray s 0 0 (dA cy ad X S sz)) (F0 m 45 ls [])) → W p l e (headSpec wsX3_enteringColumn (rm9 2 52)).room s m ([.ref (ad 0)] : List Value).toArray below meth c H locs 0 0 (MQ below (dQi D cy ad X S sz (fun r S' => r = kEnt S ∧ S' = S)) ([.ref (ad 0)] : List Value).toArray s 0 0 (dA cy ad X S sz)) (F0 m 4 ls []) := by
    intro n
    induction n with
    | zero =>
      intro k q H locs ls hk hq hP hD hS hl hex
      obtain rfl : k = 6 := by omega
      refine lv_iload_n hx hb dX3_enteringColumn_4 rfl (lv_at hl 0 rfl) ?_
      refine lv_bipush (v := nI 6) hx hb dX3_enteringColumn_5 (by decide) ?_
      refine lv_icmp_ge (tgt := 45) hx hb dX3_enteringColumn_7 (by decide) (fun c1 => ?_) (fun c1 => ?_)
      · rw [nI_leI (by omega) (by omega)] at c1
        exact hex _ _ _ hq hP hD hS (lv_sub hl [0, 1, 2] rfl)
      · exact absurd c1 (by rw [nI_leI (by omega) (by omega)]; omega)
    | succ n ih =>
      intro k q H locs ls hk hq hP hD hS hl hex
      have hk4 : k < 6 := by omega
      refine lv_iload_n hx hb dX3_enteringColumn_4 rfl (lv_at hl 0 rfl) ?_
      refine lv_bipush (v := nI 6) hx hb dX3_enteringColumn_5 (by decide) ?_
      refine lv_icmp_ge (tgt := 45) hx hb dX3_enteringColumn_7 (by decide) (fun c2 => ?_) (fun c2 => ?_)
      · exact absurd c2 (by rw [nI_leI (by omega) (by omega)]; omega)
      · rw [nI_leI (by omega) (by omega)] at c2
        refine lv_iload_n hx hb dX3_enteringColumn_10 rfl (lv_at hl 2 rfl) ?_
        refine lv_if_lt (tgt := 29) hx hb dX3_enteringColumn_11 (by decide) (fun c3 => ?_) (fun c3 => ?_)
        · skip
          refine lv_aload_n hx hb dX3_enteringColumn_29 rfl (lv_at hl 1 rfl) ?_
          refine lv_iload_n hx hb dX3_enteringColumn_30 rfl (lv_at hl 0 rfl) ?_
          refine dCalli (As := [.int (nI k)]) (rest := []) hx hb hml hown hts hK hP hD hS hA hl.1 (cD_directionOf l D cy ad _ _ _ (c0 := k) (by omega)) (cwV 1 hts gX3_enteringColumn_X3_directionOf rfl rfl rfl (by decide +kernel) ⟨Nat.le_of_ble_eq_true rfl, Nat.le_of_ble_eq_true rfl⟩) rfl rfl (Nat.le_of_ble_eq_true rfl) ⟨Nat.le_of_ble_eq_true rfl, Nat.le_of_ble_eq_true rfl⟩ dX3_enteringColumn_31 (fun r4 S4 H locs e4 hP hD hS => ?_)
          obtain ⟨e4a, e4b⟩ := e4
          rw [e4a]
          rw [e4b] at hP hD
          refine lv_if_eq (tgt := 39) hx hb dX3_enteringColumn_34 (by decide) (fun c5 => ?_) (fun c5 => ?_)
          · skip
            refine lv_iinc (v := nI (k + 1)) (lv' := [(2, .int (nI (k + 1))), (0, .ref (ad 0)), (1, .int q)]) hx hb dX3_enteringColumn_39 hl (k := 0) rfl (nI_1 _) (by decide) rfl (fun ls hl => ?_)
            refine lv_goto (tgt := 4) hx hb dX3_enteringColumn_42 (by decide) ?_
            have he : (fEnt S) k q = q := by simp [fEnt, c3, c5, c2]
            rw [lpN_s, he] at hex
            exact ih ((k + 1)) q _ _ _ (by omega) hq hP hD hS (lv_sub hl [0, 1, 2] rfl) hex
          · skip
            refine lv_iload_n hx hb dX3_enteringColumn_37 rfl (lv_at hl 0 rfl) ?_
            refine lv_istore_n (lv' := [(1, .int (nI k)), (2, .int (nI k)), (0, .ref (ad 0))]) hx hb dX3_enteringColumn_38 rfl hl (by decide) rfl (fun ls hl => ?_)
            refine lv_iinc (v := nI (k + 1)) (lv' := [(2, .int (nI (k + 1))), (1, .int (nI k)), (0, .ref (ad 0))]) hx hb dX3_enteringColumn_39 hl (k := 1) rfl (nI_1 _) (by decide) rfl (fun ls hl => ?_)
            refine lv_goto (tgt := 4) hx hb dX3_enteringColumn_42 (by decide) ?_
            have he : (fEnt S) k q = (nI k) := by simp [fEnt, c3, c5, c2]
            rw [lpN_s, he] at hex
            exact ih ((k + 1)) (nI k) _ _ _ (by omega) (Or.inr ⟨k, by omega, rfl⟩) hP hD hS (lv_sub hl [0, 2, 1] rfl) hex
        · skip
          obtain ⟨r, hr, hre⟩ := entIx hq c3
          have e8 : q.toNatClampNeg = r := (by rw [hre, nI_clamp (by omega)])
          rw [hre] at hl
          refine lv_aload_n hx hb dX3_enteringColumn_14 rfl (lv_at hl 1 rfl) ?_
          refine rD_get (v := .ref (ad 9)) hx hb hts hin hown hK hP 9 (by decide) rfl (by decide +kernel) dX3_enteringColumn_15 ?_
          refine lv_iload_n hx hb dX3_enteringColumn_18 rfl (lv_at hl 0 rfl) ?_
          refine rD_ild9 (i := k) hx hb hK hP (by omega) dX3_enteringColumn_19 ?_
          refine lv_aload_n hx hb dX3_enteringColumn_20 rfl (lv_at hl 1 rfl) ?_
          refine rD_get (v := .ref (ad 9)) hx hb hts hin hown hK hP 9 (by decide) rfl (by decide +kernel) dX3_enteringColumn_21 ?_
          refine lv_iload_n hx hb dX3_enteringColumn_24 rfl (lv_at hl 2 rfl) ?_
          refine rD_ild9 (i := r) hx hb hK hP (by omega) dX3_enteringColumn_25 ?_
          refine lv_icmp_ge (tgt := 39) hx hb dX3_enteringColumn_26 (by decide) (fun c6 => ?_) (fun c6 => ?_)
          · skip
            refine lv_iinc (v := nI (k + 1)) (lv' := [(2, .int (nI (k + 1))), (0, .ref (ad 0)), (1, .int (nI r))]) hx hb dX3_enteringColumn_39 hl (k := 0) rfl (nI_1 _) (by decide) rfl (fun ls hl => ?_)
            refine lv_goto (tgt := 4) hx hb dX3_enteringColumn_42 (by decide) ?_
            rw [← hre] at hl
            have he : (fEnt S) k q = q := by simp [fEnt, c3, c6, c2, e8]
            rw [lpN_s, he] at hex
            exact ih ((k + 1)) q _ _ _ (by omega) hq hP hD hS (lv_sub hl [0, 1, 2] rfl) hex
          · skip
            refine lv_aload_n hx hb dX3_enteringColumn_29 rfl (lv_at hl 1 rfl) ?_
            refine lv_iload_n hx hb dX3_enteringColumn_30 rfl (lv_at hl 0 rfl) ?_
            refine dCalli (As := [.int (nI k)]) (rest := []) hx hb hml hown hts hK hP hD hS hA hl.1 (cD_directionOf l D cy ad _ _ _ (c0 := k) (by omega)) (cwV 1 hts gX3_enteringColumn_X3_directionOf rfl rfl rfl (by decide +kernel) ⟨Nat.le_of_ble_eq_true rfl, Nat.le_of_ble_eq_true rfl⟩) rfl rfl (Nat.le_of_ble_eq_true rfl) ⟨Nat.le_of_ble_eq_true rfl, Nat.le_of_ble_eq_true rfl⟩ dX3_enteringColumn_31 (fun r7 S7 H locs e7 hP hD hS => ?_)
            obtain ⟨e7a, e7b⟩ := e7
            rw [e7a]
            rw [e7b] at hP hD
            refine lv_if_eq (tgt := 39) hx hb dX3_enteringColumn_34 (by decide) (fun c8 => ?_) (fun c8 => ?_)
            · skip
              refine lv_iinc (v := nI (k + 1)) (lv' := [(2, .int (nI (k + 1))), (0, .ref (ad 0)), (1, .int (nI r))]) hx hb dX3_enteringColumn_39 hl (k := 0) rfl (nI_1 _) (by decide) rfl (fun ls hl => ?_)
              refine lv_goto (tgt := 4) hx hb dX3_enteringColumn_42 (by decide) ?_
              rw [← hre] at hl
              have he : (fEnt S) k q = q := by simp [fEnt, c3, c6, c8, c2, e8]
              rw [lpN_s, he] at hex
              exact ih ((k + 1)) q _ _ _ (by omega) hq hP hD hS (lv_sub hl [0, 1, 2] rfl) hex
            · skip
              refine lv_iload_n hx hb dX3_enteringColumn_37 rfl (lv_at hl 0 rfl) ?_
              refine lv_istore_n (lv' := [(1, .int (nI k)), (2, .int (nI k)), (0, .ref (ad 0))]) hx hb dX3_enteringColumn_38 rfl hl (by decide) rfl (fun ls hl => ?_)
              refine lv_iinc (v := nI (k + 1)) (lv' := [(2, .int (nI (k + 1))), (1, .int (nI k)), (0, .ref (ad 0))]) hx hb dX3_enteringColumn_39 hl (k := 1) rfl (nI_1 _) (by decide) rfl (fun ls hl => ?_)
              refine lv_goto (tgt := 4) hx hb dX3_enteringColumn_42 (by decide) ?_
              have he : (fEnt S) k q = (nI k) := by simp [fEnt, c3, c6, c8, c2, e8]
              rw [lpN_s, he] at hex
              exact ih ((k + 1)) (nI k) _ _ _ (by omega) (Or.inr ⟨k, by omega, rfl⟩) hP hD hS (lv_sub hl [0, 2, 1] rfl) hex
  refine L4 6 0 (-1) _ _ _ (by omega) (Or.inl rfl) hP hD hS (lv_sub hl [0, 2, 1] rfl) (fun H locs ls hq hP hD hS hl => ?_)
  refine lv_iload_n hx hb dX3_enteringColumn_45 rfl (lv_at hl 2 rfl) ?_
  exact W.iret hx hb hr (fun t ht hW => ⟨⟨_, _, rfl, ⟨rfl, rfl⟩, by rw [ht]; exact hP, va_K.moved hW.alike hK, hD⟩, hS.F ht⟩) hS.2.2 dX3_enteringColumn_46
end
section
/-! the leaving row, the exchange -/
theorem lc0 {x y : Int64} (h : ¬ lg_cmp x y = 0) : ¬ x = y := fun e => h (by subst e; unfold lg_cmp; simp)
def absL (x : Int64) : Int64 := if 0 < x then x else -x
def fLv (S : DS) (c : Nat) (d : Int32) (k : Nat) (q : Int32 × Int64 × Int64) : Int32 × Int64 × Int64 :=
  if dI S 2 k = 0 then q else if ¬ dI S 8 k = -1 then q else if lg_cmp ((-(dI S 7 k) * d).toInt64 * dRo S k c) 0 ≤ 0 then q
  else if q.1 < 0 then (nI k, absL (dRo S k 6), (-(dI S 7 k) * d).toInt64 * dRo S k c)
  else if 0 ≤ lg_cmp (absL (dRo S k 6) * q.2.2) (q.2.1 * ((-(dI S 7 k) * d).toInt64 * dRo S k c)) then q else (nI k, absL (dRo S k 6), (-(dI S 7 k) * d).toInt64 * dRo S k c)
/-- leavingRow -/
def kLv (S : DS) (c : Nat) (d : Int32) : Int32 := (lpN (fLv S c d) 27 0 (-1, 0, 1)).1
theorem kLv_ix {S : DS} {c : Nat} {d : Int32} : kLv S c d = -1 ∨ ∃ j : Nat, j < 27 ∧ kLv S c d = nI j := by
  refine lpN_inv (fun q : Int32 × Int64 × Int64 => q.1 = -1 ∨ ∃ j : Nat, j < 27 ∧ q.1 = nI j) 27 0 (-1, 0, 1) (fun j b hj hb => ?_) (Or.inl rfl)
  unfold fLv
  split
  · exact hb
  split
  · exact hb
  split
  · exact hb
  split
  · exact Or.inr ⟨j, by omega, rfl⟩
  split
  · exact hb
  · exact Or.inr ⟨j, by omega, rfl⟩
/-- substitute: row k, with row a in the place of column c -/
def kNs (S : DS) (a c : Nat) : Int64 := if 0 ≤ lg_cmp (dRo S a c) 0 then dRo S a c else -(dRo S a c)
def kFa (S : DS) (k a c : Nat) : Int64 := if 0 ≤ lg_cmp (dRo S a c) 0 then dRo S k c else -(dRo S k c)
def fSub (k a : Nat) (ns f : Int64) (i : Nat) (S : DS) : DS := sRo S k i ((dRo S k i * ns - f * dRo S a i) / dSc S)
def kSub (S : DS) (k a c : Nat) : DS :=
  if lg_cmp (dSc S) 0 = 0 then S else if ¬ lg_cmp (kFa S k a c) 0 = 0 then sRo (lpN (fSub k a (kNs S a c) (kFa S k a c)) 7 0 S) k c (kFa S k a c)
  else if ¬ lg_cmp (kNs S a c) (dSc S) = 0 then sRo (lpN (fSub k a (kNs S a c) (kFa S k a c)) 7 0 S) k c (kFa S k a c) else S
def fEx (a c k : Nat) (S : DS) : DS := if dI S 2 k = 0 then S else if k = a then S else kSub S k a c
def fZr (a i : Nat) (S : DS) : DS := sRo S a i 0
/-- exchange -/
def kEx1 (S : DS) (a c : Nat) (ns : Int64) : DS := sSc (sRo (lpN (fZr a) 7 0 (lpN (fEx a c) 27 0 S)) a c ns) ns
def kEx2 (S : DS) (a c : Nat) : DS := sI (sI S 9 c (nI a)) 8 a (nI c)
def kEx3 (S : DS) (a c : Nat) (d : Int32) : DS := if dI S 9 c < 0 then kEx2 S a c else if nI 27 ≤ dI S 9 c then kEx2 S a c else kEx2 (sI (sI S 8 (dI S 9 c).toNatClampNeg (-1)) 7 (dI S 9 c).toNatClampNeg d) a c
def kEx (S : DS) (a c : Nat) (d : Int32) : DS := if ¬ lg_cmp (absL (dRo S a c)) 0 = 0 then kEx3 (kEx1 S a c (absL (dRo S a c))) a c d else S
/-- descend: n steps at most -/
def kDesN (aim sg : Int32) : Nat → DS → DS
  | 0, S => S
  | n + 1, S =>
    if 0 ≤ kEnt (kFind S aim sg) then
      if 0 ≤ kLv (kFind S aim sg) (kEnt (kFind S aim sg)).toNatClampNeg (kDir (kFind S aim sg) (kEnt (kFind S aim sg)).toNatClampNeg) then
        kDesN aim sg n (kEx (kFind S aim sg) (kLv (kFind S aim sg) (kEnt (kFind S aim sg)).toNatClampNeg (kDir (kFind S aim sg) (kEnt (kFind S aim sg)).toNatClampNeg)).toNatClampNeg (kEnt (kFind S aim sg)).toNatClampNeg (kDir (kFind S aim sg) (kEnt (kFind S aim sg)).toNatClampNeg))
      else kFind S aim sg
    else kFind S aim sg
def kDes (S : DS) (aim sg lv : Int32) : DS := kDesN aim sg 1000000 (sCt S lv)
set_option maxHeartbeats 4000000 in
set_option maxRecDepth 100000 in
theorem cD_leavingRow (l : Launch) (D : va_G) (cy : Nat → ClassId) (ad : Nat → Nat) (X : va_W) (S : DS) (sz : Nat) {c0 : Nat} (hc0 : c0 < 6) (d : Int32) : Met l yX3_leavingRow wsX3_leavingRow (rm9 1 16) (dPc D cy ad X S sz [.ref (ad 0), .int (nI c0), .int d]) (dQi D cy ad X S sz (fun r S' => r = kLv S c0 d ∧ S' = S)) 0 0 (dA cy ad X S sz) := by
  refine dHead (cc := cX3_leavingRow) (maxL := 13) (ret := (some .int)) (by decide) rfl (Nat.le_of_ble_eq_true rfl) ?_
  intro p e s m below meth c ls hx hb hr hlocks hml hown hts hsz hP hK hD hS hA hl
  have hin : ∀ w ∈ u_ws RX3 TX3 12, w ∈ wsX3_leavingRow := by decide +kernel
  have hown : s.vm.findClass RX3 = some m.cls := hown
  have hl : lv_has ls 13 [(0, .ref (ad 0)), (1, .int (nI c0)), (2, .int d)] := hl
  refine lv_iconst (v := -1) hx hb dX3_leavingRow_0 (by decide) ?_
  refine lv_istore_n (lv' := [(3, .int (-1)), (0, .ref (ad 0)), (1, .int (nI c0)), (2, .int d)]) hx hb dX3_leavingRow_1 rfl hl (by decide) rfl (fun ls hl => ?_)
  refine lv_lconst (v := 0) hx hb dX3_leavingRow_2 (by decide) ?_
  refine lv_lstore (lv' := [(4, .long 0), (3, .int (-1)), (0, .ref (ad 0)), (1, .int (nI c0)), (2, .int d)]) hx hb dX3_leavingRow_3 hl (by decide) rfl (fun ls hl => ?_)
  refine lv_lconst (v := 1) hx hb dX3_leavingRow_5 (by decide) ?_
  refine lv_lstore (lv' := [(6, .long 1), (4, .long 0), (3, .int (-1)), (0, .ref (ad 0)), (1, .int (nI c0)), (2, .int d)]) hx hb dX3_leavingRow_6 hl (by decide) rfl (fun ls hl => ?_)
  refine lv_iload_n hx hb dX3_leavingRow_8 rfl (lv_at hl 4 rfl) ?_
  refine lv_if_lt (tgt := 18) hx hb dX3_leavingRow_9 (by decide) (fun c1 => ?_) (fun c1 => ?_)
  · exact absurd c1 (nI_pos (by omega))
  · skip
    refine lv_iload_n hx hb dX3_leavingRow_12 rfl (lv_at hl 4 rfl) ?_
    refine lv_bipush (v := nI 6) hx hb dX3_leavingRow_13 (by decide) ?_
    refine lv_icmp_lt (tgt := 20) hx hb dX3_leavingRow_15 (by decide) (fun c2 => ?_) (fun c2 => ?_)
    · rw [nI_ltI (by omega) (by omega)] at c2
      refine lv_iconst (v := nI 0) hx hb dX3_leavingRow_20 (by decide) ?_
      refine lv_istore (lv' := [(8, .int (nI 0)), (6, .long 1), (4, .long 0), (3, .int (-1)), (0, .ref (ad 0)), (1, .int (nI c0)), (2, .int d)]) hx hb dX3_leavingRow_21 hl (by decide) rfl (fun ls hl => ?_)
      have L23 : ∀ (n k : Nat) (q : Int32 × Int64 × Int64) (H : Heap) (locs : List Loc) (ls : Array Slot), k + n = 27 → va_P D vwCl (wD cy ad S ++ X) H → va_D (dA cy ad X S sz) (wD cy ad S ++ X) → va_S (dA cy ad X S sz) s.heap H locs → lv_has ls 13 [(8, .int (nI k)), (0, .ref (ad 0)), (1, .int (nI c0)), (2, .int d), (3, .int q.1), (4, .long q.2.1), (6, .long q.2.2)] → (∀ (H : Heap) (locs : List Loc) (ls : Array Slot), va_P D vwCl (wD cy ad S ++ X) H → va_D (dA cy ad X S sz) (wD cy ad S ++ X) → va_S (dA cy ad X S sz) s.heap H locs → lv_has ls 13 [(8, .int (nI 27)), (0, .ref (ad 0)), (1, .int (nI c0)), (2, .int d), (3, .int ((lpN (fLv S c0 d) n k q).1)), (4, .long ((lpN (fLv S c0 d) n k q).2.1)), (6, .long ((lpN (fLv S c0 d) n k q).2.2))] → W p l e (headSpec wsX3_leavingRow (rm9 1 16)).room s m ([.ref (ad 0), .int (nI c0), .int d] : List Value).toArray below meth c H locs 0 0 (MQ below (dQi D cy ad X S sz (fun r S' => r = kLv S c0 d ∧ S' = S)) ([.ref (ad 0), .int (nI c0), .int d] : List Value).toArray s 0 0 (dA cy ad X S sz)) (F0 m 131 ls [])) → W p l e (headSpec wsX3_leavingRow (rm9 1 16)).room s m ([.ref (ad 0), .int (nI c0), .int d] : List Value).toArray below meth c H locs 0 0 (MQ below (dQi D cy ad X S sz (fun r S' => r = kLv S c0 d ∧ S' = S)) ([.ref (ad 0), .int (nI c0), .int d] : List Value).toArray s 0 0 (dA cy ad X S sz)) (F0 m 23 ls []) := by
        intro n
        induction n with
        | zero =>
          intro k q H locs ls hk hP hD hS hl hex
          obtain rfl : k = 27 := by omega
          refine lv_iload hx hb dX3_leavingRow_23 (lv_at hl 0 rfl) ?_
          refine lv_bipush (v := nI 27) hx hb dX3_leavingRow_25 (by decide) ?_
          refine lv_icmp_ge (tgt := 131) hx hb dX3_leavingRow_27 (by decide) (fun c3 => ?_) (fun c3 => ?_)
          · rw [nI_leI (by omega) (by omega)] at c3
            exact hex _ _ _ hP hD hS (lv_sub hl [0, 1, 2, 3, 4, 5, 6] rfl)
          · exact absurd c3 (by rw [nI_leI (by omega) (by omega)]; omega)
        | succ n ih =>
          intro k q H locs ls hk hP hD hS hl hex
          have hk23 : k < 27 := by omega
          refine lv_iload hx hb dX3_leavingRow_23 (lv_at hl 0 rfl) ?_
          refine lv_bipush (v := nI 27) hx hb dX3_leavingRow_25 (by decide) ?_
          refine lv_icmp_ge (tgt := 131) hx hb dX3_leavingRow_27 (by decide) (fun c4 => ?_) (fun c4 => ?_)
          · exact absurd c4 (by rw [nI_leI (by omega) (by omega)]; omega)
          · rw [nI_leI (by omega) (by omega)] at c4
            refine lv_aload_n hx hb dX3_leavingRow_30 rfl (lv_at hl 1 rfl) ?_
            refine rD_get (v := .ref (ad 2)) hx hb hts hin hown hK hP 2 (by decide) rfl (by decide +kernel) dX3_leavingRow_31 ?_
            refine lv_iload hx hb dX3_leavingRow_34 (lv_at hl 0 rfl) ?_
            refine rD_zld (i := k) hx hb hK hP (by omega) dX3_leavingRow_36 ?_
            refine lv_if_eq (tgt := 125) hx hb dX3_leavingRow_37 (by decide) (fun c5 => ?_) (fun c5 => ?_)
            · skip
              refine lv_iinc (v := nI (k + 1)) (lv' := [(8, .int (nI (k + 1))), (0, .ref (ad 0)), (1, .int (nI c0)), (2, .int d), (3, .int q.1), (4, .long q.2.1), (6, .long q.2.2)]) hx hb dX3_leavingRow_125 hl (k := 0) rfl (nI_1 _) (by decide) rfl (fun ls hl => ?_)
              refine lv_goto (tgt := 23) hx hb dX3_leavingRow_128 (by decide) ?_
              have he : (fLv S c0 d) k q = (q.1, q.2.1, q.2.2) := by simp [fLv, c1, c5, c2, c4]
              rw [lpN_s, he] at hex
              exact ih ((k + 1)) (q.1, q.2.1, q.2.2) _ _ _ (by omega) hP hD hS (lv_sub hl [0, 1, 2, 3, 4, 5, 6] rfl) hex
            · skip
              refine lv_aload_n hx hb dX3_leavingRow_40 rfl (lv_at hl 1 rfl) ?_
              refine rD_get (v := .ref (ad 8)) hx hb hts hin hown hK hP 8 (by decide) rfl (by decide +kernel) dX3_leavingRow_41 ?_
              refine lv_iload hx hb dX3_leavingRow_44 (lv_at hl 0 rfl) ?_
              refine rD_ild (i := k) hx hb hK hP 8 (by decide) (by decide) (by omega) dX3_leavingRow_46 ?_
              refine lv_iconst (v := -1) hx hb dX3_leavingRow_47 (by decide) ?_
              refine lv_icmp_ne (tgt := 125) hx hb dX3_leavingRow_48 (by decide) (fun c6 => ?_) (fun c6 => ?_)
              · skip
                refine lv_iinc (v := nI (k + 1)) (lv' := [(8, .int (nI (k + 1))), (0, .ref (ad 0)), (1, .int (nI c0)), (2, .int d), (3, .int q.1), (4, .long q.2.1), (6, .long q.2.2)]) hx hb dX3_leavingRow_125 hl (k := 0) rfl (nI_1 _) (by decide) rfl (fun ls hl => ?_)
                refine lv_goto (tgt := 23) hx hb dX3_leavingRow_128 (by decide) ?_
                have he : (fLv S c0 d) k q = (q.1, q.2.1, q.2.2) := by simp [fLv, c1, c5, c6, c2, c4]
                rw [lpN_s, he] at hex
                exact ih ((k + 1)) (q.1, q.2.1, q.2.2) _ _ _ (by omega) hP hD hS (lv_sub hl [0, 1, 2, 3, 4, 5, 6] rfl) hex
              · skip
                refine lv_aload_n hx hb dX3_leavingRow_51 rfl (lv_at hl 1 rfl) ?_
                refine rD_get (v := .ref (ad 7)) hx hb hts hin hown hK hP 7 (by decide) rfl (by decide +kernel) dX3_leavingRow_52 ?_
                refine lv_iload hx hb dX3_leavingRow_55 (lv_at hl 0 rfl) ?_
                refine rD_ild (i := k) hx hb hK hP 7 (by decide) (by decide) (by omega) dX3_leavingRow_57 ?_
                refine lv_ineg hx hb dX3_leavingRow_58 ?_
                refine lv_iload_n hx hb dX3_leavingRow_59 rfl (lv_at hl 3 rfl) ?_
                refine lv_imul hx hb dX3_leavingRow_60 ?_
                refine lv_i2l hx hb dX3_leavingRow_61 (v := ((-(dI S 7 k)) * d).toInt64) rfl ?_
                refine lv_aload_n hx hb dX3_leavingRow_62 rfl (lv_at hl 1 rfl) ?_
                refine rD_get (v := .ref (ad 1)) hx hb hts hin hown hK hP 0 (by decide) rfl (by decide +kernel) dX3_leavingRow_63 ?_
                refine lv_iload hx hb dX3_leavingRow_66 (lv_at hl 0 rfl) ?_
                refine rD_row (i := k) hx hb hK hP (by omega) dX3_leavingRow_68 ?_
                refine lv_iload_n hx hb dX3_leavingRow_69 rfl (lv_at hl 2 rfl) ?_
                refine rD_lld (n := k) (i := c0) hx hb hK hP (by omega) (by omega) dX3_leavingRow_70 ?_
                refine lv_lmul hx hb dX3_leavingRow_71 ?_
                refine lv_lstore (lv' := [(9, .long ((((-(dI S 7 k)) * d).toInt64) * (dRo S k c0))), (8, .int (nI k)), (0, .ref (ad 0)), (1, .int (nI c0)), (2, .int d), (3, .int q.1), (4, .long q.2.1), (6, .long q.2.2)]) hx hb dX3_leavingRow_72 hl (by decide) rfl (fun ls hl => ?_)
                refine lv_aload_n hx hb dX3_leavingRow_74 rfl (lv_at hl 2 rfl) ?_
                refine rD_get (v := .ref (ad 1)) hx hb hts hin hown hK hP 0 (by decide) rfl (by decide +kernel) dX3_leavingRow_75 ?_
                refine lv_iload hx hb dX3_leavingRow_78 (lv_at hl 1 rfl) ?_
                refine rD_row (i := k) hx hb hK hP (by omega) dX3_leavingRow_80 ?_
                refine lv_bipush (v := nI 6) hx hb dX3_leavingRow_81 (by decide) ?_
                refine rD_lld (n := k) (i := 6) hx hb hK hP (by omega) (by omega) dX3_leavingRow_83 ?_
                refine va_mabs_long hx hb (hml.trans hl.1.symm) (own := RX3) (index := 130) hown (hts _ (List.mem_of_elem_eq_true (by decide +kernel))) (hts _ (List.mem_of_elem_eq_true (by decide +kernel))) (hts _ (List.mem_of_elem_eq_true (by decide +kernel))) (hts _ (List.mem_of_elem_eq_true (by decide +kernel))) (Nat.le_of_ble_eq_true rfl) (Nat.le_of_ble_eq_true rfl) (Nat.zero_le _) (Nat.zero_le _) dX3_leavingRow_84 ?_
                refine W.eq (g2 := F0 m 87 ls [.long (absL (dRo S k 6))]) rfl ?_
                refine lv_lstore (lv' := [(11, .long (absL (dRo S k 6))), (9, .long ((((-(dI S 7 k)) * d).toInt64) * (dRo S k c0))), (8, .int (nI k)), (0, .ref (ad 0)), (1, .int (nI c0)), (2, .int d), (3, .int q.1), (4, .long q.2.1), (6, .long q.2.2)]) hx hb dX3_leavingRow_87 hl (by decide) rfl (fun ls hl => ?_)
                refine lv_lload hx hb dX3_leavingRow_89 (lv_at hl 1 rfl) ?_
                refine lv_lconst (v := 0) hx hb dX3_leavingRow_91 (by decide) ?_
                refine W.lcmp hx hb dX3_leavingRow_92 ?_
                refine lv_if_le (tgt := 125) hx hb dX3_leavingRow_93 (by decide) (fun c7 => ?_) (fun c7 => ?_)
                · skip
                  refine lv_iinc (v := nI (k + 1)) (lv' := [(8, .int (nI (k + 1))), (11, .long (absL (dRo S k 6))), (9, .long ((((-(dI S 7 k)) * d).toInt64) * (dRo S k c0))), (0, .ref (ad 0)), (1, .int (nI c0)), (2, .int d), (3, .int q.1), (4, .long q.2.1), (6, .long q.2.2)]) hx hb dX3_leavingRow_125 hl (k := 2) rfl (nI_1 _) (by decide) rfl (fun ls hl => ?_)
                  refine lv_goto (tgt := 23) hx hb dX3_leavingRow_128 (by decide) ?_
                  have he : (fLv S c0 d) k q = (q.1, q.2.1, q.2.2) := by simp [fLv, c1, c5, c6, c7, c2, c4]
                  rw [lpN_s, he] at hex
                  exact ih ((k + 1)) (q.1, q.2.1, q.2.2) _ _ _ (by omega) hP hD hS (lv_sub hl [0, 3, 4, 5, 6, 7, 8] rfl) hex
                · skip
                  refine lv_iload_n hx hb dX3_leavingRow_96 rfl (lv_at hl 6 rfl) ?_
                  refine lv_if_lt (tgt := 114) hx hb dX3_leavingRow_97 (by decide) (fun c8 => ?_) (fun c8 => ?_)
                  · skip
                    refine lv_iload hx hb dX3_leavingRow_114 (lv_at hl 2 rfl) ?_
                    refine lv_istore_n (lv' := [(3, .int (nI k)), (11, .long (absL (dRo S k 6))), (9, .long ((((-(dI S 7 k)) * d).toInt64) * (dRo S k c0))), (8, .int (nI k)), (0, .ref (ad 0)), (1, .int (nI c0)), (2, .int d), (4, .long q.2.1), (6, .long q.2.2)]) hx hb dX3_leavingRow_116 rfl hl (by decide) rfl (fun ls hl => ?_)
                    refine lv_lload hx hb dX3_leavingRow_117 (lv_at hl 1 rfl) ?_
                    refine lv_lstore (lv' := [(4, .long (absL (dRo S k 6))), (3, .int (nI k)), (11, .long (absL (dRo S k 6))), (9, .long ((((-(dI S 7 k)) * d).toInt64) * (dRo S k c0))), (8, .int (nI k)), (0, .ref (ad 0)), (1, .int (nI c0)), (2, .int d), (6, .long q.2.2)]) hx hb dX3_leavingRow_119 hl (by decide) rfl (fun ls hl => ?_)
                    refine lv_lload hx hb dX3_leavingRow_121 (lv_at hl 3 rfl) ?_
                    refine lv_lstore (lv' := [(6, .long ((((-(dI S 7 k)) * d).toInt64) * (dRo S k c0))), (4, .long (absL (dRo S k 6))), (3, .int (nI k)), (11, .long (absL (dRo S k 6))), (9, .long ((((-(dI S 7 k)) * d).toInt64) * (dRo S k c0))), (8, .int (nI k)), (0, .ref (ad 0)), (1, .int (nI c0)), (2, .int d)]) hx hb dX3_leavingRow_123 hl (by decide) rfl (fun ls hl => ?_)
                    refine lv_iinc (v := nI (k + 1)) (lv' := [(8, .int (nI (k + 1))), (6, .long ((((-(dI S 7 k)) * d).toInt64) * (dRo S k c0))), (4, .long (absL (dRo S k 6))), (3, .int (nI k)), (11, .long (absL (dRo S k 6))), (9, .long ((((-(dI S 7 k)) * d).toInt64) * (dRo S k c0))), (0, .ref (ad 0)), (1, .int (nI c0)), (2, .int d)]) hx hb dX3_leavingRow_125 hl (k := 5) rfl (nI_1 _) (by decide) rfl (fun ls hl => ?_)
                    refine lv_goto (tgt := 23) hx hb dX3_leavingRow_128 (by decide) ?_
                    have he : (fLv S c0 d) k q = (nI k, absL (dRo S k 6), (((-(dI S 7 k)) * d).toInt64) * (dRo S k c0)) := by simp [fLv, c1, c5, c6, c7, c8, c2, c4]
                    rw [lpN_s, he] at hex
                    exact ih ((k + 1)) (nI k, absL (dRo S k 6), (((-(dI S 7 k)) * d).toInt64) * (dRo S k c0)) _ _ _ (by omega) hP hD hS (lv_sub hl [0, 6, 7, 8, 3, 2, 1] rfl) hex
                  · skip
                    refine lv_lload hx hb dX3_leavingRow_100 (lv_at hl 0 rfl) ?_
                    refine lv_lload hx hb dX3_leavingRow_102 (lv_at hl 8 rfl) ?_
                    refine lv_lmul hx hb dX3_leavingRow_104 ?_
                    refine lv_lload hx hb dX3_leavingRow_105 (lv_at hl 7 rfl) ?_
                    refine lv_lload hx hb dX3_leavingRow_107 (lv_at hl 1 rfl) ?_
                    refine lv_lmul hx hb dX3_leavingRow_109 ?_
                    refine W.lcmp hx hb dX3_leavingRow_110 ?_
                    refine lv_if_ge (tgt := 125) hx hb dX3_leavingRow_111 (by decide) (fun c9 => ?_) (fun c9 => ?_)
                    · skip
                      refine lv_iinc (v := nI (k + 1)) (lv' := [(8, .int (nI (k + 1))), (11, .long (absL (dRo S k 6))), (9, .long ((((-(dI S 7 k)) * d).toInt64) * (dRo S k c0))), (0, .ref (ad 0)), (1, .int (nI c0)), (2, .int d), (3, .int q.1), (4, .long q.2.1), (6, .long q.2.2)]) hx hb dX3_leavingRow_125 hl (k := 2) rfl (nI_1 _) (by decide) rfl (fun ls hl => ?_)
                      refine lv_goto (tgt := 23) hx hb dX3_leavingRow_128 (by decide) ?_
                      have he : (fLv S c0 d) k q = (q.1, q.2.1, q.2.2) := by simp [fLv, c1, c5, c6, c7, c8, c9, c2, c4]
                      rw [lpN_s, he] at hex
                      exact ih ((k + 1)) (q.1, q.2.1, q.2.2) _ _ _ (by omega) hP hD hS (lv_sub hl [0, 3, 4, 5, 6, 7, 8] rfl) hex
                    · skip
                      refine lv_iload hx hb dX3_leavingRow_114 (lv_at hl 2 rfl) ?_
                      refine lv_istore_n (lv' := [(3, .int (nI k)), (11, .long (absL (dRo S k 6))), (9, .long ((((-(dI S 7 k)) * d).toInt64) * (dRo S k c0))), (8, .int (nI k)), (0, .ref (ad 0)), (1, .int (nI c0)), (2, .int d), (4, .long q.2.1), (6, .long q.2.2)]) hx hb dX3_leavingRow_116 rfl hl (by decide) rfl (fun ls hl => ?_)
                      refine lv_lload hx hb dX3_leavingRow_117 (lv_at hl 1 rfl) ?_
                      refine lv_lstore (lv' := [(4, .long (absL (dRo S k 6))), (3, .int (nI k)), (11, .long (absL (dRo S k 6))), (9, .long ((((-(dI S 7 k)) * d).toInt64) * (dRo S k c0))), (8, .int (nI k)), (0, .ref (ad 0)), (1, .int (nI c0)), (2, .int d), (6, .long q.2.2)]) hx hb dX3_leavingRow_119 hl (by decide) rfl (fun ls hl => ?_)
                      refine lv_lload hx hb dX3_leavingRow_121 (lv_at hl 3 rfl) ?_
                      refine lv_lstore (lv' := [(6, .long ((((-(dI S 7 k)) * d).toInt64) * (dRo S k c0))), (4, .long (absL (dRo S k 6))), (3, .int (nI k)), (11, .long (absL (dRo S k 6))), (9, .long ((((-(dI S 7 k)) * d).toInt64) * (dRo S k c0))), (8, .int (nI k)), (0, .ref (ad 0)), (1, .int (nI c0)), (2, .int d)]) hx hb dX3_leavingRow_123 hl (by decide) rfl (fun ls hl => ?_)
                      refine lv_iinc (v := nI (k + 1)) (lv' := [(8, .int (nI (k + 1))), (6, .long ((((-(dI S 7 k)) * d).toInt64) * (dRo S k c0))), (4, .long (absL (dRo S k 6))), (3, .int (nI k)), (11, .long (absL (dRo S k 6))), (9, .long ((((-(dI S 7 k)) * d).toInt64) * (dRo S k c0))), (0, .ref (ad 0)), (1, .int (nI c0)), (2, .int d)]) hx hb dX3_leavingRow_125 hl (k := 5) rfl (nI_1 _) (by decide) rfl (fun ls hl => ?_)
                      refine lv_goto (tgt := 23) hx hb dX3_leavingRow_128 (by decide) ?_
                      have he : (fLv S c0 d) k q = (nI k, absL (dRo S k 6), (((-(dI S 7 k)) * d).toInt64) * (dRo S k c0)) := by simp [fLv, c1, c5, c6, c7, c8, c9, c2, c4]
                      rw [lpN_s, he] at hex
                      exact ih ((k + 1)) (nI k, absL (dRo S k 6), (((-(dI S 7 k)) * d).toInt64) * (dRo S k c0)) _ _ _ (by omega) hP hD hS (lv_sub hl [0, 6, 7, 8, 3, 2, 1] rfl) hex
      refine L23 27 0 (-1, 0, 1) _ _ _ (by omega) hP hD hS (lv_sub hl [0, 4, 5, 6, 3, 2, 1] rfl) (fun H locs ls hP hD hS hl => ?_)
      refine lv_iload_n hx hb dX3_leavingRow_131 rfl (lv_at hl 4 rfl) ?_
      exact W.iret hx hb hr (fun t ht hW => ⟨⟨_, _, rfl, ⟨rfl, rfl⟩, by rw [ht]; exact hP, va_K.moved hW.alike hK, hD⟩, hS.F ht⟩) hS.2.2 dX3_leavingRow_132
    · exact absurd c2 (by rw [nI_ltI (by omega) (by omega)]; omega)
set_option maxHeartbeats 4000000 in
set_option maxRecDepth 100000 in
theorem cD_substitute (l : Launch) (D : va_G) (cy : Nat → ClassId) (ad : Nat → Nat) (X : va_W) (S : DS) (sz : Nat) {k a c0 : Nat} (hk : k < 27) (ha : a < 27) (hc0 : c0 < 6) : Met l yX3_substitute wsX3_substitute (rm9 0 0) (dPc D cy ad X S sz [.ref (ad 0), .ref (ad (11 + k)), .ref (ad (11 + a)), .int (nI c0)]) (dQv D cy ad X S sz (fun S' => S' = kSub S k a c0)) 0 0 (dA cy ad X S sz) := by
  refine dHead (cc := cX3_substitute) (maxL := 11) (ret := none) (by decide) rfl (Nat.le_of_ble_eq_true rfl) ?_
  intro p e s m below meth c ls hx hb hr hlocks hml hown hts hsz hP hK hD hS hA hl
  have hin : ∀ w ∈ u_ws RX3 TX3 12, w ∈ wsX3_substitute := by decide +kernel
  have hown : s.vm.findClass RX3 = some m.cls := hown
  have hl : lv_has ls 11 [(0, .ref (ad 0)), (1, .ref (ad (11 + k))), (2, .ref (ad (11 + a))), (3, .int (nI c0))] := hl
  refine lv_iload_n hx hb dX3_substitute_0 rfl (lv_at hl 3 rfl) ?_
  refine lv_if_lt (tgt := 24) hx hb dX3_substitute_1 (by decide) (fun c1 => ?_) (fun c1 => ?_)
  · exact absurd c1 (nI_pos (by omega))
  · skip
    refine lv_iload_n hx hb dX3_substitute_4 rfl (lv_at hl 3 rfl) ?_
    refine lv_bipush (v := nI 6) hx hb dX3_substitute_5 (by decide) ?_
    refine lv_icmp_ge (tgt := 24) hx hb dX3_substitute_7 (by decide) (fun c2 => ?_) (fun c2 => ?_)
    · exact absurd c2 (by rw [nI_leI (by omega) (by omega)]; omega)
    · rw [nI_leI (by omega) (by omega)] at c2
      refine lv_aload_n hx hb dX3_substitute_10 rfl (lv_at hl 1 rfl) ?_
      refine rD_alen (n := k) hx hb hK hP (by omega) dX3_substitute_11 ?_
      refine lv_bipush (v := nI 6) hx hb dX3_substitute_12 (by decide) ?_
      refine lv_icmp_le (tgt := 24) hx hb dX3_substitute_14 (by decide) (fun c3 => ?_) (fun c3 => ?_)
      · exact absurd c3 (by rw [nI_leI (by omega) (by omega)]; omega)
      · rw [nI_leI (by omega) (by omega)] at c3
        refine lv_aload_n hx hb dX3_substitute_17 rfl (lv_at hl 2 rfl) ?_
        refine rD_alen (n := a) hx hb hK hP (by omega) dX3_substitute_18 ?_
        refine lv_bipush (v := nI 6) hx hb dX3_substitute_19 (by decide) ?_
        refine lv_icmp_gt (tgt := 25) hx hb dX3_substitute_21 (by decide) (fun c4 => ?_) (fun c4 => ?_)
        · rw [nI_ltI (by omega) (by omega)] at c4
          refine lv_aload_n hx hb dX3_substitute_25 rfl (lv_at hl 2 rfl) ?_
          refine lv_iload_n hx hb dX3_substitute_26 rfl (lv_at hl 3 rfl) ?_
          refine rD_lld (n := a) (i := c0) hx hb hK hP (by omega) (by omega) dX3_substitute_27 ?_
          refine lv_lstore (lv' := [(4, .long (dRo S a c0)), (0, .ref (ad 0)), (1, .ref (ad (11 + k))), (2, .ref (ad (11 + a))), (3, .int (nI c0))]) hx hb dX3_substitute_28 hl (by decide) rfl (fun ls hl => ?_)
          have J45 : ∀ (ns : Int64) (H : Heap) (locs : List Loc) (ls : Array Slot), ns = kNs S a c0 → va_P D vwCl (wD cy ad S ++ X) H → va_D (dA cy ad X S sz) (wD cy ad S ++ X) → va_S (dA cy ad X S sz) s.heap H locs → lv_has ls 11 [(0, .ref (ad 0)), (1, .ref (ad (11 + k))), (2, .ref (ad (11 + a))), (3, .int (nI c0)), (4, .long (dRo S a c0))] → W p l e (headSpec wsX3_substitute (rm9 0 0)).room s m ([.ref (ad 0), .ref (ad (11 + k)), .ref (ad (11 + a)), .int (nI c0)] : List Value).toArray below meth c H locs 0 0 (MQ below (dQv D cy ad X S sz (fun S' => S' = kSub S k a c0)) ([.ref (ad 0), .ref (ad (11 + k)), .ref (ad (11 + a)), .int (nI c0)] : List Value).toArray s 0 0 (dA cy ad X S sz)) (F0 m 45 ls [.long ns]) := by
            intro ns H locs ls hns hP hD hS hl
            refine lv_lstore (lv' := [(6, .long ns), (0, .ref (ad 0)), (1, .ref (ad (11 + k))), (2, .ref (ad (11 + a))), (3, .int (nI c0)), (4, .long (dRo S a c0))]) hx hb dX3_substitute_45 hl (by decide) rfl (fun ls hl => ?_)
            have J64 : ∀ (fa : Int64) (H : Heap) (locs : List Loc) (ls : Array Slot), fa = kFa S k a c0 → va_P D vwCl (wD cy ad S ++ X) H → va_D (dA cy ad X S sz) (wD cy ad S ++ X) → va_S (dA cy ad X S sz) s.heap H locs → lv_has ls 11 [(0, .ref (ad 0)), (1, .ref (ad (11 + k))), (2, .ref (ad (11 + a))), (3, .int (nI c0)), (4, .long (dRo S a c0)), (6, .long ns)] → W p l e (headSpec wsX3_substitute (rm9 0 0)).room s m ([.ref (ad 0), .ref (ad (11 + k)), .ref (ad (11 + a)), .int (nI c0)] : List Value).toArray below meth c H locs 0 0 (MQ below (dQv D cy ad X S sz (fun S' => S' = kSub S k a c0)) ([.ref (ad 0), .ref (ad (11 + k)), .ref (ad (11 + a)), .int (nI c0)] : List Value).toArray s 0 0 (dA cy ad X S sz)) (F0 m 64 ls [.long fa]) := by
              intro fa H locs ls hfa hP hD hS hl
              refine lv_lstore (lv' := [(8, .long fa), (0, .ref (ad 0)), (1, .ref (ad (11 + k))), (2, .ref (ad (11 + a))), (3, .int (nI c0)), (4, .long (dRo S a c0)), (6, .long ns)]) hx hb dX3_substitute_64 hl (by decide) rfl (fun ls hl => ?_)
              refine lv_aload_n hx hb dX3_substitute_66 rfl (lv_at hl 1 rfl) ?_
              refine rD_get (v := .long (dSc S)) hx hb hts hin hown hK hP 1 (by decide) rfl (by decide +kernel) dX3_substitute_67 ?_
              refine lv_lconst (v := 0) hx hb dX3_substitute_70 (by decide) ?_
              refine W.lcmp hx hb dX3_substitute_71 ?_
              refine lv_if_eq (tgt := 92) hx hb dX3_substitute_72 (by decide) (fun c5 => ?_) (fun c5 => ?_)
              · skip
                exact W.vret hx hb hr (fun t ht hW => ⟨⟨_, rfl, by simp only [kSub, ← hns, ← hfa]; simp [c1, c5, c2, c3, c4], by rw [ht]; exact hP, va_K.moved hW.alike hK, hD⟩, hS.F ht⟩) hS.2.2 dX3_substitute_92
              · skip
                refine lv_lload hx hb dX3_substitute_75 (lv_at hl 0 rfl) ?_
                refine lv_lconst (v := 0) hx hb dX3_substitute_77 (by decide) ?_
                refine W.lcmp hx hb dX3_substitute_78 ?_
                refine lv_if_ne (tgt := 93) hx hb dX3_substitute_79 (by decide) (fun c6 => ?_) (fun c6 => ?_)
                · skip
                  refine lv_iconst (v := nI 0) hx hb dX3_substitute_93 (by decide) ?_
                  refine lv_istore (lv' := [(10, .int (nI 0)), (8, .long fa), (0, .ref (ad 0)), (1, .ref (ad (11 + k))), (2, .ref (ad (11 + a))), (3, .int (nI c0)), (4, .long (dRo S a c0)), (6, .long ns)]) hx hb dX3_substitute_94 hl (by decide) rfl (fun ls hl => ?_)
                  have L96 : ∀ (n j : Nat) (U : DS) (H : Heap) (locs : List Loc) (ls : Array Slot), j + n = 7 → dSc U = dSc S → va_P D vwCl (wD cy ad U ++ X) H → va_D (dA cy ad X S sz) (wD cy ad U ++ X) → va_S (dA cy ad X S sz) s.heap H locs → lv_has ls 11 [(10, .int (nI j)), (0, .ref (ad 0)), (1, .ref (ad (11 + k))), (2, .ref (ad (11 + a))), (3, .int (nI c0)), (4, .long (dRo S a c0)), (6, .long ns), (8, .long fa)] → (∀ (H : Heap) (locs : List Loc) (ls : Array Slot), dSc (lpN (fSub k a ns fa) n j U) = dSc S → va_P D vwCl (wD cy ad (lpN (fSub k a ns fa) n j U) ++ X) H → va_D (dA cy ad X S sz) (wD cy ad (lpN (fSub k a ns fa) n j U) ++ X) → va_S (dA cy ad X S sz) s.heap H locs → lv_has ls 11 [(10, .int (nI 7)), (0, .ref (ad 0)), (1, .ref (ad (11 + k))), (2, .ref (ad (11 + a))), (3, .int (nI c0)), (4, .long (dRo S a c0)), (6, .long ns), (8, .long fa)] → W p l e (headSpec wsX3_substitute (rm9 0 0)).room s m ([.ref (ad 0), .ref (ad (11 + k)), .ref (ad (11 + a)), .int (nI c0)] : List Value).toArray below meth c H locs 0 0 (MQ below (dQv D cy ad X S sz (fun S' => S' = kSub S k a c0)) ([.ref (ad 0), .ref (ad (11 + k)), .ref (ad (11 + a)), .int (nI c0)] : List Value).toArray s 0 0 (dA cy ad X S sz)) (F0 m 133 ls [])) → W p l e (headSpec wsX3_substitute (rm9 0 0)).room s m ([.ref (ad 0), .ref (ad (11 + k)), .ref (ad (11 + a)), .int (nI c0)] : List Value).toArray below meth c H locs 0 0 (MQ below (dQv D cy ad X S sz (fun S' => S' = kSub S k a c0)) ([.ref (ad 0), .ref (ad (11 + k)), .ref (ad (11 + a)), .int (nI c0)] : List Value).toArray s 0 0 (dA cy ad X S sz)) (F0 m 96 ls []) := by
                    intro n
                    induction n with
                    | zero =>
                      intro j U H locs ls hk hq hP hD hS hl hex
                      obtain rfl : j = 7 := by omega
                      refine lv_iload hx hb dX3_substitute_96 (lv_at hl 0 rfl) ?_
                      refine lv_bipush (v := nI 6) hx hb dX3_substitute_98 (by decide) ?_
                      refine lv_icmp_gt (tgt := 133) hx hb dX3_substitute_100 (by decide) (fun c7 => ?_) (fun c7 => ?_)
                      · rw [nI_ltI (by omega) (by omega)] at c7
                        exact hex _ _ _ hq hP hD hS (lv_sub hl [0, 1, 2, 3, 4, 5, 6, 7] rfl)
                      · exact absurd c7 (by rw [nI_ltI (by omega) (by omega)]; omega)
                    | succ n ih =>
                      intro j U H locs ls hk hq hP hD hS hl hex
                      have hk96 : j < 7 := by omega
                      refine lv_iload hx hb dX3_substitute_96 (lv_at hl 0 rfl) ?_
                      refine lv_bipush (v := nI 6) hx hb dX3_substitute_98 (by decide) ?_
                      refine lv_icmp_gt (tgt := 133) hx hb dX3_substitute_100 (by decide) (fun c8 => ?_) (fun c8 => ?_)
                      · exact absurd c8 (by rw [nI_ltI (by omega) (by omega)]; omega)
                      · rw [nI_ltI (by omega) (by omega)] at c8
                        refine lv_aload_n hx hb dX3_substitute_103 rfl (lv_at hl 2 rfl) ?_
                        refine lv_iload hx hb dX3_substitute_104 (lv_at hl 0 rfl) ?_
                        refine lv_aload_n hx hb dX3_substitute_106 rfl (lv_at hl 2 rfl) ?_
                        refine lv_iload hx hb dX3_substitute_107 (lv_at hl 0 rfl) ?_
                        refine rD_lld (n := k) (i := j) hx hb hK hP (by omega) (by omega) dX3_substitute_109 ?_
                        refine lv_lload hx hb dX3_substitute_110 (lv_at hl 6 rfl) ?_
                        refine lv_lmul hx hb dX3_substitute_112 ?_
                        refine lv_lload hx hb dX3_substitute_113 (lv_at hl 7 rfl) ?_
                        refine lv_aload_n hx hb dX3_substitute_115 rfl (lv_at hl 3 rfl) ?_
                        refine lv_iload hx hb dX3_substitute_116 (lv_at hl 0 rfl) ?_
                        refine rD_lld (n := a) (i := j) hx hb hK hP (by omega) (by omega) dX3_substitute_118 ?_
                        refine lv_lmul hx hb dX3_substitute_119 ?_
                        refine lv_lsub hx hb dX3_substitute_120 ?_
                        refine lv_aload_n hx hb dX3_substitute_121 rfl (lv_at hl 1 rfl) ?_
                        refine rD_get (v := .long (dSc U)) hx hb hts hin hown hK hP 1 (by decide) rfl (by decide +kernel) dX3_substitute_122 ?_
                        refine lv_ldiv hx hb dX3_substitute_125 (by rw [show dSc U = dSc S from hq]; exact lc0 c5) ?_
                        refine rD_lst (n := k) (i := j) hx hb hK hP hD hS (by omega) (by omega) dX3_substitute_126 (fun H locs hP hD hS => ?_)
                        refine lv_iinc (v := nI (j + 1)) (lv' := [(10, .int (nI (j + 1))), (0, .ref (ad 0)), (1, .ref (ad (11 + k))), (2, .ref (ad (11 + a))), (3, .int (nI c0)), (4, .long (dRo S a c0)), (6, .long ns), (8, .long fa)]) hx hb dX3_substitute_127 hl (k := 0) rfl (nI_1 _) (by decide) rfl (fun ls hl => ?_)
                        refine lv_goto (tgt := 96) hx hb dX3_substitute_130 (by decide) ?_
                        have he : (fSub k a ns fa) j U = (sRo U k j ((((dRo U k j) * ns) - (fa * (dRo U a j))) / (dSc U))) := rfl
                        rw [lpN_s, he] at hex
                        exact ih ((j + 1)) (sRo U k j ((((dRo U k j) * ns) - (fa * (dRo U a j))) / (dSc U))) _ _ _ (by omega) hq hP hD hS (lv_sub hl [0, 1, 2, 3, 4, 5, 6, 7] rfl) hex
                  refine L96 7 0 S _ _ _ (by omega) rfl hP hD hS (lv_sub hl [0, 2, 3, 4, 5, 6, 7, 1] rfl) (fun H locs ls hq hP hD hS hl => ?_)
                  refine lv_aload_n hx hb dX3_substitute_133 rfl (lv_at hl 2 rfl) ?_
                  refine lv_iload_n hx hb dX3_substitute_134 rfl (lv_at hl 4 rfl) ?_
                  refine lv_lload hx hb dX3_substitute_135 (lv_at hl 7 rfl) ?_
                  refine rD_lst (n := k) (i := c0) hx hb hK hP hD hS (by omega) (by omega) dX3_substitute_137 (fun H locs hP hD hS => ?_)
                  exact W.vret hx hb hr (fun t ht hW => ⟨⟨_, rfl, by simp only [kSub, ← hns, ← hfa]; simp [c1, c5, c6, c2, c3, c4], by rw [ht]; exact hP, va_K.moved hW.alike hK, hD⟩, hS.F ht⟩) hS.2.2 dX3_substitute_138
                · skip
                  refine lv_lload hx hb dX3_substitute_82 (lv_at hl 6 rfl) ?_
                  refine lv_aload_n hx hb dX3_substitute_84 rfl (lv_at hl 1 rfl) ?_
                  refine rD_get (v := .long (dSc S)) hx hb hts hin hown hK hP 1 (by decide) rfl (by decide +kernel) dX3_substitute_85 ?_
                  refine W.lcmp hx hb dX3_substitute_88 ?_
                  refine lv_if_ne (tgt := 93) hx hb dX3_substitute_89 (by decide) (fun c9 => ?_) (fun c9 => ?_)
                  · skip
                    refine lv_iconst (v := nI 0) hx hb dX3_substitute_93 (by decide) ?_
                    refine lv_istore (lv' := [(10, .int (nI 0)), (8, .long fa), (0, .ref (ad 0)), (1, .ref (ad (11 + k))), (2, .ref (ad (11 + a))), (3, .int (nI c0)), (4, .long (dRo S a c0)), (6, .long ns)]) hx hb dX3_substitute_94 hl (by decide) rfl (fun ls hl => ?_)
                    have L96 : ∀ (n j : Nat) (U : DS) (H : Heap) (locs : List Loc) (ls : Array Slot), j + n = 7 → dSc U = dSc S → va_P D vwCl (wD cy ad U ++ X) H → va_D (dA cy ad X S sz) (wD cy ad U ++ X) → va_S (dA cy ad X S sz) s.heap H locs → lv_has ls 11 [(10, .int (nI j)), (0, .ref (ad 0)), (1, .ref (ad (11 + k))), (2, .ref (ad (11 + a))), (3, .int (nI c0)), (4, .long (dRo S a c0)), (6, .long ns), (8, .long fa)] → (∀ (H : Heap) (locs : List Loc) (ls : Array Slot), dSc (lpN (fSub k a ns fa) n j U) = dSc S → va_P D vwCl (wD cy ad (lpN (fSub k a ns fa) n j U) ++ X) H → va_D (dA cy ad X S sz) (wD cy ad (lpN (fSub k a ns fa) n j U) ++ X) → va_S (dA cy ad X S sz) s.heap H locs → lv_has ls 11 [(10, .int (nI 7)), (0, .ref (ad 0)), (1, .ref (ad (11 + k))), (2, .ref (ad (11 + a))), (3, .int (nI c0)), (4, .long (dRo S a c0)), (6, .long ns), (8, .long fa)] → W p l e (headSpec wsX3_substitute (rm9 0 0)).room s m ([.ref (ad 0), .ref (ad (11 + k)), .ref (ad (11 + a)), .int (nI c0)] : List Value).toArray below meth c H locs 0 0 (MQ below (dQv D cy ad X S sz (fun S' => S' = kSub S k a c0)) ([.ref (ad 0), .ref (ad (11 + k)), .ref (ad (11 + a)), .int (nI c0)] : List Value).toArray s 0 0 (dA cy ad X S sz)) (F0 m 133 ls [])) → W p l e (headSpec wsX3_substitute (rm9 0 0)).room s m ([.ref (ad 0), .ref (ad (11 + k)), .ref (ad (11 + a)), .int (nI c0)] : List Value).toArray below meth c H locs 0 0 (MQ below (dQv D cy ad X S sz (fun S' => S' = kSub S k a c0)) ([.ref (ad 0), .ref (ad (11 + k)), .ref (ad (11 + a)), .int (nI c0)] : List Value).toArray s 0 0 (dA cy ad X S sz)) (F0 m 96 ls []) := by
                      intro n
                      induction n with
                      | zero =>
                        intro j U H locs ls hk hq hP hD hS hl hex
                        obtain rfl : j = 7 := by omega
                        refine lv_iload hx hb dX3_substitute_96 (lv_at hl 0 rfl) ?_
                        refine lv_bipush (v := nI 6) hx hb dX3_substitute_98 (by decide) ?_
                        refine lv_icmp_gt (tgt := 133) hx hb dX3_substitute_100 (by decide) (fun c10 => ?_) (fun c10 => ?_)
                        · rw [nI_ltI (by omega) (by omega)] at c10
                          exact hex _ _ _ hq hP hD hS (lv_sub hl [0, 1, 2, 3, 4, 5, 6, 7] rfl)
                        · exact absurd c10 (by rw [nI_ltI (by omega) (by omega)]; omega)
                      | succ n ih =>
                        intro j U H locs ls hk hq hP hD hS hl hex
                        have hk96 : j < 7 := by omega
                        refine lv_iload hx hb dX3_substitute_96 (lv_at hl 0 rfl) ?_
                        refine lv_bipush (v := nI 6) hx hb dX3_substitute_98 (by decide) ?_
                        refine lv_icmp_gt (tgt := 133) hx hb dX3_substitute_100 (by decide) (fun c11 => ?_) (fun c11 => ?_)
                        · exact absurd c11 (by rw [nI_ltI (by omega) (by omega)]; omega)
                        · rw [nI_ltI (by omega) (by omega)] at c11
                          refine lv_aload_n hx hb dX3_substitute_103 rfl (lv_at hl 2 rfl) ?_
                          refine lv_iload hx hb dX3_substitute_104 (lv_at hl 0 rfl) ?_
                          refine lv_aload_n hx hb dX3_substitute_106 rfl (lv_at hl 2 rfl) ?_
                          refine lv_iload hx hb dX3_substitute_107 (lv_at hl 0 rfl) ?_
                          refine rD_lld (n := k) (i := j) hx hb hK hP (by omega) (by omega) dX3_substitute_109 ?_
                          refine lv_lload hx hb dX3_substitute_110 (lv_at hl 6 rfl) ?_
                          refine lv_lmul hx hb dX3_substitute_112 ?_
                          refine lv_lload hx hb dX3_substitute_113 (lv_at hl 7 rfl) ?_
                          refine lv_aload_n hx hb dX3_substitute_115 rfl (lv_at hl 3 rfl) ?_
                          refine lv_iload hx hb dX3_substitute_116 (lv_at hl 0 rfl) ?_
                          refine rD_lld (n := a) (i := j) hx hb hK hP (by omega) (by omega) dX3_substitute_118 ?_
                          refine lv_lmul hx hb dX3_substitute_119 ?_
                          refine lv_lsub hx hb dX3_substitute_120 ?_
                          refine lv_aload_n hx hb dX3_substitute_121 rfl (lv_at hl 1 rfl) ?_
                          refine rD_get (v := .long (dSc U)) hx hb hts hin hown hK hP 1 (by decide) rfl (by decide +kernel) dX3_substitute_122 ?_
                          refine lv_ldiv hx hb dX3_substitute_125 (by rw [show dSc U = dSc S from hq]; exact lc0 c5) ?_
                          refine rD_lst (n := k) (i := j) hx hb hK hP hD hS (by omega) (by omega) dX3_substitute_126 (fun H locs hP hD hS => ?_)
                          refine lv_iinc (v := nI (j + 1)) (lv' := [(10, .int (nI (j + 1))), (0, .ref (ad 0)), (1, .ref (ad (11 + k))), (2, .ref (ad (11 + a))), (3, .int (nI c0)), (4, .long (dRo S a c0)), (6, .long ns), (8, .long fa)]) hx hb dX3_substitute_127 hl (k := 0) rfl (nI_1 _) (by decide) rfl (fun ls hl => ?_)
                          refine lv_goto (tgt := 96) hx hb dX3_substitute_130 (by decide) ?_
                          have he : (fSub k a ns fa) j U = (sRo U k j ((((dRo U k j) * ns) - (fa * (dRo U a j))) / (dSc U))) := rfl
                          rw [lpN_s, he] at hex
                          exact ih ((j + 1)) (sRo U k j ((((dRo U k j) * ns) - (fa * (dRo U a j))) / (dSc U))) _ _ _ (by omega) hq hP hD hS (lv_sub hl [0, 1, 2, 3, 4, 5, 6, 7] rfl) hex
                    refine L96 7 0 S _ _ _ (by omega) rfl hP hD hS (lv_sub hl [0, 2, 3, 4, 5, 6, 7, 1] rfl) (fun H locs ls hq hP hD hS hl => ?_)
                    refine lv_aload_n hx hb dX3_substitute_133 rfl (lv_at hl 2 rfl) ?_
                    refine lv_iload_n hx hb dX3_substitute_134 rfl (lv_at hl 4 rfl) ?_
                    refine lv_lload hx hb dX3_substitute_135 (lv_at hl 7 rfl) ?_
                    refine rD_lst (n := k) (i := c0) hx hb hK hP hD hS (by omega) (by omega) dX3_substitute_137 (fun H locs hP hD hS => ?_)
                    exact W.vret hx hb hr (fun t ht hW => ⟨⟨_, rfl, by simp only [kSub, ← hns, ← hfa]; simp [c1, c5, c6, c9, c2, c3, c4], by rw [ht]; exact hP, va_K.moved hW.alike hK, hD⟩, hS.F ht⟩) hS.2.2 dX3_substitute_138
                  · skip
                    exact W.vret hx hb hr (fun t ht hW => ⟨⟨_, rfl, by simp only [kSub, ← hns, ← hfa]; simp [c1, c5, c6, c9, c2, c3, c4], by rw [ht]; exact hP, va_K.moved hW.alike hK, hD⟩, hS.F ht⟩) hS.2.2 dX3_substitute_92
            refine lv_lload hx hb dX3_substitute_47 (lv_at hl 5 rfl) ?_
            refine lv_lconst (v := 0) hx hb dX3_substitute_49 (by decide) ?_
            refine W.lcmp hx hb dX3_substitute_50 ?_
            refine lv_if_ge (tgt := 61) hx hb dX3_substitute_51 (by decide) (fun c12 => ?_) (fun c12 => ?_)
            · skip
              refine lv_aload_n hx hb dX3_substitute_61 rfl (lv_at hl 2 rfl) ?_
              refine lv_iload_n hx hb dX3_substitute_62 rfl (lv_at hl 4 rfl) ?_
              refine rD_lld (n := k) (i := c0) hx hb hK hP (by omega) (by omega) dX3_substitute_63 ?_
              exact J64 _ _ _ _ (by simp [kFa, c1, c12, c2, c3, c4]) hP hD hS (lv_sub hl [1, 2, 3, 4, 5, 0] rfl)
            · skip
              refine lv_aload_n hx hb dX3_substitute_54 rfl (lv_at hl 2 rfl) ?_
              refine lv_iload_n hx hb dX3_substitute_55 rfl (lv_at hl 4 rfl) ?_
              refine rD_lld (n := k) (i := c0) hx hb hK hP (by omega) (by omega) dX3_substitute_56 ?_
              refine lv_lneg hx hb dX3_substitute_57 ?_
              refine lv_goto (tgt := 64) hx hb dX3_substitute_58 (by decide) ?_
              exact J64 _ _ _ _ (by simp [kFa, c1, c12, c2, c3, c4]) hP hD hS (lv_sub hl [1, 2, 3, 4, 5, 0] rfl)
          refine lv_lload hx hb dX3_substitute_30 (lv_at hl 0 rfl) ?_
          refine lv_lconst (v := 0) hx hb dX3_substitute_32 (by decide) ?_
          refine W.lcmp hx hb dX3_substitute_33 ?_
          refine lv_if_ge (tgt := 43) hx hb dX3_substitute_34 (by decide) (fun c13 => ?_) (fun c13 => ?_)
          · skip
            refine lv_lload hx hb dX3_substitute_43 (lv_at hl 0 rfl) ?_
            exact J45 _ _ _ _ (by simp [kNs, c1, c13, c2, c3, c4]) hP hD hS (lv_sub hl [1, 2, 3, 4, 0] rfl)
          · skip
            refine lv_lload hx hb dX3_substitute_37 (lv_at hl 0 rfl) ?_
            refine lv_lneg hx hb dX3_substitute_39 ?_
            refine lv_goto (tgt := 45) hx hb dX3_substitute_40 (by decide) ?_
            exact J45 _ _ _ _ (by simp [kNs, c1, c13, c2, c3, c4]) hP hD hS (lv_sub hl [1, 2, 3, 4, 0] rfl)
        · exact absurd c4 (by rw [nI_ltI (by omega) (by omega)]; omega)
end
section
set_option maxHeartbeats 4000000 in
set_option maxRecDepth 100000 in
theorem cD_exchange (l : Launch) (D : va_G) (cy : Nat → ClassId) (ad : Nat → Nat) (X : va_W) (S : DS) (sz : Nat) {a c0 : Nat} (ha : a < 27) (hc0 : c0 < 6) (d : Int32) : Met l yX3_exchange wsX3_exchange (rm9 1 30) (dPc D cy ad X S sz [.ref (ad 0), .int (nI a), .int (nI c0), .int d]) (dQv D cy ad X S sz (fun S' => S' = kEx S a c0 d)) 0 0 (dA cy ad X S sz) := by
  refine dHead (cc := cX3_exchange) (maxL := 8) (ret := none) (by decide) rfl (Nat.le_of_ble_eq_true rfl) ?_
  intro p e s m below meth c ls hx hb hr hlocks hml hown hts hsz hP hK hD hS hA hl
  have hin : ∀ w ∈ u_ws RX3 TX3 12, w ∈ wsX3_exchange := by decide +kernel
  have hown : s.vm.findClass RX3 = some m.cls := hown
  have hl : lv_has ls 8 [(0, .ref (ad 0)), (1, .int (nI a)), (2, .int (nI c0)), (3, .int d)] := hl
  refine lv_iload_n hx hb dX3_exchange_0 rfl (lv_at hl 1 rfl) ?_
  refine lv_if_lt (tgt := 20) hx hb dX3_exchange_1 (by decide) (fun c1 => ?_) (fun c1 => ?_)
  · exact absurd c1 (nI_pos (by omega))
  · skip
    refine lv_iload_n hx hb dX3_exchange_4 rfl (lv_at hl 1 rfl) ?_
    refine lv_bipush (v := nI 27) hx hb dX3_exchange_5 (by decide) ?_
    refine lv_icmp_ge (tgt := 20) hx hb dX3_exchange_7 (by decide) (fun c2 => ?_) (fun c2 => ?_)
    · exact absurd c2 (by rw [nI_leI (by omega) (by omega)]; omega)
    · rw [nI_leI (by omega) (by omega)] at c2
      refine lv_iload_n hx hb dX3_exchange_10 rfl (lv_at hl 2 rfl) ?_
      refine lv_if_lt (tgt := 20) hx hb dX3_exchange_11 (by decide) (fun c3 => ?_) (fun c3 => ?_)
      · exact absurd c3 (nI_pos (by omega))
      · skip
        refine lv_iload_n hx hb dX3_exchange_14 rfl (lv_at hl 2 rfl) ?_
        refine lv_bipush (v := nI 6) hx hb dX3_exchange_15 (by decide) ?_
        refine lv_icmp_lt (tgt := 21) hx hb dX3_exchange_17 (by decide) (fun c4 => ?_) (fun c4 => ?_)
        · rw [nI_ltI (by omega) (by omega)] at c4
          refine lv_aload_n hx hb dX3_exchange_21 rfl (lv_at hl 0 rfl) ?_
          refine rD_get (v := .ref (ad 1)) hx hb hts hin hown hK hP 0 (by decide) rfl (by decide +kernel) dX3_exchange_22 ?_
          refine lv_iload_n hx hb dX3_exchange_25 rfl (lv_at hl 1 rfl) ?_
          refine rD_row (i := a) hx hb hK hP (by omega) dX3_exchange_26 ?_
          refine lv_astore (lv' := [(4, .ref (ad (11 + a))), (0, .ref (ad 0)), (1, .int (nI a)), (2, .int (nI c0)), (3, .int d)]) hx hb dX3_exchange_27 hl (by decide) rfl (fun ls hl => ?_)
          refine lv_aload hx hb dX3_exchange_29 (lv_at hl 0 rfl) ?_
          refine lv_iload_n hx hb dX3_exchange_31 rfl (lv_at hl 3 rfl) ?_
          refine rD_lld (n := a) (i := c0) hx hb hK hP (by omega) (by omega) dX3_exchange_32 ?_
          refine va_mabs_long hx hb (hml.trans hl.1.symm) (own := RX3) (index := 130) hown (hts _ (List.mem_of_elem_eq_true (by decide +kernel))) (hts _ (List.mem_of_elem_eq_true (by decide +kernel))) (hts _ (List.mem_of_elem_eq_true (by decide +kernel))) (hts _ (List.mem_of_elem_eq_true (by decide +kernel))) (Nat.le_of_ble_eq_true rfl) (Nat.le_of_ble_eq_true rfl) (Nat.zero_le _) (Nat.zero_le _) dX3_exchange_33 ?_
          refine W.eq (g2 := F0 m 36 ls [.long (absL (dRo S a c0))]) rfl ?_
          refine lv_lstore (lv' := [(5, .long (absL (dRo S a c0))), (4, .ref (ad (11 + a))), (0, .ref (ad 0)), (1, .int (nI a)), (2, .int (nI c0)), (3, .int d)]) hx hb dX3_exchange_36 hl (by decide) rfl (fun ls hl => ?_)
          refine lv_lload hx hb dX3_exchange_38 (lv_at hl 0 rfl) ?_
          refine lv_lconst (v := 0) hx hb dX3_exchange_40 (by decide) ?_
          refine W.lcmp hx hb dX3_exchange_41 ?_
          refine lv_if_ne (tgt := 46) hx hb dX3_exchange_42 (by decide) (fun c5 => ?_) (fun c5 => ?_)
          · skip
            refine lv_iconst (v := nI 0) hx hb dX3_exchange_46 (by decide) ?_
            refine lv_istore (lv' := [(7, .int (nI 0)), (5, .long (absL (dRo S a c0))), (4, .ref (ad (11 + a))), (0, .ref (ad 0)), (1, .int (nI a)), (2, .int (nI c0)), (3, .int d)]) hx hb dX3_exchange_47 hl (by decide) rfl (fun ls hl => ?_)
            have L49 : ∀ (n k : Nat) (U : DS) (H : Heap) (locs : List Loc) (ls : Array Slot), k + n = 27 → va_P D vwCl (wD cy ad U ++ X) H → va_D (dA cy ad X S sz) (wD cy ad U ++ X) → va_S (dA cy ad X S sz) s.heap H locs → lv_has ls 8 [(7, .int (nI k)), (0, .ref (ad 0)), (1, .int (nI a)), (2, .int (nI c0)), (3, .int d), (4, .ref (ad (11 + a))), (5, .long (absL (dRo S a c0)))] → (∀ (H : Heap) (locs : List Loc) (ls : Array Slot), va_P D vwCl (wD cy ad (lpN (fEx a c0) n k U) ++ X) H → va_D (dA cy ad X S sz) (wD cy ad (lpN (fEx a c0) n k U) ++ X) → va_S (dA cy ad X S sz) s.heap H locs → lv_has ls 8 [(7, .int (nI 27)), (0, .ref (ad 0)), (1, .int (nI a)), (2, .int (nI c0)), (3, .int d), (4, .ref (ad (11 + a))), (5, .long (absL (dRo S a c0)))] → W p l e (headSpec wsX3_exchange (rm9 1 30)).room s m ([.ref (ad 0), .int (nI a), .int (nI c0), .int d] : List Value).toArray below meth c H locs 0 0 (MQ below (dQv D cy ad X S sz (fun S' => S' = kEx S a c0 d)) ([.ref (ad 0), .int (nI a), .int (nI c0), .int d] : List Value).toArray s 0 0 (dA cy ad X S sz)) (F0 m 92 ls [])) → W p l e (headSpec wsX3_exchange (rm9 1 30)).room s m ([.ref (ad 0), .int (nI a), .int (nI c0), .int d] : List Value).toArray below meth c H locs 0 0 (MQ below (dQv D cy ad X S sz (fun S' => S' = kEx S a c0 d)) ([.ref (ad 0), .int (nI a), .int (nI c0), .int d] : List Value).toArray s 0 0 (dA cy ad X S sz)) (F0 m 49 ls []) := by
              intro n
              induction n with
              | zero =>
                intro k U H locs ls hk hP hD hS hl hex
                obtain rfl : k = 27 := by omega
                refine lv_iload hx hb dX3_exchange_49 (lv_at hl 0 rfl) ?_
                refine lv_bipush (v := nI 27) hx hb dX3_exchange_51 (by decide) ?_
                refine lv_icmp_ge (tgt := 92) hx hb dX3_exchange_53 (by decide) (fun c6 => ?_) (fun c6 => ?_)
                · rw [nI_leI (by omega) (by omega)] at c6
                  exact hex _ _ _ hP hD hS (lv_sub hl [0, 1, 2, 3, 4, 5, 6] rfl)
                · exact absurd c6 (by rw [nI_leI (by omega) (by omega)]; omega)
              | succ n ih =>
                intro k U H locs ls hk hP hD hS hl hex
                have hk49 : k < 27 := by omega
                refine lv_iload hx hb dX3_exchange_49 (lv_at hl 0 rfl) ?_
                refine lv_bipush (v := nI 27) hx hb dX3_exchange_51 (by decide) ?_
                refine lv_icmp_ge (tgt := 92) hx hb dX3_exchange_53 (by decide) (fun c7 => ?_) (fun c7 => ?_)
                · exact absurd c7 (by rw [nI_leI (by omega) (by omega)]; omega)
                · rw [nI_leI (by omega) (by omega)] at c7
                  refine lv_aload_n hx hb dX3_exchange_56 rfl (lv_at hl 1 rfl) ?_
                  refine rD_get (v := .ref (ad 2)) hx hb hts hin hown hK hP 2 (by decide) rfl (by decide +kernel) dX3_exchange_57 ?_
                  refine lv_iload hx hb dX3_exchange_60 (lv_at hl 0 rfl) ?_
                  refine rD_zld (i := k) hx hb hK hP (by omega) dX3_exchange_62 ?_
                  refine lv_if_eq (tgt := 86) hx hb dX3_exchange_63 (by decide) (fun c8 => ?_) (fun c8 => ?_)
                  · skip
                    refine lv_iinc (v := nI (k + 1)) (lv' := [(7, .int (nI (k + 1))), (0, .ref (ad 0)), (1, .int (nI a)), (2, .int (nI c0)), (3, .int d), (4, .ref (ad (11 + a))), (5, .long (absL (dRo S a c0)))]) hx hb dX3_exchange_86 hl (k := 0) rfl (nI_1 _) (by decide) rfl (fun ls hl => ?_)
                    refine lv_goto (tgt := 49) hx hb dX3_exchange_89 (by decide) ?_
                    have he : (fEx a c0) k U = U := by simp [fEx, c1, c3, c5, c8, c2, c4, c7]
                    rw [lpN_s, he] at hex
                    exact ih ((k + 1)) U _ _ _ (by omega) hP hD hS (lv_sub hl [0, 1, 2, 3, 4, 5, 6] rfl) hex
                  · skip
                    refine lv_iload hx hb dX3_exchange_66 (lv_at hl 0 rfl) ?_
                    refine lv_iload_n hx hb dX3_exchange_68 rfl (lv_at hl 2 rfl) ?_
                    refine lv_icmp_eq (tgt := 86) hx hb dX3_exchange_69 (by decide) (fun c9 => ?_) (fun c9 => ?_)
                    · rw [nI_eq (by omega) (by omega)] at c9
                      refine lv_iinc (v := nI (k + 1)) (lv' := [(7, .int (nI (k + 1))), (0, .ref (ad 0)), (1, .int (nI a)), (2, .int (nI c0)), (3, .int d), (4, .ref (ad (11 + a))), (5, .long (absL (dRo S a c0)))]) hx hb dX3_exchange_86 hl (k := 0) rfl (nI_1 _) (by decide) rfl (fun ls hl => ?_)
                      refine lv_goto (tgt := 49) hx hb dX3_exchange_89 (by decide) ?_
                      have he : (fEx a c0) k U = U := by simp [fEx, c1, c3, c5, c8, c2, c4, c7, c9]
                      rw [lpN_s, he] at hex
                      exact ih ((k + 1)) U _ _ _ (by omega) hP hD hS (lv_sub hl [0, 1, 2, 3, 4, 5, 6] rfl) hex
                    · rw [nI_eq (by omega) (by omega)] at c9
                      refine lv_aload_n hx hb dX3_exchange_72 rfl (lv_at hl 1 rfl) ?_
                      refine lv_aload_n hx hb dX3_exchange_73 rfl (lv_at hl 1 rfl) ?_
                      refine rD_get (v := .ref (ad 1)) hx hb hts hin hown hK hP 0 (by decide) rfl (by decide +kernel) dX3_exchange_74 ?_
                      refine lv_iload hx hb dX3_exchange_77 (lv_at hl 0 rfl) ?_
                      refine rD_row (i := k) hx hb hK hP (by omega) dX3_exchange_79 ?_
                      refine lv_aload hx hb dX3_exchange_80 (lv_at hl 5 rfl) ?_
                      refine lv_iload_n hx hb dX3_exchange_82 rfl (lv_at hl 3 rfl) ?_
                      refine dCallv (As := [.ref (ad (11 + k)), .ref (ad (11 + a)), .int (nI c0)]) (rest := []) hx hb hml hown hts hK hP hD hS hA hl.1 (cD_substitute l D cy ad _ _ _ (k := k) (a := a) (c0 := c0) (by omega) (by omega) (by omega)) (cwV 3 hts gX3_exchange_X3_substitute rfl rfl rfl (by decide +kernel) ⟨Nat.le_of_ble_eq_true rfl, Nat.le_of_ble_eq_true rfl⟩) rfl rfl (Nat.le_of_ble_eq_true rfl) ⟨Nat.le_of_ble_eq_true rfl, Nat.le_of_ble_eq_true rfl⟩ dX3_exchange_83 (fun S10 H locs e10 hP hD hS => ?_)
                      rw [show S10 = _ from e10] at hP hD
                      refine lv_iinc (v := nI (k + 1)) (lv' := [(7, .int (nI (k + 1))), (0, .ref (ad 0)), (1, .int (nI a)), (2, .int (nI c0)), (3, .int d), (4, .ref (ad (11 + a))), (5, .long (absL (dRo S a c0)))]) hx hb dX3_exchange_86 hl (k := 0) rfl (nI_1 _) (by decide) rfl (fun ls hl => ?_)
                      refine lv_goto (tgt := 49) hx hb dX3_exchange_89 (by decide) ?_
                      have he : (fEx a c0) k U = (kSub U k a c0) := by simp [fEx, c1, c3, c5, c8, c2, c4, c7, c9]
                      rw [lpN_s, he] at hex
                      exact ih ((k + 1)) (kSub U k a c0) _ _ _ (by omega) hP hD hS (lv_sub hl [0, 1, 2, 3, 4, 5, 6] rfl) hex
            refine L49 27 0 S _ _ _ (by omega) hP hD hS (lv_sub hl [0, 3, 4, 5, 6, 2, 1] rfl) (fun H locs ls hP hD hS hl => ?_)
            refine lv_iconst (v := nI 0) hx hb dX3_exchange_92 (by decide) ?_
            refine lv_istore (lv' := [(7, .int (nI 0)), (0, .ref (ad 0)), (1, .int (nI a)), (2, .int (nI c0)), (3, .int d), (4, .ref (ad (11 + a))), (5, .long (absL (dRo S a c0)))]) hx hb dX3_exchange_93 hl (by decide) rfl (fun ls hl => ?_)
            have L95 : ∀ (n j : Nat) (U : DS) (H : Heap) (locs : List Loc) (ls : Array Slot), j + n = 7 → va_P D vwCl (wD cy ad U ++ X) H → va_D (dA cy ad X S sz) (wD cy ad U ++ X) → va_S (dA cy ad X S sz) s.heap H locs → lv_has ls 8 [(7, .int (nI j)), (0, .ref (ad 0)), (1, .int (nI a)), (2, .int (nI c0)), (3, .int d), (4, .ref (ad (11 + a))), (5, .long (absL (dRo S a c0)))] → (∀ (H : Heap) (locs : List Loc) (ls : Array Slot), va_P D vwCl (wD cy ad (lpN (fZr a) n j U) ++ X) H → va_D (dA cy ad X S sz) (wD cy ad (lpN (fZr a) n j U) ++ X) → va_S (dA cy ad X S sz) s.heap H locs → lv_has ls 8 [(7, .int (nI 7)), (0, .ref (ad 0)), (1, .int (nI a)), (2, .int (nI c0)), (3, .int d), (4, .ref (ad (11 + a))), (5, .long (absL (dRo S a c0)))] → W p l e (headSpec wsX3_exchange (rm9 1 30)).room s m ([.ref (ad 0), .int (nI a), .int (nI c0), .int d] : List Value).toArray below meth c H locs 0 0 (MQ below (dQv D cy ad X S sz (fun S' => S' = kEx S a c0 d)) ([.ref (ad 0), .int (nI a), .int (nI c0), .int d] : List Value).toArray s 0 0 (dA cy ad X S sz)) (F0 m 114 ls [])) → W p l e (headSpec wsX3_exchange (rm9 1 30)).room s m ([.ref (ad 0), .int (nI a), .int (nI c0), .int d] : List Value).toArray below meth c H locs 0 0 (MQ below (dQv D cy ad X S sz (fun S' => S' = kEx S a c0 d)) ([.ref (ad 0), .int (nI a), .int (nI c0), .int d] : List Value).toArray s 0 0 (dA cy ad X S sz)) (F0 m 95 ls []) := by
              intro n
              induction n with
              | zero =>
                intro j U H locs ls hk hP hD hS hl hex
                obtain rfl : j = 7 := by omega
                refine lv_iload hx hb dX3_exchange_95 (lv_at hl 0 rfl) ?_
                refine lv_bipush (v := nI 6) hx hb dX3_exchange_97 (by decide) ?_
                refine lv_icmp_gt (tgt := 114) hx hb dX3_exchange_99 (by decide) (fun c11 => ?_) (fun c11 => ?_)
                · rw [nI_ltI (by omega) (by omega)] at c11
                  exact hex _ _ _ hP hD hS (lv_sub hl [0, 1, 2, 3, 4, 5, 6] rfl)
                · exact absurd c11 (by rw [nI_ltI (by omega) (by omega)]; omega)
              | succ n ih =>
                intro j U H locs ls hk hP hD hS hl hex
                have hk95 : j < 7 := by omega
                refine lv_iload hx hb dX3_exchange_95 (lv_at hl 0 rfl) ?_
                refine lv_bipush (v := nI 6) hx hb dX3_exchange_97 (by decide) ?_
                refine lv_icmp_gt (tgt := 114) hx hb dX3_exchange_99 (by decide) (fun c12 => ?_) (fun c12 => ?_)
                · exact absurd c12 (by rw [nI_ltI (by omega) (by omega)]; omega)
                · rw [nI_ltI (by omega) (by omega)] at c12
                  refine lv_aload hx hb dX3_exchange_102 (lv_at hl 5 rfl) ?_
                  refine lv_iload hx hb dX3_exchange_104 (lv_at hl 0 rfl) ?_
                  refine lv_lconst (v := 0) hx hb dX3_exchange_106 (by decide) ?_
                  refine rD_lst (n := a) (i := j) hx hb hK hP hD hS (by omega) (by omega) dX3_exchange_107 (fun H locs hP hD hS => ?_)
                  refine lv_iinc (v := nI (j + 1)) (lv' := [(7, .int (nI (j + 1))), (0, .ref (ad 0)), (1, .int (nI a)), (2, .int (nI c0)), (3, .int d), (4, .ref (ad (11 + a))), (5, .long (absL (dRo S a c0)))]) hx hb dX3_exchange_108 hl (k := 0) rfl (nI_1 _) (by decide) rfl (fun ls hl => ?_)
                  refine lv_goto (tgt := 95) hx hb dX3_exchange_111 (by decide) ?_
                  have he : (fZr a) j U = (sRo U a j 0) := rfl
                  rw [lpN_s, he] at hex
                  exact ih ((j + 1)) (sRo U a j 0) _ _ _ (by omega) hP hD hS (lv_sub hl [0, 1, 2, 3, 4, 5, 6] rfl) hex
            refine L95 7 0 (lpN (fEx a c0) 27 0 S) _ _ _ (by omega) hP hD hS (lv_sub hl [0, 1, 2, 3, 4, 5, 6] rfl) (fun H locs ls hP hD hS hl => ?_)
            refine lv_aload hx hb dX3_exchange_114 (lv_at hl 5 rfl) ?_
            refine lv_iload_n hx hb dX3_exchange_116 rfl (lv_at hl 3 rfl) ?_
            refine lv_lload hx hb dX3_exchange_117 (lv_at hl 6 rfl) ?_
            refine rD_lst (n := a) (i := c0) hx hb hK hP hD hS (by omega) (by omega) dX3_exchange_119 (fun H locs hP hD hS => ?_)
            refine lv_aload_n hx hb dX3_exchange_120 rfl (lv_at hl 1 rfl) ?_
            refine lv_lload hx hb dX3_exchange_121 (lv_at hl 6 rfl) ?_
            refine rD_putSc hx hb hts hin hown hK hP hD hS (by decide +kernel) dX3_exchange_123 (fun H locs hP hD hS => ?_)
            have hk1 : sSc (sRo (lpN (fZr a) 7 0 (lpN (fEx a c0) 27 0 S)) a c0 (absL (dRo S a c0))) (absL (dRo S a c0)) = kEx1 S a c0 (absL (dRo S a c0)) := rfl
            rw [hk1] at hP hD
            refine lv_aload_n hx hb dX3_exchange_126 rfl (lv_at hl 1 rfl) ?_
            refine rD_get (v := .ref (ad 9)) hx hb hts hin hown hK hP 9 (by decide) rfl (by decide +kernel) dX3_exchange_127 ?_
            refine lv_iload_n hx hb dX3_exchange_130 rfl (lv_at hl 3 rfl) ?_
            refine rD_ild9 (i := c0) hx hb hK hP (by omega) dX3_exchange_131 ?_
            refine lv_istore (lv' := [(7, .int (dI (kEx1 S a c0 (absL (dRo S a c0))) 9 c0)), (0, .ref (ad 0)), (1, .int (nI a)), (2, .int (nI c0)), (3, .int d), (4, .ref (ad (11 + a))), (5, .long (absL (dRo S a c0)))]) hx hb dX3_exchange_132 hl (by decide) rfl (fun ls hl => ?_)
            refine lv_iload hx hb dX3_exchange_134 (lv_at hl 0 rfl) ?_
            refine lv_if_lt (tgt := 162) hx hb dX3_exchange_136 (by decide) (fun c13 => ?_) (fun c13 => ?_)
            · skip
              refine lv_aload_n hx hb dX3_exchange_162 rfl (lv_at hl 1 rfl) ?_
              refine rD_get (v := .ref (ad 9)) hx hb hts hin hown hK hP 9 (by decide) rfl (by decide +kernel) dX3_exchange_163 ?_
              refine lv_iload_n hx hb dX3_exchange_166 rfl (lv_at hl 3 rfl) ?_
              refine lv_iload_n hx hb dX3_exchange_167 rfl (lv_at hl 2 rfl) ?_
              refine rD_ist9 (i := c0) hx hb hK hP hD hS (by omega) dX3_exchange_168 (fun H locs hP hD hS => ?_)
              refine lv_aload_n hx hb dX3_exchange_169 rfl (lv_at hl 1 rfl) ?_
              refine rD_get (v := .ref (ad 8)) hx hb hts hin hown hK hP 8 (by decide) rfl (by decide +kernel) dX3_exchange_170 ?_
              refine lv_iload_n hx hb dX3_exchange_173 rfl (lv_at hl 2 rfl) ?_
              refine lv_iload_n hx hb dX3_exchange_174 rfl (lv_at hl 3 rfl) ?_
              refine rD_ist (i := a) hx hb hK hP hD hS 8 (by decide) (by decide) (by omega) dX3_exchange_175 (fun H locs hP hD hS => ?_)
              exact W.vret hx hb hr (fun t ht hW => ⟨⟨_, rfl, by simp only [kEx, kEx3]; rw [if_pos c5, if_pos c13]; rfl, by rw [ht]; exact hP, va_K.moved hW.alike hK, hD⟩, hS.F ht⟩) hS.2.2 dX3_exchange_176
            · skip
              refine lv_iload hx hb dX3_exchange_139 (lv_at hl 0 rfl) ?_
              refine lv_bipush (v := nI 27) hx hb dX3_exchange_141 (by decide) ?_
              refine lv_icmp_ge (tgt := 162) hx hb dX3_exchange_143 (by decide) (fun c14 => ?_) (fun c14 => ?_)
              · skip
                refine lv_aload_n hx hb dX3_exchange_162 rfl (lv_at hl 1 rfl) ?_
                refine rD_get (v := .ref (ad 9)) hx hb hts hin hown hK hP 9 (by decide) rfl (by decide +kernel) dX3_exchange_163 ?_
                refine lv_iload_n hx hb dX3_exchange_166 rfl (lv_at hl 3 rfl) ?_
                refine lv_iload_n hx hb dX3_exchange_167 rfl (lv_at hl 2 rfl) ?_
                refine rD_ist9 (i := c0) hx hb hK hP hD hS (by omega) dX3_exchange_168 (fun H locs hP hD hS => ?_)
                refine lv_aload_n hx hb dX3_exchange_169 rfl (lv_at hl 1 rfl) ?_
                refine rD_get (v := .ref (ad 8)) hx hb hts hin hown hK hP 8 (by decide) rfl (by decide +kernel) dX3_exchange_170 ?_
                refine lv_iload_n hx hb dX3_exchange_173 rfl (lv_at hl 2 rfl) ?_
                refine lv_iload_n hx hb dX3_exchange_174 rfl (lv_at hl 3 rfl) ?_
                refine rD_ist (i := a) hx hb hK hP hD hS 8 (by decide) (by decide) (by omega) dX3_exchange_175 (fun H locs hP hD hS => ?_)
                exact W.vret hx hb hr (fun t ht hW => ⟨⟨_, rfl, by simp only [kEx, kEx3]; rw [if_pos c5, if_neg c13, if_pos c14]; rfl, by rw [ht]; exact hP, va_K.moved hW.alike hK, hD⟩, hS.F ht⟩) hS.2.2 dX3_exchange_176
              · skip
                obtain ⟨r0, hr0, hre⟩ := ixN 27 c13 (Int32.not_le.mp c14) (by decide)
                have qq9 : (dI (kEx1 S a c0 (absL (dRo S a c0))) 9 c0).toNatClampNeg = r0 := (by rw [hre, nI_clamp (by omega)])
                rw [hre] at hl
                refine lv_aload_n hx hb dX3_exchange_146 rfl (lv_at hl 1 rfl) ?_
                refine rD_get (v := .ref (ad 8)) hx hb hts hin hown hK hP 8 (by decide) rfl (by decide +kernel) dX3_exchange_147 ?_
                refine lv_iload hx hb dX3_exchange_150 (lv_at hl 0 rfl) ?_
                refine lv_iconst (v := -1) hx hb dX3_exchange_152 (by decide) ?_
                refine rD_ist (i := r0) hx hb hK hP hD hS 8 (by decide) (by decide) (by omega) dX3_exchange_153 (fun H locs hP hD hS => ?_)
                refine lv_aload_n hx hb dX3_exchange_154 rfl (lv_at hl 1 rfl) ?_
                refine rD_get (v := .ref (ad 7)) hx hb hts hin hown hK hP 7 (by decide) rfl (by decide +kernel) dX3_exchange_155 ?_
                refine lv_iload hx hb dX3_exchange_158 (lv_at hl 0 rfl) ?_
                refine lv_iload_n hx hb dX3_exchange_160 rfl (lv_at hl 4 rfl) ?_
                refine rD_ist (i := r0) hx hb hK hP hD hS 7 (by decide) (by decide) (by omega) dX3_exchange_161 (fun H locs hP hD hS => ?_)
                refine lv_aload_n hx hb dX3_exchange_162 rfl (lv_at hl 1 rfl) ?_
                refine rD_get (v := .ref (ad 9)) hx hb hts hin hown hK hP 9 (by decide) rfl (by decide +kernel) dX3_exchange_163 ?_
                refine lv_iload_n hx hb dX3_exchange_166 rfl (lv_at hl 3 rfl) ?_
                refine lv_iload_n hx hb dX3_exchange_167 rfl (lv_at hl 2 rfl) ?_
                refine rD_ist9 (i := c0) hx hb hK hP hD hS (by omega) dX3_exchange_168 (fun H locs hP hD hS => ?_)
                refine lv_aload_n hx hb dX3_exchange_169 rfl (lv_at hl 1 rfl) ?_
                refine rD_get (v := .ref (ad 8)) hx hb hts hin hown hK hP 8 (by decide) rfl (by decide +kernel) dX3_exchange_170 ?_
                refine lv_iload_n hx hb dX3_exchange_173 rfl (lv_at hl 2 rfl) ?_
                refine lv_iload_n hx hb dX3_exchange_174 rfl (lv_at hl 3 rfl) ?_
                refine rD_ist (i := a) hx hb hK hP hD hS 8 (by decide) (by decide) (by omega) dX3_exchange_175 (fun H locs hP hD hS => ?_)
                exact W.vret hx hb hr (fun t ht hW => ⟨⟨_, rfl, by simp only [kEx, kEx3]; rw [if_pos c5, if_neg c13, if_neg c14, qq9]; rfl, by rw [ht]; exact hP, va_K.moved hW.alike hK, hD⟩, hS.F ht⟩) hS.2.2 dX3_exchange_176
          · skip
            exact W.vret hx hb hr (fun t ht hW => ⟨⟨_, rfl, by simp only [kEx]; rw [if_neg (by simp [c1, c3, c5, c2, c4])], by rw [ht]; exact hP, va_K.moved hW.alike hK, hD⟩, hS.F ht⟩) hS.2.2 dX3_exchange_45
        · exact absurd c4 (by rw [nI_ltI (by omega) (by omega)]; omega)
theorem kDesN_s {aim sg : Int32} {n : Nat} {S : DS} : kDesN aim sg (n + 1) S = if 0 ≤ kEnt (kFind S aim sg) then
      if 0 ≤ kLv (kFind S aim sg) (kEnt (kFind S aim sg)).toNatClampNeg (kDir (kFind S aim sg) (kEnt (kFind S aim sg)).toNatClampNeg) then
        kDesN aim sg n (kEx (kFind S aim sg) (kLv (kFind S aim sg) (kEnt (kFind S aim sg)).toNatClampNeg (kDir (kFind S aim sg) (kEnt (kFind S aim sg)).toNatClampNeg)).toNatClampNeg (kEnt (kFind S aim sg)).toNatClampNeg (kDir (kFind S aim sg) (kEnt (kFind S aim sg)).toNatClampNeg))
      else kFind S aim sg
    else kFind S aim sg := rfl
set_option maxHeartbeats 4000000 in
set_option maxRecDepth 100000 in
theorem cD_descend (l : Launch) (D : va_G) (cy : Nat → ClassId) (ad : Nat → Nat) (X : va_W) (S : DS) (sz : Nat) (aim sg lv : Int32) (haim : aim = -1 ∨ ∃ a : Nat, a < 27 ∧ aim = nI a) : Met l yX3_descend wsX3_descend (rm9 3 79) (dPc D cy ad X S sz [.ref (ad 0), .int aim, .int sg, .int lv]) (dQv D cy ad X S sz (fun S' => S' = kDes S aim sg lv)) 0 0 (dA cy ad X S sz) := by
  refine dHead (cc := cX3_descend) (maxL := 8) (ret := none) (by decide) rfl (Nat.le_of_ble_eq_true rfl) ?_
  intro p e s m below meth c ls hx hb hr hlocks hml hown hts hsz hP hK hD hS hA hl
  have hin : ∀ w ∈ u_ws RX3 TX3 12, w ∈ wsX3_descend := by decide +kernel
  have hown : s.vm.findClass RX3 = some m.cls := hown
  have hl : lv_has ls 8 [(0, .ref (ad 0)), (1, .int aim), (2, .int sg), (3, .int lv)] := hl
  refine lv_aload_n hx hb dX3_descend_0 rfl (lv_at hl 0 rfl) ?_
  refine lv_iload_n hx hb dX3_descend_1 rfl (lv_at hl 3 rfl) ?_
  refine rD_putCt hx hb hts hin hown hK hP hD hS (by decide +kernel) dX3_descend_2 (fun H locs hP hD hS => ?_)
  refine lv_iconst (v := nI 0) hx hb dX3_descend_5 (by decide) ?_
  refine lv_istore (lv' := [(4, .int (nI 0)), (0, .ref (ad 0)), (1, .int aim), (2, .int sg), (3, .int lv)]) hx hb dX3_descend_6 hl (by decide) rfl (fun ls hl => ?_)
  have L8 : ∀ (n i : Nat) (U : DS) (H : Heap) (locs : List Loc) (ls : Array Slot), i + n = 1000000 → kDesN aim sg n U = kDes S aim sg lv → va_P D vwCl (wD cy ad U ++ X) H → va_D (dA cy ad X S sz) (wD cy ad U ++ X) → va_S (dA cy ad X S sz) s.heap H locs → lv_has ls 8 [(4, .int (nI i)), (0, .ref (ad 0)), (1, .int aim), (2, .int sg), (3, .int lv)] → W p l e (headSpec wsX3_descend (rm9 3 79)).room s m ([.ref (ad 0), .int aim, .int sg, .int lv] : List Value).toArray below meth c H locs 0 0 (MQ below (dQv D cy ad X S sz (fun S' => S' = kDes S aim sg lv)) ([.ref (ad 0), .int aim, .int sg, .int lv] : List Value).toArray s 0 0 (dA cy ad X S sz)) (F0 m 8 ls []) := by
    intro n
    induction n with
    | zero =>
      intro i U H locs ls hi hU hP hD hS hl
      refine lv_iload hx hb dX3_descend_8 (lv_at hl 0 rfl) ?_
      refine lv_ldc (v := nI 1000000) hx hb hown (hts (.constant RX3 109 (1000000)) (by decide +kernel)) dX3_descend_10 ?_
      refine lv_icmp_ge (tgt := 73) hx hb dX3_descend_12 (by decide) (fun c1 => ?_) (fun c1 => ?_)
      · rw [nI_leI (by omega) (by omega)] at c1
        exact W.vret hx hb hr (fun t ht hW => ⟨⟨_, rfl, hU, by rw [ht]; exact hP, va_K.moved hW.alike hK, hD⟩, hS.F ht⟩) hS.2.2 dX3_descend_73
      · exact absurd c1 (by rw [nI_leI (by omega) (by omega)]; omega)
    | succ n ih =>
      intro i U H locs ls hi hU hP hD hS hl
      refine lv_iload hx hb dX3_descend_8 (lv_at hl 0 rfl) ?_
      refine lv_ldc (v := nI 1000000) hx hb hown (hts (.constant RX3 109 (1000000)) (by decide +kernel)) dX3_descend_10 ?_
      refine lv_icmp_ge (tgt := 73) hx hb dX3_descend_12 (by decide) (fun c2 => ?_) (fun c2 => ?_)
      · exact absurd c2 (by rw [nI_leI (by omega) (by omega)]; omega)
      · rw [nI_leI (by omega) (by omega)] at c2
        refine lv_aload_n hx hb dX3_descend_15 rfl (lv_at hl 1 rfl) ?_
        refine lv_iload_n hx hb dX3_descend_16 rfl (lv_at hl 2 rfl) ?_
        refine lv_iload_n hx hb dX3_descend_17 rfl (lv_at hl 3 rfl) ?_
        refine dCallv (As := [.int aim, .int sg]) (rest := []) hx hb hml hown hts hK hP hD hS hA hl.1 (cD_findSlopes l D cy ad _ _ _ aim sg haim) (cwV 2 hts gX3_descend_X3_findSlopes rfl rfl rfl (by decide +kernel) ⟨Nat.le_of_ble_eq_true rfl, Nat.le_of_ble_eq_true rfl⟩) rfl rfl (Nat.le_of_ble_eq_true rfl) ⟨Nat.le_of_ble_eq_true rfl, Nat.le_of_ble_eq_true rfl⟩ dX3_descend_18 (fun S3 H locs e3 hP hD hS => ?_)
        rw [show S3 = _ from e3] at hP hD
        refine lv_aload_n hx hb dX3_descend_21 rfl (lv_at hl 1 rfl) ?_
        refine dCalli (As := []) (rest := []) hx hb hml hown hts hK hP hD hS hA hl.1 (cD_enteringColumn l D cy ad _ _ _) (cwV 0 hts gX3_descend_X3_enteringColumn rfl rfl rfl (by decide +kernel) ⟨Nat.le_of_ble_eq_true rfl, Nat.le_of_ble_eq_true rfl⟩) rfl rfl (Nat.le_of_ble_eq_true rfl) ⟨Nat.le_of_ble_eq_true rfl, Nat.le_of_ble_eq_true rfl⟩ dX3_descend_22 (fun r4 S4 H locs e4 hP hD hS => ?_)
        obtain ⟨e4a, e4b⟩ := e4
        rw [e4a]
        rw [e4b] at hP hD
        refine lv_istore (lv' := [(5, .int (kEnt (kFind U aim sg))), (4, .int (nI i)), (0, .ref (ad 0)), (1, .int aim), (2, .int sg), (3, .int lv)]) hx hb dX3_descend_25 hl (by decide) rfl (fun ls hl => ?_)
        refine lv_iload hx hb dX3_descend_27 (lv_at hl 0 rfl) ?_
        refine lv_if_ge (tgt := 33) hx hb dX3_descend_29 (by decide) (fun c5 => ?_) (fun c5 => ?_)
        · skip
          obtain ⟨cc, hcc, hce⟩ := entIx kEnt_ix (fun q => absurd c5 (Int32.not_le.mpr q))
          have qq8 : (kEnt (kFind U aim sg)).toNatClampNeg = cc := (by rw [hce, nI_clamp (by omega)])
          rw [hce] at hl
          refine lv_aload_n hx hb dX3_descend_33 rfl (lv_at hl 2 rfl) ?_
          refine lv_iload hx hb dX3_descend_34 (lv_at hl 0 rfl) ?_
          refine dCalli (As := [.int (nI cc)]) (rest := []) hx hb hml hown hts hK hP hD hS hA hl.1 (cD_directionOf l D cy ad _ _ _ (c0 := cc) (by omega)) (cwV 1 hts gX3_descend_X3_directionOf rfl rfl rfl (by decide +kernel) ⟨Nat.le_of_ble_eq_true rfl, Nat.le_of_ble_eq_true rfl⟩) rfl rfl (Nat.le_of_ble_eq_true rfl) ⟨Nat.le_of_ble_eq_true rfl, Nat.le_of_ble_eq_true rfl⟩ dX3_descend_36 (fun r6 S6 H locs e6 hP hD hS => ?_)
          obtain ⟨e6a, e6b⟩ := e6
          rw [e6a]
          rw [e6b] at hP hD
          refine lv_istore (lv' := [(6, .int (kDir (kFind U aim sg) cc)), (5, .int (nI cc)), (4, .int (nI i)), (0, .ref (ad 0)), (1, .int aim), (2, .int sg), (3, .int lv)]) hx hb dX3_descend_39 hl (by decide) rfl (fun ls hl => ?_)
          refine lv_aload_n hx hb dX3_descend_41 rfl (lv_at hl 3 rfl) ?_
          refine lv_iload hx hb dX3_descend_42 (lv_at hl 1 rfl) ?_
          refine lv_iload hx hb dX3_descend_44 (lv_at hl 0 rfl) ?_
          refine dCalli (As := [.int (nI cc), .int (kDir (kFind U aim sg) cc)]) (rest := []) hx hb hml hown hts hK hP hD hS hA hl.1 (cD_leavingRow l D cy ad _ _ _ (c0 := cc) (by omega) _) (cwV 2 hts gX3_descend_X3_leavingRow rfl rfl rfl (by decide +kernel) ⟨Nat.le_of_ble_eq_true rfl, Nat.le_of_ble_eq_true rfl⟩) rfl rfl (Nat.le_of_ble_eq_true rfl) ⟨Nat.le_of_ble_eq_true rfl, Nat.le_of_ble_eq_true rfl⟩ dX3_descend_46 (fun r7 S7 H locs e7 hP hD hS => ?_)
          obtain ⟨e7a, e7b⟩ := e7
          rw [e7a]
          rw [e7b] at hP hD
          refine lv_istore (lv' := [(7, .int (kLv (kFind U aim sg) cc (kDir (kFind U aim sg) cc))), (6, .int (kDir (kFind U aim sg) cc)), (5, .int (nI cc)), (4, .int (nI i)), (0, .ref (ad 0)), (1, .int aim), (2, .int sg), (3, .int lv)]) hx hb dX3_descend_49 hl (by decide) rfl (fun ls hl => ?_)
          refine lv_iload hx hb dX3_descend_51 (lv_at hl 0 rfl) ?_
          refine lv_if_ge (tgt := 57) hx hb dX3_descend_53 (by decide) (fun c8 => ?_) (fun c8 => ?_)
          · skip
            obtain ⟨rr, hrr, hrre⟩ := entIx kLv_ix (fun q => absurd c8 (Int32.not_le.mpr q))
            have qq9 : (kLv (kFind U aim sg) cc (kDir (kFind U aim sg) cc)).toNatClampNeg = rr := (by rw [hrre, nI_clamp (by omega)])
            rw [hrre] at hl
            refine lv_aload_n hx hb dX3_descend_57 rfl (lv_at hl 4 rfl) ?_
            refine lv_iload hx hb dX3_descend_58 (lv_at hl 0 rfl) ?_
            refine lv_iload hx hb dX3_descend_60 (lv_at hl 2 rfl) ?_
            refine lv_iload hx hb dX3_descend_62 (lv_at hl 1 rfl) ?_
            refine dCallv (As := [.int (nI rr), .int (nI cc), .int (kDir (kFind U aim sg) cc)]) (rest := []) hx hb hml hown hts hK hP hD hS hA hl.1 (cD_exchange l D cy ad _ _ _ (a := rr) (c0 := cc) (by omega) (by omega) _) (cwV 3 hts gX3_descend_X3_exchange rfl rfl rfl (by decide +kernel) ⟨Nat.le_of_ble_eq_true rfl, Nat.le_of_ble_eq_true rfl⟩) rfl rfl (Nat.le_of_ble_eq_true rfl) ⟨Nat.le_of_ble_eq_true rfl, Nat.le_of_ble_eq_true rfl⟩ dX3_descend_64 (fun S9 H locs e9 hP hD hS => ?_)
            rw [show S9 = _ from e9] at hP hD
            refine lv_iinc (v := nI (i + 1)) (lv' := [(4, .int (nI (i + 1))), (7, .int (nI rr)), (6, .int (kDir (kFind U aim sg) cc)), (5, .int (nI cc)), (0, .ref (ad 0)), (1, .int aim), (2, .int sg), (3, .int lv)]) hx hb dX3_descend_67 hl (k := 3) rfl (nI_1 _) (by decide) rfl (fun ls hl => ?_)
            refine lv_goto (tgt := 8) hx hb dX3_descend_70 (by decide) ?_
            exact ih (i + 1) _ _ _ _ (by omega) (by rw [← hU, kDesN_s, if_pos c5, qq8, if_pos c8, qq9]) hP hD hS (lv_sub hl [0, 4, 5, 6, 7] rfl)
          · skip
            exact W.vret hx hb hr (fun t ht hW => ⟨⟨_, rfl, by rw [← hU, kDesN_s, if_pos c5, qq8, if_neg c8], by rw [ht]; exact hP, va_K.moved hW.alike hK, hD⟩, hS.F ht⟩) hS.2.2 dX3_descend_56
        · skip
          exact W.vret hx hb hr (fun t ht hW => ⟨⟨_, rfl, by rw [← hU, kDesN_s, if_neg c5], by rw [ht]; exact hP, va_K.moved hW.alike hK, hD⟩, hS.F ht⟩) hS.2.2 dX3_descend_32
  exact L8 1000000 0 _ _ _ _ (by omega) rfl hP hD hS (lv_sub hl [0, 1, 2, 3, 4] rfl)
end
section
/-! going to a point, asking there, lifting a row, the limits -/
def kGo (S : DS) (r : Nat) (b lv : Int32) : DS := kDes S (nI r) (if b = 0 then -1 else nI 1) lv
def fVi (S : DS) (k : Nat) (v : Int64) : Int64 := if dI S 2 k = 0 then v else if ¬ dI S 4 k = 0 then v else v + kCost S k
def kVio (S : DS) : Int64 := lpN (fVi S) 27 0 0
/-- isFeasible: the state behind it, and the answer -/
def kFe (S : DS) : DS := kDes S (-1) (nI 1) (nI 1)
def kFeB (S : DS) : Int32 := if ¬ lg_cmp (kVio (kFe S)) 0 = 0 then nI 0 else nI 1
def kNum (S : DS) (r : Nat) : Int64 := dRo S r 6 + (dI S 3 r).toInt64 * dSc S
def kSgn (S : DS) (r : Nat) : Int32 := cmpL (dRo S r 6) 0
def kLift1 (S : DS) (r : Nat) : DS := sI (sI S 8 r (-1)) 2 r (nI 0)
/-- lift -/
def kLift (S : DS) (row : Int32) : DS := if row < 0 then S else if nI 14 < row then S else if dI S 8 row.toNatClampNeg < 0 then kLift1 S row.toNatClampNeg else if nI 6 ≤ dI S 8 row.toNatClampNeg then kLift1 S row.toNatClampNeg
  else kLift1 (sI S 9 (dI S 8 row.toNatClampNeg).toNatClampNeg (-1)) row.toNatClampNeg
/-- startLimit -/
def kLim (S : DS) (r c : Nat) (x : Int32) : DS := sI (sI (sI (sI (sI (sRo (sRo S r c 1) r 6 (-x).toInt64) 2 r (nI 1)) 3 r x) 5 r (if x ≤ 0 then nI 0 else nI 1)) 6 r (if x ≤ 0 then nI 1 else nI 0)) 7 r (if x ≤ 0 then nI 1 else -1)
set_option maxHeartbeats 4000000 in
set_option maxRecDepth 100000 in
theorem cD_settle (l : Launch) (D : va_G) (cy : Nat → ClassId) (ad : Nat → Nat) (X : va_W) (S : DS) (sz : Nat)  : Met l yX3_settle wsX3_settle (rm9 4 106) (dPc D cy ad X S sz [.ref (ad 0)]) (dQv D cy ad X S sz (fun S' => S' = kDes S (-1) (nI 1) (nI 4))) 0 0 (dA cy ad X S sz) := by
  refine dHead (cc := cX3_settle) (maxL := 1) (ret := none) (by decide) rfl (Nat.le_of_ble_eq_true rfl) ?_
  intro p e s m below meth c ls hx hb hr hlocks hml hown hts hsz hP hK hD hS hA hl
  have hin : ∀ w ∈ u_ws RX3 TX3 12, w ∈ wsX3_settle := by decide +kernel
  have hown : s.vm.findClass RX3 = some m.cls := hown
  have hl : lv_has ls 1 [(0, .ref (ad 0))] := hl
  refine lv_aload_n hx hb dX3_settle_0 rfl (lv_at hl 0 rfl) ?_
  refine lv_iconst (v := -1) hx hb dX3_settle_1 (by decide) ?_
  refine lv_iconst (v := nI 1) hx hb dX3_settle_2 (by decide) ?_
  refine lv_iconst (v := nI 4) hx hb dX3_settle_3 (by decide) ?_
  refine dCallv (As := [.int (-1), .int (nI 1), .int (nI 4)]) (rest := []) hx hb hml hown hts hK hP hD hS hA hl.1 (cD_descend l D cy ad _ _ _ (-1) (nI 1) (nI 4) (Or.inl rfl)) (cwV 3 hts gX3_settle_X3_descend rfl rfl rfl (by decide +kernel) ⟨Nat.le_of_ble_eq_true rfl, Nat.le_of_ble_eq_true rfl⟩) rfl rfl (Nat.le_of_ble_eq_true rfl) ⟨Nat.le_of_ble_eq_true rfl, Nat.le_of_ble_eq_true rfl⟩ dX3_settle_4 (fun S1 H locs e1 hP hD hS => ?_)
  rw [show S1 = _ from e1] at hP hD
  exact W.vret hx hb hr (fun t ht hW => ⟨⟨_, rfl, rfl, by rw [ht]; exact hP, va_K.moved hW.alike hK, hD⟩, hS.F ht⟩) hS.2.2 dX3_settle_7
set_option maxHeartbeats 4000000 in
set_option maxRecDepth 100000 in
theorem cD_goTo (l : Launch) (D : va_G) (cy : Nat → ClassId) (ad : Nat → Nat) (X : va_W) (S : DS) (sz : Nat) {r0 : Nat} (hr0 : r0 < 27) (b lv : Int32) : Met l yX3_goTo wsX3_goTo (rm9 4 106) (dPc D cy ad X S sz [.ref (ad 0), .int (nI r0), .int b, .int lv]) (dQv D cy ad X S sz (fun S' => S' = kGo S r0 b lv)) 0 0 (dA cy ad X S sz) := by
  refine dHead (cc := cX3_goTo) (maxL := 4) (ret := none) (by decide) rfl (Nat.le_of_ble_eq_true rfl) ?_
  intro p e s m below meth c ls hx hb hr hlocks hml hown hts hsz hP hK hD hS hA hl
  have hin : ∀ w ∈ u_ws RX3 TX3 12, w ∈ wsX3_goTo := by decide +kernel
  have hown : s.vm.findClass RX3 = some m.cls := hown
  have hl : lv_has ls 4 [(0, .ref (ad 0)), (1, .int (nI r0)), (2, .int b), (3, .int lv)] := hl
  refine lv_aload_n hx hb dX3_goTo_0 rfl (lv_at hl 0 rfl) ?_
  refine lv_iload_n hx hb dX3_goTo_1 rfl (lv_at hl 1 rfl) ?_
  refine lv_if_lt (tgt := 11) hx hb dX3_goTo_2 (by decide) (fun c1 => ?_) (fun c1 => ?_)
  · exact absurd c1 (nI_pos (by omega))
  · skip
    refine lv_iload_n hx hb dX3_goTo_5 rfl (lv_at hl 1 rfl) ?_
    refine lv_bipush (v := nI 27) hx hb dX3_goTo_6 (by decide) ?_
    refine lv_icmp_lt (tgt := 15) hx hb dX3_goTo_8 (by decide) (fun c2 => ?_) (fun c2 => ?_)
    · rw [nI_ltI (by omega) (by omega)] at c2
      refine lv_iload_n hx hb dX3_goTo_15 rfl (lv_at hl 1 rfl) ?_
      refine lv_iload_n hx hb dX3_goTo_16 rfl (lv_at hl 2 rfl) ?_
      refine lv_if_eq (tgt := 24) hx hb dX3_goTo_17 (by decide) (fun c3 => ?_) (fun c3 => ?_)
      · skip
        refine lv_iconst (v := -1) hx hb dX3_goTo_24 (by decide) ?_
        refine lv_iload_n hx hb dX3_goTo_25 rfl (lv_at hl 3 rfl) ?_
        refine dCallv (As := [.int (nI r0), .int (-1), .int lv]) (rest := []) hx hb hml hown hts hK hP hD hS hA hl.1 (cD_descend l D cy ad _ _ _ (nI r0) (-1) lv (Or.inr ⟨r0, hr0, rfl⟩)) (cwV 3 hts gX3_goTo_X3_descend rfl rfl rfl (by decide +kernel) ⟨Nat.le_of_ble_eq_true rfl, Nat.le_of_ble_eq_true rfl⟩) rfl rfl (Nat.le_of_ble_eq_true rfl) ⟨Nat.le_of_ble_eq_true rfl, Nat.le_of_ble_eq_true rfl⟩ dX3_goTo_26 (fun S4 H locs e4 hP hD hS => ?_)
        rw [show S4 = _ from e4] at hP hD
        exact W.vret hx hb hr (fun t ht hW => ⟨⟨_, rfl, by simp [kGo, c1, c3, c2], by rw [ht]; exact hP, va_K.moved hW.alike hK, hD⟩, hS.F ht⟩) hS.2.2 dX3_goTo_29
      · skip
        refine lv_iconst (v := nI 1) hx hb dX3_goTo_20 (by decide) ?_
        refine lv_goto (tgt := 25) hx hb dX3_goTo_21 (by decide) ?_
        refine lv_iload_n hx hb dX3_goTo_25 rfl (lv_at hl 3 rfl) ?_
        refine dCallv (As := [.int (nI r0), .int (nI 1), .int lv]) (rest := []) hx hb hml hown hts hK hP hD hS hA hl.1 (cD_descend l D cy ad _ _ _ (nI r0) (nI 1) lv (Or.inr ⟨r0, hr0, rfl⟩)) (cwV 3 hts gX3_goTo_X3_descend rfl rfl rfl (by decide +kernel) ⟨Nat.le_of_ble_eq_true rfl, Nat.le_of_ble_eq_true rfl⟩) rfl rfl (Nat.le_of_ble_eq_true rfl) ⟨Nat.le_of_ble_eq_true rfl, Nat.le_of_ble_eq_true rfl⟩ dX3_goTo_26 (fun S5 H locs e5 hP hD hS => ?_)
        rw [show S5 = _ from e5] at hP hD
        exact W.vret hx hb hr (fun t ht hW => ⟨⟨_, rfl, by simp [kGo, c1, c3, c2], by rw [ht]; exact hP, va_K.moved hW.alike hK, hD⟩, hS.F ht⟩) hS.2.2 dX3_goTo_29
    · exact absurd c2 (by rw [nI_ltI (by omega) (by omega)]; omega)
set_option maxHeartbeats 4000000 in
set_option maxRecDepth 100000 in
theorem cD_isFeasible (l : Launch) (D : va_G) (cy : Nat → ClassId) (ad : Nat → Nat) (X : va_W) (S : DS) (sz : Nat)  : Met l yX3_isFeasible wsX3_isFeasible (rm9 4 106) (dPc D cy ad X S sz [.ref (ad 0)]) (dQi D cy ad X S sz (fun r S' => r = kFeB S ∧ S' = kFe S)) 0 0 (dA cy ad X S sz) := by
  refine dHead (cc := cX3_isFeasible) (maxL := 4) (ret := (some .boolean)) (by decide) rfl (Nat.le_of_ble_eq_true rfl) ?_
  intro p e s m below meth c ls hx hb hr hlocks hml hown hts hsz hP hK hD hS hA hl
  have hin : ∀ w ∈ u_ws RX3 TX3 12, w ∈ wsX3_isFeasible := by decide +kernel
  have hown : s.vm.findClass RX3 = some m.cls := hown
  have hl : lv_has ls 4 [(0, .ref (ad 0))] := hl
  refine lv_aload_n hx hb dX3_isFeasible_0 rfl (lv_at hl 0 rfl) ?_
  refine lv_iconst (v := -1) hx hb dX3_isFeasible_1 (by decide) ?_
  refine lv_iconst (v := nI 1) hx hb dX3_isFeasible_2 (by decide) ?_
  refine lv_iconst (v := nI 1) hx hb dX3_isFeasible_3 (by decide) ?_
  refine dCallv (As := [.int (-1), .int (nI 1), .int (nI 1)]) (rest := []) hx hb hml hown hts hK hP hD hS hA hl.1 (cD_descend l D cy ad _ _ _ (-1) (nI 1) (nI 1) (Or.inl rfl)) (cwV 3 hts gX3_isFeasible_X3_descend rfl rfl rfl (by decide +kernel) ⟨Nat.le_of_ble_eq_true rfl, Nat.le_of_ble_eq_true rfl⟩) rfl rfl (Nat.le_of_ble_eq_true rfl) ⟨Nat.le_of_ble_eq_true rfl, Nat.le_of_ble_eq_true rfl⟩ dX3_isFeasible_4 (fun S1 H locs e1 hP hD hS => ?_)
  rw [show S1 = _ from e1] at hP hD
  have hk1 : kDes S (-1) (nI 1) (nI 1) = kFe S := rfl
  rw [hk1] at hP hD
  refine lv_lconst (v := 0) hx hb dX3_isFeasible_7 (by decide) ?_
  refine lv_lstore_n (lv' := [(1, .long 0), (0, .ref (ad 0))]) hx hb dX3_isFeasible_8 rfl hl (by decide) rfl (fun ls hl => ?_)
  refine lv_iconst (v := nI 0) hx hb dX3_isFeasible_9 (by decide) ?_
  refine lv_istore_n (lv' := [(3, .int (nI 0)), (1, .long 0), (0, .ref (ad 0))]) hx hb dX3_isFeasible_10 rfl hl (by decide) rfl (fun ls hl => ?_)
  have L11 : ∀ (n k : Nat) (q : Int64) (H : Heap) (locs : List Loc) (ls : Array Slot), k + n = 27 → va_P D vwCl (wD cy ad (kFe S) ++ X) H → va_D (dA cy ad X S sz) (wD cy ad (kFe S) ++ X) → va_S (dA cy ad X S sz) s.heap H locs → lv_has ls 4 [(3, .int (nI k)), (0, .ref (ad 0)), (1, .long q)] → (∀ (H : Heap) (locs : List Loc) (ls : Array Slot), va_P D vwCl (wD cy ad (kFe S) ++ X) H → va_D (dA cy ad X S sz) (wD cy ad (kFe S) ++ X) → va_S (dA cy ad X S sz) s.heap H locs → lv_has ls 4 [(3, .int (nI 27)), (0, .ref (ad 0)), (1, .long (lpN (fVi (kFe S)) n k q))] → W p l e (headSpec wsX3_isFeasible (rm9 4 106)).room s m ([.ref (ad 0)] : List Value).toArray below meth c H locs 0 0 (MQ below (dQi D cy ad X S sz (fun r S' => r = kFeB S ∧ S' = kFe S)) ([.ref (ad 0)] : List Value).toArray s 0 0 (dA cy ad X S sz)) (F0 m 49 ls [])) → W p l e (headSpec wsX3_isFeasible (rm9 4 106)).room s m ([.ref (ad 0)] : List Value).toArray below meth c H locs 0 0 (MQ below (dQi D cy ad X S sz (fun r S' => r = kFeB S ∧ S' = kFe S)) ([.ref (ad 0)] : List Value).toArray s 0 0 (dA cy ad X S sz)) (F0 m 11 ls []) := by
    intro n
    induction n with
    | zero =>
      intro k q H locs ls hk hP hD hS hl hex
      obtain rfl : k = 27 := by omega
      refine lv_iload_n hx hb dX3_isFeasible_11 rfl (lv_at hl 0 rfl) ?_
      refine lv_bipush (v := nI 27) hx hb dX3_isFeasible_12 (by decide) ?_
      refine lv_icmp_ge (tgt := 49) hx hb dX3_isFeasible_14 (by decide) (fun c2 => ?_) (fun c2 => ?_)
      · rw [nI_leI (by omega) (by omega)] at c2
        exact hex _ _ _ hP hD hS (lv_sub hl [0, 1, 2] rfl)
      · exact absurd c2 (by rw [nI_leI (by omega) (by omega)]; omega)
    | succ n ih =>
      intro k q H locs ls hk hP hD hS hl hex
      have hk11 : k < 27 := by omega
      refine lv_iload_n hx hb dX3_isFeasible_11 rfl (lv_at hl 0 rfl) ?_
      refine lv_bipush (v := nI 27) hx hb dX3_isFeasible_12 (by decide) ?_
      refine lv_icmp_ge (tgt := 49) hx hb dX3_isFeasible_14 (by decide) (fun c3 => ?_) (fun c3 => ?_)
      · exact absurd c3 (by rw [nI_leI (by omega) (by omega)]; omega)
      · rw [nI_leI (by omega) (by omega)] at c3
        refine lv_aload_n hx hb dX3_isFeasible_17 rfl (lv_at hl 1 rfl) ?_
        refine rD_get (v := .ref (ad 2)) hx hb hts hin hown hK hP 2 (by decide) rfl (by decide +kernel) dX3_isFeasible_18 ?_
        refine lv_iload_n hx hb dX3_isFeasible_21 rfl (lv_at hl 0 rfl) ?_
        refine rD_zld (i := k) hx hb hK hP (by omega) dX3_isFeasible_22 ?_
        refine lv_if_eq (tgt := 43) hx hb dX3_isFeasible_23 (by decide) (fun c4 => ?_) (fun c4 => ?_)
        · skip
          refine lv_iinc (v := nI (k + 1)) (lv' := [(3, .int (nI (k + 1))), (0, .ref (ad 0)), (1, .long q)]) hx hb dX3_isFeasible_43 hl (k := 0) rfl (nI_1 _) (by decide) rfl (fun ls hl => ?_)
          refine lv_goto (tgt := 11) hx hb dX3_isFeasible_46 (by decide) ?_
          have he : (fVi (kFe S)) k q = q := by simp [fVi, c4, c3]
          rw [lpN_s, he] at hex
          exact ih ((k + 1)) q _ _ _ (by omega) hP hD hS (lv_sub hl [0, 1, 2] rfl) hex
        · skip
          refine lv_aload_n hx hb dX3_isFeasible_26 rfl (lv_at hl 1 rfl) ?_
          refine rD_get (v := .ref (ad 4)) hx hb hts hin hown hK hP 4 (by decide) rfl (by decide +kernel) dX3_isFeasible_27 ?_
          refine lv_iload_n hx hb dX3_isFeasible_30 rfl (lv_at hl 0 rfl) ?_
          refine rD_ild (i := k) hx hb hK hP 4 (by decide) (by decide) (by omega) dX3_isFeasible_31 ?_
          refine lv_if_ne (tgt := 43) hx hb dX3_isFeasible_32 (by decide) (fun c5 => ?_) (fun c5 => ?_)
          · skip
            refine lv_iinc (v := nI (k + 1)) (lv' := [(3, .int (nI (k + 1))), (0, .ref (ad 0)), (1, .long q)]) hx hb dX3_isFeasible_43 hl (k := 0) rfl (nI_1 _) (by decide) rfl (fun ls hl => ?_)
            refine lv_goto (tgt := 11) hx hb dX3_isFeasible_46 (by decide) ?_
            have he : (fVi (kFe S)) k q = q := by simp [fVi, c4, c5, c3]
            rw [lpN_s, he] at hex
            exact ih ((k + 1)) q _ _ _ (by omega) hP hD hS (lv_sub hl [0, 1, 2] rfl) hex
          · skip
            refine lv_lload_n hx hb dX3_isFeasible_35 rfl (lv_at hl 2 rfl) ?_
            refine lv_aload_n hx hb dX3_isFeasible_36 rfl (lv_at hl 1 rfl) ?_
            refine lv_iload_n hx hb dX3_isFeasible_37 rfl (lv_at hl 0 rfl) ?_
            refine dCalll (As := [.int (nI k)]) (rest := [.long q]) hx hb hml hown hts hK hP hD hS hA hl.1 (cD_costOf l D cy ad _ _ _ (k := k) (by omega)) (cwV 1 hts gX3_isFeasible_X3_costOf rfl rfl rfl (by decide +kernel) ⟨Nat.le_of_ble_eq_true rfl, Nat.le_of_ble_eq_true rfl⟩) rfl rfl (Nat.le_of_ble_eq_true rfl) ⟨Nat.le_of_ble_eq_true rfl, Nat.le_of_ble_eq_true rfl⟩ dX3_isFeasible_38 (fun r6 S6 H locs e6 hP hD hS => ?_)
            obtain ⟨e6a, e6b⟩ := e6
            rw [e6a]
            rw [e6b] at hP hD
            refine lv_ladd hx hb dX3_isFeasible_41 ?_
            refine lv_lstore_n (lv' := [(1, .long (q + (kCost (kFe S) k))), (3, .int (nI k)), (0, .ref (ad 0))]) hx hb dX3_isFeasible_42 rfl hl (by decide) rfl (fun ls hl => ?_)
            refine lv_iinc (v := nI (k + 1)) (lv' := [(3, .int (nI (k + 1))), (1, .long (q + (kCost (kFe S) k))), (0, .ref (ad 0))]) hx hb dX3_isFeasible_43 hl (k := 1) rfl (nI_1 _) (by decide) rfl (fun ls hl => ?_)
            refine lv_goto (tgt := 11) hx hb dX3_isFeasible_46 (by decide) ?_
            have he : (fVi (kFe S)) k q = (q + (kCost (kFe S) k)) := by simp [fVi, c4, c5, c3]
            rw [lpN_s, he] at hex
            exact ih ((k + 1)) (q + (kCost (kFe S) k)) _ _ _ (by omega) hP hD hS (lv_sub hl [0, 2, 1] rfl) hex
  refine L11 27 0 0 _ _ _ (by omega) hP hD hS (lv_sub hl [0, 2, 1] rfl) (fun H locs ls hP hD hS hl => ?_)
  refine lv_lload_n hx hb dX3_isFeasible_49 rfl (lv_at hl 2 rfl) ?_
  refine lv_lconst (v := 0) hx hb dX3_isFeasible_50 (by decide) ?_
  refine W.lcmp hx hb dX3_isFeasible_51 ?_
  refine lv_if_ne (tgt := 59) hx hb dX3_isFeasible_52 (by decide) (fun c7 => ?_) (fun c7 => ?_)
  · skip
    refine lv_iconst (v := nI 0) hx hb dX3_isFeasible_59 (by decide) ?_
    exact W.zret hx hb hr (by decide) (fun t ht hW => ⟨⟨_, _, rfl, ⟨by simp [kFeB, kVio, c7], rfl⟩, by rw [ht]; exact hP, va_K.moved hW.alike hK, hD⟩, hS.F ht⟩) hS.2.2 dX3_isFeasible_60
  · skip
    refine lv_iconst (v := nI 1) hx hb dX3_isFeasible_55 (by decide) ?_
    refine lv_goto (tgt := 60) hx hb dX3_isFeasible_56 (by decide) ?_
    exact W.zret hx hb hr (by decide) (fun t ht hW => ⟨⟨_, _, rfl, ⟨by simp [kFeB, kVio, c7], rfl⟩, by rw [ht]; exact hP, va_K.moved hW.alike hK, hD⟩, hS.F ht⟩) hS.2.2 dX3_isFeasible_60
set_option maxHeartbeats 4000000 in
set_option maxRecDepth 100000 in
theorem cD_denominator (l : Launch) (D : va_G) (cy : Nat → ClassId) (ad : Nat → Nat) (X : va_W) (S : DS) (sz : Nat)  : Met l yX3_denominator wsX3_denominator (rm9 0 0) (dPc D cy ad X S sz [.ref (ad 0)]) (dQl D cy ad X S sz (fun r S' => r = dSc S ∧ S' = S)) 0 0 (dA cy ad X S sz) := by
  refine dHead (cc := cX3_denominator) (maxL := 1) (ret := (some .long)) (by decide) rfl (Nat.le_of_ble_eq_true rfl) ?_
  intro p e s m below meth c ls hx hb hr hlocks hml hown hts hsz hP hK hD hS hA hl
  have hin : ∀ w ∈ u_ws RX3 TX3 12, w ∈ wsX3_denominator := by decide +kernel
  have hown : s.vm.findClass RX3 = some m.cls := hown
  have hl : lv_has ls 1 [(0, .ref (ad 0))] := hl
  refine lv_aload_n hx hb dX3_denominator_0 rfl (lv_at hl 0 rfl) ?_
  refine rD_get (v := .long (dSc S)) hx hb hts hin hown hK hP 1 (by decide) rfl (by decide +kernel) dX3_denominator_1 ?_
  exact W.lret hx hb hr (fun t ht hW => ⟨⟨_, _, rfl, ⟨rfl, rfl⟩, by rw [ht]; exact hP, va_K.moved hW.alike hK, hD⟩, hS.F ht⟩) hS.2.2 dX3_denominator_4
set_option maxHeartbeats 4000000 in
set_option maxRecDepth 100000 in
theorem cD_numerator (l : Launch) (D : va_G) (cy : Nat → ClassId) (ad : Nat → Nat) (X : va_W) (S : DS) (sz : Nat) {r0 : Nat} (hr0 : r0 < 27) : Met l yX3_numerator wsX3_numerator (rm9 0 0) (dPc D cy ad X S sz [.ref (ad 0), .int (nI r0)]) (dQl D cy ad X S sz (fun r S' => r = kNum S r0 ∧ S' = S)) 0 0 (dA cy ad X S sz) := by
  refine dHead (cc := cX3_numerator) (maxL := 2) (ret := (some .long)) (by decide) rfl (Nat.le_of_ble_eq_true rfl) ?_
  intro p e s m below meth c ls hx hb hr hlocks hml hown hts hsz hP hK hD hS hA hl
  have hin : ∀ w ∈ u_ws RX3 TX3 12, w ∈ wsX3_numerator := by decide +kernel
  have hown : s.vm.findClass RX3 = some m.cls := hown
  have hl : lv_has ls 2 [(0, .ref (ad 0)), (1, .int (nI r0))] := hl
  refine lv_iload_n hx hb dX3_numerator_0 rfl (lv_at hl 1 rfl) ?_
  refine lv_if_lt (tgt := 10) hx hb dX3_numerator_1 (by decide) (fun c1 => ?_) (fun c1 => ?_)
  · exact absurd c1 (nI_pos (by omega))
  · skip
    refine lv_iload_n hx hb dX3_numerator_4 rfl (lv_at hl 1 rfl) ?_
    refine lv_bipush (v := nI 27) hx hb dX3_numerator_5 (by decide) ?_
    refine lv_icmp_lt (tgt := 14) hx hb dX3_numerator_7 (by decide) (fun c2 => ?_) (fun c2 => ?_)
    · rw [nI_ltI (by omega) (by omega)] at c2
      refine lv_aload_n hx hb dX3_numerator_14 rfl (lv_at hl 0 rfl) ?_
      refine rD_get (v := .ref (ad 1)) hx hb hts hin hown hK hP 0 (by decide) rfl (by decide +kernel) dX3_numerator_15 ?_
      refine lv_iload_n hx hb dX3_numerator_18 rfl (lv_at hl 1 rfl) ?_
      refine rD_row (i := r0) hx hb hK hP (by omega) dX3_numerator_19 ?_
      refine lv_bipush (v := nI 6) hx hb dX3_numerator_20 (by decide) ?_
      refine rD_lld (n := r0) (i := 6) hx hb hK hP (by omega) (by omega) dX3_numerator_22 ?_
      refine lv_aload_n hx hb dX3_numerator_23 rfl (lv_at hl 0 rfl) ?_
      refine rD_get (v := .ref (ad 3)) hx hb hts hin hown hK hP 3 (by decide) rfl (by decide +kernel) dX3_numerator_24 ?_
      refine lv_iload_n hx hb dX3_numerator_27 rfl (lv_at hl 1 rfl) ?_
      refine rD_ild (i := r0) hx hb hK hP 3 (by decide) (by decide) (by omega) dX3_numerator_28 ?_
      refine lv_i2l hx hb dX3_numerator_29 (v := (dI S 3 r0).toInt64) rfl ?_
      refine lv_aload_n hx hb dX3_numerator_30 rfl (lv_at hl 0 rfl) ?_
      refine rD_get (v := .long (dSc S)) hx hb hts hin hown hK hP 1 (by decide) rfl (by decide +kernel) dX3_numerator_31 ?_
      refine lv_lmul hx hb dX3_numerator_34 ?_
      refine lv_ladd hx hb dX3_numerator_35 ?_
      exact W.lret hx hb hr (fun t ht hW => ⟨⟨_, _, rfl, ⟨rfl, rfl⟩, by rw [ht]; exact hP, va_K.moved hW.alike hK, hD⟩, hS.F ht⟩) hS.2.2 dX3_numerator_36
    · exact absurd c2 (by rw [nI_ltI (by omega) (by omega)]; omega)
set_option maxHeartbeats 4000000 in
set_option maxRecDepth 100000 in
theorem cD_signOf (l : Launch) (D : va_G) (cy : Nat → ClassId) (ad : Nat → Nat) (X : va_W) (S : DS) (sz : Nat) {r0 : Nat} (hr0 : r0 < 27) : Met l yX3_signOf wsX3_signOf (rm9 1 23) (dPc D cy ad X S sz [.ref (ad 0), .int (nI r0)]) (dQi D cy ad X S sz (fun r S' => r = kSgn S r0 ∧ S' = S)) 0 0 (dA cy ad X S sz) := by
  refine dHead (cc := cX3_signOf) (maxL := 2) (ret := (some .int)) (by decide) rfl (Nat.le_of_ble_eq_true rfl) ?_
  intro p e s m below meth c ls hx hb hr hlocks hml hown hts hsz hP hK hD hS hA hl
  have hin : ∀ w ∈ u_ws RX3 TX3 12, w ∈ wsX3_signOf := by decide +kernel
  have hown : s.vm.findClass RX3 = some m.cls := hown
  have hl : lv_has ls 2 [(0, .ref (ad 0)), (1, .int (nI r0))] := hl
  refine lv_iload_n hx hb dX3_signOf_0 rfl (lv_at hl 1 rfl) ?_
  refine lv_if_lt (tgt := 10) hx hb dX3_signOf_1 (by decide) (fun c1 => ?_) (fun c1 => ?_)
  · exact absurd c1 (nI_pos (by omega))
  · skip
    refine lv_iload_n hx hb dX3_signOf_4 rfl (lv_at hl 1 rfl) ?_
    refine lv_bipush (v := nI 27) hx hb dX3_signOf_5 (by decide) ?_
    refine lv_icmp_lt (tgt := 14) hx hb dX3_signOf_7 (by decide) (fun c2 => ?_) (fun c2 => ?_)
    · rw [nI_ltI (by omega) (by omega)] at c2
      refine lv_aload_n hx hb dX3_signOf_14 rfl (lv_at hl 0 rfl) ?_
      refine rD_get (v := .ref (ad 1)) hx hb hts hin hown hK hP 0 (by decide) rfl (by decide +kernel) dX3_signOf_15 ?_
      refine lv_iload_n hx hb dX3_signOf_18 rfl (lv_at hl 1 rfl) ?_
      refine rD_row (i := r0) hx hb hK hP (by omega) dX3_signOf_19 ?_
      refine lv_bipush (v := nI 6) hx hb dX3_signOf_20 (by decide) ?_
      refine rD_lld (n := r0) (i := 6) hx hb hK hP (by omega) (by omega) dX3_signOf_22 ?_
      refine lv_lconst (v := 0) hx hb dX3_signOf_23 (by decide) ?_
      refine pCalli (As := [.long (dRo S r0 6), .long 0]) (rest := []) hx hb hml hown hts hP hS hA hl.1 (cJ_cmp l _ (dRo S r0 6) 0) (va_cwS 2 hts gX3_signOf_J13_compare_74951 rfl rfl rfl (by decide +kernel) ⟨Nat.le_of_ble_eq_true rfl, Nat.le_of_ble_eq_true rfl⟩) rfl rfl (Nat.le_of_ble_eq_true rfl) ⟨Nat.le_of_ble_eq_true rfl, Nat.le_of_ble_eq_true rfl⟩ dX3_signOf_24 (fun r3 H locs e3 hP hS => ?_)
      rw [show r3 = cmpL (dRo S r0 6) 0 from e3]
      exact W.iret hx hb hr (fun t ht hW => ⟨⟨_, _, rfl, ⟨rfl, rfl⟩, by rw [ht]; exact hP, va_K.moved hW.alike hK, hD⟩, hS.F ht⟩) hS.2.2 dX3_signOf_27
    · exact absurd c2 (by rw [nI_ltI (by omega) (by omega)]; omega)
set_option maxHeartbeats 4000000 in
set_option maxRecDepth 100000 in
theorem cD_lift (l : Launch) (D : va_G) (cy : Nat → ClassId) (ad : Nat → Nat) (X : va_W) (S : DS) (sz : Nat) (row : Int32) : Met l yX3_lift wsX3_lift (rm9 0 0) (dPc D cy ad X S sz [.ref (ad 0), .int row]) (dQv D cy ad X S sz (fun S' => S' = kLift S row)) 0 0 (dA cy ad X S sz) := by
  refine dHead (cc := cX3_lift) (maxL := 3) (ret := none) (by decide) rfl (Nat.le_of_ble_eq_true rfl) ?_
  intro p e s m below meth c ls hx hb hr hlocks hml hown hts hsz hP hK hD hS hA hl
  have hin : ∀ w ∈ u_ws RX3 TX3 12, w ∈ wsX3_lift := by decide +kernel
  have hown : s.vm.findClass RX3 = some m.cls := hown
  have hl : lv_has ls 3 [(0, .ref (ad 0)), (1, .int row)] := hl
  refine lv_iload_n hx hb dX3_lift_0 rfl (lv_at hl 1 rfl) ?_
  refine lv_if_lt (tgt := 10) hx hb dX3_lift_1 (by decide) (fun c1 => ?_) (fun c1 => ?_)
  · skip
    exact W.vret hx hb hr (fun t ht hW => ⟨⟨_, rfl, by simp only [kLift]; rw [if_pos c1], by rw [ht]; exact hP, va_K.moved hW.alike hK, hD⟩, hS.F ht⟩) hS.2.2 dX3_lift_10
  · skip
    refine lv_iload_n hx hb dX3_lift_4 rfl (lv_at hl 1 rfl) ?_
    refine lv_bipush (v := nI 14) hx hb dX3_lift_5 (by decide) ?_
    refine lv_icmp_le (tgt := 11) hx hb dX3_lift_7 (by decide) (fun c2 => ?_) (fun c2 => ?_)
    · skip
      obtain ⟨r0, hr0, hre⟩ := ixL 14 c1 (by rw [Int32.not_lt]; exact c2) (by decide)
      have qq8 : row.toNatClampNeg = r0 := (by rw [hre, nI_clamp (by omega)])
      rw [hre] at hl
      refine lv_aload_n hx hb dX3_lift_11 rfl (lv_at hl 0 rfl) ?_
      refine rD_get (v := .ref (ad 8)) hx hb hts hin hown hK hP 8 (by decide) rfl (by decide +kernel) dX3_lift_12 ?_
      refine lv_iload_n hx hb dX3_lift_15 rfl (lv_at hl 1 rfl) ?_
      refine rD_ild (i := r0) hx hb hK hP 8 (by decide) (by decide) (by omega) dX3_lift_16 ?_
      refine lv_istore_n (lv' := [(2, .int (dI S 8 r0)), (0, .ref (ad 0)), (1, .int (nI r0))]) hx hb dX3_lift_17 rfl hl (by decide) rfl (fun ls hl => ?_)
      refine lv_iload_n hx hb dX3_lift_18 rfl (lv_at hl 0 rfl) ?_
      refine lv_if_lt (tgt := 35) hx hb dX3_lift_19 (by decide) (fun c3 => ?_) (fun c3 => ?_)
      · skip
        refine lv_aload_n hx hb dX3_lift_35 rfl (lv_at hl 1 rfl) ?_
        refine rD_get (v := .ref (ad 8)) hx hb hts hin hown hK hP 8 (by decide) rfl (by decide +kernel) dX3_lift_36 ?_
        refine lv_iload_n hx hb dX3_lift_39 rfl (lv_at hl 2 rfl) ?_
        refine lv_iconst (v := -1) hx hb dX3_lift_40 (by decide) ?_
        refine rD_ist (i := r0) hx hb hK hP hD hS 8 (by decide) (by decide) (by omega) dX3_lift_41 (fun H locs hP hD hS => ?_)
        refine lv_aload_n hx hb dX3_lift_42 rfl (lv_at hl 1 rfl) ?_
        refine rD_get (v := .ref (ad 2)) hx hb hts hin hown hK hP 2 (by decide) rfl (by decide +kernel) dX3_lift_43 ?_
        refine lv_iload_n hx hb dX3_lift_46 rfl (lv_at hl 2 rfl) ?_
        refine lv_iconst (v := nI 0) hx hb dX3_lift_47 (by decide) ?_
        refine rD_zst (i := r0) hx hb hK hP hD hS (by omega) (by decide) dX3_lift_48 (fun H locs hP hD hS => ?_)
        exact W.vret hx hb hr (fun t ht hW => ⟨⟨_, rfl, by simp only [kLift]; rw [if_neg c1, if_neg (by rw [Int32.not_lt]; exact c2), qq8, if_pos c3]; rfl, by rw [ht]; exact hP, va_K.moved hW.alike hK, hD⟩, hS.F ht⟩) hS.2.2 dX3_lift_49
      · skip
        refine lv_iload_n hx hb dX3_lift_22 rfl (lv_at hl 0 rfl) ?_
        refine lv_bipush (v := nI 6) hx hb dX3_lift_23 (by decide) ?_
        refine lv_icmp_ge (tgt := 35) hx hb dX3_lift_25 (by decide) (fun c4 => ?_) (fun c4 => ?_)
        · skip
          refine lv_aload_n hx hb dX3_lift_35 rfl (lv_at hl 1 rfl) ?_
          refine rD_get (v := .ref (ad 8)) hx hb hts hin hown hK hP 8 (by decide) rfl (by decide +kernel) dX3_lift_36 ?_
          refine lv_iload_n hx hb dX3_lift_39 rfl (lv_at hl 2 rfl) ?_
          refine lv_iconst (v := -1) hx hb dX3_lift_40 (by decide) ?_
          refine rD_ist (i := r0) hx hb hK hP hD hS 8 (by decide) (by decide) (by omega) dX3_lift_41 (fun H locs hP hD hS => ?_)
          refine lv_aload_n hx hb dX3_lift_42 rfl (lv_at hl 1 rfl) ?_
          refine rD_get (v := .ref (ad 2)) hx hb hts hin hown hK hP 2 (by decide) rfl (by decide +kernel) dX3_lift_43 ?_
          refine lv_iload_n hx hb dX3_lift_46 rfl (lv_at hl 2 rfl) ?_
          refine lv_iconst (v := nI 0) hx hb dX3_lift_47 (by decide) ?_
          refine rD_zst (i := r0) hx hb hK hP hD hS (by omega) (by decide) dX3_lift_48 (fun H locs hP hD hS => ?_)
          exact W.vret hx hb hr (fun t ht hW => ⟨⟨_, rfl, by simp only [kLift]; rw [if_neg c1, if_neg (by rw [Int32.not_lt]; exact c2), qq8, if_neg c3, if_pos c4]; rfl, by rw [ht]; exact hP, va_K.moved hW.alike hK, hD⟩, hS.F ht⟩) hS.2.2 dX3_lift_49
        · skip
          obtain ⟨c0, hc0, hce⟩ := ixN 6 c3 (Int32.not_le.mp c4) (by decide)
          have qq9 : (dI S 8 r0).toNatClampNeg = c0 := (by rw [hce, nI_clamp (by omega)])
          rw [hce] at hl
          refine lv_aload_n hx hb dX3_lift_28 rfl (lv_at hl 1 rfl) ?_
          refine rD_get (v := .ref (ad 9)) hx hb hts hin hown hK hP 9 (by decide) rfl (by decide +kernel) dX3_lift_29 ?_
          refine lv_iload_n hx hb dX3_lift_32 rfl (lv_at hl 0 rfl) ?_
          refine lv_iconst (v := -1) hx hb dX3_lift_33 (by decide) ?_
          refine rD_ist9 (i := c0) hx hb hK hP hD hS (by omega) dX3_lift_34 (fun H locs hP hD hS => ?_)
          refine lv_aload_n hx hb dX3_lift_35 rfl (lv_at hl 1 rfl) ?_
          refine rD_get (v := .ref (ad 8)) hx hb hts hin hown hK hP 8 (by decide) rfl (by decide +kernel) dX3_lift_36 ?_
          refine lv_iload_n hx hb dX3_lift_39 rfl (lv_at hl 2 rfl) ?_
          refine lv_iconst (v := -1) hx hb dX3_lift_40 (by decide) ?_
          refine rD_ist (i := r0) hx hb hK hP hD hS 8 (by decide) (by decide) (by omega) dX3_lift_41 (fun H locs hP hD hS => ?_)
          refine lv_aload_n hx hb dX3_lift_42 rfl (lv_at hl 1 rfl) ?_
          refine rD_get (v := .ref (ad 2)) hx hb hts hin hown hK hP 2 (by decide) rfl (by decide +kernel) dX3_lift_43 ?_
          refine lv_iload_n hx hb dX3_lift_46 rfl (lv_at hl 2 rfl) ?_
          refine lv_iconst (v := nI 0) hx hb dX3_lift_47 (by decide) ?_
          refine rD_zst (i := r0) hx hb hK hP hD hS (by omega) (by decide) dX3_lift_48 (fun H locs hP hD hS => ?_)
          exact W.vret hx hb hr (fun t ht hW => ⟨⟨_, rfl, by simp only [kLift]; rw [if_neg c1, if_neg (by rw [Int32.not_lt]; exact c2), qq8, if_neg c3, if_neg c4, qq9]; rfl, by rw [ht]; exact hP, va_K.moved hW.alike hK, hD⟩, hS.F ht⟩) hS.2.2 dX3_lift_49
    · skip
      exact W.vret hx hb hr (fun t ht hW => ⟨⟨_, rfl, by simp only [kLift]; rw [if_neg c1, if_pos (Int32.not_le.mp c2)], by rw [ht]; exact hP, va_K.moved hW.alike hK, hD⟩, hS.F ht⟩) hS.2.2 dX3_lift_10
set_option maxHeartbeats 4000000 in
set_option maxRecDepth 100000 in
theorem cD_startLimit (l : Launch) (D : va_G) (cy : Nat → ClassId) (ad : Nat → Nat) (X : va_W) (S : DS) (sz : Nat) {r0 c0 : Nat} (hr0 : r0 < 27) (hc0 : c0 < 6) (x : Int32) : Met l yX3_startLimit wsX3_startLimit (rm9 0 0) (dPc D cy ad X S sz [.ref (ad 0), .int (nI r0), .int (nI c0), .int x]) (dQv D cy ad X S sz (fun S' => S' = kLim S r0 c0 x)) 0 0 (dA cy ad X S sz) := by
  refine dHead (cc := cX3_startLimit) (maxL := 4) (ret := none) (by decide) rfl (Nat.le_of_ble_eq_true rfl) ?_
  intro p e s m below meth c ls hx hb hr hlocks hml hown hts hsz hP hK hD hS hA hl
  have hin : ∀ w ∈ u_ws RX3 TX3 12, w ∈ wsX3_startLimit := by decide +kernel
  have hown : s.vm.findClass RX3 = some m.cls := hown
  have hl : lv_has ls 4 [(0, .ref (ad 0)), (1, .int (nI r0)), (2, .int (nI c0)), (3, .int x)] := hl
  refine lv_aload_n hx hb dX3_startLimit_0 rfl (lv_at hl 0 rfl) ?_
  refine rD_get (v := .ref (ad 1)) hx hb hts hin hown hK hP 0 (by decide) rfl (by decide +kernel) dX3_startLimit_1 ?_
  refine lv_iload_n hx hb dX3_startLimit_4 rfl (lv_at hl 1 rfl) ?_
  refine rD_row (i := r0) hx hb hK hP (by omega) dX3_startLimit_5 ?_
  refine lv_iload_n hx hb dX3_startLimit_6 rfl (lv_at hl 2 rfl) ?_
  refine lv_lconst (v := 1) hx hb dX3_startLimit_7 (by decide) ?_
  refine rD_lst (n := r0) (i := c0) hx hb hK hP hD hS (by omega) (by omega) dX3_startLimit_8 (fun H locs hP hD hS => ?_)
  refine lv_aload_n hx hb dX3_startLimit_9 rfl (lv_at hl 0 rfl) ?_
  refine rD_get (v := .ref (ad 1)) hx hb hts hin hown hK hP 0 (by decide) rfl (by decide +kernel) dX3_startLimit_10 ?_
  refine lv_iload_n hx hb dX3_startLimit_13 rfl (lv_at hl 1 rfl) ?_
  refine rD_row (i := r0) hx hb hK hP (by omega) dX3_startLimit_14 ?_
  refine lv_bipush (v := nI 6) hx hb dX3_startLimit_15 (by decide) ?_
  refine lv_iload_n hx hb dX3_startLimit_17 rfl (lv_at hl 3 rfl) ?_
  refine lv_ineg hx hb dX3_startLimit_18 ?_
  refine lv_i2l hx hb dX3_startLimit_19 (v := (-x).toInt64) rfl ?_
  refine rD_lst (n := r0) (i := 6) hx hb hK hP hD hS (by omega) (by omega) dX3_startLimit_20 (fun H locs hP hD hS => ?_)
  refine lv_aload_n hx hb dX3_startLimit_21 rfl (lv_at hl 0 rfl) ?_
  refine rD_get (v := .ref (ad 2)) hx hb hts hin hown hK hP 2 (by decide) rfl (by decide +kernel) dX3_startLimit_22 ?_
  refine lv_iload_n hx hb dX3_startLimit_25 rfl (lv_at hl 1 rfl) ?_
  refine lv_iconst (v := nI 1) hx hb dX3_startLimit_26 (by decide) ?_
  refine rD_zst (i := r0) hx hb hK hP hD hS (by omega) (by decide) dX3_startLimit_27 (fun H locs hP hD hS => ?_)
  refine lv_aload_n hx hb dX3_startLimit_28 rfl (lv_at hl 0 rfl) ?_
  refine rD_get (v := .ref (ad 3)) hx hb hts hin hown hK hP 3 (by decide) rfl (by decide +kernel) dX3_startLimit_29 ?_
  refine lv_iload_n hx hb dX3_startLimit_32 rfl (lv_at hl 1 rfl) ?_
  refine lv_iload_n hx hb dX3_startLimit_33 rfl (lv_at hl 3 rfl) ?_
  refine rD_ist (i := r0) hx hb hK hP hD hS 3 (by decide) (by decide) (by omega) dX3_startLimit_34 (fun H locs hP hD hS => ?_)
  refine lv_aload_n hx hb dX3_startLimit_35 rfl (lv_at hl 0 rfl) ?_
  refine rD_get (v := .ref (ad 5)) hx hb hts hin hown hK hP 5 (by decide) rfl (by decide +kernel) dX3_startLimit_36 ?_
  refine lv_iload_n hx hb dX3_startLimit_39 rfl (lv_at hl 1 rfl) ?_
  refine lv_iload_n hx hb dX3_startLimit_40 rfl (lv_at hl 3 rfl) ?_
  refine lv_if_le (tgt := 48) hx hb dX3_startLimit_41 (by decide) (fun c1 => ?_) (fun c1 => ?_)
  · skip
    refine lv_iconst (v := nI 0) hx hb dX3_startLimit_48 (by decide) ?_
    refine rD_ist (i := r0) hx hb hK hP hD hS 5 (by decide) (by decide) (by omega) dX3_startLimit_49 (fun H locs hP hD hS => ?_)
    refine lv_aload_n hx hb dX3_startLimit_50 rfl (lv_at hl 0 rfl) ?_
    refine rD_get (v := .ref (ad 6)) hx hb hts hin hown hK hP 6 (by decide) rfl (by decide +kernel) dX3_startLimit_51 ?_
    refine lv_iload_n hx hb dX3_startLimit_54 rfl (lv_at hl 1 rfl) ?_
    refine lv_iload_n hx hb dX3_startLimit_55 rfl (lv_at hl 3 rfl) ?_
    refine lv_if_le (tgt := 63) hx hb dX3_startLimit_56 (by decide) (fun c2 => ?_) (fun c2 => ?_)
    · skip
      refine lv_iconst (v := nI 1) hx hb dX3_startLimit_63 (by decide) ?_
      refine rD_ist (i := r0) hx hb hK hP hD hS 6 (by decide) (by decide) (by omega) dX3_startLimit_64 (fun H locs hP hD hS => ?_)
      refine lv_aload_n hx hb dX3_startLimit_65 rfl (lv_at hl 0 rfl) ?_
      refine rD_get (v := .ref (ad 7)) hx hb hts hin hown hK hP 7 (by decide) rfl (by decide +kernel) dX3_startLimit_66 ?_
      refine lv_iload_n hx hb dX3_startLimit_69 rfl (lv_at hl 1 rfl) ?_
      refine lv_iload_n hx hb dX3_startLimit_70 rfl (lv_at hl 3 rfl) ?_
      refine lv_if_le (tgt := 78) hx hb dX3_startLimit_71 (by decide) (fun c3 => ?_) (fun c3 => ?_)
      · skip
        refine lv_iconst (v := nI 1) hx hb dX3_startLimit_78 (by decide) ?_
        refine rD_ist (i := r0) hx hb hK hP hD hS 7 (by decide) (by decide) (by omega) dX3_startLimit_79 (fun H locs hP hD hS => ?_)
        exact W.vret hx hb hr (fun t ht hW => ⟨⟨_, rfl, by simp [kLim, c3], by rw [ht]; exact hP, va_K.moved hW.alike hK, hD⟩, hS.F ht⟩) hS.2.2 dX3_startLimit_80
      · exact absurd c2 c3
    · exact absurd c1 c2
  · skip
    refine lv_iconst (v := nI 1) hx hb dX3_startLimit_44 (by decide) ?_
    refine lv_goto (tgt := 49) hx hb dX3_startLimit_45 (by decide) ?_
    refine rD_ist (i := r0) hx hb hK hP hD hS 5 (by decide) (by decide) (by omega) dX3_startLimit_49 (fun H locs hP hD hS => ?_)
    refine lv_aload_n hx hb dX3_startLimit_50 rfl (lv_at hl 0 rfl) ?_
    refine rD_get (v := .ref (ad 6)) hx hb hts hin hown hK hP 6 (by decide) rfl (by decide +kernel) dX3_startLimit_51 ?_
    refine lv_iload_n hx hb dX3_startLimit_54 rfl (lv_at hl 1 rfl) ?_
    refine lv_iload_n hx hb dX3_startLimit_55 rfl (lv_at hl 3 rfl) ?_
    refine lv_if_le (tgt := 63) hx hb dX3_startLimit_56 (by decide) (fun c4 => ?_) (fun c4 => ?_)
    · exact absurd c4 c1
    · skip
      refine lv_iconst (v := nI 0) hx hb dX3_startLimit_59 (by decide) ?_
      refine lv_goto (tgt := 64) hx hb dX3_startLimit_60 (by decide) ?_
      refine rD_ist (i := r0) hx hb hK hP hD hS 6 (by decide) (by decide) (by omega) dX3_startLimit_64 (fun H locs hP hD hS => ?_)
      refine lv_aload_n hx hb dX3_startLimit_65 rfl (lv_at hl 0 rfl) ?_
      refine rD_get (v := .ref (ad 7)) hx hb hts hin hown hK hP 7 (by decide) rfl (by decide +kernel) dX3_startLimit_66 ?_
      refine lv_iload_n hx hb dX3_startLimit_69 rfl (lv_at hl 1 rfl) ?_
      refine lv_iload_n hx hb dX3_startLimit_70 rfl (lv_at hl 3 rfl) ?_
      refine lv_if_le (tgt := 78) hx hb dX3_startLimit_71 (by decide) (fun c5 => ?_) (fun c5 => ?_)
      · exact absurd c5 c4
      · skip
        refine lv_iconst (v := -1) hx hb dX3_startLimit_74 (by decide) ?_
        refine lv_goto (tgt := 79) hx hb dX3_startLimit_75 (by decide) ?_
        refine rD_ist (i := r0) hx hb hK hP hD hS 7 (by decide) (by decide) (by omega) dX3_startLimit_79 (fun H locs hP hD hS => ?_)
        exact W.vret hx hb hr (fun t ht hW => ⟨⟨_, rfl, by simp [kLim, c5], by rw [ht]; exact hP, va_K.moved hW.alike hK, hD⟩, hS.F ht⟩) hS.2.2 dX3_startLimit_80
end
section
theorem dX1_init_0 : decode cX1_init 0 = .ok (.aload_n 0, 1) := by decide +kernel
theorem dX1_init_1 : decode cX1_init 1 = .ok (.invokespecial 3, 3) := by decide +kernel
theorem dX1_init_4 : decode cX1_init 4 = .ok (.aload_n 0, 1) := by decide +kernel
theorem dX1_init_5 : decode cX1_init 5 = .ok (.aload_n 1, 1) := by decide +kernel
theorem dX1_init_6 : decode cX1_init 6 = .ok (.putfield 9, 3) := by decide +kernel
theorem dX1_init_9 : decode cX1_init 9 = .ok (.aload_n 0, 1) := by decide +kernel
theorem dX1_init_10 : decode cX1_init 10 = .ok (.iload_n 2, 1) := by decide +kernel
theorem dX1_init_11 : decode cX1_init 11 = .ok (.putfield 15, 3) := by decide +kernel
theorem dX1_init_14 : decode cX1_init 14 = .ok (.aload_n 0, 1) := by decide +kernel
theorem dX1_init_15 : decode cX1_init 15 = .ok (.iload_n 3, 1) := by decide +kernel
theorem dX1_init_16 : decode cX1_init 16 = .ok (.putfield 19, 3) := by decide +kernel
theorem dX1_init_19 : decode cX1_init 19 = .ok (.aload_n 0, 1) := by decide +kernel
theorem dX1_init_20 : decode cX1_init 20 = .ok (.iload 4, 2) := by decide +kernel
theorem dX1_init_22 : decode cX1_init 22 = .ok (.putfield 22, 3) := by decide +kernel
theorem dX1_init_25 : decode cX1_init 25 = .ok (.aload_n 0, 1) := by decide +kernel
theorem dX1_init_26 : decode cX1_init 26 = .ok (.iload 5, 2) := by decide +kernel
theorem dX1_init_28 : decode cX1_init 28 = .ok (.putfield 25, 3) := by decide +kernel
theorem dX1_init_31 : decode cX1_init 31 = .ok (.return_, 1) := by decide +kernel
set_option maxRecDepth 20000 in
theorem ggX1_withConstant_X1_init : GoodIn wsX1_withConstant wsX1_init := goodIn_r _ [10, 11, 12, 13, 4, 5, 14, 6, 7, 15, 16, 17, 18, 19] (by decide +kernel) (by decide +kernel)
set_option maxRecDepth 20000 in
theorem gX1_withConstant_X1_init : GoodIn wsX1_withConstant (wsX1_init) := ggX1_withConstant_X1_init
theorem dX1_withConstant_0 : decode cX1_withConstant 0 = .ok (.new 10, 3) := by decide +kernel
theorem dX1_withConstant_3 : decode cX1_withConstant 3 = .ok (.dup, 1) := by decide +kernel
theorem dX1_withConstant_4 : decode cX1_withConstant 4 = .ok (.aload_n 0, 1) := by decide +kernel
theorem dX1_withConstant_5 : decode cX1_withConstant 5 = .ok (.getfield 9, 3) := by decide +kernel
theorem dX1_withConstant_8 : decode cX1_withConstant 8 = .ok (.aload_n 0, 1) := by decide +kernel
theorem dX1_withConstant_9 : decode cX1_withConstant 9 = .ok (.getfield 15, 3) := by decide +kernel
theorem dX1_withConstant_12 : decode cX1_withConstant 12 = .ok (.iload_n 1, 1) := by decide +kernel
theorem dX1_withConstant_13 : decode cX1_withConstant 13 = .ok (.aload_n 0, 1) := by decide +kernel
theorem dX1_withConstant_14 : decode cX1_withConstant 14 = .ok (.getfield 22, 3) := by decide +kernel
theorem dX1_withConstant_17 : decode cX1_withConstant 17 = .ok (.aload_n 0, 1) := by decide +kernel
theorem dX1_withConstant_18 : decode cX1_withConstant 18 = .ok (.getfield 25, 3) := by decide +kernel
theorem dX1_withConstant_21 : decode cX1_withConstant 21 = .ok (.invokespecial 28, 3) := by decide +kernel
theorem dX1_withConstant_24 : decode cX1_withConstant 24 = .ok (.areturn, 1) := by decide +kernel
set_option maxRecDepth 20000 in
theorem ggX1_withStrength_X1_init : GoodIn wsX1_withStrength wsX1_init := goodIn_r _ [9, 10, 11, 12, 4, 5, 6, 13, 14, 15, 16, 17, 18, 19] (by decide +kernel) (by decide +kernel)
set_option maxRecDepth 20000 in
theorem gX1_withStrength_X1_init : GoodIn wsX1_withStrength (wsX1_init) := ggX1_withStrength_X1_init
theorem dX1_withStrength_0 : decode cX1_withStrength 0 = .ok (.new 10, 3) := by decide +kernel
theorem dX1_withStrength_3 : decode cX1_withStrength 3 = .ok (.dup, 1) := by decide +kernel
theorem dX1_withStrength_4 : decode cX1_withStrength 4 = .ok (.aload_n 0, 1) := by decide +kernel
theorem dX1_withStrength_5 : decode cX1_withStrength 5 = .ok (.getfield 9, 3) := by decide +kernel
theorem dX1_withStrength_8 : decode cX1_withStrength 8 = .ok (.aload_n 0, 1) := by decide +kernel
theorem dX1_withStrength_9 : decode cX1_withStrength 9 = .ok (.getfield 15, 3) := by decide +kernel
theorem dX1_withStrength_12 : decode cX1_withStrength 12 = .ok (.aload_n 0, 1) := by decide +kernel
theorem dX1_withStrength_13 : decode cX1_withStrength 13 = .ok (.getfield 19, 3) := by decide +kernel
theorem dX1_withStrength_16 : decode cX1_withStrength 16 = .ok (.iload_n 1, 1) := by decide +kernel
theorem dX1_withStrength_17 : decode cX1_withStrength 17 = .ok (.iload_n 2, 1) := by decide +kernel
theorem dX1_withStrength_18 : decode cX1_withStrength 18 = .ok (.invokespecial 28, 3) := by decide +kernel
theorem dX1_withStrength_21 : decode cX1_withStrength 21 = .ok (.areturn, 1) := by decide +kernel
theorem dX1_coefficient_0 : decode cX1_coefficient 0 = .ok (.iload_n 1, 1) := by decide +kernel
theorem dX1_coefficient_1 : decode cX1_coefficient 1 = .ok (.ifCond .lt 12, 3) := by decide +kernel
theorem dX1_coefficient_4 : decode cX1_coefficient 4 = .ok (.iload_n 1, 1) := by decide +kernel
theorem dX1_coefficient_5 : decode cX1_coefficient 5 = .ok (.aload_n 0, 1) := by decide +kernel
theorem dX1_coefficient_6 : decode cX1_coefficient 6 = .ok (.getfield 9, 3) := by decide +kernel
theorem dX1_coefficient_9 : decode cX1_coefficient 9 = .ok (.arraylength, 1) := by decide +kernel
theorem dX1_coefficient_10 : decode cX1_coefficient 10 = .ok (.if_icmp .lt 7, 3) := by decide +kernel
theorem dX1_coefficient_13 : decode cX1_coefficient 13 = .ok (.iconst 0, 1) := by decide +kernel
theorem dX1_coefficient_14 : decode cX1_coefficient 14 = .ok (.goto 9, 3) := by decide +kernel
theorem dX1_coefficient_17 : decode cX1_coefficient 17 = .ok (.aload_n 0, 1) := by decide +kernel
theorem dX1_coefficient_18 : decode cX1_coefficient 18 = .ok (.getfield 9, 3) := by decide +kernel
theorem dX1_coefficient_21 : decode cX1_coefficient 21 = .ok (.iload_n 1, 1) := by decide +kernel
theorem dX1_coefficient_22 : decode cX1_coefficient 22 = .ok (.iaload, 1) := by decide +kernel
theorem dX1_coefficient_23 : decode cX1_coefficient 23 = .ok (.ireturn, 1) := by decide +kernel
theorem dX1_variables_0 : decode cX1_variables 0 = .ok (.iconst 0, 1) := by decide +kernel
theorem dX1_variables_1 : decode cX1_variables 1 = .ok (.istore_n 1, 1) := by decide +kernel
theorem dX1_variables_2 : decode cX1_variables 2 = .ok (.iconst 0, 1) := by decide +kernel
theorem dX1_variables_3 : decode cX1_variables 3 = .ok (.istore_n 2, 1) := by decide +kernel
theorem dX1_variables_4 : decode cX1_variables 4 = .ok (.iload_n 2, 1) := by decide +kernel
theorem dX1_variables_5 : decode cX1_variables 5 = .ok (.aload_n 0, 1) := by decide +kernel
theorem dX1_variables_6 : decode cX1_variables 6 = .ok (.getfield 9, 3) := by decide +kernel
theorem dX1_variables_9 : decode cX1_variables 9 = .ok (.arraylength, 1) := by decide +kernel
theorem dX1_variables_10 : decode cX1_variables 10 = .ok (.if_icmp .ge 24, 3) := by decide +kernel
theorem dX1_variables_13 : decode cX1_variables 13 = .ok (.aload_n 0, 1) := by decide +kernel
theorem dX1_variables_14 : decode cX1_variables 14 = .ok (.getfield 9, 3) := by decide +kernel
theorem dX1_variables_17 : decode cX1_variables 17 = .ok (.iload_n 2, 1) := by decide +kernel
theorem dX1_variables_18 : decode cX1_variables 18 = .ok (.iaload, 1) := by decide +kernel
theorem dX1_variables_19 : decode cX1_variables 19 = .ok (.ifCond .eq 9, 3) := by decide +kernel
theorem dX1_variables_22 : decode cX1_variables 22 = .ok (.iload_n 1, 1) := by decide +kernel
theorem dX1_variables_23 : decode cX1_variables 23 = .ok (.iconst 1, 1) := by decide +kernel
theorem dX1_variables_24 : decode cX1_variables 24 = .ok (.iload_n 2, 1) := by decide +kernel
theorem dX1_variables_25 : decode cX1_variables 25 = .ok (.ishl, 1) := by decide +kernel
theorem dX1_variables_26 : decode cX1_variables 26 = .ok (.ior, 1) := by decide +kernel
theorem dX1_variables_27 : decode cX1_variables 27 = .ok (.istore_n 1, 1) := by decide +kernel
theorem dX1_variables_28 : decode cX1_variables 28 = .ok (.iinc 2 1, 3) := by decide +kernel
theorem dX1_variables_31 : decode cX1_variables 31 = .ok (.goto (-27), 3) := by decide +kernel
theorem dX1_variables_34 : decode cX1_variables 34 = .ok (.iload_n 1, 1) := by decide +kernel
theorem dX1_variables_35 : decode cX1_variables 35 = .ok (.ireturn, 1) := by decide +kernel
theorem dX1_costAbove_0 : decode cX1_costAbove 0 = .ok (.aload_n 0, 1) := by decide +kernel
theorem dX1_costAbove_1 : decode cX1_costAbove 1 = .ok (.getfield 15, 3) := by decide +kernel
theorem dX1_costAbove_4 : decode cX1_costAbove 4 = .ok (.iconst 2, 1) := by decide +kernel
theorem dX1_costAbove_5 : decode cX1_costAbove 5 = .ok (.if_icmp .ne 7, 3) := by decide +kernel
theorem dX1_costAbove_8 : decode cX1_costAbove 8 = .ok (.iconst 0, 1) := by decide +kernel
theorem dX1_costAbove_9 : decode cX1_costAbove 9 = .ok (.goto 7, 3) := by decide +kernel
theorem dX1_costAbove_12 : decode cX1_costAbove 12 = .ok (.aload_n 0, 1) := by decide +kernel
theorem dX1_costAbove_13 : decode cX1_costAbove 13 = .ok (.getfield 25, 3) := by decide +kernel
theorem dX1_costAbove_16 : decode cX1_costAbove 16 = .ok (.ireturn, 1) := by decide +kernel
theorem dX1_costBelow_0 : decode cX1_costBelow 0 = .ok (.aload_n 0, 1) := by decide +kernel
theorem dX1_costBelow_1 : decode cX1_costBelow 1 = .ok (.getfield 15, 3) := by decide +kernel
theorem dX1_costBelow_4 : decode cX1_costBelow 4 = .ok (.ifCond .ne 7, 3) := by decide +kernel
theorem dX1_costBelow_7 : decode cX1_costBelow 7 = .ok (.iconst 0, 1) := by decide +kernel
theorem dX1_costBelow_8 : decode cX1_costBelow 8 = .ok (.goto 7, 3) := by decide +kernel
theorem dX1_costBelow_11 : decode cX1_costBelow 11 = .ok (.aload_n 0, 1) := by decide +kernel
theorem dX1_costBelow_12 : decode cX1_costBelow 12 = .ok (.getfield 25, 3) := by decide +kernel
theorem dX1_costBelow_15 : decode cX1_costBelow 15 = .ok (.ireturn, 1) := by decide +kernel
set_option maxRecDepth 20000 in
theorem ggX1_writeTo_X6_clear : GoodIn wsX1_writeTo wsX6_clear := goodIn_r _ [14, 15, 37, 38] (by decide +kernel) (by decide +kernel)
set_option maxRecDepth 20000 in
theorem gX1_writeTo_X6_clear : GoodIn wsX1_writeTo (wsV RX1 31 RX6 yX6_clear wsX6_clear) := goodIn_app (goodIn_of _ (by decide +kernel)) ggX1_writeTo_X6_clear
set_option maxRecDepth 20000 in
theorem ggX1_writeTo_X1_writeTerm : GoodIn wsX1_writeTo wsX1_writeTerm := goodIn_r _ [19, 4, 5, 6, 7, 20, 21, 22, 13, 23, 15, 24, 25, 26, 27, 28, 37, 38] (by decide +kernel) (by decide +kernel)
set_option maxRecDepth 20000 in
theorem gX1_writeTo_X1_writeTerm : GoodIn wsX1_writeTo (va_wsS RX1 36 yX1_writeTerm wsX1_writeTerm) := goodIn_app (goodIn_of _ (by decide +kernel)) ggX1_writeTo_X1_writeTerm
set_option maxRecDepth 20000 in
theorem ggX1_writeTo_X6_append : GoodIn wsX1_writeTo wsX6_append := goodIn_r _ [23, 15, 24, 37, 38] (by decide +kernel) (by decide +kernel)
set_option maxRecDepth 20000 in
theorem gX1_writeTo_X6_append : GoodIn wsX1_writeTo (wsV RX1 40 RX6 yX6_append wsX6_append) := goodIn_app (goodIn_of _ (by decide +kernel)) ggX1_writeTo_X6_append
set_option maxRecDepth 20000 in
theorem ggX1_writeTo_X1_writeNumber : GoodIn wsX1_writeTo wsX1_writeNumber := goodIn_r _ [31, 20, 21, 22, 13, 23, 15, 24, 37, 38] (by decide +kernel) (by decide +kernel)
set_option maxRecDepth 20000 in
theorem gX1_writeTo_X1_writeNumber : GoodIn wsX1_writeTo (va_wsS RX1 50 yX1_writeNumber wsX1_writeNumber) := goodIn_app (goodIn_of _ (by decide +kernel)) ggX1_writeTo_X1_writeNumber
theorem dX1_writeTo_0 : decode cX1_writeTo 0 = .ok (.aload_n 1, 1) := by decide +kernel
theorem dX1_writeTo_1 : decode cX1_writeTo 1 = .ok (.invokevirtual 31, 3) := by decide +kernel
theorem dX1_writeTo_4 : decode cX1_writeTo 4 = .ok (.iconst 0, 1) := by decide +kernel
theorem dX1_writeTo_5 : decode cX1_writeTo 5 = .ok (.istore_n 2, 1) := by decide +kernel
theorem dX1_writeTo_6 : decode cX1_writeTo 6 = .ok (.iload_n 2, 1) := by decide +kernel
theorem dX1_writeTo_7 : decode cX1_writeTo 7 = .ok (.aload_n 0, 1) := by decide +kernel
theorem dX1_writeTo_8 : decode cX1_writeTo 8 = .ok (.getfield 9, 3) := by decide +kernel
theorem dX1_writeTo_11 : decode cX1_writeTo 11 = .ok (.arraylength, 1) := by decide +kernel
theorem dX1_writeTo_12 : decode cX1_writeTo 12 = .ok (.if_icmp .ge 33, 3) := by decide +kernel
theorem dX1_writeTo_15 : decode cX1_writeTo 15 = .ok (.aload_n 0, 1) := by decide +kernel
theorem dX1_writeTo_16 : decode cX1_writeTo 16 = .ok (.getfield 9, 3) := by decide +kernel
theorem dX1_writeTo_19 : decode cX1_writeTo 19 = .ok (.iload_n 2, 1) := by decide +kernel
theorem dX1_writeTo_20 : decode cX1_writeTo 20 = .ok (.iaload, 1) := by decide +kernel
theorem dX1_writeTo_21 : decode cX1_writeTo 21 = .ok (.ifCond .eq 18, 3) := by decide +kernel
theorem dX1_writeTo_24 : decode cX1_writeTo 24 = .ok (.aload_n 1, 1) := by decide +kernel
theorem dX1_writeTo_25 : decode cX1_writeTo 25 = .ok (.aload_n 0, 1) := by decide +kernel
theorem dX1_writeTo_26 : decode cX1_writeTo 26 = .ok (.getfield 9, 3) := by decide +kernel
theorem dX1_writeTo_29 : decode cX1_writeTo 29 = .ok (.iload_n 2, 1) := by decide +kernel
theorem dX1_writeTo_30 : decode cX1_writeTo 30 = .ok (.iaload, 1) := by decide +kernel
theorem dX1_writeTo_31 : decode cX1_writeTo 31 = .ok (.bipush 97, 2) := by decide +kernel
theorem dX1_writeTo_33 : decode cX1_writeTo 33 = .ok (.iload_n 2, 1) := by decide +kernel
theorem dX1_writeTo_34 : decode cX1_writeTo 34 = .ok (.iadd, 1) := by decide +kernel
theorem dX1_writeTo_35 : decode cX1_writeTo 35 = .ok (.i2c, 1) := by decide +kernel
theorem dX1_writeTo_36 : decode cX1_writeTo 36 = .ok (.invokestatic 36, 3) := by decide +kernel
theorem dX1_writeTo_39 : decode cX1_writeTo 39 = .ok (.iinc 2 1, 3) := by decide +kernel
theorem dX1_writeTo_42 : decode cX1_writeTo 42 = .ok (.goto (-36), 3) := by decide +kernel
theorem dX1_writeTo_45 : decode cX1_writeTo 45 = .ok (.aload_n 1, 1) := by decide +kernel
theorem dX1_writeTo_46 : decode cX1_writeTo 46 = .ok (.aload_n 0, 1) := by decide +kernel
theorem dX1_writeTo_47 : decode cX1_writeTo 47 = .ok (.getfield 15, 3) := by decide +kernel
theorem dX1_writeTo_50 : decode cX1_writeTo 50 = .ok (.ifCond .ne 8, 3) := by decide +kernel
theorem dX1_writeTo_53 : decode cX1_writeTo 53 = .ok (.bipush 60, 2) := by decide +kernel
theorem dX1_writeTo_55 : decode cX1_writeTo 55 = .ok (.goto 18, 3) := by decide +kernel
theorem dX1_writeTo_58 : decode cX1_writeTo 58 = .ok (.aload_n 0, 1) := by decide +kernel
theorem dX1_writeTo_59 : decode cX1_writeTo 59 = .ok (.getfield 15, 3) := by decide +kernel
theorem dX1_writeTo_62 : decode cX1_writeTo 62 = .ok (.iconst 1, 1) := by decide +kernel
theorem dX1_writeTo_63 : decode cX1_writeTo 63 = .ok (.if_icmp .ne 8, 3) := by decide +kernel
theorem dX1_writeTo_66 : decode cX1_writeTo 66 = .ok (.bipush 61, 2) := by decide +kernel
theorem dX1_writeTo_68 : decode cX1_writeTo 68 = .ok (.goto 5, 3) := by decide +kernel
theorem dX1_writeTo_71 : decode cX1_writeTo 71 = .ok (.bipush 62, 2) := by decide +kernel
theorem dX1_writeTo_73 : decode cX1_writeTo 73 = .ok (.invokevirtual 40, 3) := by decide +kernel
theorem dX1_writeTo_76 : decode cX1_writeTo 76 = .ok (.aload_n 0, 1) := by decide +kernel
theorem dX1_writeTo_77 : decode cX1_writeTo 77 = .ok (.getfield 19, 3) := by decide +kernel
theorem dX1_writeTo_80 : decode cX1_writeTo 80 = .ok (.ifCond .ge 9, 3) := by decide +kernel
theorem dX1_writeTo_83 : decode cX1_writeTo 83 = .ok (.aload_n 1, 1) := by decide +kernel
theorem dX1_writeTo_84 : decode cX1_writeTo 84 = .ok (.bipush 45, 2) := by decide +kernel
theorem dX1_writeTo_86 : decode cX1_writeTo 86 = .ok (.invokevirtual 40, 3) := by decide +kernel
theorem dX1_writeTo_89 : decode cX1_writeTo 89 = .ok (.aload_n 1, 1) := by decide +kernel
theorem dX1_writeTo_90 : decode cX1_writeTo 90 = .ok (.aload_n 0, 1) := by decide +kernel
theorem dX1_writeTo_91 : decode cX1_writeTo 91 = .ok (.getfield 19, 3) := by decide +kernel
theorem dX1_writeTo_94 : decode cX1_writeTo 94 = .ok (.invokestatic 44, 3) := by decide +kernel
theorem dX1_writeTo_97 : decode cX1_writeTo 97 = .ok (.invokestatic 50, 3) := by decide +kernel
theorem dX1_writeTo_100 : decode cX1_writeTo 100 = .ok (.aload_n 0, 1) := by decide +kernel
theorem dX1_writeTo_101 : decode cX1_writeTo 101 = .ok (.getfield 22, 3) := by decide +kernel
theorem dX1_writeTo_104 : decode cX1_writeTo 104 = .ok (.ifCond .eq 61, 3) := by decide +kernel
theorem dX1_writeTo_107 : decode cX1_writeTo 107 = .ok (.aload_n 1, 1) := by decide +kernel
theorem dX1_writeTo_108 : decode cX1_writeTo 108 = .ok (.bipush 64, 2) := by decide +kernel
theorem dX1_writeTo_110 : decode cX1_writeTo 110 = .ok (.invokevirtual 40, 3) := by decide +kernel
theorem dX1_writeTo_113 : decode cX1_writeTo 113 = .ok (.aload_n 1, 1) := by decide +kernel
theorem dX1_writeTo_114 : decode cX1_writeTo 114 = .ok (.aload_n 0, 1) := by decide +kernel
theorem dX1_writeTo_115 : decode cX1_writeTo 115 = .ok (.getfield 22, 3) := by decide +kernel
theorem dX1_writeTo_118 : decode cX1_writeTo 118 = .ok (.iconst 1, 1) := by decide +kernel
theorem dX1_writeTo_119 : decode cX1_writeTo 119 = .ok (.if_icmp .ne 8, 3) := by decide +kernel
theorem dX1_writeTo_122 : decode cX1_writeTo 122 = .ok (.bipush 115, 2) := by decide +kernel
theorem dX1_writeTo_124 : decode cX1_writeTo 124 = .ok (.goto 18, 3) := by decide +kernel
theorem dX1_writeTo_127 : decode cX1_writeTo 127 = .ok (.aload_n 0, 1) := by decide +kernel
theorem dX1_writeTo_128 : decode cX1_writeTo 128 = .ok (.getfield 22, 3) := by decide +kernel
theorem dX1_writeTo_131 : decode cX1_writeTo 131 = .ok (.iconst 2, 1) := by decide +kernel
theorem dX1_writeTo_132 : decode cX1_writeTo 132 = .ok (.if_icmp .ne 8, 3) := by decide +kernel
theorem dX1_writeTo_135 : decode cX1_writeTo 135 = .ok (.bipush 109, 2) := by decide +kernel
theorem dX1_writeTo_137 : decode cX1_writeTo 137 = .ok (.goto 5, 3) := by decide +kernel
theorem dX1_writeTo_140 : decode cX1_writeTo 140 = .ok (.bipush 119, 2) := by decide +kernel
theorem dX1_writeTo_142 : decode cX1_writeTo 142 = .ok (.invokevirtual 40, 3) := by decide +kernel
theorem dX1_writeTo_145 : decode cX1_writeTo 145 = .ok (.aload_n 0, 1) := by decide +kernel
theorem dX1_writeTo_146 : decode cX1_writeTo 146 = .ok (.getfield 25, 3) := by decide +kernel
theorem dX1_writeTo_149 : decode cX1_writeTo 149 = .ok (.iconst 1, 1) := by decide +kernel
theorem dX1_writeTo_150 : decode cX1_writeTo 150 = .ok (.if_icmp .eq 15, 3) := by decide +kernel
theorem dX1_writeTo_153 : decode cX1_writeTo 153 = .ok (.aload_n 1, 1) := by decide +kernel
theorem dX1_writeTo_154 : decode cX1_writeTo 154 = .ok (.bipush 48, 2) := by decide +kernel
theorem dX1_writeTo_156 : decode cX1_writeTo 156 = .ok (.aload_n 0, 1) := by decide +kernel
theorem dX1_writeTo_157 : decode cX1_writeTo 157 = .ok (.getfield 25, 3) := by decide +kernel
theorem dX1_writeTo_160 : decode cX1_writeTo 160 = .ok (.iadd, 1) := by decide +kernel
theorem dX1_writeTo_161 : decode cX1_writeTo 161 = .ok (.i2c, 1) := by decide +kernel
theorem dX1_writeTo_162 : decode cX1_writeTo 162 = .ok (.invokevirtual 40, 3) := by decide +kernel
theorem dX1_writeTo_165 : decode cX1_writeTo 165 = .ok (.return_, 1) := by decide +kernel
set_option maxRecDepth 20000 in
theorem ggX1_writeTerm_X6_append : GoodIn wsX1_writeTerm wsX6_append := goodIn_r _ [9, 10, 11, 16, 17] (by decide +kernel) (by decide +kernel)
set_option maxRecDepth 20000 in
theorem gX1_writeTerm_X6_append : GoodIn wsX1_writeTerm (wsV RX1 40 RX6 yX6_append wsX6_append) := goodIn_app (goodIn_of _ (by decide +kernel)) ggX1_writeTerm_X6_append
set_option maxRecDepth 20000 in
theorem ggX1_writeTerm_X6_size : GoodIn wsX1_writeTerm wsX6_size := goodIn_r _ [15, 10, 16, 17] (by decide +kernel) (by decide +kernel)
set_option maxRecDepth 20000 in
theorem gX1_writeTerm_X6_size : GoodIn wsX1_writeTerm (wsV RX1 54 RX6 yX6_size wsX6_size) := goodIn_app (goodIn_of _ (by decide +kernel)) ggX1_writeTerm_X6_size
theorem dX1_writeTerm_0 : decode cX1_writeTerm 0 = .ok (.iload_n 1, 1) := by decide +kernel
theorem dX1_writeTerm_1 : decode cX1_writeTerm 1 = .ok (.ifCond .ge 12, 3) := by decide +kernel
theorem dX1_writeTerm_4 : decode cX1_writeTerm 4 = .ok (.aload_n 0, 1) := by decide +kernel
theorem dX1_writeTerm_5 : decode cX1_writeTerm 5 = .ok (.bipush 45, 2) := by decide +kernel
theorem dX1_writeTerm_7 : decode cX1_writeTerm 7 = .ok (.invokevirtual 40, 3) := by decide +kernel
theorem dX1_writeTerm_10 : decode cX1_writeTerm 10 = .ok (.goto 16, 3) := by decide +kernel
theorem dX1_writeTerm_13 : decode cX1_writeTerm 13 = .ok (.aload_n 0, 1) := by decide +kernel
theorem dX1_writeTerm_14 : decode cX1_writeTerm 14 = .ok (.invokevirtual 54, 3) := by decide +kernel
theorem dX1_writeTerm_17 : decode cX1_writeTerm 17 = .ok (.ifCond .le 9, 3) := by decide +kernel
theorem dX1_writeTerm_20 : decode cX1_writeTerm 20 = .ok (.aload_n 0, 1) := by decide +kernel
theorem dX1_writeTerm_21 : decode cX1_writeTerm 21 = .ok (.bipush 43, 2) := by decide +kernel
theorem dX1_writeTerm_23 : decode cX1_writeTerm 23 = .ok (.invokevirtual 40, 3) := by decide +kernel
theorem dX1_writeTerm_26 : decode cX1_writeTerm 26 = .ok (.iload_n 1, 1) := by decide +kernel
theorem dX1_writeTerm_27 : decode cX1_writeTerm 27 = .ok (.invokestatic 44, 3) := by decide +kernel
theorem dX1_writeTerm_30 : decode cX1_writeTerm 30 = .ok (.iconst 1, 1) := by decide +kernel
theorem dX1_writeTerm_31 : decode cX1_writeTerm 31 = .ok (.if_icmp .eq 15, 3) := by decide +kernel
theorem dX1_writeTerm_34 : decode cX1_writeTerm 34 = .ok (.aload_n 0, 1) := by decide +kernel
theorem dX1_writeTerm_35 : decode cX1_writeTerm 35 = .ok (.bipush 48, 2) := by decide +kernel
theorem dX1_writeTerm_37 : decode cX1_writeTerm 37 = .ok (.iload_n 1, 1) := by decide +kernel
theorem dX1_writeTerm_38 : decode cX1_writeTerm 38 = .ok (.invokestatic 44, 3) := by decide +kernel
theorem dX1_writeTerm_41 : decode cX1_writeTerm 41 = .ok (.iadd, 1) := by decide +kernel
theorem dX1_writeTerm_42 : decode cX1_writeTerm 42 = .ok (.i2c, 1) := by decide +kernel
theorem dX1_writeTerm_43 : decode cX1_writeTerm 43 = .ok (.invokevirtual 40, 3) := by decide +kernel
theorem dX1_writeTerm_46 : decode cX1_writeTerm 46 = .ok (.aload_n 0, 1) := by decide +kernel
theorem dX1_writeTerm_47 : decode cX1_writeTerm 47 = .ok (.iload_n 2, 1) := by decide +kernel
theorem dX1_writeTerm_48 : decode cX1_writeTerm 48 = .ok (.invokevirtual 40, 3) := by decide +kernel
theorem dX1_writeTerm_51 : decode cX1_writeTerm 51 = .ok (.return_, 1) := by decide +kernel
set_option maxRecDepth 20000 in
theorem ggX1_writeNumber_X6_append : GoodIn wsX1_writeNumber wsX6_append := goodIn_r _ [5, 6, 7, 8, 9] (by decide +kernel) (by decide +kernel)
set_option maxRecDepth 20000 in
theorem gX1_writeNumber_X6_append : GoodIn wsX1_writeNumber (wsV RX1 40 RX6 yX6_append wsX6_append) := goodIn_app (goodIn_of _ (by decide +kernel)) ggX1_writeNumber_X6_append
theorem dX1_writeNumber_0 : decode cX1_writeNumber 0 = .ok (.iload_n 1, 1) := by decide +kernel
theorem dX1_writeNumber_1 : decode cX1_writeNumber 1 = .ok (.bipush 100, 2) := by decide +kernel
theorem dX1_writeNumber_3 : decode cX1_writeNumber 3 = .ok (.if_icmp .lt 15, 3) := by decide +kernel
theorem dX1_writeNumber_6 : decode cX1_writeNumber 6 = .ok (.aload_n 0, 1) := by decide +kernel
theorem dX1_writeNumber_7 : decode cX1_writeNumber 7 = .ok (.bipush 48, 2) := by decide +kernel
theorem dX1_writeNumber_9 : decode cX1_writeNumber 9 = .ok (.iload_n 1, 1) := by decide +kernel
theorem dX1_writeNumber_10 : decode cX1_writeNumber 10 = .ok (.bipush 100, 2) := by decide +kernel
theorem dX1_writeNumber_12 : decode cX1_writeNumber 12 = .ok (.idiv, 1) := by decide +kernel
theorem dX1_writeNumber_13 : decode cX1_writeNumber 13 = .ok (.iadd, 1) := by decide +kernel
theorem dX1_writeNumber_14 : decode cX1_writeNumber 14 = .ok (.i2c, 1) := by decide +kernel
theorem dX1_writeNumber_15 : decode cX1_writeNumber 15 = .ok (.invokevirtual 40, 3) := by decide +kernel
theorem dX1_writeNumber_18 : decode cX1_writeNumber 18 = .ok (.iload_n 1, 1) := by decide +kernel
theorem dX1_writeNumber_19 : decode cX1_writeNumber 19 = .ok (.bipush 10, 2) := by decide +kernel
theorem dX1_writeNumber_21 : decode cX1_writeNumber 21 = .ok (.if_icmp .lt 18, 3) := by decide +kernel
theorem dX1_writeNumber_24 : decode cX1_writeNumber 24 = .ok (.aload_n 0, 1) := by decide +kernel
theorem dX1_writeNumber_25 : decode cX1_writeNumber 25 = .ok (.bipush 48, 2) := by decide +kernel
theorem dX1_writeNumber_27 : decode cX1_writeNumber 27 = .ok (.iload_n 1, 1) := by decide +kernel
theorem dX1_writeNumber_28 : decode cX1_writeNumber 28 = .ok (.bipush 10, 2) := by decide +kernel
theorem dX1_writeNumber_30 : decode cX1_writeNumber 30 = .ok (.idiv, 1) := by decide +kernel
theorem dX1_writeNumber_31 : decode cX1_writeNumber 31 = .ok (.bipush 10, 2) := by decide +kernel
theorem dX1_writeNumber_33 : decode cX1_writeNumber 33 = .ok (.irem, 1) := by decide +kernel
theorem dX1_writeNumber_34 : decode cX1_writeNumber 34 = .ok (.iadd, 1) := by decide +kernel
theorem dX1_writeNumber_35 : decode cX1_writeNumber 35 = .ok (.i2c, 1) := by decide +kernel
theorem dX1_writeNumber_36 : decode cX1_writeNumber 36 = .ok (.invokevirtual 40, 3) := by decide +kernel
theorem dX1_writeNumber_39 : decode cX1_writeNumber 39 = .ok (.aload_n 0, 1) := by decide +kernel
theorem dX1_writeNumber_40 : decode cX1_writeNumber 40 = .ok (.bipush 48, 2) := by decide +kernel
theorem dX1_writeNumber_42 : decode cX1_writeNumber 42 = .ok (.iload_n 1, 1) := by decide +kernel
theorem dX1_writeNumber_43 : decode cX1_writeNumber 43 = .ok (.bipush 10, 2) := by decide +kernel
theorem dX1_writeNumber_45 : decode cX1_writeNumber 45 = .ok (.irem, 1) := by decide +kernel
theorem dX1_writeNumber_46 : decode cX1_writeNumber 46 = .ok (.iadd, 1) := by decide +kernel
theorem dX1_writeNumber_47 : decode cX1_writeNumber 47 = .ok (.i2c, 1) := by decide +kernel
theorem dX1_writeNumber_48 : decode cX1_writeNumber 48 = .ok (.invokevirtual 40, 3) := by decide +kernel
theorem dX1_writeNumber_51 : decode cX1_writeNumber 51 = .ok (.return_, 1) := by decide +kernel
theorem dX2_init_0 : decode cX2_init 0 = .ok (.aload_n 0, 1) := by decide +kernel
theorem dX2_init_1 : decode cX2_init 1 = .ok (.invokespecial 3, 3) := by decide +kernel
theorem dX2_init_4 : decode cX2_init 4 = .ok (.aload_n 0, 1) := by decide +kernel
theorem dX2_init_5 : decode cX2_init 5 = .ok (.iconst 4, 1) := by decide +kernel
theorem dX2_init_6 : decode cX2_init 6 = .ok (.newarray .long, 2) := by decide +kernel
theorem dX2_init_8 : decode cX2_init 8 = .ok (.putfield 9, 3) := by decide +kernel
theorem dX2_init_11 : decode cX2_init 11 = .ok (.aload_n 0, 1) := by decide +kernel
theorem dX2_init_12 : decode cX2_init 12 = .ok (.lconst 1, 1) := by decide +kernel
theorem dX2_init_13 : decode cX2_init 13 = .ok (.putfield 15, 3) := by decide +kernel
theorem dX2_init_16 : decode cX2_init 16 = .ok (.return_, 1) := by decide +kernel
theorem dX2_clear_0 : decode cX2_clear 0 = .ok (.iconst 0, 1) := by decide +kernel
theorem dX2_clear_1 : decode cX2_clear 1 = .ok (.istore_n 3, 1) := by decide +kernel
theorem dX2_clear_2 : decode cX2_clear 2 = .ok (.iload_n 3, 1) := by decide +kernel
theorem dX2_clear_3 : decode cX2_clear 3 = .ok (.iconst 3, 1) := by decide +kernel
theorem dX2_clear_4 : decode cX2_clear 4 = .ok (.if_icmp .gt 16, 3) := by decide +kernel
theorem dX2_clear_7 : decode cX2_clear 7 = .ok (.aload_n 0, 1) := by decide +kernel
theorem dX2_clear_8 : decode cX2_clear 8 = .ok (.getfield 9, 3) := by decide +kernel
theorem dX2_clear_11 : decode cX2_clear 11 = .ok (.iload_n 3, 1) := by decide +kernel
theorem dX2_clear_12 : decode cX2_clear 12 = .ok (.lconst 0, 1) := by decide +kernel
theorem dX2_clear_13 : decode cX2_clear 13 = .ok (.lastore, 1) := by decide +kernel
theorem dX2_clear_14 : decode cX2_clear 14 = .ok (.iinc 3 1, 3) := by decide +kernel
theorem dX2_clear_17 : decode cX2_clear 17 = .ok (.goto (-15), 3) := by decide +kernel
theorem dX2_clear_20 : decode cX2_clear 20 = .ok (.aload_n 0, 1) := by decide +kernel
theorem dX2_clear_21 : decode cX2_clear 21 = .ok (.lload_n 1, 1) := by decide +kernel
theorem dX2_clear_22 : decode cX2_clear 22 = .ok (.putfield 15, 3) := by decide +kernel
theorem dX2_clear_25 : decode cX2_clear 25 = .ok (.return_, 1) := by decide +kernel
theorem dX2_increase_0 : decode cX2_increase 0 = .ok (.iload_n 1, 1) := by decide +kernel
theorem dX2_increase_1 : decode cX2_increase 1 = .ok (.ifCond .lt 18, 3) := by decide +kernel
theorem dX2_increase_4 : decode cX2_increase 4 = .ok (.iload_n 1, 1) := by decide +kernel
theorem dX2_increase_5 : decode cX2_increase 5 = .ok (.iconst 3, 1) := by decide +kernel
theorem dX2_increase_6 : decode cX2_increase 6 = .ok (.if_icmp .gt 13, 3) := by decide +kernel
theorem dX2_increase_9 : decode cX2_increase 9 = .ok (.aload_n 0, 1) := by decide +kernel
theorem dX2_increase_10 : decode cX2_increase 10 = .ok (.getfield 9, 3) := by decide +kernel
theorem dX2_increase_13 : decode cX2_increase 13 = .ok (.iload_n 1, 1) := by decide +kernel
theorem dX2_increase_14 : decode cX2_increase 14 = .ok (.dup2, 1) := by decide +kernel
theorem dX2_increase_15 : decode cX2_increase 15 = .ok (.laload, 1) := by decide +kernel
theorem dX2_increase_16 : decode cX2_increase 16 = .ok (.lload_n 2, 1) := by decide +kernel
theorem dX2_increase_17 : decode cX2_increase 17 = .ok (.ladd, 1) := by decide +kernel
theorem dX2_increase_18 : decode cX2_increase 18 = .ok (.lastore, 1) := by decide +kernel
theorem dX2_increase_19 : decode cX2_increase 19 = .ok (.return_, 1) := by decide +kernel
theorem dX2_copy_0 : decode cX2_copy 0 = .ok (.iconst 0, 1) := by decide +kernel
theorem dX2_copy_1 : decode cX2_copy 1 = .ok (.istore_n 2, 1) := by decide +kernel
theorem dX2_copy_2 : decode cX2_copy 2 = .ok (.iload_n 2, 1) := by decide +kernel
theorem dX2_copy_3 : decode cX2_copy 3 = .ok (.iconst 3, 1) := by decide +kernel
theorem dX2_copy_4 : decode cX2_copy 4 = .ok (.if_icmp .gt 21, 3) := by decide +kernel
theorem dX2_copy_7 : decode cX2_copy 7 = .ok (.aload_n 0, 1) := by decide +kernel
theorem dX2_copy_8 : decode cX2_copy 8 = .ok (.getfield 9, 3) := by decide +kernel
theorem dX2_copy_11 : decode cX2_copy 11 = .ok (.iload_n 2, 1) := by decide +kernel
theorem dX2_copy_12 : decode cX2_copy 12 = .ok (.aload_n 1, 1) := by decide +kernel
theorem dX2_copy_13 : decode cX2_copy 13 = .ok (.getfield 9, 3) := by decide +kernel
theorem dX2_copy_16 : decode cX2_copy 16 = .ok (.iload_n 2, 1) := by decide +kernel
theorem dX2_copy_17 : decode cX2_copy 17 = .ok (.laload, 1) := by decide +kernel
theorem dX2_copy_18 : decode cX2_copy 18 = .ok (.lastore, 1) := by decide +kernel
theorem dX2_copy_19 : decode cX2_copy 19 = .ok (.iinc 2 1, 3) := by decide +kernel
theorem dX2_copy_22 : decode cX2_copy 22 = .ok (.goto (-20), 3) := by decide +kernel
theorem dX2_copy_25 : decode cX2_copy 25 = .ok (.aload_n 0, 1) := by decide +kernel
theorem dX2_copy_26 : decode cX2_copy 26 = .ok (.aload_n 1, 1) := by decide +kernel
theorem dX2_copy_27 : decode cX2_copy 27 = .ok (.getfield 15, 3) := by decide +kernel
theorem dX2_copy_30 : decode cX2_copy 30 = .ok (.putfield 15, 3) := by decide +kernel
theorem dX2_copy_33 : decode cX2_copy 33 = .ok (.return_, 1) := by decide +kernel
theorem dX2_isFeasible_0 : decode cX2_isFeasible 0 = .ok (.aload_n 0, 1) := by decide +kernel
theorem dX2_isFeasible_1 : decode cX2_isFeasible 1 = .ok (.getfield 9, 3) := by decide +kernel
theorem dX2_isFeasible_4 : decode cX2_isFeasible 4 = .ok (.iconst 0, 1) := by decide +kernel
theorem dX2_isFeasible_5 : decode cX2_isFeasible 5 = .ok (.laload, 1) := by decide +kernel
theorem dX2_isFeasible_6 : decode cX2_isFeasible 6 = .ok (.lconst 0, 1) := by decide +kernel
theorem dX2_isFeasible_7 : decode cX2_isFeasible 7 = .ok (.lcmp, 1) := by decide +kernel
theorem dX2_isFeasible_8 : decode cX2_isFeasible 8 = .ok (.ifCond .ne 7, 3) := by decide +kernel
theorem dX2_isFeasible_11 : decode cX2_isFeasible 11 = .ok (.iconst 1, 1) := by decide +kernel
theorem dX2_isFeasible_12 : decode cX2_isFeasible 12 = .ok (.goto 4, 3) := by decide +kernel
theorem dX2_isFeasible_15 : decode cX2_isFeasible 15 = .ok (.iconst 0, 1) := by decide +kernel
theorem dX2_isFeasible_16 : decode cX2_isFeasible 16 = .ok (.ireturn, 1) := by decide +kernel
set_option maxRecDepth 20000 in
theorem ggX2_part_X8_partOf : GoodIn wsX2_part wsX8_partOf := goodIn_r _ [5, 6, 7, 8, 9] (by decide +kernel) (by decide +kernel)
set_option maxRecDepth 20000 in
theorem gX2_part_X8_partOf_n19 : GoodIn wsX2_part (wsX8_partOf) := ggX2_part_X8_partOf
theorem dX2_part_0 : decode cX2_part 0 = .ok (.iload_n 1, 1) := by decide +kernel
theorem dX2_part_1 : decode cX2_part 1 = .ok (.ifCond .lt 8, 3) := by decide +kernel
theorem dX2_part_4 : decode cX2_part 4 = .ok (.iload_n 1, 1) := by decide +kernel
theorem dX2_part_5 : decode cX2_part 5 = .ok (.iconst 3, 1) := by decide +kernel
theorem dX2_part_6 : decode cX2_part 6 = .ok (.if_icmp .le 7, 3) := by decide +kernel
theorem dX2_part_9 : decode cX2_part 9 = .ok (.lconst 0, 1) := by decide +kernel
theorem dX2_part_10 : decode cX2_part 10 = .ok (.goto 17, 3) := by decide +kernel
theorem dX2_part_13 : decode cX2_part 13 = .ok (.aload_n 0, 1) := by decide +kernel
theorem dX2_part_14 : decode cX2_part 14 = .ok (.getfield 9, 3) := by decide +kernel
theorem dX2_part_17 : decode cX2_part 17 = .ok (.iload_n 1, 1) := by decide +kernel
theorem dX2_part_18 : decode cX2_part 18 = .ok (.laload, 1) := by decide +kernel
theorem dX2_part_19 : decode cX2_part 19 = .ok (.aload_n 0, 1) := by decide +kernel
theorem dX2_part_20 : decode cX2_part 20 = .ok (.getfield 15, 3) := by decide +kernel
theorem dX2_part_23 : decode cX2_part 23 = .ok (.iload_n 2, 1) := by decide +kernel
theorem dX2_part_24 : decode cX2_part 24 = .ok (.invokestatic 19, 3) := by decide +kernel
theorem dX2_part_27 : decode cX2_part 27 = .ok (.lreturn, 1) := by decide +kernel
set_option maxRecDepth 20000 in
theorem ggX2_compareWith_J13_compare_74951 : GoodIn wsX2_compareWith wsJ13_compare_74951 := goodIn_r _ [6] (by decide +kernel) (by decide +kernel)
set_option maxRecDepth 20000 in
theorem gX2_compareWith_J13_compare_74951 : GoodIn wsX2_compareWith (va_wsS RX2 23 yJ13_compare_74951 wsJ13_compare_74951) := goodIn_app (goodIn_of _ (by decide +kernel)) ggX2_compareWith_J13_compare_74951
theorem dX2_compareWith_0 : decode cX2_compareWith 0 = .ok (.iconst 1, 1) := by decide +kernel
theorem dX2_compareWith_1 : decode cX2_compareWith 1 = .ok (.istore_n 2, 1) := by decide +kernel
theorem dX2_compareWith_2 : decode cX2_compareWith 2 = .ok (.iload_n 2, 1) := by decide +kernel
theorem dX2_compareWith_3 : decode cX2_compareWith 3 = .ok (.iconst 3, 1) := by decide +kernel
theorem dX2_compareWith_4 : decode cX2_compareWith 4 = .ok (.if_icmp .gt 41, 3) := by decide +kernel
theorem dX2_compareWith_7 : decode cX2_compareWith 7 = .ok (.aload_n 0, 1) := by decide +kernel
theorem dX2_compareWith_8 : decode cX2_compareWith 8 = .ok (.getfield 9, 3) := by decide +kernel
theorem dX2_compareWith_11 : decode cX2_compareWith 11 = .ok (.iload_n 2, 1) := by decide +kernel
theorem dX2_compareWith_12 : decode cX2_compareWith 12 = .ok (.laload, 1) := by decide +kernel
theorem dX2_compareWith_13 : decode cX2_compareWith 13 = .ok (.aload_n 1, 1) := by decide +kernel
theorem dX2_compareWith_14 : decode cX2_compareWith 14 = .ok (.getfield 15, 3) := by decide +kernel
theorem dX2_compareWith_17 : decode cX2_compareWith 17 = .ok (.lmul, 1) := by decide +kernel
theorem dX2_compareWith_18 : decode cX2_compareWith 18 = .ok (.aload_n 1, 1) := by decide +kernel
theorem dX2_compareWith_19 : decode cX2_compareWith 19 = .ok (.getfield 9, 3) := by decide +kernel
theorem dX2_compareWith_22 : decode cX2_compareWith 22 = .ok (.iload_n 2, 1) := by decide +kernel
theorem dX2_compareWith_23 : decode cX2_compareWith 23 = .ok (.laload, 1) := by decide +kernel
theorem dX2_compareWith_24 : decode cX2_compareWith 24 = .ok (.aload_n 0, 1) := by decide +kernel
theorem dX2_compareWith_25 : decode cX2_compareWith 25 = .ok (.getfield 15, 3) := by decide +kernel
theorem dX2_compareWith_28 : decode cX2_compareWith 28 = .ok (.lmul, 1) := by decide +kernel
theorem dX2_compareWith_29 : decode cX2_compareWith 29 = .ok (.invokestatic 23, 3) := by decide +kernel
theorem dX2_compareWith_32 : decode cX2_compareWith 32 = .ok (.istore_n 3, 1) := by decide +kernel
theorem dX2_compareWith_33 : decode cX2_compareWith 33 = .ok (.iload_n 3, 1) := by decide +kernel
theorem dX2_compareWith_34 : decode cX2_compareWith 34 = .ok (.ifCond .eq 5, 3) := by decide +kernel
theorem dX2_compareWith_37 : decode cX2_compareWith 37 = .ok (.iload_n 3, 1) := by decide +kernel
theorem dX2_compareWith_38 : decode cX2_compareWith 38 = .ok (.ireturn, 1) := by decide +kernel
theorem dX2_compareWith_39 : decode cX2_compareWith 39 = .ok (.iinc 2 1, 3) := by decide +kernel
theorem dX2_compareWith_42 : decode cX2_compareWith 42 = .ok (.goto (-40), 3) := by decide +kernel
theorem dX2_compareWith_45 : decode cX2_compareWith 45 = .ok (.iconst 0, 1) := by decide +kernel
theorem dX2_compareWith_46 : decode cX2_compareWith 46 = .ok (.ireturn, 1) := by decide +kernel
theorem dX4_init_0 : decode cX4_init 0 = .ok (.aload_n 0, 1) := by decide +kernel
theorem dX4_init_1 : decode cX4_init 1 = .ok (.invokespecial 3, 3) := by decide +kernel
theorem dX4_init_4 : decode cX4_init 4 = .ok (.aload_n 0, 1) := by decide +kernel
theorem dX4_init_5 : decode cX4_init 5 = .ok (.bipush 20, 2) := by decide +kernel
theorem dX4_init_7 : decode cX4_init 7 = .ok (.anewarray 9, 3) := by decide +kernel
theorem dX4_init_10 : decode cX4_init 10 = .ok (.putfield 11, 3) := by decide +kernel
theorem dX4_init_13 : decode cX4_init 13 = .ok (.aload_n 0, 1) := by decide +kernel
theorem dX4_init_14 : decode cX4_init 14 = .ok (.iconst 0, 1) := by decide +kernel
theorem dX4_init_15 : decode cX4_init 15 = .ok (.putfield 17, 3) := by decide +kernel
theorem dX4_init_18 : decode cX4_init 18 = .ok (.aload_n 0, 1) := by decide +kernel
theorem dX4_init_19 : decode cX4_init 19 = .ok (.iconst 0, 1) := by decide +kernel
theorem dX4_init_20 : decode cX4_init 20 = .ok (.putfield 21, 3) := by decide +kernel
theorem dX4_init_23 : decode cX4_init 23 = .ok (.return_, 1) := by decide +kernel
theorem dX4_done_0 : decode cX4_done 0 = .ok (.aload_n 0, 1) := by decide +kernel
theorem dX4_done_1 : decode cX4_done 1 = .ok (.getfield 17, 3) := by decide +kernel
theorem dX4_done_4 : decode cX4_done 4 = .ok (.ireturn, 1) := by decide +kernel
theorem dX4_undone_0 : decode cX4_undone 0 = .ok (.aload_n 0, 1) := by decide +kernel
theorem dX4_undone_1 : decode cX4_undone 1 = .ok (.getfield 21, 3) := by decide +kernel
theorem dX4_undone_4 : decode cX4_undone 4 = .ok (.ireturn, 1) := by decide +kernel
theorem dX4_clear_0 : decode cX4_clear 0 = .ok (.aload_n 0, 1) := by decide +kernel
theorem dX4_clear_1 : decode cX4_clear 1 = .ok (.iconst 0, 1) := by decide +kernel
theorem dX4_clear_2 : decode cX4_clear 2 = .ok (.putfield 17, 3) := by decide +kernel
theorem dX4_clear_5 : decode cX4_clear 5 = .ok (.aload_n 0, 1) := by decide +kernel
theorem dX4_clear_6 : decode cX4_clear 6 = .ok (.iconst 0, 1) := by decide +kernel
theorem dX4_clear_7 : decode cX4_clear 7 = .ok (.putfield 21, 3) := by decide +kernel
theorem dX4_clear_10 : decode cX4_clear 10 = .ok (.return_, 1) := by decide +kernel
theorem dX4_append_0 : decode cX4_append 0 = .ok (.aload_n 0, 1) := by decide +kernel
theorem dX4_append_1 : decode cX4_append 1 = .ok (.getfield 17, 3) := by decide +kernel
theorem dX4_append_4 : decode cX4_append 4 = .ok (.bipush 20, 2) := by decide +kernel
theorem dX4_append_6 : decode cX4_append 6 = .ok (.if_icmp .lt 37, 3) := by decide +kernel
theorem dX4_append_9 : decode cX4_append 9 = .ok (.iconst 1, 1) := by decide +kernel
theorem dX4_append_10 : decode cX4_append 10 = .ok (.istore_n 2, 1) := by decide +kernel
theorem dX4_append_11 : decode cX4_append 11 = .ok (.iload_n 2, 1) := by decide +kernel
theorem dX4_append_12 : decode cX4_append 12 = .ok (.bipush 20, 2) := by decide +kernel
theorem dX4_append_14 : decode cX4_append 14 = .ok (.if_icmp .ge 23, 3) := by decide +kernel
theorem dX4_append_17 : decode cX4_append 17 = .ok (.aload_n 0, 1) := by decide +kernel
theorem dX4_append_18 : decode cX4_append 18 = .ok (.getfield 11, 3) := by decide +kernel
theorem dX4_append_21 : decode cX4_append 21 = .ok (.iload_n 2, 1) := by decide +kernel
theorem dX4_append_22 : decode cX4_append 22 = .ok (.iconst 1, 1) := by decide +kernel
theorem dX4_append_23 : decode cX4_append 23 = .ok (.isub, 1) := by decide +kernel
theorem dX4_append_24 : decode cX4_append 24 = .ok (.aload_n 0, 1) := by decide +kernel
theorem dX4_append_25 : decode cX4_append 25 = .ok (.getfield 11, 3) := by decide +kernel
theorem dX4_append_28 : decode cX4_append 28 = .ok (.iload_n 2, 1) := by decide +kernel
theorem dX4_append_29 : decode cX4_append 29 = .ok (.aaload, 1) := by decide +kernel
theorem dX4_append_30 : decode cX4_append 30 = .ok (.aastore, 1) := by decide +kernel
theorem dX4_append_31 : decode cX4_append 31 = .ok (.iinc 2 1, 3) := by decide +kernel
theorem dX4_append_34 : decode cX4_append 34 = .ok (.goto (-23), 3) := by decide +kernel
theorem dX4_append_37 : decode cX4_append 37 = .ok (.aload_n 0, 1) := by decide +kernel
theorem dX4_append_38 : decode cX4_append 38 = .ok (.bipush 19, 2) := by decide +kernel
theorem dX4_append_40 : decode cX4_append 40 = .ok (.putfield 17, 3) := by decide +kernel
theorem dX4_append_43 : decode cX4_append 43 = .ok (.aload_n 0, 1) := by decide +kernel
theorem dX4_append_44 : decode cX4_append 44 = .ok (.getfield 17, 3) := by decide +kernel
theorem dX4_append_47 : decode cX4_append 47 = .ok (.ifCond .lt 28, 3) := by decide +kernel
theorem dX4_append_50 : decode cX4_append 50 = .ok (.aload_n 0, 1) := by decide +kernel
theorem dX4_append_51 : decode cX4_append 51 = .ok (.getfield 11, 3) := by decide +kernel
theorem dX4_append_54 : decode cX4_append 54 = .ok (.aload_n 0, 1) := by decide +kernel
theorem dX4_append_55 : decode cX4_append 55 = .ok (.getfield 17, 3) := by decide +kernel
theorem dX4_append_58 : decode cX4_append 58 = .ok (.aload_n 1, 1) := by decide +kernel
theorem dX4_append_59 : decode cX4_append 59 = .ok (.aastore, 1) := by decide +kernel
theorem dX4_append_60 : decode cX4_append 60 = .ok (.aload_n 0, 1) := by decide +kernel
theorem dX4_append_61 : decode cX4_append 61 = .ok (.dup, 1) := by decide +kernel
theorem dX4_append_62 : decode cX4_append 62 = .ok (.getfield 17, 3) := by decide +kernel
theorem dX4_append_65 : decode cX4_append 65 = .ok (.iconst 1, 1) := by decide +kernel
theorem dX4_append_66 : decode cX4_append 66 = .ok (.iadd, 1) := by decide +kernel
theorem dX4_append_67 : decode cX4_append 67 = .ok (.putfield 17, 3) := by decide +kernel
theorem dX4_append_70 : decode cX4_append 70 = .ok (.aload_n 0, 1) := by decide +kernel
theorem dX4_append_71 : decode cX4_append 71 = .ok (.iconst 0, 1) := by decide +kernel
theorem dX4_append_72 : decode cX4_append 72 = .ok (.putfield 21, 3) := by decide +kernel
theorem dX4_append_75 : decode cX4_append 75 = .ok (.return_, 1) := by decide +kernel
theorem dX4_back_0 : decode cX4_back 0 = .ok (.aload_n 0, 1) := by decide +kernel
theorem dX4_back_1 : decode cX4_back 1 = .ok (.getfield 17, 3) := by decide +kernel
theorem dX4_back_4 : decode cX4_back 4 = .ok (.ifCond .le 12, 3) := by decide +kernel
theorem dX4_back_7 : decode cX4_back 7 = .ok (.aload_n 0, 1) := by decide +kernel
theorem dX4_back_8 : decode cX4_back 8 = .ok (.getfield 17, 3) := by decide +kernel
theorem dX4_back_11 : decode cX4_back 11 = .ok (.bipush 20, 2) := by decide +kernel
theorem dX4_back_13 : decode cX4_back 13 = .ok (.if_icmp .le 5, 3) := by decide +kernel
theorem dX4_back_16 : decode cX4_back 16 = .ok (.aconst_null, 1) := by decide +kernel
theorem dX4_back_17 : decode cX4_back 17 = .ok (.areturn, 1) := by decide +kernel
theorem dX4_back_18 : decode cX4_back 18 = .ok (.aload_n 0, 1) := by decide +kernel
theorem dX4_back_19 : decode cX4_back 19 = .ok (.dup, 1) := by decide +kernel
theorem dX4_back_20 : decode cX4_back 20 = .ok (.getfield 17, 3) := by decide +kernel
theorem dX4_back_23 : decode cX4_back 23 = .ok (.iconst 1, 1) := by decide +kernel
theorem dX4_back_24 : decode cX4_back 24 = .ok (.isub, 1) := by decide +kernel
theorem dX4_back_25 : decode cX4_back 25 = .ok (.putfield 17, 3) := by decide +kernel
theorem dX4_back_28 : decode cX4_back 28 = .ok (.aload_n 0, 1) := by decide +kernel
theorem dX4_back_29 : decode cX4_back 29 = .ok (.dup, 1) := by decide +kernel
theorem dX4_back_30 : decode cX4_back 30 = .ok (.getfield 21, 3) := by decide +kernel
theorem dX4_back_33 : decode cX4_back 33 = .ok (.iconst 1, 1) := by decide +kernel
theorem dX4_back_34 : decode cX4_back 34 = .ok (.iadd, 1) := by decide +kernel
theorem dX4_back_35 : decode cX4_back 35 = .ok (.putfield 21, 3) := by decide +kernel
theorem dX4_back_38 : decode cX4_back 38 = .ok (.aload_n 0, 1) := by decide +kernel
theorem dX4_back_39 : decode cX4_back 39 = .ok (.getfield 11, 3) := by decide +kernel
theorem dX4_back_42 : decode cX4_back 42 = .ok (.aload_n 0, 1) := by decide +kernel
theorem dX4_back_43 : decode cX4_back 43 = .ok (.getfield 17, 3) := by decide +kernel
theorem dX4_back_46 : decode cX4_back 46 = .ok (.aaload, 1) := by decide +kernel
theorem dX4_back_47 : decode cX4_back 47 = .ok (.areturn, 1) := by decide +kernel
theorem dX4_forth_0 : decode cX4_forth 0 = .ok (.aload_n 0, 1) := by decide +kernel
theorem dX4_forth_1 : decode cX4_forth 1 = .ok (.getfield 21, 3) := by decide +kernel
theorem dX4_forth_4 : decode cX4_forth 4 = .ok (.ifCond .le 19, 3) := by decide +kernel
theorem dX4_forth_7 : decode cX4_forth 7 = .ok (.aload_n 0, 1) := by decide +kernel
theorem dX4_forth_8 : decode cX4_forth 8 = .ok (.getfield 17, 3) := by decide +kernel
theorem dX4_forth_11 : decode cX4_forth 11 = .ok (.ifCond .lt 12, 3) := by decide +kernel
theorem dX4_forth_14 : decode cX4_forth 14 = .ok (.aload_n 0, 1) := by decide +kernel
theorem dX4_forth_15 : decode cX4_forth 15 = .ok (.getfield 17, 3) := by decide +kernel
theorem dX4_forth_18 : decode cX4_forth 18 = .ok (.bipush 20, 2) := by decide +kernel
theorem dX4_forth_20 : decode cX4_forth 20 = .ok (.if_icmp .lt 5, 3) := by decide +kernel
theorem dX4_forth_23 : decode cX4_forth 23 = .ok (.aconst_null, 1) := by decide +kernel
theorem dX4_forth_24 : decode cX4_forth 24 = .ok (.areturn, 1) := by decide +kernel
theorem dX4_forth_25 : decode cX4_forth 25 = .ok (.aload_n 0, 1) := by decide +kernel
theorem dX4_forth_26 : decode cX4_forth 26 = .ok (.getfield 11, 3) := by decide +kernel
theorem dX4_forth_29 : decode cX4_forth 29 = .ok (.aload_n 0, 1) := by decide +kernel
theorem dX4_forth_30 : decode cX4_forth 30 = .ok (.getfield 17, 3) := by decide +kernel
theorem dX4_forth_33 : decode cX4_forth 33 = .ok (.aaload, 1) := by decide +kernel
theorem dX4_forth_34 : decode cX4_forth 34 = .ok (.astore_n 1, 1) := by decide +kernel
theorem dX4_forth_35 : decode cX4_forth 35 = .ok (.aload_n 0, 1) := by decide +kernel
theorem dX4_forth_36 : decode cX4_forth 36 = .ok (.dup, 1) := by decide +kernel
theorem dX4_forth_37 : decode cX4_forth 37 = .ok (.getfield 17, 3) := by decide +kernel
theorem dX4_forth_40 : decode cX4_forth 40 = .ok (.iconst 1, 1) := by decide +kernel
theorem dX4_forth_41 : decode cX4_forth 41 = .ok (.iadd, 1) := by decide +kernel
theorem dX4_forth_42 : decode cX4_forth 42 = .ok (.putfield 17, 3) := by decide +kernel
theorem dX4_forth_45 : decode cX4_forth 45 = .ok (.aload_n 0, 1) := by decide +kernel
theorem dX4_forth_46 : decode cX4_forth 46 = .ok (.dup, 1) := by decide +kernel
theorem dX4_forth_47 : decode cX4_forth 47 = .ok (.getfield 21, 3) := by decide +kernel
theorem dX4_forth_50 : decode cX4_forth 50 = .ok (.iconst 1, 1) := by decide +kernel
theorem dX4_forth_51 : decode cX4_forth 51 = .ok (.isub, 1) := by decide +kernel
theorem dX4_forth_52 : decode cX4_forth 52 = .ok (.putfield 21, 3) := by decide +kernel
theorem dX4_forth_55 : decode cX4_forth 55 = .ok (.aload_n 1, 1) := by decide +kernel
theorem dX4_forth_56 : decode cX4_forth 56 = .ok (.areturn, 1) := by decide +kernel
theorem dX5_init_0 : decode cX5_init 0 = .ok (.aload_n 0, 1) := by decide +kernel
theorem dX5_init_1 : decode cX5_init 1 = .ok (.invokespecial 3, 3) := by decide +kernel
theorem dX5_init_4 : decode cX5_init 4 = .ok (.aload_n 0, 1) := by decide +kernel
theorem dX5_init_5 : decode cX5_init 5 = .ok (.bipush 14, 2) := by decide +kernel
theorem dX5_init_7 : decode cX5_init 7 = .ok (.anewarray 9, 3) := by decide +kernel
theorem dX5_init_10 : decode cX5_init 10 = .ok (.putfield 11, 3) := by decide +kernel
theorem dX5_init_13 : decode cX5_init 13 = .ok (.return_, 1) := by decide +kernel
theorem dX5_at_0 : decode cX5_at 0 = .ok (.iload_n 1, 1) := by decide +kernel
theorem dX5_at_1 : decode cX5_at 1 = .ok (.ifCond .lt 9, 3) := by decide +kernel
theorem dX5_at_4 : decode cX5_at 4 = .ok (.iload_n 1, 1) := by decide +kernel
theorem dX5_at_5 : decode cX5_at 5 = .ok (.bipush 14, 2) := by decide +kernel
theorem dX5_at_7 : decode cX5_at 7 = .ok (.if_icmp .lt 7, 3) := by decide +kernel
theorem dX5_at_10 : decode cX5_at 10 = .ok (.aconst_null, 1) := by decide +kernel
theorem dX5_at_11 : decode cX5_at 11 = .ok (.goto 9, 3) := by decide +kernel
theorem dX5_at_14 : decode cX5_at 14 = .ok (.aload_n 0, 1) := by decide +kernel
theorem dX5_at_15 : decode cX5_at 15 = .ok (.getfield 11, 3) := by decide +kernel
theorem dX5_at_18 : decode cX5_at 18 = .ok (.iload_n 1, 1) := by decide +kernel
theorem dX5_at_19 : decode cX5_at 19 = .ok (.aaload, 1) := by decide +kernel
theorem dX5_at_20 : decode cX5_at 20 = .ok (.areturn, 1) := by decide +kernel
theorem dX5_put_0 : decode cX5_put 0 = .ok (.iload_n 1, 1) := by decide +kernel
theorem dX5_put_1 : decode cX5_put 1 = .ok (.ifCond .lt 16, 3) := by decide +kernel
theorem dX5_put_4 : decode cX5_put 4 = .ok (.iload_n 1, 1) := by decide +kernel
theorem dX5_put_5 : decode cX5_put 5 = .ok (.bipush 14, 2) := by decide +kernel
theorem dX5_put_7 : decode cX5_put 7 = .ok (.if_icmp .ge 10, 3) := by decide +kernel
theorem dX5_put_10 : decode cX5_put 10 = .ok (.aload_n 0, 1) := by decide +kernel
theorem dX5_put_11 : decode cX5_put 11 = .ok (.getfield 11, 3) := by decide +kernel
theorem dX5_put_14 : decode cX5_put 14 = .ok (.iload_n 1, 1) := by decide +kernel
theorem dX5_put_15 : decode cX5_put 15 = .ok (.aload_n 2, 1) := by decide +kernel
theorem dX5_put_16 : decode cX5_put 16 = .ok (.aastore, 1) := by decide +kernel
theorem dX5_put_17 : decode cX5_put 17 = .ok (.return_, 1) := by decide +kernel
theorem dX5_lowestFree_0 : decode cX5_lowestFree 0 = .ok (.iconst 0, 1) := by decide +kernel
theorem dX5_lowestFree_1 : decode cX5_lowestFree 1 = .ok (.istore_n 1, 1) := by decide +kernel
theorem dX5_lowestFree_2 : decode cX5_lowestFree 2 = .ok (.iload_n 1, 1) := by decide +kernel
theorem dX5_lowestFree_3 : decode cX5_lowestFree 3 = .ok (.bipush 14, 2) := by decide +kernel
theorem dX5_lowestFree_5 : decode cX5_lowestFree 5 = .ok (.if_icmp .ge 20, 3) := by decide +kernel
theorem dX5_lowestFree_8 : decode cX5_lowestFree 8 = .ok (.aload_n 0, 1) := by decide +kernel
theorem dX5_lowestFree_9 : decode cX5_lowestFree 9 = .ok (.getfield 11, 3) := by decide +kernel
theorem dX5_lowestFree_12 : decode cX5_lowestFree 12 = .ok (.iload_n 1, 1) := by decide +kernel
theorem dX5_lowestFree_13 : decode cX5_lowestFree 13 = .ok (.aaload, 1) := by decide +kernel
theorem dX5_lowestFree_14 : decode cX5_lowestFree 14 = .ok (.ifnonnull 5, 3) := by decide +kernel
theorem dX5_lowestFree_17 : decode cX5_lowestFree 17 = .ok (.iload_n 1, 1) := by decide +kernel
theorem dX5_lowestFree_18 : decode cX5_lowestFree 18 = .ok (.ireturn, 1) := by decide +kernel
theorem dX5_lowestFree_19 : decode cX5_lowestFree 19 = .ok (.iinc 1 1, 3) := by decide +kernel
theorem dX5_lowestFree_22 : decode cX5_lowestFree 22 = .ok (.goto (-20), 3) := by decide +kernel
theorem dX5_lowestFree_25 : decode cX5_lowestFree 25 = .ok (.bipush (-6), 2) := by decide +kernel
theorem dX5_lowestFree_27 : decode cX5_lowestFree 27 = .ok (.ireturn, 1) := by decide +kernel
theorem dX5_mask_0 : decode cX5_mask 0 = .ok (.iconst 0, 1) := by decide +kernel
theorem dX5_mask_1 : decode cX5_mask 1 = .ok (.istore_n 1, 1) := by decide +kernel
theorem dX5_mask_2 : decode cX5_mask 2 = .ok (.iconst 0, 1) := by decide +kernel
theorem dX5_mask_3 : decode cX5_mask 3 = .ok (.istore_n 2, 1) := by decide +kernel
theorem dX5_mask_4 : decode cX5_mask 4 = .ok (.iload_n 2, 1) := by decide +kernel
theorem dX5_mask_5 : decode cX5_mask 5 = .ok (.bipush 14, 2) := by decide +kernel
theorem dX5_mask_7 : decode cX5_mask 7 = .ok (.if_icmp .ge 24, 3) := by decide +kernel
theorem dX5_mask_10 : decode cX5_mask 10 = .ok (.aload_n 0, 1) := by decide +kernel
theorem dX5_mask_11 : decode cX5_mask 11 = .ok (.getfield 11, 3) := by decide +kernel
theorem dX5_mask_14 : decode cX5_mask 14 = .ok (.iload_n 2, 1) := by decide +kernel
theorem dX5_mask_15 : decode cX5_mask 15 = .ok (.aaload, 1) := by decide +kernel
theorem dX5_mask_16 : decode cX5_mask 16 = .ok (.ifnull 9, 3) := by decide +kernel
theorem dX5_mask_19 : decode cX5_mask 19 = .ok (.iload_n 1, 1) := by decide +kernel
theorem dX5_mask_20 : decode cX5_mask 20 = .ok (.iconst 1, 1) := by decide +kernel
theorem dX5_mask_21 : decode cX5_mask 21 = .ok (.iload_n 2, 1) := by decide +kernel
theorem dX5_mask_22 : decode cX5_mask 22 = .ok (.ishl, 1) := by decide +kernel
theorem dX5_mask_23 : decode cX5_mask 23 = .ok (.ior, 1) := by decide +kernel
theorem dX5_mask_24 : decode cX5_mask 24 = .ok (.istore_n 1, 1) := by decide +kernel
theorem dX5_mask_25 : decode cX5_mask 25 = .ok (.iinc 2 1, 3) := by decide +kernel
theorem dX5_mask_28 : decode cX5_mask 28 = .ok (.goto (-24), 3) := by decide +kernel
theorem dX5_mask_31 : decode cX5_mask 31 = .ok (.iload_n 1, 1) := by decide +kernel
theorem dX5_mask_32 : decode cX5_mask 32 = .ok (.ireturn, 1) := by decide +kernel
set_option maxRecDepth 20000 in
theorem ggX5_size_X5_mask : GoodIn wsX5_size wsX5_mask := goodIn_r _ [5, 6, 14] (by decide +kernel) (by decide +kernel)
set_option maxRecDepth 20000 in
theorem gX5_size_X5_mask : GoodIn wsX5_size (wsV RX5 17 RX5 yX5_mask wsX5_mask) := goodIn_app (goodIn_of _ (by decide +kernel)) ggX5_size_X5_mask
set_option maxRecDepth 20000 in
theorem ggX5_size_J6_bitCount_0f7a4 : GoodIn wsX5_size wsJ6_bitCount_0f7a4 := goodIn_r _ [10, 11, 12, 13] (by decide +kernel) (by decide +kernel)
set_option maxRecDepth 20000 in
theorem gX5_size_J6_bitCount_0f7a4 : GoodIn wsX5_size (va_wsS RX5 21 yJ6_bitCount_0f7a4 wsJ6_bitCount_0f7a4) := goodIn_app (goodIn_of _ (by decide +kernel)) ggX5_size_J6_bitCount_0f7a4
theorem dX5_size_0 : decode cX5_size 0 = .ok (.aload_n 0, 1) := by decide +kernel
theorem dX5_size_1 : decode cX5_size 1 = .ok (.invokevirtual 17, 3) := by decide +kernel
theorem dX5_size_4 : decode cX5_size 4 = .ok (.invokestatic 21, 3) := by decide +kernel
theorem dX5_size_7 : decode cX5_size 7 = .ok (.ireturn, 1) := by decide +kernel
theorem dX5_requiredOnes_0 : decode cX5_requiredOnes 0 = .ok (.iconst 0, 1) := by decide +kernel
theorem dX5_requiredOnes_1 : decode cX5_requiredOnes 1 = .ok (.istore_n 1, 1) := by decide +kernel
theorem dX5_requiredOnes_2 : decode cX5_requiredOnes 2 = .ok (.iconst 0, 1) := by decide +kernel
theorem dX5_requiredOnes_3 : decode cX5_requiredOnes 3 = .ok (.istore_n 2, 1) := by decide +kernel
theorem dX5_requiredOnes_4 : decode cX5_requiredOnes 4 = .ok (.iload_n 2, 1) := by decide +kernel
theorem dX5_requiredOnes_5 : decode cX5_requiredOnes 5 = .ok (.bipush 14, 2) := by decide +kernel
theorem dX5_requiredOnes_7 : decode cX5_requiredOnes 7 = .ok (.if_icmp .ge 30, 3) := by decide +kernel
theorem dX5_requiredOnes_10 : decode cX5_requiredOnes 10 = .ok (.aload_n 0, 1) := by decide +kernel
theorem dX5_requiredOnes_11 : decode cX5_requiredOnes 11 = .ok (.getfield 11, 3) := by decide +kernel
theorem dX5_requiredOnes_14 : decode cX5_requiredOnes 14 = .ok (.iload_n 2, 1) := by decide +kernel
theorem dX5_requiredOnes_15 : decode cX5_requiredOnes 15 = .ok (.aaload, 1) := by decide +kernel
theorem dX5_requiredOnes_16 : decode cX5_requiredOnes 16 = .ok (.astore_n 3, 1) := by decide +kernel
theorem dX5_requiredOnes_17 : decode cX5_requiredOnes 17 = .ok (.aload_n 3, 1) := by decide +kernel
theorem dX5_requiredOnes_18 : decode cX5_requiredOnes 18 = .ok (.ifnull 13, 3) := by decide +kernel
theorem dX5_requiredOnes_21 : decode cX5_requiredOnes 21 = .ok (.aload_n 3, 1) := by decide +kernel
theorem dX5_requiredOnes_22 : decode cX5_requiredOnes 22 = .ok (.getfield 27, 3) := by decide +kernel
theorem dX5_requiredOnes_25 : decode cX5_requiredOnes 25 = .ok (.ifCond .ne 6, 3) := by decide +kernel
theorem dX5_requiredOnes_28 : decode cX5_requiredOnes 28 = .ok (.iinc 1 1, 3) := by decide +kernel
theorem dX5_requiredOnes_31 : decode cX5_requiredOnes 31 = .ok (.iinc 2 1, 3) := by decide +kernel
theorem dX5_requiredOnes_34 : decode cX5_requiredOnes 34 = .ok (.goto (-30), 3) := by decide +kernel
theorem dX5_requiredOnes_37 : decode cX5_requiredOnes 37 = .ok (.iload_n 1, 1) := by decide +kernel
theorem dX5_requiredOnes_38 : decode cX5_requiredOnes 38 = .ok (.ireturn, 1) := by decide +kernel
theorem dX6_init_0 : decode cX6_init 0 = .ok (.aload_n 0, 1) := by decide +kernel
theorem dX6_init_1 : decode cX6_init 1 = .ok (.invokespecial 3, 3) := by decide +kernel
theorem dX6_init_4 : decode cX6_init 4 = .ok (.aload_n 0, 1) := by decide +kernel
theorem dX6_init_5 : decode cX6_init 5 = .ok (.bipush 40, 2) := by decide +kernel
theorem dX6_init_7 : decode cX6_init 7 = .ok (.newarray .char, 2) := by decide +kernel
theorem dX6_init_9 : decode cX6_init 9 = .ok (.putfield 9, 3) := by decide +kernel
theorem dX6_init_12 : decode cX6_init 12 = .ok (.aload_n 0, 1) := by decide +kernel
theorem dX6_init_13 : decode cX6_init 13 = .ok (.iconst 0, 1) := by decide +kernel
theorem dX6_init_14 : decode cX6_init 14 = .ok (.putfield 15, 3) := by decide +kernel
theorem dX6_init_17 : decode cX6_init 17 = .ok (.return_, 1) := by decide +kernel
theorem dX6_size_0 : decode cX6_size 0 = .ok (.aload_n 0, 1) := by decide +kernel
theorem dX6_size_1 : decode cX6_size 1 = .ok (.getfield 15, 3) := by decide +kernel
theorem dX6_size_4 : decode cX6_size 4 = .ok (.ireturn, 1) := by decide +kernel
theorem dX6_isFull_0 : decode cX6_isFull 0 = .ok (.aload_n 0, 1) := by decide +kernel
theorem dX6_isFull_1 : decode cX6_isFull 1 = .ok (.getfield 15, 3) := by decide +kernel
theorem dX6_isFull_4 : decode cX6_isFull 4 = .ok (.bipush 40, 2) := by decide +kernel
theorem dX6_isFull_6 : decode cX6_isFull 6 = .ok (.if_icmp .lt 7, 3) := by decide +kernel
theorem dX6_isFull_9 : decode cX6_isFull 9 = .ok (.iconst 1, 1) := by decide +kernel
theorem dX6_isFull_10 : decode cX6_isFull 10 = .ok (.goto 4, 3) := by decide +kernel
theorem dX6_isFull_13 : decode cX6_isFull 13 = .ok (.iconst 0, 1) := by decide +kernel
theorem dX6_isFull_14 : decode cX6_isFull 14 = .ok (.ireturn, 1) := by decide +kernel
theorem dX6_clear_0 : decode cX6_clear 0 = .ok (.aload_n 0, 1) := by decide +kernel
theorem dX6_clear_1 : decode cX6_clear 1 = .ok (.iconst 0, 1) := by decide +kernel
theorem dX6_clear_2 : decode cX6_clear 2 = .ok (.putfield 15, 3) := by decide +kernel
theorem dX6_clear_5 : decode cX6_clear 5 = .ok (.return_, 1) := by decide +kernel
theorem dX6_append_0 : decode cX6_append 0 = .ok (.aload_n 0, 1) := by decide +kernel
theorem dX6_append_1 : decode cX6_append 1 = .ok (.getfield 15, 3) := by decide +kernel
theorem dX6_append_4 : decode cX6_append 4 = .ok (.ifCond .lt 32, 3) := by decide +kernel
theorem dX6_append_7 : decode cX6_append 7 = .ok (.aload_n 0, 1) := by decide +kernel
theorem dX6_append_8 : decode cX6_append 8 = .ok (.getfield 15, 3) := by decide +kernel
theorem dX6_append_11 : decode cX6_append 11 = .ok (.bipush 40, 2) := by decide +kernel
theorem dX6_append_13 : decode cX6_append 13 = .ok (.if_icmp .ge 23, 3) := by decide +kernel
theorem dX6_append_16 : decode cX6_append 16 = .ok (.aload_n 0, 1) := by decide +kernel
theorem dX6_append_17 : decode cX6_append 17 = .ok (.getfield 9, 3) := by decide +kernel
theorem dX6_append_20 : decode cX6_append 20 = .ok (.aload_n 0, 1) := by decide +kernel
theorem dX6_append_21 : decode cX6_append 21 = .ok (.getfield 15, 3) := by decide +kernel
theorem dX6_append_24 : decode cX6_append 24 = .ok (.iload_n 1, 1) := by decide +kernel
theorem dX6_append_25 : decode cX6_append 25 = .ok (.castore, 1) := by decide +kernel
theorem dX6_append_26 : decode cX6_append 26 = .ok (.aload_n 0, 1) := by decide +kernel
theorem dX6_append_27 : decode cX6_append 27 = .ok (.dup, 1) := by decide +kernel
theorem dX6_append_28 : decode cX6_append 28 = .ok (.getfield 15, 3) := by decide +kernel
theorem dX6_append_31 : decode cX6_append 31 = .ok (.iconst 1, 1) := by decide +kernel
theorem dX6_append_32 : decode cX6_append 32 = .ok (.iadd, 1) := by decide +kernel
theorem dX6_append_33 : decode cX6_append 33 = .ok (.putfield 15, 3) := by decide +kernel
theorem dX6_append_36 : decode cX6_append 36 = .ok (.return_, 1) := by decide +kernel
theorem dX6_at_0 : decode cX6_at 0 = .ok (.iload_n 1, 1) := by decide +kernel
theorem dX6_at_1 : decode cX6_at 1 = .ok (.ifCond .lt 17, 3) := by decide +kernel
theorem dX6_at_4 : decode cX6_at 4 = .ok (.iload_n 1, 1) := by decide +kernel
theorem dX6_at_5 : decode cX6_at 5 = .ok (.aload_n 0, 1) := by decide +kernel
theorem dX6_at_6 : decode cX6_at 6 = .ok (.getfield 15, 3) := by decide +kernel
theorem dX6_at_9 : decode cX6_at 9 = .ok (.if_icmp .ge 9, 3) := by decide +kernel
theorem dX6_at_12 : decode cX6_at 12 = .ok (.iload_n 1, 1) := by decide +kernel
theorem dX6_at_13 : decode cX6_at 13 = .ok (.bipush 40, 2) := by decide +kernel
theorem dX6_at_15 : decode cX6_at 15 = .ok (.if_icmp .lt 7, 3) := by decide +kernel
theorem dX6_at_18 : decode cX6_at 18 = .ok (.iconst 0, 1) := by decide +kernel
theorem dX6_at_19 : decode cX6_at 19 = .ok (.goto 9, 3) := by decide +kernel
theorem dX6_at_22 : decode cX6_at 22 = .ok (.aload_n 0, 1) := by decide +kernel
theorem dX6_at_23 : decode cX6_at 23 = .ok (.getfield 9, 3) := by decide +kernel
theorem dX6_at_26 : decode cX6_at 26 = .ok (.iload_n 1, 1) := by decide +kernel
theorem dX6_at_27 : decode cX6_at 27 = .ok (.caload, 1) := by decide +kernel
theorem dX6_at_28 : decode cX6_at 28 = .ok (.ireturn, 1) := by decide +kernel
end
section
theorem dX8_isVariable_0 : decode cX8_isVariable 0 = .ok (.iload_n 0, 1) := by decide +kernel
theorem dX8_isVariable_1 : decode cX8_isVariable 1 = .ok (.ifCond .lt 13, 3) := by decide +kernel
theorem dX8_isVariable_4 : decode cX8_isVariable 4 = .ok (.iload_n 0, 1) := by decide +kernel
theorem dX8_isVariable_5 : decode cX8_isVariable 5 = .ok (.bipush 6, 2) := by decide +kernel
theorem dX8_isVariable_7 : decode cX8_isVariable 7 = .ok (.if_icmp .ge 7, 3) := by decide +kernel
theorem dX8_isVariable_10 : decode cX8_isVariable 10 = .ok (.iconst 1, 1) := by decide +kernel
theorem dX8_isVariable_11 : decode cX8_isVariable 11 = .ok (.goto 4, 3) := by decide +kernel
theorem dX8_isVariable_14 : decode cX8_isVariable 14 = .ok (.iconst 0, 1) := by decide +kernel
theorem dX8_isVariable_15 : decode cX8_isVariable 15 = .ok (.ireturn, 1) := by decide +kernel
theorem dX8_isWithin_0 : decode cX8_isWithin 0 = .ok (.iload_n 0, 1) := by decide +kernel
theorem dX8_isWithin_1 : decode cX8_isWithin 1 = .ok (.iload_n 1, 1) := by decide +kernel
theorem dX8_isWithin_2 : decode cX8_isWithin 2 = .ok (.ineg, 1) := by decide +kernel
theorem dX8_isWithin_3 : decode cX8_isWithin 3 = .ok (.if_icmp .lt 12, 3) := by decide +kernel
theorem dX8_isWithin_6 : decode cX8_isWithin 6 = .ok (.iload_n 0, 1) := by decide +kernel
theorem dX8_isWithin_7 : decode cX8_isWithin 7 = .ok (.iload_n 1, 1) := by decide +kernel
theorem dX8_isWithin_8 : decode cX8_isWithin 8 = .ok (.if_icmp .gt 7, 3) := by decide +kernel
theorem dX8_isWithin_11 : decode cX8_isWithin 11 = .ok (.iconst 1, 1) := by decide +kernel
theorem dX8_isWithin_12 : decode cX8_isWithin 12 = .ok (.goto 4, 3) := by decide +kernel
theorem dX8_isWithin_15 : decode cX8_isWithin 15 = .ok (.iconst 0, 1) := by decide +kernel
theorem dX8_isWithin_16 : decode cX8_isWithin 16 = .ok (.ireturn, 1) := by decide +kernel
theorem dX8_isRelation_0 : decode cX8_isRelation 0 = .ok (.iload_n 0, 1) := by decide +kernel
theorem dX8_isRelation_1 : decode cX8_isRelation 1 = .ok (.ifCond .lt 12, 3) := by decide +kernel
theorem dX8_isRelation_4 : decode cX8_isRelation 4 = .ok (.iload_n 0, 1) := by decide +kernel
theorem dX8_isRelation_5 : decode cX8_isRelation 5 = .ok (.iconst 2, 1) := by decide +kernel
theorem dX8_isRelation_6 : decode cX8_isRelation 6 = .ok (.if_icmp .gt 7, 3) := by decide +kernel
theorem dX8_isRelation_9 : decode cX8_isRelation 9 = .ok (.iconst 1, 1) := by decide +kernel
theorem dX8_isRelation_10 : decode cX8_isRelation 10 = .ok (.goto 4, 3) := by decide +kernel
theorem dX8_isRelation_13 : decode cX8_isRelation 13 = .ok (.iconst 0, 1) := by decide +kernel
theorem dX8_isRelation_14 : decode cX8_isRelation 14 = .ok (.ireturn, 1) := by decide +kernel
theorem dX8_isStrength_0 : decode cX8_isStrength 0 = .ok (.iload_n 0, 1) := by decide +kernel
theorem dX8_isStrength_1 : decode cX8_isStrength 1 = .ok (.ifCond .lt 12, 3) := by decide +kernel
theorem dX8_isStrength_4 : decode cX8_isStrength 4 = .ok (.iload_n 0, 1) := by decide +kernel
theorem dX8_isStrength_5 : decode cX8_isStrength 5 = .ok (.iconst 3, 1) := by decide +kernel
theorem dX8_isStrength_6 : decode cX8_isStrength 6 = .ok (.if_icmp .gt 7, 3) := by decide +kernel
theorem dX8_isStrength_9 : decode cX8_isStrength 9 = .ok (.iconst 1, 1) := by decide +kernel
theorem dX8_isStrength_10 : decode cX8_isStrength 10 = .ok (.goto 4, 3) := by decide +kernel
theorem dX8_isStrength_13 : decode cX8_isStrength 13 = .ok (.iconst 0, 1) := by decide +kernel
theorem dX8_isStrength_14 : decode cX8_isStrength 14 = .ok (.ireturn, 1) := by decide +kernel
theorem dX8_isSoft_0 : decode cX8_isSoft 0 = .ok (.iload_n 0, 1) := by decide +kernel
theorem dX8_isSoft_1 : decode cX8_isSoft 1 = .ok (.iconst 1, 1) := by decide +kernel
theorem dX8_isSoft_2 : decode cX8_isSoft 2 = .ok (.if_icmp .lt 12, 3) := by decide +kernel
theorem dX8_isSoft_5 : decode cX8_isSoft 5 = .ok (.iload_n 0, 1) := by decide +kernel
theorem dX8_isSoft_6 : decode cX8_isSoft 6 = .ok (.iconst 3, 1) := by decide +kernel
theorem dX8_isSoft_7 : decode cX8_isSoft 7 = .ok (.if_icmp .gt 7, 3) := by decide +kernel
theorem dX8_isSoft_10 : decode cX8_isSoft 10 = .ok (.iconst 1, 1) := by decide +kernel
theorem dX8_isSoft_11 : decode cX8_isSoft 11 = .ok (.goto 4, 3) := by decide +kernel
theorem dX8_isSoft_14 : decode cX8_isSoft 14 = .ok (.iconst 0, 1) := by decide +kernel
theorem dX8_isSoft_15 : decode cX8_isSoft 15 = .ok (.ireturn, 1) := by decide +kernel
theorem dX8_isWeight_0 : decode cX8_isWeight 0 = .ok (.iload_n 0, 1) := by decide +kernel
theorem dX8_isWeight_1 : decode cX8_isWeight 1 = .ok (.iconst 1, 1) := by decide +kernel
theorem dX8_isWeight_2 : decode cX8_isWeight 2 = .ok (.if_icmp .lt 12, 3) := by decide +kernel
theorem dX8_isWeight_5 : decode cX8_isWeight 5 = .ok (.iload_n 0, 1) := by decide +kernel
theorem dX8_isWeight_6 : decode cX8_isWeight 6 = .ok (.iconst 5, 1) := by decide +kernel
theorem dX8_isWeight_7 : decode cX8_isWeight 7 = .ok (.if_icmp .gt 7, 3) := by decide +kernel
theorem dX8_isWeight_10 : decode cX8_isWeight 10 = .ok (.iconst 1, 1) := by decide +kernel
theorem dX8_isWeight_11 : decode cX8_isWeight 11 = .ok (.goto 4, 3) := by decide +kernel
theorem dX8_isWeight_14 : decode cX8_isWeight 14 = .ok (.iconst 0, 1) := by decide +kernel
theorem dX8_isWeight_15 : decode cX8_isWeight 15 = .ok (.ireturn, 1) := by decide +kernel
theorem dX8_isPart_0 : decode cX8_isPart 0 = .ok (.iload_n 0, 1) := by decide +kernel
theorem dX8_isPart_1 : decode cX8_isPart 1 = .ok (.ifCond .eq 8, 3) := by decide +kernel
theorem dX8_isPart_4 : decode cX8_isPart 4 = .ok (.iload_n 0, 1) := by decide +kernel
theorem dX8_isPart_5 : decode cX8_isPart 5 = .ok (.iconst 1, 1) := by decide +kernel
theorem dX8_isPart_6 : decode cX8_isPart 6 = .ok (.if_icmp .ne 7, 3) := by decide +kernel
theorem dX8_isPart_9 : decode cX8_isPart 9 = .ok (.iconst 1, 1) := by decide +kernel
theorem dX8_isPart_10 : decode cX8_isPart 10 = .ok (.goto 4, 3) := by decide +kernel
theorem dX8_isPart_13 : decode cX8_isPart 13 = .ok (.iconst 0, 1) := by decide +kernel
theorem dX8_isPart_14 : decode cX8_isPart 14 = .ok (.ireturn, 1) := by decide +kernel
theorem dX8_isAllZero_0 : decode cX8_isAllZero 0 = .ok (.iconst 0, 1) := by decide +kernel
theorem dX8_isAllZero_1 : decode cX8_isAllZero 1 = .ok (.istore_n 1, 1) := by decide +kernel
theorem dX8_isAllZero_2 : decode cX8_isAllZero 2 = .ok (.iload_n 1, 1) := by decide +kernel
theorem dX8_isAllZero_3 : decode cX8_isAllZero 3 = .ok (.aload_n 0, 1) := by decide +kernel
theorem dX8_isAllZero_4 : decode cX8_isAllZero 4 = .ok (.arraylength, 1) := by decide +kernel
theorem dX8_isAllZero_5 : decode cX8_isAllZero 5 = .ok (.if_icmp .ge 17, 3) := by decide +kernel
theorem dX8_isAllZero_8 : decode cX8_isAllZero 8 = .ok (.aload_n 0, 1) := by decide +kernel
theorem dX8_isAllZero_9 : decode cX8_isAllZero 9 = .ok (.iload_n 1, 1) := by decide +kernel
theorem dX8_isAllZero_10 : decode cX8_isAllZero 10 = .ok (.iaload, 1) := by decide +kernel
theorem dX8_isAllZero_11 : decode cX8_isAllZero 11 = .ok (.ifCond .eq 5, 3) := by decide +kernel
theorem dX8_isAllZero_14 : decode cX8_isAllZero 14 = .ok (.iconst 0, 1) := by decide +kernel
theorem dX8_isAllZero_15 : decode cX8_isAllZero 15 = .ok (.ireturn, 1) := by decide +kernel
theorem dX8_isAllZero_16 : decode cX8_isAllZero 16 = .ok (.iinc 1 1, 3) := by decide +kernel
theorem dX8_isAllZero_19 : decode cX8_isAllZero 19 = .ok (.goto (-17), 3) := by decide +kernel
theorem dX8_isAllZero_22 : decode cX8_isAllZero 22 = .ok (.iconst 1, 1) := by decide +kernel
theorem dX8_isAllZero_23 : decode cX8_isAllZero 23 = .ok (.ireturn, 1) := by decide +kernel
theorem dX8_partOf_0 : decode cX8_partOf 0 = .ok (.lload_n 2, 1) := by decide +kernel
theorem dX8_partOf_1 : decode cX8_partOf 1 = .ok (.lstore 5, 2) := by decide +kernel
theorem dX8_partOf_3 : decode cX8_partOf 3 = .ok (.lload_n 0, 1) := by decide +kernel
theorem dX8_partOf_4 : decode cX8_partOf 4 = .ok (.invokestatic 310, 3) := by decide +kernel
theorem dX8_partOf_7 : decode cX8_partOf 7 = .ok (.lstore 7, 2) := by decide +kernel
theorem dX8_partOf_9 : decode cX8_partOf 9 = .ok (.iconst 0, 1) := by decide +kernel
theorem dX8_partOf_10 : decode cX8_partOf 10 = .ok (.istore 9, 2) := by decide +kernel
theorem dX8_partOf_12 : decode cX8_partOf 12 = .ok (.iload 9, 2) := by decide +kernel
theorem dX8_partOf_14 : decode cX8_partOf 14 = .ok (.sipush 200, 3) := by decide +kernel
theorem dX8_partOf_17 : decode cX8_partOf 17 = .ok (.if_icmp .ge 31, 3) := by decide +kernel
theorem dX8_partOf_20 : decode cX8_partOf 20 = .ok (.lload 7, 2) := by decide +kernel
theorem dX8_partOf_22 : decode cX8_partOf 22 = .ok (.lconst 0, 1) := by decide +kernel
theorem dX8_partOf_23 : decode cX8_partOf 23 = .ok (.lcmp, 1) := by decide +kernel
theorem dX8_partOf_24 : decode cX8_partOf 24 = .ok (.ifCond .eq 24, 3) := by decide +kernel
theorem dX8_partOf_27 : decode cX8_partOf 27 = .ok (.lload 5, 2) := by decide +kernel
theorem dX8_partOf_29 : decode cX8_partOf 29 = .ok (.lload 7, 2) := by decide +kernel
theorem dX8_partOf_31 : decode cX8_partOf 31 = .ok (.lrem, 1) := by decide +kernel
theorem dX8_partOf_32 : decode cX8_partOf 32 = .ok (.lstore 10, 2) := by decide +kernel
theorem dX8_partOf_34 : decode cX8_partOf 34 = .ok (.lload 7, 2) := by decide +kernel
theorem dX8_partOf_36 : decode cX8_partOf 36 = .ok (.lstore 5, 2) := by decide +kernel
theorem dX8_partOf_38 : decode cX8_partOf 38 = .ok (.lload 10, 2) := by decide +kernel
theorem dX8_partOf_40 : decode cX8_partOf 40 = .ok (.lstore 7, 2) := by decide +kernel
theorem dX8_partOf_42 : decode cX8_partOf 42 = .ok (.iinc 9 1, 3) := by decide +kernel
theorem dX8_partOf_45 : decode cX8_partOf 45 = .ok (.goto (-33), 3) := by decide +kernel
theorem dX8_partOf_48 : decode cX8_partOf 48 = .ok (.lload 5, 2) := by decide +kernel
theorem dX8_partOf_50 : decode cX8_partOf 50 = .ok (.lconst 0, 1) := by decide +kernel
theorem dX8_partOf_51 : decode cX8_partOf 51 = .ok (.lcmp, 1) := by decide +kernel
theorem dX8_partOf_52 : decode cX8_partOf 52 = .ok (.ifCond .gt 14, 3) := by decide +kernel
theorem dX8_partOf_55 : decode cX8_partOf 55 = .ok (.iload 4, 2) := by decide +kernel
theorem dX8_partOf_57 : decode cX8_partOf 57 = .ok (.ifCond .ne 7, 3) := by decide +kernel
theorem dX8_partOf_60 : decode cX8_partOf 60 = .ok (.lconst 0, 1) := by decide +kernel
theorem dX8_partOf_61 : decode cX8_partOf 61 = .ok (.goto 4, 3) := by decide +kernel
theorem dX8_partOf_64 : decode cX8_partOf 64 = .ok (.lconst 1, 1) := by decide +kernel
theorem dX8_partOf_65 : decode cX8_partOf 65 = .ok (.lreturn, 1) := by decide +kernel
theorem dX8_partOf_66 : decode cX8_partOf 66 = .ok (.iload 4, 2) := by decide +kernel
theorem dX8_partOf_68 : decode cX8_partOf 68 = .ok (.ifCond .ne 10, 3) := by decide +kernel
theorem dX8_partOf_71 : decode cX8_partOf 71 = .ok (.lload_n 0, 1) := by decide +kernel
theorem dX8_partOf_72 : decode cX8_partOf 72 = .ok (.lload 5, 2) := by decide +kernel
theorem dX8_partOf_74 : decode cX8_partOf 74 = .ok (.ldiv, 1) := by decide +kernel
theorem dX8_partOf_75 : decode cX8_partOf 75 = .ok (.goto 7, 3) := by decide +kernel
theorem dX8_partOf_78 : decode cX8_partOf 78 = .ok (.lload_n 2, 1) := by decide +kernel
theorem dX8_partOf_79 : decode cX8_partOf 79 = .ok (.lload 5, 2) := by decide +kernel
theorem dX8_partOf_81 : decode cX8_partOf 81 = .ok (.ldiv, 1) := by decide +kernel
theorem dX8_partOf_82 : decode cX8_partOf 82 = .ok (.lreturn, 1) := by decide +kernel
end
section
/-! Any world, and in it one object with its array (places i, j): what its methods do is told by the two cells. -/
abbrev gPc (D : va_G) (cy : Nat → ClassId) (ws : va_W) (sz : Nat) (As : List Value) : Array Value → State → Prop := va_Pc As (fun U => U.heap.size = sz ∧ va_P D vwCl ws U.heap ∧ va_K D vwCl (tyW cy) U ∧ va_D (fun _ => True) ws)
abbrev gB (D : va_G) (cy : Nat → ClassId) (A : Nat → Prop) (ws : va_W) (t : State) : Prop := va_P D vwCl ws t.heap ∧ va_K D vwCl (tyW cy) t ∧ va_D A ws
abbrev gQi (D : va_G) (cy : Nat → ClassId) (ws : va_W) (sz : Nat) (post : Int32 → va_W → Prop) : Array Value → State → Outcome → State → Prop := va_Qi post (gB D cy (va_A ws sz)) (va_A ws sz)
abbrev gQl (D : va_G) (cy : Nat → ClassId) (ws : va_W) (sz : Nat) (post : Int64 → va_W → Prop) : Array Value → State → Outcome → State → Prop := va_Ql post (gB D cy (va_A ws sz)) (va_A ws sz)
abbrev gQv (D : va_G) (cy : Nat → ClassId) (ws : va_W) (sz : Nat) (post : va_W → Prop) : Array Value → State → Outcome → State → Prop := va_Qv post (gB D cy (va_A ws sz)) (va_A ws sz)
theorem gHead {l : Launch} {y : MethodName} {wt ws' : List Cond} {rm : Room} {cc : ByteArray} {maxL : Nat} {ret : Option FieldType} {D : va_G} {cy : Nat → ClassId} {ws : va_W} {sz : Nat} {As : List Value} {Qc : Array Value → State → Outcome → State → Prop} {mc ms : Nat} {free : Addr → Prop} (hy : plainName y.cls = true) (hw : wt = Cond.code y cc maxL ret :: ws') (hn : (lg_sl As).length ≤ maxL)
    (body : ∀ (p : Program) (e : Env) (s : State) (m : MethodId) (below : List Frame) (meth : Method) (c : Code) (ls : Array Slot), p.tables.exec = Jvm.exec → c.code = cc → meth.sig.returnType = ret → meth.locks = false → c.maxLocals = maxL → s.vm.findClass y.cls = some m.cls → (∀ w ∈ wt, w.before As.toArray s = true) → s.heap.size = sz → va_P D vwCl ws s.heap → va_K D vwCl (tyW cy) s → va_D (va_A ws sz) ws → va_S (va_A ws sz) s.heap s.heap [] → (∀ q : Nat, s.heap.size ≤ q → va_A ws sz q) → lv_has ls maxL (lv_args 0 As) →
      W p l e (headSpec wt rm).room s m As.toArray below meth c s.heap [] 0 0 (MQ below Qc As.toArray s mc ms free) (F0 m 0 ls [])) : Met l y wt rm (gPc D cy ws sz As) Qc mc ms free := by
  refine Met.ofW (cc := cc) (maxL := maxL) (ret := ret) hy hw ?_
  intro p e s m args below meth c s₁ B hml hv
  obtain ⟨rfl, hsz, hP, hK, hD0⟩ := hv
  rw [lg_entry_eq]
  exact body p e s m below meth c _ B.exec B.bytes B.returns B.notSynchronized hml (findClass_of_methodNamed B.named) (atoms_spec (ws := wt) B.pre) hsz hP hK (hsz ▸ hD0.self) va_S.rf (fun q h => Or.inr (hsz ▸ h)) (lv_entry As hn)
theorem gBlind {D : va_G} {cy : Nat → ClassId} {ws : va_W} {sz : Nat} {As : List Value} : FrameBlind (gPc D cy ws sz As) := fun a U g mk q => by
  obtain ⟨q0, q1, qP, qK, qD⟩ := q
  exact ⟨q0, q1, qP, va_K.moved (u := U) (U := U.calling g mk a) (Vm.Alike.refl U.vm) qK, qD⟩
section VGC
variable {p : Program} {l : Launch} {e : Env} {R : Room} {s : State} {m : MethodId} {args : Array Value} {below : List Frame} {meth : Method} {c : Code} {H : Heap} {locs : List Loc} {cells slots : Nat} {Q : State → Prop}
variable {cc : ByteArray} {pc : Nat} {ls : Array Slot} {rest : List Value} {D : va_G} {A : Nat → Prop} {H0 : Heap} {cy : Nat → ClassId} {ws : va_W}
theorem gFree (hD : va_D A ws) (hS : va_S A H0 H locs) (hA : ∀ q, H0.size ≤ q → A q) : ∀ q, va_A ws H.size q → A q := fun q h => by
  rcases h with ⟨k, e, h⟩ | h
  · exact hD.2 k (q, e) h
  · exact hA q (Nat.le_trans hS.1 h)
theorem gBack {ws' : va_W} {t : State} {H1 : Heap} (hD : va_D A ws) (hS : va_S A H0 H locs) (hA : ∀ q, H0.size ≤ q → A q) (ht : t.heap = H1) (hB : gB D cy (va_A ws H.size) ws' t) : va_P D vwCl ws' H1 ∧ va_D A ws' := by
  obtain ⟨h1, -, h3⟩ := hB
  exact ⟨ht ▸ h1, h3.weaken (fun _ q _ h => gFree hD hS hA q.1 h)⟩
variable {y : MethodName} {bytes : ByteArray} {maxL nL n index : Nat} {wt : List Cond} {rm : Room} {Ts : List Cond} {own : String} {As : List Value} {ret : Option FieldType} {b q0 ci : Nat} {vs : List Value} {r0 : vw_C}
theorem gCalli {post : Int32 → va_W → Prop} (hexec : p.tables.exec = Jvm.exec) (hb : c.code = cc) (hml : c.maxLocals = nL) (hown : s.vm.findClass own = some m.cls) (hts : ∀ w ∈ Ts, w.before args s = true) (hK : va_K D vwCl (tyW cy) s) (hP : va_P D vwCl ws H) (hD : va_D A ws) (hS : va_S A H0 H locs) (hA : ∀ q, H0.size ≤ q → A q) (hls : ls.size = nL) (hq : ws[q0]? = some (b, .inr (ci, vs))) (hc : vwCl[ci]? = some r0)
    (hM : Met l y wt rm (gPc D cy ws H.size (.ref b :: As)) (gQi D cy ws H.size post) 0 0 (va_A ws H.size)) (cw : CallW R s args own r0.1 index y bytes maxL ret wt rm 0 0 n) (hn : As.length = n) {st : List Value} (hst : st = As.reverse ++ .ref b :: rest) (hW : (rest.map fun v => v.category).sum ≤ 8) (hf : cells + 0 ≤ R.cells ∧ slots + 0 ≤ R.slots) (hdg : decode cc pc = .ok (.invokevirtual index, 3))
    (kk : ∀ (r : Int32) (ws' : va_W) (H : Heap) (locs : List Loc), post r ws' → va_P D vwCl ws' H → va_D A ws' → va_S A H0 H locs → W p l e R s m args below meth c H locs cells slots Q (F0 m (pc + 3) ls (.int r :: rest))) : W p l e R s m args below meth c H locs cells slots Q (F0 m pc ls st) := by
  refine va_calli (va_runV (As := As) (rest := rest) ⟨hexec, hb, hml, hown, hts⟩ hM cw ⟨gBlind, va_recv hK hP hc hq, fun U hU hW => ⟨rfl, by rw [hU], by rw [hU]; exact hP, va_K.moved hW.alike hK, hD.weaken (fun _ _ _ _ => trivial)⟩⟩ rfl hn hls hst (lv_room hW) hdg hf) hS (fun q _ h => gFree hD hS hA q h) (gFree hD hS hA) (fun r S' t H1 locs1 ht hvm hp hB hz hk hS1 => ?_)
  obtain ⟨h1, h2⟩ := gBack hD hS hA ht hB
  exact kk r S' H1 locs1 hp h1 h2 hS1
theorem gCalll {post : Int64 → va_W → Prop} (hexec : p.tables.exec = Jvm.exec) (hb : c.code = cc) (hml : c.maxLocals = nL) (hown : s.vm.findClass own = some m.cls) (hts : ∀ w ∈ Ts, w.before args s = true) (hK : va_K D vwCl (tyW cy) s) (hP : va_P D vwCl ws H) (hD : va_D A ws) (hS : va_S A H0 H locs) (hA : ∀ q, H0.size ≤ q → A q) (hls : ls.size = nL) (hq : ws[q0]? = some (b, .inr (ci, vs))) (hc : vwCl[ci]? = some r0)
    (hM : Met l y wt rm (gPc D cy ws H.size (.ref b :: As)) (gQl D cy ws H.size post) 0 0 (va_A ws H.size)) (cw : CallW R s args own r0.1 index y bytes maxL ret wt rm 0 0 n) (hn : As.length = n) {st : List Value} (hst : st = As.reverse ++ .ref b :: rest) (hW : (rest.map fun v => v.category).sum ≤ 8) (hf : cells + 0 ≤ R.cells ∧ slots + 0 ≤ R.slots) (hdg : decode cc pc = .ok (.invokevirtual index, 3))
    (kk : ∀ (r : Int64) (ws' : va_W) (H : Heap) (locs : List Loc), post r ws' → va_P D vwCl ws' H → va_D A ws' → va_S A H0 H locs → W p l e R s m args below meth c H locs cells slots Q (F0 m (pc + 3) ls (.long r :: rest))) : W p l e R s m args below meth c H locs cells slots Q (F0 m pc ls st) := by
  refine va_calll (va_runV (As := As) (rest := rest) ⟨hexec, hb, hml, hown, hts⟩ hM cw ⟨gBlind, va_recv hK hP hc hq, fun U hU hW => ⟨rfl, by rw [hU], by rw [hU]; exact hP, va_K.moved hW.alike hK, hD.weaken (fun _ _ _ _ => trivial)⟩⟩ rfl hn hls hst (lv_room hW) hdg hf) hS (fun q _ h => gFree hD hS hA q h) (gFree hD hS hA) (fun r S' t H1 locs1 ht hvm hp hB hz hk hS1 => ?_)
  obtain ⟨h1, h2⟩ := gBack hD hS hA ht hB
  exact kk r S' H1 locs1 hp h1 h2 hS1
theorem gCallv {post : va_W → Prop} (hexec : p.tables.exec = Jvm.exec) (hb : c.code = cc) (hml : c.maxLocals = nL) (hown : s.vm.findClass own = some m.cls) (hts : ∀ w ∈ Ts, w.before args s = true) (hK : va_K D vwCl (tyW cy) s) (hP : va_P D vwCl ws H) (hD : va_D A ws) (hS : va_S A H0 H locs) (hA : ∀ q, H0.size ≤ q → A q) (hls : ls.size = nL) (hq : ws[q0]? = some (b, .inr (ci, vs))) (hc : vwCl[ci]? = some r0)
    (hM : Met l y wt rm (gPc D cy ws H.size (.ref b :: As)) (gQv D cy ws H.size post) 0 0 (va_A ws H.size)) (cw : CallW R s args own r0.1 index y bytes maxL ret wt rm 0 0 n) (hn : As.length = n) {st : List Value} (hst : st = As.reverse ++ .ref b :: rest) (hW : (rest.map fun v => v.category).sum ≤ 8) (hf : cells + 0 ≤ R.cells ∧ slots + 0 ≤ R.slots) (hdg : decode cc pc = .ok (.invokevirtual index, 3))
    (kk : ∀ (ws' : va_W) (H : Heap) (locs : List Loc), post ws' → va_P D vwCl ws' H → va_D A ws' → va_S A H0 H locs → W p l e R s m args below meth c H locs cells slots Q (F0 m (pc + 3) ls rest)) : W p l e R s m args below meth c H locs cells slots Q (F0 m pc ls st) := by
  refine va_callv (va_runV (As := As) (rest := rest) ⟨hexec, hb, hml, hown, hts⟩ hM cw ⟨gBlind, va_recv hK hP hc hq, fun U hU hW => ⟨rfl, by rw [hU], by rw [hU]; exact hP, va_K.moved hW.alike hK, hD.weaken (fun _ _ _ _ => trivial)⟩⟩ rfl hn hls hst (lv_room hW) hdg hf) hS (fun q _ h => gFree hD hS hA q h) (gFree hD hS hA) (fun S' t H1 locs1 ht hvm hp hB hz hk hS1 => ?_)
  obtain ⟨h1, h2⟩ := gBack hD hS hA ht hB
  exact kk S' H1 locs1 hp h1 h2 hS1
end VGC
/-- the world with these two cells at the places i and j -/
def wZ (ws : va_W) (i j : Nat) (e1 e2 : Nat × va_E) : va_W := (ws.set j e2).set i e1
theorem wZ_i {ws : va_W} {i j : Nat} {e1 e2 : Nat × va_E} (hi : i < ws.length) : (wZ ws i j e1 e2)[i]? = some e1 := by
  unfold wZ
  rw [List.getElem?_set, if_pos rfl, if_pos (by rw [List.length_set]; exact hi)]
theorem wZ_j {ws : va_W} {i j : Nat} {e1 e2 : Nat × va_E} (hij : i ≠ j) (hj : j < ws.length) : (wZ ws i j e1 e2)[j]? = some e2 := by
  unfold wZ
  rw [List.getElem?_set, if_neg hij, List.getElem?_set, if_pos rfl, if_pos hj]
theorem wZ_n {ws : va_W} {i j k : Nat} {e1 e2 : Nat × va_E} (hi : i ≠ k) (hj : j ≠ k) : (wZ ws i j e1 e2)[k]? = ws[k]? := by
  unfold wZ
  rw [List.getElem?_set, if_neg hi, List.getElem?_set, if_neg hj]
theorem wZ_si {ws : va_W} {i j : Nat} {e1 e2 e : Nat × va_E} : (wZ ws i j e1 e2).set i e = wZ ws i j e e2 := by
  unfold wZ
  rw [List.set_set]
theorem wZ_sj {ws : va_W} {i j : Nat} {e1 e2 e : Nat × va_E} (hij : i ≠ j) : (wZ ws i j e1 e2).set j e = wZ ws i j e1 e := by
  unfold wZ
  rw [List.set_comm _ _ hij, List.set_set]
theorem wZ_self {ws : va_W} {i j : Nat} {e1 e2 : Nat × va_E} (h1 : ws[i]? = some e1) (h2 : ws[j]? = some e2) : wZ ws i j e1 e2 = ws := by
  apply List.ext_getElem?
  intro k
  unfold wZ
  rw [List.getElem?_set, List.getElem?_set, List.length_set]
  by_cases hi : i = k
  · subst hi
    rw [if_pos rfl, if_pos (List.getElem?_eq_some_iff.mp h1).1, h1]
  · rw [if_neg hi]
    by_cases hj : j = k
    · subst hj
      rw [if_pos rfl, if_pos (List.getElem?_eq_some_iff.mp h2).1, h2]
    · rw [if_neg hj]
end
section
/-! static methods on numbers; the costs of a layout -/
/-- Euclid's algorithm, n rounds at most -/
def gcdN : Nat → Int64 → Int64 → Int64
  | 0, d, _ => d
  | n + 1, d, r => if ¬ lg_cmp r 0 = 0 then gcdN n r (d - d / r * r) else d
theorem gcdN_s {n : Nat} {d r : Int64} : gcdN (n + 1) d r = if ¬ lg_cmp r 0 = 0 then gcdN n r (d - d / r * r) else d := rfl
def kPart (u d : Int64) (part : Int32) : Int64 := if 0 < lg_cmp (gcdN 200 d (absL u)) 0 then (if ¬ part = 0 then d / gcdN 200 d (absL u) else u / gcdN 200 d (absL u)) else (if ¬ part = 0 then 1 else 0)
theorem lc_pos {x : Int64} (h : 0 < lg_cmp x 0) : ¬ x = 0 := fun e => by subst e; exact absurd h (by decide)
def k_isVariable (x : Int32) : Int32 := if x < 0 then nI 0 else if nI 6 ≤ x then nI 0 else nI 1
set_option maxHeartbeats 4000000 in
set_option maxRecDepth 100000 in
theorem cS_isVariable (l : Launch) (sz : Nat) (x : Int32) : Met l yX8_isVariable wsX8_isVariable (rm9 0 0) (pPc sz [.int x]) (pQi sz (fun r => r = k_isVariable x)) 0 0 (fun q => sz ≤ q) := by
  refine pHead (cc := cX8_isVariable) (maxL := 1) (ret := (some .boolean)) (by decide) rfl (Nat.le_of_ble_eq_true rfl) ?_
  intro p e s m below meth c ls hx hb hr hlocks hml hown hts hsz hS hl
  have hown : s.vm.findClass RX8 = some m.cls := hown
  have hl : lv_has ls 1 [(0, .int x)] := hl
  refine lv_iload_n hx hb dX8_isVariable_0 rfl (lv_at hl 0 rfl) ?_
  refine lv_if_lt (tgt := 14) hx hb dX8_isVariable_1 (by decide) (fun c1 => ?_) (fun c1 => ?_)
  · skip
    refine lv_iconst (v := nI 0) hx hb dX8_isVariable_14 (by decide) ?_
    exact W.zret hx hb hr (by decide) (fun t ht hW => ⟨⟨_, (), rfl, by simp only [k_isVariable]; simp [c1], trivial⟩, hS.F ht⟩) hS.2.2 dX8_isVariable_15
  · skip
    refine lv_iload_n hx hb dX8_isVariable_4 rfl (lv_at hl 0 rfl) ?_
    refine lv_bipush (v := nI 6) hx hb dX8_isVariable_5 (by decide) ?_
    refine lv_icmp_ge (tgt := 14) hx hb dX8_isVariable_7 (by decide) (fun c2 => ?_) (fun c2 => ?_)
    · skip
      refine lv_iconst (v := nI 0) hx hb dX8_isVariable_14 (by decide) ?_
      exact W.zret hx hb hr (by decide) (fun t ht hW => ⟨⟨_, (), rfl, by simp only [k_isVariable]; simp [c1, c2], trivial⟩, hS.F ht⟩) hS.2.2 dX8_isVariable_15
    · skip
      refine lv_iconst (v := nI 1) hx hb dX8_isVariable_10 (by decide) ?_
      refine lv_goto (tgt := 15) hx hb dX8_isVariable_11 (by decide) ?_
      exact W.zret hx hb hr (by decide) (fun t ht hW => ⟨⟨_, (), rfl, by simp only [k_isVariable]; simp [c1, c2], trivial⟩, hS.F ht⟩) hS.2.2 dX8_isVariable_15
def k_isWithin (x y : Int32) : Int32 := if x < -y then nI 0 else if y < x then nI 0 else nI 1
set_option maxHeartbeats 4000000 in
set_option maxRecDepth 100000 in
theorem cS_isWithin (l : Launch) (sz : Nat) (x y : Int32) : Met l yX8_isWithin wsX8_isWithin (rm9 0 0) (pPc sz [.int x, .int y]) (pQi sz (fun r => r = k_isWithin x y)) 0 0 (fun q => sz ≤ q) := by
  refine pHead (cc := cX8_isWithin) (maxL := 2) (ret := (some .boolean)) (by decide) rfl (Nat.le_of_ble_eq_true rfl) ?_
  intro p e s m below meth c ls hx hb hr hlocks hml hown hts hsz hS hl
  have hown : s.vm.findClass RX8 = some m.cls := hown
  have hl : lv_has ls 2 [(0, .int x), (1, .int y)] := hl
  refine lv_iload_n hx hb dX8_isWithin_0 rfl (lv_at hl 0 rfl) ?_
  refine lv_iload_n hx hb dX8_isWithin_1 rfl (lv_at hl 1 rfl) ?_
  refine lv_ineg hx hb dX8_isWithin_2 ?_
  refine lv_icmp_lt (tgt := 15) hx hb dX8_isWithin_3 (by decide) (fun c1 => ?_) (fun c1 => ?_)
  · skip
    refine lv_iconst (v := nI 0) hx hb dX8_isWithin_15 (by decide) ?_
    exact W.zret hx hb hr (by decide) (fun t ht hW => ⟨⟨_, (), rfl, by simp only [k_isWithin]; simp [c1], trivial⟩, hS.F ht⟩) hS.2.2 dX8_isWithin_16
  · skip
    refine lv_iload_n hx hb dX8_isWithin_6 rfl (lv_at hl 0 rfl) ?_
    refine lv_iload_n hx hb dX8_isWithin_7 rfl (lv_at hl 1 rfl) ?_
    refine lv_icmp_gt (tgt := 15) hx hb dX8_isWithin_8 (by decide) (fun c2 => ?_) (fun c2 => ?_)
    · skip
      refine lv_iconst (v := nI 0) hx hb dX8_isWithin_15 (by decide) ?_
      exact W.zret hx hb hr (by decide) (fun t ht hW => ⟨⟨_, (), rfl, by simp only [k_isWithin]; simp [c1, c2], trivial⟩, hS.F ht⟩) hS.2.2 dX8_isWithin_16
    · skip
      refine lv_iconst (v := nI 1) hx hb dX8_isWithin_11 (by decide) ?_
      refine lv_goto (tgt := 16) hx hb dX8_isWithin_12 (by decide) ?_
      exact W.zret hx hb hr (by decide) (fun t ht hW => ⟨⟨_, (), rfl, by simp only [k_isWithin]; simp [c1, c2], trivial⟩, hS.F ht⟩) hS.2.2 dX8_isWithin_16
def k_isRelation (x : Int32) : Int32 := if x < 0 then nI 0 else if nI 2 < x then nI 0 else nI 1
set_option maxHeartbeats 4000000 in
set_option maxRecDepth 100000 in
theorem cS_isRelation (l : Launch) (sz : Nat) (x : Int32) : Met l yX8_isRelation wsX8_isRelation (rm9 0 0) (pPc sz [.int x]) (pQi sz (fun r => r = k_isRelation x)) 0 0 (fun q => sz ≤ q) := by
  refine pHead (cc := cX8_isRelation) (maxL := 1) (ret := (some .boolean)) (by decide) rfl (Nat.le_of_ble_eq_true rfl) ?_
  intro p e s m below meth c ls hx hb hr hlocks hml hown hts hsz hS hl
  have hown : s.vm.findClass RX8 = some m.cls := hown
  have hl : lv_has ls 1 [(0, .int x)] := hl
  refine lv_iload_n hx hb dX8_isRelation_0 rfl (lv_at hl 0 rfl) ?_
  refine lv_if_lt (tgt := 13) hx hb dX8_isRelation_1 (by decide) (fun c1 => ?_) (fun c1 => ?_)
  · skip
    refine lv_iconst (v := nI 0) hx hb dX8_isRelation_13 (by decide) ?_
    exact W.zret hx hb hr (by decide) (fun t ht hW => ⟨⟨_, (), rfl, by simp only [k_isRelation]; simp [c1], trivial⟩, hS.F ht⟩) hS.2.2 dX8_isRelation_14
  · skip
    refine lv_iload_n hx hb dX8_isRelation_4 rfl (lv_at hl 0 rfl) ?_
    refine lv_iconst (v := nI 2) hx hb dX8_isRelation_5 (by decide) ?_
    refine lv_icmp_gt (tgt := 13) hx hb dX8_isRelation_6 (by decide) (fun c2 => ?_) (fun c2 => ?_)
    · skip
      refine lv_iconst (v := nI 0) hx hb dX8_isRelation_13 (by decide) ?_
      exact W.zret hx hb hr (by decide) (fun t ht hW => ⟨⟨_, (), rfl, by simp only [k_isRelation]; simp [c1, c2], trivial⟩, hS.F ht⟩) hS.2.2 dX8_isRelation_14
    · skip
      refine lv_iconst (v := nI 1) hx hb dX8_isRelation_9 (by decide) ?_
      refine lv_goto (tgt := 14) hx hb dX8_isRelation_10 (by decide) ?_
      exact W.zret hx hb hr (by decide) (fun t ht hW => ⟨⟨_, (), rfl, by simp only [k_isRelation]; simp [c1, c2], trivial⟩, hS.F ht⟩) hS.2.2 dX8_isRelation_14
def k_isStrength (x : Int32) : Int32 := if x < 0 then nI 0 else if nI 3 < x then nI 0 else nI 1
set_option maxHeartbeats 4000000 in
set_option maxRecDepth 100000 in
theorem cS_isStrength (l : Launch) (sz : Nat) (x : Int32) : Met l yX8_isStrength wsX8_isStrength (rm9 0 0) (pPc sz [.int x]) (pQi sz (fun r => r = k_isStrength x)) 0 0 (fun q => sz ≤ q) := by
  refine pHead (cc := cX8_isStrength) (maxL := 1) (ret := (some .boolean)) (by decide) rfl (Nat.le_of_ble_eq_true rfl) ?_
  intro p e s m below meth c ls hx hb hr hlocks hml hown hts hsz hS hl
  have hown : s.vm.findClass RX8 = some m.cls := hown
  have hl : lv_has ls 1 [(0, .int x)] := hl
  refine lv_iload_n hx hb dX8_isStrength_0 rfl (lv_at hl 0 rfl) ?_
  refine lv_if_lt (tgt := 13) hx hb dX8_isStrength_1 (by decide) (fun c1 => ?_) (fun c1 => ?_)
  · skip
    refine lv_iconst (v := nI 0) hx hb dX8_isStrength_13 (by decide) ?_
    exact W.zret hx hb hr (by decide) (fun t ht hW => ⟨⟨_, (), rfl, by simp only [k_isStrength]; simp [c1], trivial⟩, hS.F ht⟩) hS.2.2 dX8_isStrength_14
  · skip
    refine lv_iload_n hx hb dX8_isStrength_4 rfl (lv_at hl 0 rfl) ?_
    refine lv_iconst (v := nI 3) hx hb dX8_isStrength_5 (by decide) ?_
    refine lv_icmp_gt (tgt := 13) hx hb dX8_isStrength_6 (by decide) (fun c2 => ?_) (fun c2 => ?_)
    · skip
      refine lv_iconst (v := nI 0) hx hb dX8_isStrength_13 (by decide) ?_
      exact W.zret hx hb hr (by decide) (fun t ht hW => ⟨⟨_, (), rfl, by simp only [k_isStrength]; simp [c1, c2], trivial⟩, hS.F ht⟩) hS.2.2 dX8_isStrength_14
    · skip
      refine lv_iconst (v := nI 1) hx hb dX8_isStrength_9 (by decide) ?_
      refine lv_goto (tgt := 14) hx hb dX8_isStrength_10 (by decide) ?_
      exact W.zret hx hb hr (by decide) (fun t ht hW => ⟨⟨_, (), rfl, by simp only [k_isStrength]; simp [c1, c2], trivial⟩, hS.F ht⟩) hS.2.2 dX8_isStrength_14
def k_isSoft (x : Int32) : Int32 := if x < nI 1 then nI 0 else if nI 3 < x then nI 0 else nI 1
set_option maxHeartbeats 4000000 in
set_option maxRecDepth 100000 in
theorem cS_isSoft (l : Launch) (sz : Nat) (x : Int32) : Met l yX8_isSoft wsX8_isSoft (rm9 0 0) (pPc sz [.int x]) (pQi sz (fun r => r = k_isSoft x)) 0 0 (fun q => sz ≤ q) := by
  refine pHead (cc := cX8_isSoft) (maxL := 1) (ret := (some .boolean)) (by decide) rfl (Nat.le_of_ble_eq_true rfl) ?_
  intro p e s m below meth c ls hx hb hr hlocks hml hown hts hsz hS hl
  have hown : s.vm.findClass RX8 = some m.cls := hown
  have hl : lv_has ls 1 [(0, .int x)] := hl
  refine lv_iload_n hx hb dX8_isSoft_0 rfl (lv_at hl 0 rfl) ?_
  refine lv_iconst (v := nI 1) hx hb dX8_isSoft_1 (by decide) ?_
  refine lv_icmp_lt (tgt := 14) hx hb dX8_isSoft_2 (by decide) (fun c1 => ?_) (fun c1 => ?_)
  · skip
    refine lv_iconst (v := nI 0) hx hb dX8_isSoft_14 (by decide) ?_
    exact W.zret hx hb hr (by decide) (fun t ht hW => ⟨⟨_, (), rfl, by simp only [k_isSoft]; simp [c1], trivial⟩, hS.F ht⟩) hS.2.2 dX8_isSoft_15
  · skip
    refine lv_iload_n hx hb dX8_isSoft_5 rfl (lv_at hl 0 rfl) ?_
    refine lv_iconst (v := nI 3) hx hb dX8_isSoft_6 (by decide) ?_
    refine lv_icmp_gt (tgt := 14) hx hb dX8_isSoft_7 (by decide) (fun c2 => ?_) (fun c2 => ?_)
    · skip
      refine lv_iconst (v := nI 0) hx hb dX8_isSoft_14 (by decide) ?_
      exact W.zret hx hb hr (by decide) (fun t ht hW => ⟨⟨_, (), rfl, by simp only [k_isSoft]; simp [c1, c2], trivial⟩, hS.F ht⟩) hS.2.2 dX8_isSoft_15
    · skip
      refine lv_iconst (v := nI 1) hx hb dX8_isSoft_10 (by decide) ?_
      refine lv_goto (tgt := 15) hx hb dX8_isSoft_11 (by decide) ?_
      exact W.zret hx hb hr (by decide) (fun t ht hW => ⟨⟨_, (), rfl, by simp only [k_isSoft]; simp [c1, c2], trivial⟩, hS.F ht⟩) hS.2.2 dX8_isSoft_15
def k_isWeight (x : Int32) : Int32 := if x < nI 1 then nI 0 else if nI 5 < x then nI 0 else nI 1
set_option maxHeartbeats 4000000 in
set_option maxRecDepth 100000 in
theorem cS_isWeight (l : Launch) (sz : Nat) (x : Int32) : Met l yX8_isWeight wsX8_isWeight (rm9 0 0) (pPc sz [.int x]) (pQi sz (fun r => r = k_isWeight x)) 0 0 (fun q => sz ≤ q) := by
  refine pHead (cc := cX8_isWeight) (maxL := 1) (ret := (some .boolean)) (by decide) rfl (Nat.le_of_ble_eq_true rfl) ?_
  intro p e s m below meth c ls hx hb hr hlocks hml hown hts hsz hS hl
  have hown : s.vm.findClass RX8 = some m.cls := hown
  have hl : lv_has ls 1 [(0, .int x)] := hl
  refine lv_iload_n hx hb dX8_isWeight_0 rfl (lv_at hl 0 rfl) ?_
  refine lv_iconst (v := nI 1) hx hb dX8_isWeight_1 (by decide) ?_
  refine lv_icmp_lt (tgt := 14) hx hb dX8_isWeight_2 (by decide) (fun c1 => ?_) (fun c1 => ?_)
  · skip
    refine lv_iconst (v := nI 0) hx hb dX8_isWeight_14 (by decide) ?_
    exact W.zret hx hb hr (by decide) (fun t ht hW => ⟨⟨_, (), rfl, by simp only [k_isWeight]; simp [c1], trivial⟩, hS.F ht⟩) hS.2.2 dX8_isWeight_15
  · skip
    refine lv_iload_n hx hb dX8_isWeight_5 rfl (lv_at hl 0 rfl) ?_
    refine lv_iconst (v := nI 5) hx hb dX8_isWeight_6 (by decide) ?_
    refine lv_icmp_gt (tgt := 14) hx hb dX8_isWeight_7 (by decide) (fun c2 => ?_) (fun c2 => ?_)
    · skip
      refine lv_iconst (v := nI 0) hx hb dX8_isWeight_14 (by decide) ?_
      exact W.zret hx hb hr (by decide) (fun t ht hW => ⟨⟨_, (), rfl, by simp only [k_isWeight]; simp [c1, c2], trivial⟩, hS.F ht⟩) hS.2.2 dX8_isWeight_15
    · skip
      refine lv_iconst (v := nI 1) hx hb dX8_isWeight_10 (by decide) ?_
      refine lv_goto (tgt := 15) hx hb dX8_isWeight_11 (by decide) ?_
      exact W.zret hx hb hr (by decide) (fun t ht hW => ⟨⟨_, (), rfl, by simp only [k_isWeight]; simp [c1, c2], trivial⟩, hS.F ht⟩) hS.2.2 dX8_isWeight_15
def k_isPart (x : Int32) : Int32 := if x = 0 then nI 1 else if x = nI 1 then nI 1 else nI 0
set_option maxHeartbeats 4000000 in
set_option maxRecDepth 100000 in
theorem cS_isPart (l : Launch) (sz : Nat) (x : Int32) : Met l yX8_isPart wsX8_isPart (rm9 0 0) (pPc sz [.int x]) (pQi sz (fun r => r = k_isPart x)) 0 0 (fun q => sz ≤ q) := by
  refine pHead (cc := cX8_isPart) (maxL := 1) (ret := (some .boolean)) (by decide) rfl (Nat.le_of_ble_eq_true rfl) ?_
  intro p e s m below meth c ls hx hb hr hlocks hml hown hts hsz hS hl
  have hown : s.vm.findClass RX8 = some m.cls := hown
  have hl : lv_has ls 1 [(0, .int x)] := hl
  refine lv_iload_n hx hb dX8_isPart_0 rfl (lv_at hl 0 rfl) ?_
  refine lv_if_eq (tgt := 9) hx hb dX8_isPart_1 (by decide) (fun c1 => ?_) (fun c1 => ?_)
  · skip
    refine lv_iconst (v := nI 1) hx hb dX8_isPart_9 (by decide) ?_
    refine lv_goto (tgt := 14) hx hb dX8_isPart_10 (by decide) ?_
    exact W.zret hx hb hr (by decide) (fun t ht hW => ⟨⟨_, (), rfl, by simp only [k_isPart]; simp [c1], trivial⟩, hS.F ht⟩) hS.2.2 dX8_isPart_14
  · skip
    refine lv_iload_n hx hb dX8_isPart_4 rfl (lv_at hl 0 rfl) ?_
    refine lv_iconst (v := nI 1) hx hb dX8_isPart_5 (by decide) ?_
    refine lv_icmp_ne (tgt := 13) hx hb dX8_isPart_6 (by decide) (fun c2 => ?_) (fun c2 => ?_)
    · skip
      refine lv_iconst (v := nI 0) hx hb dX8_isPart_13 (by decide) ?_
      exact W.zret hx hb hr (by decide) (fun t ht hW => ⟨⟨_, (), rfl, by simp only [k_isPart]; simp [c1, c2], trivial⟩, hS.F ht⟩) hS.2.2 dX8_isPart_14
    · skip
      refine lv_iconst (v := nI 1) hx hb dX8_isPart_9 (by decide) ?_
      refine lv_goto (tgt := 14) hx hb dX8_isPart_10 (by decide) ?_
      exact W.zret hx hb hr (by decide) (fun t ht hW => ⟨⟨_, (), rfl, by simp only [k_isPart]; simp [c1, c2], trivial⟩, hS.F ht⟩) hS.2.2 dX8_isPart_14
end
section
def fCl (k : Nat) (f : Nat → Int64) : Nat → Int64 := vp_updL f k 0
def fCp (g : Nat → Int64) (k : Nat) (f : Nat → Int64) : Nat → Int64 := vp_updL f k (g k)
set_option maxHeartbeats 4000000 in
set_option maxRecDepth 100000 in
theorem cC_clear (l : Launch) (D : va_G) (cy : Nat → ClassId) (ws : va_W) {i j a b : Nat} (hij : i ≠ j) (hi : i < ws.length) (hj : j < ws.length) (sz : Nat) (sums : Nat → Int64) (den : Int64) (x : Int64) : Met l yX2_clear wsX2_clear (rm9 0 0) (gPc D cy (wZ ws i j (a, .inr (2, [.ref b, .long den])) (b, .inl (cy 2, 4, .inr (.inl sums)))) sz [.ref a, .long x]) (gQv D cy (wZ ws i j (a, .inr (2, [.ref b, .long den])) (b, .inl (cy 2, 4, .inr (.inl sums)))) sz (fun ws' => ws' = wZ ws i j (a, .inr (2, [.ref b, .long x])) (b, .inl (cy 2, 4, .inr (.inl (lpN fCl 4 0 sums)))))) 0 0 (va_A (wZ ws i j (a, .inr (2, [.ref b, .long den])) (b, .inl (cy 2, 4, .inr (.inl sums)))) sz) := by
  refine gHead (cc := cX2_clear) (maxL := 4) (ret := none) (by decide) rfl (Nat.le_of_ble_eq_true rfl) ?_
  intro p e s m below meth c ls hx hb hr hlocks hml hown hts hsz hP hK hD hS hA hl
  have hin : ∀ w ∈ u_ws RX2 TX2 2, w ∈ wsX2_clear := by decide +kernel
  have hown : s.vm.findClass RX2 = some m.cls := hown
  have hl : lv_has ls 4 [(0, .ref a), (1, .long x)] := hl
  refine lv_iconst (v := nI 0) hx hb dX2_clear_0 (by decide) ?_
  refine lv_istore_n (lv' := [(3, .int (nI 0)), (0, .ref a), (1, .long x)]) hx hb dX2_clear_1 rfl hl (by decide) rfl (fun ls hl => ?_)
  have L2 : ∀ (n k : Nat) (q : Nat → Int64) (H : Heap) (locs : List Loc) (ls : Array Slot), k + n = 4 → va_P D vwCl (wZ ws i j (a, .inr (2, [.ref b, .long den])) (b, .inl (cy 2, 4, .inr (.inl q)))) H → va_D (va_A (wZ ws i j (a, .inr (2, [.ref b, .long den])) (b, .inl (cy 2, 4, .inr (.inl sums)))) sz) (wZ ws i j (a, .inr (2, [.ref b, .long den])) (b, .inl (cy 2, 4, .inr (.inl q)))) → va_S (va_A (wZ ws i j (a, .inr (2, [.ref b, .long den])) (b, .inl (cy 2, 4, .inr (.inl sums)))) sz) s.heap H locs → lv_has ls 4 [(3, .int (nI k)), (0, .ref a), (1, .long x)] → (∀ (H : Heap) (locs : List Loc) (ls : Array Slot), va_P D vwCl (wZ ws i j (a, .inr (2, [.ref b, .long den])) (b, .inl (cy 2, 4, .inr (.inl (lpN (fCl) n k q))))) H → va_D (va_A (wZ ws i j (a, .inr (2, [.ref b, .long den])) (b, .inl (cy 2, 4, .inr (.inl sums)))) sz) (wZ ws i j (a, .inr (2, [.ref b, .long den])) (b, .inl (cy 2, 4, .inr (.inl (lpN (fCl) n k q))))) → va_S (va_A (wZ ws i j (a, .inr (2, [.ref b, .long den])) (b, .inl (cy 2, 4, .inr (.inl sums)))) sz) s.heap H locs → lv_has ls 4 [(3, .int (nI 4)), (0, .ref a), (1, .long x)] → W p l e (headSpec wsX2_clear (rm9 0 0)).room s m ([.ref a, .long x] : List Value).toArray below meth c H locs 0 0 (MQ below (gQv D cy (wZ ws i j (a, .inr (2, [.ref b, .long den])) (b, .inl (cy 2, 4, .inr (.inl sums)))) sz (fun ws' => ws' = wZ ws i j (a, .inr (2, [.ref b, .long x])) (b, .inl (cy 2, 4, .inr (.inl (lpN fCl 4 0 sums)))))) ([.ref a, .long x] : List Value).toArray s 0 0 (va_A (wZ ws i j (a, .inr (2, [.ref b, .long den])) (b, .inl (cy 2, 4, .inr (.inl sums)))) sz)) (F0 m 20 ls [])) → W p l e (headSpec wsX2_clear (rm9 0 0)).room s m ([.ref a, .long x] : List Value).toArray below meth c H locs 0 0 (MQ below (gQv D cy (wZ ws i j (a, .inr (2, [.ref b, .long den])) (b, .inl (cy 2, 4, .inr (.inl sums)))) sz (fun ws' => ws' = wZ ws i j (a, .inr (2, [.ref b, .long x])) (b, .inl (cy 2, 4, .inr (.inl (lpN fCl 4 0 sums)))))) ([.ref a, .long x] : List Value).toArray s 0 0 (va_A (wZ ws i j (a, .inr (2, [.ref b, .long den])) (b, .inl (cy 2, 4, .inr (.inl sums)))) sz)) (F0 m 2 ls []) := by
    intro n
    induction n with
    | zero =>
      intro k q H locs ls hk hP hD hS hl hex
      obtain rfl : k = 4 := by omega
      refine lv_iload_n hx hb dX2_clear_2 rfl (lv_at hl 0 rfl) ?_
      refine lv_iconst (v := nI 3) hx hb dX2_clear_3 (by decide) ?_
      refine lv_icmp_gt (tgt := 20) hx hb dX2_clear_4 (by decide) (fun c1 => ?_) (fun c1 => ?_)
      · rw [nI_ltI (by omega) (by omega)] at c1
        exact hex _ _ _ hP hD hS (lv_sub hl [0, 1, 2] rfl)
      · exact absurd c1 (by rw [nI_ltI (by omega) (by omega)]; omega)
    | succ n ih =>
      intro k q H locs ls hk hP hD hS hl hex
      have hk2 : k < 4 := by omega
      refine lv_iload_n hx hb dX2_clear_2 rfl (lv_at hl 0 rfl) ?_
      refine lv_iconst (v := nI 3) hx hb dX2_clear_3 (by decide) ?_
      refine lv_icmp_gt (tgt := 20) hx hb dX2_clear_4 (by decide) (fun c2 => ?_) (fun c2 => ?_)
      · exact absurd c2 (by rw [nI_ltI (by omega) (by omega)]; omega)
      · rw [nI_ltI (by omega) (by omega)] at c2
        refine lv_aload_n hx hb dX2_clear_7 rfl (lv_at hl 1 rfl) ?_
        refine va_get (v := .ref b) (ci := 2) (C := RX2) (T := TX2) (N := 2) hx hb hts hin hown hK hP _ (wZ_i hi) rfl 0 (by decide) (hts (.fieldLink RX2 9 "LayoutSolver$Costs" "sums" "[J") (by decide +kernel)) (fun x h => h) rfl dX2_clear_8 ?_
        refine lv_iload_n hx hb dX2_clear_11 rfl (lv_at hl 0 rfl) ?_
        refine lv_lconst (v := 0) hx hb dX2_clear_12 (by decide) ?_
        refine va_last (i := nI k) hx hb hK hP hD hS _ 2 (wZ_j hij hj) rfl (vp_in_nI (by omega) (by decide)) dX2_clear_13 (fun H locs hP hD hS => ?_)
        rw [nI_clamp (show k < 2 ^ 31 by omega)] at hP hD
        rw [wZ_sj hij] at hP hD
        have hP : va_P D vwCl (wZ ws i j (a, .inr (2, [.ref b, .long den])) (b, .inl (cy 2, 4, .inr (.inl (vp_updL q k 0))))) H := hP
        have hD : va_D (va_A (wZ ws i j (a, .inr (2, [.ref b, .long den])) (b, .inl (cy 2, 4, .inr (.inl sums)))) sz) (wZ ws i j (a, .inr (2, [.ref b, .long den])) (b, .inl (cy 2, 4, .inr (.inl (vp_updL q k 0))))) := hD
        refine lv_iinc (v := nI (k + 1)) (lv' := [(3, .int (nI (k + 1))), (0, .ref a), (1, .long x)]) hx hb dX2_clear_14 hl (k := 0) rfl (nI_1 _) (by decide) rfl (fun ls hl => ?_)
        refine lv_goto (tgt := 2) hx hb dX2_clear_17 (by decide) ?_
        have he : (fCl) k q = (vp_updL q k 0) := rfl
        rw [lpN_s, he] at hex
        exact ih ((k + 1)) (vp_updL q k 0) _ _ _ (by omega) hP hD hS (lv_sub hl [0, 1, 2] rfl) hex
  refine L2 4 0 sums _ _ _ (by omega) hP hD hS (lv_sub hl [0, 1, 2] rfl) (fun H locs ls hP hD hS hl => ?_)
  refine lv_aload_n hx hb dX2_clear_20 rfl (lv_at hl 1 rfl) ?_
  refine lv_lload_n hx hb dX2_clear_21 rfl (lv_at hl 2 rfl) ?_
  refine va_put (v := .long x) (ty := .long) (ci := 2) (C := RX2) (T := TX2) (N := 2) hx hb hts hin tyX2 tyX2_ok nmX2 hown hK hP hD hS _ (wZ_i hi) rfl 1 (by decide) (hts (.fieldLink RX2 15 "LayoutSolver$Costs" "denominator" "J") (by decide +kernel)) (fun x h => h) rfl rfl rfl rfl (Nat.le_of_ble_eq_true rfl) dX2_clear_22 (fun H locs hP hD hS => ?_)
  rw [wZ_si] at hP hD
  have hP : va_P D vwCl (wZ ws i j (a, .inr (2, [.ref b, .long x])) (b, .inl (cy 2, 4, .inr (.inl (lpN (fCl) 4 0 sums))))) H := hP
  have hD : va_D (va_A (wZ ws i j (a, .inr (2, [.ref b, .long den])) (b, .inl (cy 2, 4, .inr (.inl sums)))) sz) (wZ ws i j (a, .inr (2, [.ref b, .long x])) (b, .inl (cy 2, 4, .inr (.inl (lpN (fCl) 4 0 sums))))) := hD
  exact W.vret hx hb hr (fun t ht hW => ⟨⟨_, rfl, rfl, by rw [ht]; exact hP, va_K.moved hW.alike hK, hD⟩, hS.F ht⟩) hS.2.2 dX2_clear_25
def kInc (sums : Nat → Int64) (s : Int32) (x : Int64) : Nat → Int64 := if s < 0 then sums else if nI 3 < s then sums else vp_updL sums s.toNatClampNeg (sums s.toNatClampNeg + x)
set_option maxHeartbeats 4000000 in
set_option maxRecDepth 100000 in
theorem cC_increase (l : Launch) (D : va_G) (cy : Nat → ClassId) (ws : va_W) {i j a b : Nat} (hij : i ≠ j) (hi : i < ws.length) (hj : j < ws.length) (sz : Nat) (sums : Nat → Int64) (den : Int64) (st : Int32) (x : Int64) : Met l yX2_increase wsX2_increase (rm9 0 0) (gPc D cy (wZ ws i j (a, .inr (2, [.ref b, .long den])) (b, .inl (cy 2, 4, .inr (.inl sums)))) sz [.ref a, .int st, .long x]) (gQv D cy (wZ ws i j (a, .inr (2, [.ref b, .long den])) (b, .inl (cy 2, 4, .inr (.inl sums)))) sz (fun ws' => ws' = wZ ws i j (a, .inr (2, [.ref b, .long den])) (b, .inl (cy 2, 4, .inr (.inl (kInc sums st x)))))) 0 0 (va_A (wZ ws i j (a, .inr (2, [.ref b, .long den])) (b, .inl (cy 2, 4, .inr (.inl sums)))) sz) := by
  refine gHead (cc := cX2_increase) (maxL := 4) (ret := none) (by decide) rfl (Nat.le_of_ble_eq_true rfl) ?_
  intro p e s m below meth c ls hx hb hr hlocks hml hown hts hsz hP hK hD hS hA hl
  have hin : ∀ w ∈ u_ws RX2 TX2 2, w ∈ wsX2_increase := by decide +kernel
  have hown : s.vm.findClass RX2 = some m.cls := hown
  have hl : lv_has ls 4 [(0, .ref a), (1, .int st), (2, .long x)] := hl
  refine lv_iload_n hx hb dX2_increase_0 rfl (lv_at hl 1 rfl) ?_
  refine lv_if_lt (tgt := 19) hx hb dX2_increase_1 (by decide) (fun c1 => ?_) (fun c1 => ?_)
  · skip
    exact W.vret hx hb hr (fun t ht hW => ⟨⟨_, rfl, by simp only [kInc]; rw [if_pos c1], by rw [ht]; exact hP, va_K.moved hW.alike hK, hD⟩, hS.F ht⟩) hS.2.2 dX2_increase_19
  · skip
    refine lv_iload_n hx hb dX2_increase_4 rfl (lv_at hl 1 rfl) ?_
    refine lv_iconst (v := nI 3) hx hb dX2_increase_5 (by decide) ?_
    refine lv_icmp_gt (tgt := 19) hx hb dX2_increase_6 (by decide) (fun c2 => ?_) (fun c2 => ?_)
    · skip
      exact W.vret hx hb hr (fun t ht hW => ⟨⟨_, rfl, by simp only [kInc]; rw [if_neg c1, if_pos c2], by rw [ht]; exact hP, va_K.moved hW.alike hK, hD⟩, hS.F ht⟩) hS.2.2 dX2_increase_19
    · skip
      obtain ⟨r0, hr0, hre⟩ := ixL 3 c1 c2 (by decide)
      have qq8 : st.toNatClampNeg = r0 := (by rw [hre, nI_clamp (by omega)])
      rw [hre] at hl
      refine lv_aload_n hx hb dX2_increase_9 rfl (lv_at hl 0 rfl) ?_
      refine va_get (v := .ref b) (ci := 2) (C := RX2) (T := TX2) (N := 2) hx hb hts hin hown hK hP _ (wZ_i hi) rfl 0 (by decide) (hts (.fieldLink RX2 9 "LayoutSolver$Costs" "sums" "[J") (by decide +kernel)) (fun x h => h) rfl dX2_increase_10 ?_
      refine lv_iload_n hx hb dX2_increase_13 rfl (lv_at hl 1 rfl) ?_
      refine lv_dup2_11 hx hb dX2_increase_14 rfl rfl ?_
      refine va_lald (i := nI r0) hx hb hK hP _ 2 (wZ_j hij hj) rfl (vp_in_nI (by omega) (by decide)) dX2_increase_15 ?_
      rw [nI_clamp (show r0 < 2 ^ 31 by omega)]
      refine lv_lload_n hx hb dX2_increase_16 rfl (lv_at hl 2 rfl) ?_
      refine lv_ladd hx hb dX2_increase_17 ?_
      refine va_last (i := nI r0) hx hb hK hP hD hS _ 2 (wZ_j hij hj) rfl (vp_in_nI (by omega) (by decide)) dX2_increase_18 (fun H locs hP hD hS => ?_)
      rw [nI_clamp (show r0 < 2 ^ 31 by omega)] at hP hD
      rw [wZ_sj hij] at hP hD
      have hP : va_P D vwCl (wZ ws i j (a, .inr (2, [.ref b, .long den])) (b, .inl (cy 2, 4, .inr (.inl (vp_updL sums r0 ((sums r0) + x)))))) H := hP
      have hD : va_D (va_A (wZ ws i j (a, .inr (2, [.ref b, .long den])) (b, .inl (cy 2, 4, .inr (.inl sums)))) sz) (wZ ws i j (a, .inr (2, [.ref b, .long den])) (b, .inl (cy 2, 4, .inr (.inl (vp_updL sums r0 ((sums r0) + x)))))) := hD
      exact W.vret hx hb hr (fun t ht hW => ⟨⟨_, rfl, by simp only [kInc]; rw [if_neg c1, if_neg c2, qq8], by rw [ht]; exact hP, va_K.moved hW.alike hK, hD⟩, hS.F ht⟩) hS.2.2 dX2_increase_19
set_option maxHeartbeats 4000000 in
set_option maxRecDepth 100000 in
theorem cC_isFeasible (l : Launch) (D : va_G) (cy : Nat → ClassId) (ws : va_W) {i j a b : Nat} (hij : i ≠ j) (hi : i < ws.length) (hj : j < ws.length) (sz : Nat) (sums : Nat → Int64) (den : Int64) : Met l yX2_isFeasible wsX2_isFeasible (rm9 0 0) (gPc D cy (wZ ws i j (a, .inr (2, [.ref b, .long den])) (b, .inl (cy 2, 4, .inr (.inl sums)))) sz [.ref a]) (gQi D cy (wZ ws i j (a, .inr (2, [.ref b, .long den])) (b, .inl (cy 2, 4, .inr (.inl sums)))) sz (fun r ws' => r = (if ¬ lg_cmp (sums 0) 0 = 0 then nI 0 else nI 1) ∧ ws' = wZ ws i j (a, .inr (2, [.ref b, .long den])) (b, .inl (cy 2, 4, .inr (.inl sums))))) 0 0 (va_A (wZ ws i j (a, .inr (2, [.ref b, .long den])) (b, .inl (cy 2, 4, .inr (.inl sums)))) sz) := by
  refine gHead (cc := cX2_isFeasible) (maxL := 1) (ret := (some .boolean)) (by decide) rfl (Nat.le_of_ble_eq_true rfl) ?_
  intro p e s m below meth c ls hx hb hr hlocks hml hown hts hsz hP hK hD hS hA hl
  have hin : ∀ w ∈ u_ws RX2 TX2 2, w ∈ wsX2_isFeasible := by decide +kernel
  have hown : s.vm.findClass RX2 = some m.cls := hown
  have hl : lv_has ls 1 [(0, .ref a)] := hl
  refine lv_aload_n hx hb dX2_isFeasible_0 rfl (lv_at hl 0 rfl) ?_
  refine va_get (v := .ref b) (ci := 2) (C := RX2) (T := TX2) (N := 2) hx hb hts hin hown hK hP _ (wZ_i hi) rfl 0 (by decide) (hts (.fieldLink RX2 9 "LayoutSolver$Costs" "sums" "[J") (by decide +kernel)) (fun x h => h) rfl dX2_isFeasible_1 ?_
  refine lv_iconst (v := nI 0) hx hb dX2_isFeasible_4 (by decide) ?_
  refine va_lald (i := nI 0) hx hb hK hP _ 2 (wZ_j hij hj) rfl (vp_in_nI (by omega) (by decide)) dX2_isFeasible_5 ?_
  rw [nI_clamp (show 0 < 2 ^ 31 by omega)]
  refine lv_lconst (v := 0) hx hb dX2_isFeasible_6 (by decide) ?_
  refine W.lcmp hx hb dX2_isFeasible_7 ?_
  refine lv_if_ne (tgt := 15) hx hb dX2_isFeasible_8 (by decide) (fun c1 => ?_) (fun c1 => ?_)
  · skip
    refine lv_iconst (v := nI 0) hx hb dX2_isFeasible_15 (by decide) ?_
    exact W.zret hx hb hr (by decide) (fun t ht hW => ⟨⟨_, _, rfl, ⟨by simp [c1], rfl⟩, by rw [ht]; exact hP, va_K.moved hW.alike hK, hD⟩, hS.F ht⟩) hS.2.2 dX2_isFeasible_16
  · skip
    refine lv_iconst (v := nI 1) hx hb dX2_isFeasible_11 (by decide) ?_
    refine lv_goto (tgt := 16) hx hb dX2_isFeasible_12 (by decide) ?_
    exact W.zret hx hb hr (by decide) (fun t ht hW => ⟨⟨_, _, rfl, ⟨by simp [c1], rfl⟩, by rw [ht]; exact hP, va_K.moved hW.alike hK, hD⟩, hS.F ht⟩) hS.2.2 dX2_isFeasible_16
end
section
set_option maxHeartbeats 4000000 in
set_option maxRecDepth 100000 in
theorem cS_partOf (l : Launch) (sz : Nat) (u d : Int64) (part : Int32) : Met l yX8_partOf wsX8_partOf (rm9 1 21) (pPc sz [.long u, .long d, .int part]) (pQl sz (fun r => r = kPart u d part)) 0 0 (fun q => sz ≤ q) := by
  refine pHead (cc := cX8_partOf) (maxL := 12) (ret := (some .long)) (by decide) rfl (Nat.le_of_ble_eq_true rfl) ?_
  intro p e s m below meth c ls hx hb hr hlocks hml hown hts hsz hS hl
  have hown : s.vm.findClass RX8 = some m.cls := hown
  have hl : lv_has ls 12 [(0, .long u), (2, .long d), (4, .int part)] := hl
  refine lv_lload_n hx hb dX8_partOf_0 rfl (lv_at hl 1 rfl) ?_
  refine lv_lstore (lv' := [(5, .long d), (0, .long u), (2, .long d), (4, .int part)]) hx hb dX8_partOf_1 hl (by decide) rfl (fun ls hl => ?_)
  refine lv_lload_n hx hb dX8_partOf_3 rfl (lv_at hl 1 rfl) ?_
  refine va_mabs_long hx hb (hml.trans hl.1.symm) (own := RX8) (index := 310) hown (hts _ (List.mem_of_elem_eq_true (by decide +kernel))) (hts _ (List.mem_of_elem_eq_true (by decide +kernel))) (hts _ (List.mem_of_elem_eq_true (by decide +kernel))) (hts _ (List.mem_of_elem_eq_true (by decide +kernel))) (Nat.le_of_ble_eq_true rfl) (Nat.le_of_ble_eq_true rfl) (Nat.zero_le _) (Nat.zero_le _) dX8_partOf_4 ?_
  refine W.eq (g2 := F0 m 7 ls [.long (absL u)]) rfl ?_
  refine lv_lstore (lv' := [(7, .long (absL u)), (5, .long d), (0, .long u), (2, .long d), (4, .int part)]) hx hb dX8_partOf_7 hl (by decide) rfl (fun ls hl => ?_)
  refine lv_iconst (v := nI 0) hx hb dX8_partOf_9 (by decide) ?_
  refine lv_istore (lv' := [(9, .int (nI 0)), (7, .long (absL u)), (5, .long d), (0, .long u), (2, .long d), (4, .int part)]) hx hb dX8_partOf_10 hl (by decide) rfl (fun ls hl => ?_)
  have L12 : ∀ (n k : Nat) (d1 : Int64) (r1 : Int64) (H : Heap) (locs : List Loc) (ls : Array Slot), k + n = 200 → va_S (fun q => sz ≤ q) s.heap H locs → lv_has ls 12 [(9, .int (nI k)), (0, .long u), (2, .long d), (4, .int part), (5, .long d1), (7, .long r1)] → (∀ (H : Heap) (locs : List Loc) (ls : Array Slot), va_S (fun q => sz ≤ q) s.heap H locs → lv_has ls 12 [(0, .long u), (2, .long d), (4, .int part), (5, .long (gcdN n d1 r1))] → W p l e (headSpec wsX8_partOf (rm9 1 21)).room s m ([.long u, .long d, .int part] : List Value).toArray below meth c H locs 0 0 (MQ below (pQl sz (fun r => r = kPart u d part)) ([.long u, .long d, .int part] : List Value).toArray s 0 0 (fun q => sz ≤ q)) (F0 m 48 ls [])) → W p l e (headSpec wsX8_partOf (rm9 1 21)).room s m ([.long u, .long d, .int part] : List Value).toArray below meth c H locs 0 0 (MQ below (pQl sz (fun r => r = kPart u d part)) ([.long u, .long d, .int part] : List Value).toArray s 0 0 (fun q => sz ≤ q)) (F0 m 12 ls []) := by
    intro n
    induction n with
    | zero =>
      intro k d1 r1 H locs ls hk hS hl hex
      obtain rfl : k = 200 := by omega
      refine lv_iload hx hb dX8_partOf_12 (lv_at hl 0 rfl) ?_
      refine lv_sipush (v := nI 200) hx hb dX8_partOf_14 (by decide) ?_
      refine lv_icmp_ge (tgt := 48) hx hb dX8_partOf_17 (by decide) (fun c1 => ?_) (fun c1 => ?_)
      · rw [nI_leI (by omega) (by omega)] at c1
        exact hex _ _ _ hS (lv_sub hl [1, 2, 3, 4] rfl)
      · exact absurd c1 (by rw [nI_leI (by omega) (by omega)]; omega)
    | succ n ih =>
      intro k d1 r1 H locs ls hk hS hl hex
      have hk12 : k < 200 := by omega
      refine lv_iload hx hb dX8_partOf_12 (lv_at hl 0 rfl) ?_
      refine lv_sipush (v := nI 200) hx hb dX8_partOf_14 (by decide) ?_
      refine lv_icmp_ge (tgt := 48) hx hb dX8_partOf_17 (by decide) (fun c2 => ?_) (fun c2 => ?_)
      · exact absurd c2 (by rw [nI_leI (by omega) (by omega)]; omega)
      · rw [nI_leI (by omega) (by omega)] at c2
        refine lv_lload hx hb dX8_partOf_20 (lv_at hl 5 rfl) ?_
        refine lv_lconst (v := 0) hx hb dX8_partOf_22 (by decide) ?_
        refine W.lcmp hx hb dX8_partOf_23 ?_
        refine lv_if_eq (tgt := 48) hx hb dX8_partOf_24 (by decide) (fun c3 => ?_) (fun c3 => ?_)
        · skip
          exact hex _ _ _ hS (by rw [gcdN_s, if_neg (fun q => q c3)]; exact lv_sub hl [1, 2, 3, 4] rfl)
        · skip
          refine lv_lload hx hb dX8_partOf_27 (lv_at hl 4 rfl) ?_
          refine lv_lload hx hb dX8_partOf_29 (lv_at hl 5 rfl) ?_
          refine lv_lrem hx hb dX8_partOf_31 (lc0 c3) ?_
          refine lv_lstore (lv' := [(10, .long (d1 - d1 / r1 * r1)), (9, .int (nI k)), (0, .long u), (2, .long d), (4, .int part), (5, .long d1), (7, .long r1)]) hx hb dX8_partOf_32 hl (by decide) rfl (fun ls hl => ?_)
          refine lv_lload hx hb dX8_partOf_34 (lv_at hl 6 rfl) ?_
          refine lv_lstore (lv' := [(5, .long r1), (10, .long (d1 - d1 / r1 * r1)), (9, .int (nI k)), (0, .long u), (2, .long d), (4, .int part), (7, .long r1)]) hx hb dX8_partOf_36 hl (by decide) rfl (fun ls hl => ?_)
          refine lv_lload hx hb dX8_partOf_38 (lv_at hl 1 rfl) ?_
          refine lv_lstore (lv' := [(7, .long (d1 - d1 / r1 * r1)), (5, .long r1), (10, .long (d1 - d1 / r1 * r1)), (9, .int (nI k)), (0, .long u), (2, .long d), (4, .int part)]) hx hb dX8_partOf_40 hl (by decide) rfl (fun ls hl => ?_)
          refine lv_iinc (v := nI (k + 1)) (lv' := [(9, .int (nI (k + 1))), (7, .long (d1 - d1 / r1 * r1)), (5, .long r1), (10, .long (d1 - d1 / r1 * r1)), (0, .long u), (2, .long d), (4, .int part)]) hx hb dX8_partOf_42 hl (k := 3) rfl (nI_1 _) (by decide) rfl (fun ls hl => ?_)
          refine lv_goto (tgt := 12) hx hb dX8_partOf_45 (by decide) ?_
          exact ih (k + 1) r1 (d1 - d1 / r1 * r1) _ _ _ (by omega) hS (lv_sub hl [0, 4, 5, 6, 2, 1] rfl) (fun H locs ls hS hl => hex H locs ls hS (by rw [gcdN_s, if_pos c3]; exact hl))
  refine L12 200 0 d (absL u) _ _ _ (by omega) hS (lv_sub hl [0, 3, 4, 5, 2, 1] rfl) (fun H locs ls hS hl => ?_)
  refine lv_lload hx hb dX8_partOf_48 (lv_at hl 3 rfl) ?_
  refine lv_lconst (v := 0) hx hb dX8_partOf_50 (by decide) ?_
  refine W.lcmp hx hb dX8_partOf_51 ?_
  refine lv_if_gt (tgt := 66) hx hb dX8_partOf_52 (by decide) (fun c4 => ?_) (fun c4 => ?_)
  · skip
    refine lv_iload hx hb dX8_partOf_66 (lv_at hl 2 rfl) ?_
    refine lv_if_ne (tgt := 78) hx hb dX8_partOf_68 (by decide) (fun c5 => ?_) (fun c5 => ?_)
    · skip
      refine lv_lload_n hx hb dX8_partOf_78 rfl (lv_at hl 1 rfl) ?_
      refine lv_lload hx hb dX8_partOf_79 (lv_at hl 3 rfl) ?_
      refine lv_ldiv hx hb dX8_partOf_81 (lc_pos c4) ?_
      exact W.lret hx hb hr (fun t ht hW => ⟨⟨_, (), rfl, by simp only [kPart]; simp [c4, c5], trivial⟩, hS.F ht⟩) hS.2.2 dX8_partOf_82
    · skip
      refine lv_lload_n hx hb dX8_partOf_71 rfl (lv_at hl 0 rfl) ?_
      refine lv_lload hx hb dX8_partOf_72 (lv_at hl 3 rfl) ?_
      refine lv_ldiv hx hb dX8_partOf_74 (lc_pos c4) ?_
      refine lv_goto (tgt := 82) hx hb dX8_partOf_75 (by decide) ?_
      exact W.lret hx hb hr (fun t ht hW => ⟨⟨_, (), rfl, by simp only [kPart]; simp [c4, c5], trivial⟩, hS.F ht⟩) hS.2.2 dX8_partOf_82
  · skip
    refine lv_iload hx hb dX8_partOf_55 (lv_at hl 2 rfl) ?_
    refine lv_if_ne (tgt := 64) hx hb dX8_partOf_57 (by decide) (fun c6 => ?_) (fun c6 => ?_)
    · skip
      refine lv_lconst (v := 1) hx hb dX8_partOf_64 (by decide) ?_
      exact W.lret hx hb hr (fun t ht hW => ⟨⟨_, (), rfl, by simp only [kPart]; simp [c4, c6], trivial⟩, hS.F ht⟩) hS.2.2 dX8_partOf_65
    · skip
      refine lv_lconst (v := 0) hx hb dX8_partOf_60 (by decide) ?_
      refine lv_goto (tgt := 65) hx hb dX8_partOf_61 (by decide) ?_
      exact W.lret hx hb hr (fun t ht hW => ⟨⟨_, (), rfl, by simp only [kPart]; simp [c4, c6], trivial⟩, hS.F ht⟩) hS.2.2 dX8_partOf_65
def allzN (f : Nat → Int32) : Nat → Nat → Int32
  | 0, _ => nI 1
  | n + 1, k => if f k = 0 then allzN f n (k + 1) else nI 0
theorem allzN_s {f : Nat → Int32} {n k : Nat} : allzN f (n + 1) k = if f k = 0 then allzN f n (k + 1) else nI 0 := rfl
def k_isAllZero (f : Nat → Int32) : Int32 := allzN f 6 0
set_option maxHeartbeats 4000000 in
set_option maxRecDepth 100000 in
theorem cS_isAllZero (l : Launch) (D : va_G) (cy : Nat → ClassId) (ws : va_W) (sz : Nat) {j b : Nat} {f : Nat → Int32} (hj : ws[j]? = some (b, .inl (cy 1, 6, .inl f))) : Met l yX8_isAllZero wsX8_isAllZero (rm9 0 0) (gPc D cy ws sz [.ref b]) (gQi D cy ws sz (fun r ws' => r = k_isAllZero f ∧ ws' = ws)) 0 0 (va_A ws sz) := by
  refine gHead (cc := cX8_isAllZero) (maxL := 2) (ret := (some .boolean)) (by decide) rfl (Nat.le_of_ble_eq_true rfl) ?_
  intro p e s m below meth c ls hx hb hr hlocks hml hown hts hsz hP hK hD hS hA hl
  have hown : s.vm.findClass RX8 = some m.cls := hown
  have hl : lv_has ls 2 [(0, .ref b)] := hl
  refine lv_iconst (v := nI 0) hx hb dX8_isAllZero_0 (by decide) ?_
  refine lv_istore_n (lv' := [(1, .int (nI 0)), (0, .ref b)]) hx hb dX8_isAllZero_1 rfl hl (by decide) rfl (fun ls hl => ?_)
  have L2 : ∀ (n k : Nat) (H : Heap) (locs : List Loc) (ls : Array Slot), k + n = 6 → allzN f n k = k_isAllZero f → va_P D vwCl ws H → va_D (va_A ws sz) ws → va_S (va_A ws sz) s.heap H locs → lv_has ls 2 [(1, .int (nI k)), (0, .ref b)] → W p l e (headSpec wsX8_isAllZero (rm9 0 0)).room s m ([.ref b] : List Value).toArray below meth c H locs 0 0 (MQ below (gQi D cy ws sz (fun r ws' => r = k_isAllZero f ∧ ws' = ws)) ([.ref b] : List Value).toArray s 0 0 (va_A ws sz)) (F0 m 2 ls []) := by
    intro n
    induction n with
    | zero =>
      intro k H locs ls hk he hP hD hS hl
      obtain rfl : k = 6 := by omega
      refine lv_iload_n hx hb dX8_isAllZero_2 rfl (lv_at hl 0 rfl) ?_
      refine lv_aload_n hx hb dX8_isAllZero_3 rfl (lv_at hl 1 rfl) ?_
      refine va_alen (v := nI 6) hx hb hK hP _ 1 (hj) rfl rfl dX8_isAllZero_4 ?_
      refine lv_icmp_ge (tgt := 22) hx hb dX8_isAllZero_5 (by decide) (fun c1 => ?_) (fun c1 => ?_)
      · rw [nI_leI (by omega) (by omega)] at c1
        refine lv_iconst (v := nI 1) hx hb dX8_isAllZero_22 (by decide) ?_
        exact W.zret hx hb hr (by decide) (fun t ht hW => ⟨⟨_, _, rfl, ⟨he, rfl⟩, by rw [ht]; exact hP, va_K.moved hW.alike hK, hD⟩, hS.F ht⟩) hS.2.2 dX8_isAllZero_23
      · exact absurd c1 (by rw [nI_leI (by omega) (by omega)]; omega)
    | succ n ih =>
      intro k H locs ls hk he hP hD hS hl
      have hk2 : k < 6 := by omega
      refine lv_iload_n hx hb dX8_isAllZero_2 rfl (lv_at hl 0 rfl) ?_
      refine lv_aload_n hx hb dX8_isAllZero_3 rfl (lv_at hl 1 rfl) ?_
      refine va_alen (v := nI 6) hx hb hK hP _ 1 (hj) rfl rfl dX8_isAllZero_4 ?_
      refine lv_icmp_ge (tgt := 22) hx hb dX8_isAllZero_5 (by decide) (fun c2 => ?_) (fun c2 => ?_)
      · exact absurd c2 (by rw [nI_leI (by omega) (by omega)]; omega)
      · rw [nI_leI (by omega) (by omega)] at c2
        refine lv_aload_n hx hb dX8_isAllZero_8 rfl (lv_at hl 1 rfl) ?_
        refine lv_iload_n hx hb dX8_isAllZero_9 rfl (lv_at hl 0 rfl) ?_
        refine va_iald (i := nI k) hx hb hK hP _ 1 (hj) rfl (vp_in_nI (by omega) (by decide)) dX8_isAllZero_10 ?_
        rw [nI_clamp (show k < 2 ^ 31 by omega)]
        refine lv_if_eq (tgt := 16) hx hb dX8_isAllZero_11 (by decide) (fun c3 => ?_) (fun c3 => ?_)
        · skip
          refine lv_iinc (v := nI (k + 1)) (lv' := [(1, .int (nI (k + 1))), (0, .ref b)]) hx hb dX8_isAllZero_16 hl (k := 0) rfl (nI_1 _) (by decide) rfl (fun ls hl => ?_)
          refine lv_goto (tgt := 2) hx hb dX8_isAllZero_19 (by decide) ?_
          exact ih (k + 1) _ _ _ (by omega) (by rw [← he, allzN_s, if_pos c3]) hP hD hS (lv_sub hl [0, 1] rfl)
        · skip
          refine lv_iconst (v := nI 0) hx hb dX8_isAllZero_14 (by decide) ?_
          exact W.zret hx hb hr (by decide) (fun t ht hW => ⟨⟨_, _, rfl, ⟨by rw [← he, allzN_s, if_neg c3], rfl⟩, by rw [ht]; exact hP, va_K.moved hW.alike hK, hD⟩, hS.F ht⟩) hS.2.2 dX8_isAllZero_15
  exact L2 6 0 _ _ _ (by omega) rfl hP hD hS (lv_sub hl [0, 1] rfl)
def kAbove (rel wei : Int32) : Int32 := if ¬ rel = nI 2 then wei else nI 0
def kBelow (rel wei : Int32) : Int32 := if ¬ rel = 0 then wei else nI 0
def k_vars (f : Nat → Int32) : Int32 := lpN (fun k q => if f k = 0 then q else q ||| (nI 1 <<< nI k)) 6 0 (nI 0)
def fVars (f : Nat → Int32) (k : Nat) (q : Int32) : Int32 := if f k = 0 then q else q ||| (nI 1 <<< nI k)
set_option maxHeartbeats 4000000 in
set_option maxRecDepth 100000 in
theorem cK_coefficient (l : Launch) (D : va_G) (cy : Nat → ClassId) (ws : va_W) (sz : Nat) {i j a b : Nat} {rel con str wei : Int32} {f : Nat → Int32} {v : Nat} (hv : v < 6) (hi : ws[i]? = some (a, .inr (1, [.ref b, .int rel, .int con, .int str, .int wei]))) (hj : ws[j]? = some (b, .inl (cy 1, 6, .inl f))) : Met l yX1_coefficient wsX1_coefficient (rm9 0 0) (gPc D cy ws sz [.ref a, .int (nI v)]) (gQi D cy ws sz (fun r ws' => r = f v ∧ ws' = ws)) 0 0 (va_A ws sz) := by
  refine gHead (cc := cX1_coefficient) (maxL := 2) (ret := (some .int)) (by decide) rfl (Nat.le_of_ble_eq_true rfl) ?_
  intro p e s m below meth c ls hx hb hr hlocks hml hown hts hsz hP hK hD hS hA hl
  have hinX1 : ∀ w ∈ u_ws RX1 TX1 5, w ∈ wsX1_coefficient := by decide +kernel
  have hown : s.vm.findClass RX1 = some m.cls := hown
  have hl : lv_has ls 2 [(0, .ref a), (1, .int (nI v))] := hl
  refine lv_iload_n hx hb dX1_coefficient_0 rfl (lv_at hl 1 rfl) ?_
  refine lv_if_lt (tgt := 13) hx hb dX1_coefficient_1 (by decide) (fun c1 => ?_) (fun c1 => ?_)
  · exact absurd c1 (nI_pos (by omega))
  · skip
    refine lv_iload_n hx hb dX1_coefficient_4 rfl (lv_at hl 1 rfl) ?_
    refine lv_aload_n hx hb dX1_coefficient_5 rfl (lv_at hl 0 rfl) ?_
    refine va_get (v := .ref b) (ci := 1) (C := RX1) (T := TX1) (N := 5) hx hb hts hinX1 hown hK hP _ (hi) rfl 0 (by decide) (hts (.fieldLink RX1 9 "LayoutSolver$Constraint" "coefficients" "[I") (by decide +kernel)) (fun x h => h) rfl dX1_coefficient_6 ?_
    refine va_alen (v := nI 6) hx hb hK hP _ 1 (hj) rfl rfl dX1_coefficient_9 ?_
    refine lv_icmp_lt (tgt := 17) hx hb dX1_coefficient_10 (by decide) (fun c2 => ?_) (fun c2 => ?_)
    · rw [nI_ltI (by omega) (by omega)] at c2
      refine lv_aload_n hx hb dX1_coefficient_17 rfl (lv_at hl 0 rfl) ?_
      refine va_get (v := .ref b) (ci := 1) (C := RX1) (T := TX1) (N := 5) hx hb hts hinX1 hown hK hP _ (hi) rfl 0 (by decide) (hts (.fieldLink RX1 9 "LayoutSolver$Constraint" "coefficients" "[I") (by decide +kernel)) (fun x h => h) rfl dX1_coefficient_18 ?_
      refine lv_iload_n hx hb dX1_coefficient_21 rfl (lv_at hl 1 rfl) ?_
      refine va_iald (i := nI v) hx hb hK hP _ 1 (hj) rfl (vp_in_nI (by omega) (by decide)) dX1_coefficient_22 ?_
      rw [nI_clamp (show v < 2 ^ 31 by omega)]
      exact W.iret hx hb hr (fun t ht hW => ⟨⟨_, _, rfl, ⟨rfl, rfl⟩, by rw [ht]; exact hP, va_K.moved hW.alike hK, hD⟩, hS.F ht⟩) hS.2.2 dX1_coefficient_23
    · exact absurd c2 (by rw [nI_ltI (by omega) (by omega)]; omega)
set_option maxHeartbeats 4000000 in
set_option maxRecDepth 100000 in
theorem cK_costAbove (l : Launch) (D : va_G) (cy : Nat → ClassId) (ws : va_W) (sz : Nat) {i j a b : Nat} {rel con str wei : Int32} {f : Nat → Int32} (hi : ws[i]? = some (a, .inr (1, [.ref b, .int rel, .int con, .int str, .int wei]))) : Met l yX1_costAbove wsX1_costAbove (rm9 0 0) (gPc D cy ws sz [.ref a]) (gQi D cy ws sz (fun r ws' => r = kAbove rel wei ∧ ws' = ws)) 0 0 (va_A ws sz) := by
  refine gHead (cc := cX1_costAbove) (maxL := 1) (ret := (some .int)) (by decide) rfl (Nat.le_of_ble_eq_true rfl) ?_
  intro p e s m below meth c ls hx hb hr hlocks hml hown hts hsz hP hK hD hS hA hl
  have hinX1 : ∀ w ∈ u_ws RX1 TX1 5, w ∈ wsX1_costAbove := by decide +kernel
  have hown : s.vm.findClass RX1 = some m.cls := hown
  have hl : lv_has ls 1 [(0, .ref a)] := hl
  refine lv_aload_n hx hb dX1_costAbove_0 rfl (lv_at hl 0 rfl) ?_
  refine va_get (v := .int rel) (ci := 1) (C := RX1) (T := TX1) (N := 5) hx hb hts hinX1 hown hK hP _ (hi) rfl 1 (by decide) (hts (.fieldLink RX1 15 "LayoutSolver$Constraint" "relation" "I") (by decide +kernel)) (fun x h => h) rfl dX1_costAbove_1 ?_
  refine lv_iconst (v := nI 2) hx hb dX1_costAbove_4 (by decide) ?_
  refine lv_icmp_ne (tgt := 12) hx hb dX1_costAbove_5 (by decide) (fun c1 => ?_) (fun c1 => ?_)
  · skip
    refine lv_aload_n hx hb dX1_costAbove_12 rfl (lv_at hl 0 rfl) ?_
    refine va_get (v := .int wei) (ci := 1) (C := RX1) (T := TX1) (N := 5) hx hb hts hinX1 hown hK hP _ (hi) rfl 4 (by decide) (hts (.fieldLink RX1 25 "LayoutSolver$Constraint" "weight" "I") (by decide +kernel)) (fun x h => h) rfl dX1_costAbove_13 ?_
    exact W.iret hx hb hr (fun t ht hW => ⟨⟨_, _, rfl, ⟨by simp [kAbove, c1], rfl⟩, by rw [ht]; exact hP, va_K.moved hW.alike hK, hD⟩, hS.F ht⟩) hS.2.2 dX1_costAbove_16
  · skip
    refine lv_iconst (v := nI 0) hx hb dX1_costAbove_8 (by decide) ?_
    refine lv_goto (tgt := 16) hx hb dX1_costAbove_9 (by decide) ?_
    exact W.iret hx hb hr (fun t ht hW => ⟨⟨_, _, rfl, ⟨by simp [kAbove, c1], rfl⟩, by rw [ht]; exact hP, va_K.moved hW.alike hK, hD⟩, hS.F ht⟩) hS.2.2 dX1_costAbove_16
set_option maxHeartbeats 4000000 in
set_option maxRecDepth 100000 in
theorem cK_costBelow (l : Launch) (D : va_G) (cy : Nat → ClassId) (ws : va_W) (sz : Nat) {i j a b : Nat} {rel con str wei : Int32} {f : Nat → Int32} (hi : ws[i]? = some (a, .inr (1, [.ref b, .int rel, .int con, .int str, .int wei]))) : Met l yX1_costBelow wsX1_costBelow (rm9 0 0) (gPc D cy ws sz [.ref a]) (gQi D cy ws sz (fun r ws' => r = kBelow rel wei ∧ ws' = ws)) 0 0 (va_A ws sz) := by
  refine gHead (cc := cX1_costBelow) (maxL := 1) (ret := (some .int)) (by decide) rfl (Nat.le_of_ble_eq_true rfl) ?_
  intro p e s m below meth c ls hx hb hr hlocks hml hown hts hsz hP hK hD hS hA hl
  have hinX1 : ∀ w ∈ u_ws RX1 TX1 5, w ∈ wsX1_costBelow := by decide +kernel
  have hown : s.vm.findClass RX1 = some m.cls := hown
  have hl : lv_has ls 1 [(0, .ref a)] := hl
  refine lv_aload_n hx hb dX1_costBelow_0 rfl (lv_at hl 0 rfl) ?_
  refine va_get (v := .int rel) (ci := 1) (C := RX1) (T := TX1) (N := 5) hx hb hts hinX1 hown hK hP _ (hi) rfl 1 (by decide) (hts (.fieldLink RX1 15 "LayoutSolver$Constraint" "relation" "I") (by decide +kernel)) (fun x h => h) rfl dX1_costBelow_1 ?_
  refine lv_if_ne (tgt := 11) hx hb dX1_costBelow_4 (by decide) (fun c1 => ?_) (fun c1 => ?_)
  · skip
    refine lv_aload_n hx hb dX1_costBelow_11 rfl (lv_at hl 0 rfl) ?_
    refine va_get (v := .int wei) (ci := 1) (C := RX1) (T := TX1) (N := 5) hx hb hts hinX1 hown hK hP _ (hi) rfl 4 (by decide) (hts (.fieldLink RX1 25 "LayoutSolver$Constraint" "weight" "I") (by decide +kernel)) (fun x h => h) rfl dX1_costBelow_12 ?_
    exact W.iret hx hb hr (fun t ht hW => ⟨⟨_, _, rfl, ⟨by simp [kBelow, c1], rfl⟩, by rw [ht]; exact hP, va_K.moved hW.alike hK, hD⟩, hS.F ht⟩) hS.2.2 dX1_costBelow_15
  · skip
    refine lv_iconst (v := nI 0) hx hb dX1_costBelow_7 (by decide) ?_
    refine lv_goto (tgt := 15) hx hb dX1_costBelow_8 (by decide) ?_
    exact W.iret hx hb hr (fun t ht hW => ⟨⟨_, _, rfl, ⟨by simp [kBelow, c1], rfl⟩, by rw [ht]; exact hP, va_K.moved hW.alike hK, hD⟩, hS.F ht⟩) hS.2.2 dX1_costBelow_15
end
section
/-! a constraint gets a row -/
theorem wX_r {cy : Nat → ClassId} {ad : Nat → Nat} {S : DS} {X : va_W} {i : Nat} {e : Nat × va_E} (h : X[i]? = some e) : (wD cy ad S ++ X)[43 + i]? = some e := by
  rw [List.getElem?_append_right (by rw [wD_len]; omega), wD_len, show 43 + i - 43 = i by omega, h]
def fAV (k v : Nat) (x : Int32) (i : Nat) (S : DS) : DS := sRo S k i (dRo S k i + x.toInt64 * dRo S (15 + v) i)
def kAV1 (S : DS) (k : Nat) (x : Int32) : DS := sRo S k 6 (dRo S k 6 + (x * nI 1000).toInt64 * dSc S)
/-- addVariable -/
def kAV (S : DS) (k : Nat) (x : Int32) (v : Nat) : DS := if x = 0 then S else kAV1 (lpN (fAV k v x) 7 0 S) k x
def fPl (k : Nat) (f : Nat → Int32) (v : Nat) (S : DS) : DS := kAV S k (f v) v
def kPl1 (S : DS) (k : Nat) (con : Int32) : DS := sRo (lpN (fZr k) 7 0 S) k 6 (-(dSc (lpN (fZr k) 7 0 S)) * con.toInt64)
def kPl2 (S : DS) (k : Nat) (rel con str wei : Int32) : DS := sI (sI (sI (sI (sI S 2 k (nI 1)) 3 k con) 4 k str) 5 k (kAbove rel wei)) 6 k (kBelow rel wei)
/-- placeWith, of a row k < 15 -/
def kPl (S : DS) (k : Nat) (f : Nat → Int32) (rel con str wei : Int32) : DS :=
  sI (kPl2 (lpN (fPl k f) 6 0 (kPl1 (kLift S (nI k)) k con)) k rel con str wei) 7 k (if 0 ≤ lg_cmp (dRo (kPl2 (lpN (fPl k f) 6 0 (kPl1 (kLift S (nI k)) k con)) k rel con str wei) k 6) 0 then nI 1 else -1)
set_option maxHeartbeats 4000000 in
set_option maxRecDepth 100000 in
theorem cD_addVariable (l : Launch) (D : va_G) (cy : Nat → ClassId) (ad : Nat → Nat) (X : va_W) (S : DS) (sz : Nat) {k v : Nat} (hk : k < 27) (hv : v < 6) (x : Int32) : Met l yX3_addVariable wsX3_addVariable (rm9 0 0) (dPc D cy ad X S sz [.ref (ad 0), .ref (ad (11 + k)), .int x, .int (nI v)]) (dQv D cy ad X S sz (fun S' => S' = kAV S k x v)) 0 0 (dA cy ad X S sz) := by
  refine dHead (cc := cX3_addVariable) (maxL := 6) (ret := none) (by decide) rfl (Nat.le_of_ble_eq_true rfl) ?_
  intro p e s m below meth c ls hx hb hr hlocks hml hown hts hsz hP hK hD hS hA hl
  have hin : ∀ w ∈ u_ws RX3 TX3 12, w ∈ wsX3_addVariable := by decide +kernel
  have hown : s.vm.findClass RX3 = some m.cls := hown
  have hl : lv_has ls 6 [(0, .ref (ad 0)), (1, .ref (ad (11 + k))), (2, .int x), (3, .int (nI v))] := hl
  refine lv_iload_n hx hb dX3_addVariable_0 rfl (lv_at hl 2 rfl) ?_
  refine lv_if_eq (tgt := 21) hx hb dX3_addVariable_1 (by decide) (fun c1 => ?_) (fun c1 => ?_)
  · skip
    exact W.vret hx hb hr (fun t ht hW => ⟨⟨_, rfl, by simp only [kAV]; rw [if_pos c1], by rw [ht]; exact hP, va_K.moved hW.alike hK, hD⟩, hS.F ht⟩) hS.2.2 dX3_addVariable_21
  · skip
    refine lv_iload_n hx hb dX3_addVariable_4 rfl (lv_at hl 3 rfl) ?_
    refine lv_if_lt (tgt := 21) hx hb dX3_addVariable_5 (by decide) (fun c2 => ?_) (fun c2 => ?_)
    · exact absurd c2 (nI_pos (by omega))
    · skip
      refine lv_iload_n hx hb dX3_addVariable_8 rfl (lv_at hl 3 rfl) ?_
      refine lv_bipush (v := nI 6) hx hb dX3_addVariable_9 (by decide) ?_
      refine lv_icmp_ge (tgt := 21) hx hb dX3_addVariable_11 (by decide) (fun c3 => ?_) (fun c3 => ?_)
      · exact absurd c3 (by rw [nI_leI (by omega) (by omega)]; omega)
      · rw [nI_leI (by omega) (by omega)] at c3
        refine lv_aload_n hx hb dX3_addVariable_14 rfl (lv_at hl 1 rfl) ?_
        refine rD_alen (n := k) hx hb hK hP (by omega) dX3_addVariable_15 ?_
        refine lv_bipush (v := nI 6) hx hb dX3_addVariable_16 (by decide) ?_
        refine lv_icmp_gt (tgt := 22) hx hb dX3_addVariable_18 (by decide) (fun c4 => ?_) (fun c4 => ?_)
        · rw [nI_ltI (by omega) (by omega)] at c4
          refine lv_aload_n hx hb dX3_addVariable_22 rfl (lv_at hl 0 rfl) ?_
          refine rD_get (v := .ref (ad 1)) hx hb hts hin hown hK hP 0 (by decide) rfl (by decide +kernel) dX3_addVariable_23 ?_
          refine lv_bipush (v := nI 15) hx hb dX3_addVariable_26 (by decide) ?_
          refine lv_iload_n hx hb dX3_addVariable_28 rfl (lv_at hl 3 rfl) ?_
          refine lv_iadd hx hb dX3_addVariable_29 ?_
          rw [nI_add]
          refine rD_row (i := (15 + v)) hx hb hK hP (by omega) dX3_addVariable_30 ?_
          refine lv_astore (lv' := [(4, .ref (ad (11 + (15 + v)))), (0, .ref (ad 0)), (1, .ref (ad (11 + k))), (2, .int x), (3, .int (nI v))]) hx hb dX3_addVariable_31 hl (by decide) rfl (fun ls hl => ?_)
          refine lv_iconst (v := nI 0) hx hb dX3_addVariable_33 (by decide) ?_
          refine lv_istore (lv' := [(5, .int (nI 0)), (4, .ref (ad (11 + (15 + v)))), (0, .ref (ad 0)), (1, .ref (ad (11 + k))), (2, .int x), (3, .int (nI v))]) hx hb dX3_addVariable_34 hl (by decide) rfl (fun ls hl => ?_)
          have L36 : ∀ (n i : Nat) (U : DS) (H : Heap) (locs : List Loc) (ls : Array Slot), i + n = 7 → va_P D vwCl (wD cy ad U ++ X) H → va_D (dA cy ad X S sz) (wD cy ad U ++ X) → va_S (dA cy ad X S sz) s.heap H locs → lv_has ls 6 [(5, .int (nI i)), (0, .ref (ad 0)), (1, .ref (ad (11 + k))), (2, .int x), (3, .int (nI v)), (4, .ref (ad (11 + (15 + v))))] → (∀ (H : Heap) (locs : List Loc) (ls : Array Slot), va_P D vwCl (wD cy ad (lpN (fAV k v x) n i U) ++ X) H → va_D (dA cy ad X S sz) (wD cy ad (lpN (fAV k v x) n i U) ++ X) → va_S (dA cy ad X S sz) s.heap H locs → lv_has ls 6 [(5, .int (nI 7)), (0, .ref (ad 0)), (1, .ref (ad (11 + k))), (2, .int x), (3, .int (nI v)), (4, .ref (ad (11 + (15 + v))))] → W p l e (headSpec wsX3_addVariable (rm9 0 0)).room s m ([.ref (ad 0), .ref (ad (11 + k)), .int x, .int (nI v)] : List Value).toArray below meth c H locs 0 0 (MQ below (dQv D cy ad X S sz (fun S' => S' = kAV S k x v)) ([.ref (ad 0), .ref (ad (11 + k)), .int x, .int (nI v)] : List Value).toArray s 0 0 (dA cy ad X S sz)) (F0 m 64 ls [])) → W p l e (headSpec wsX3_addVariable (rm9 0 0)).room s m ([.ref (ad 0), .ref (ad (11 + k)), .int x, .int (nI v)] : List Value).toArray below meth c H locs 0 0 (MQ below (dQv D cy ad X S sz (fun S' => S' = kAV S k x v)) ([.ref (ad 0), .ref (ad (11 + k)), .int x, .int (nI v)] : List Value).toArray s 0 0 (dA cy ad X S sz)) (F0 m 36 ls []) := by
            intro n
            induction n with
            | zero =>
              intro i U H locs ls hk hP hD hS hl hex
              obtain rfl : i = 7 := by omega
              refine lv_iload hx hb dX3_addVariable_36 (lv_at hl 0 rfl) ?_
              refine lv_bipush (v := nI 6) hx hb dX3_addVariable_38 (by decide) ?_
              refine lv_icmp_gt (tgt := 64) hx hb dX3_addVariable_40 (by decide) (fun c5 => ?_) (fun c5 => ?_)
              · rw [nI_ltI (by omega) (by omega)] at c5
                exact hex _ _ _ hP hD hS (lv_sub hl [0, 1, 2, 3, 4, 5] rfl)
              · exact absurd c5 (by rw [nI_ltI (by omega) (by omega)]; omega)
            | succ n ih =>
              intro i U H locs ls hk hP hD hS hl hex
              have hk36 : i < 7 := by omega
              refine lv_iload hx hb dX3_addVariable_36 (lv_at hl 0 rfl) ?_
              refine lv_bipush (v := nI 6) hx hb dX3_addVariable_38 (by decide) ?_
              refine lv_icmp_gt (tgt := 64) hx hb dX3_addVariable_40 (by decide) (fun c6 => ?_) (fun c6 => ?_)
              · exact absurd c6 (by rw [nI_ltI (by omega) (by omega)]; omega)
              · rw [nI_ltI (by omega) (by omega)] at c6
                refine lv_aload_n hx hb dX3_addVariable_43 rfl (lv_at hl 2 rfl) ?_
                refine lv_iload hx hb dX3_addVariable_44 (lv_at hl 0 rfl) ?_
                refine lv_dup2_11 hx hb dX3_addVariable_46 rfl rfl ?_
                refine rD_lld (n := k) (i := i) hx hb hK hP (by omega) (by omega) dX3_addVariable_47 ?_
                refine lv_iload_n hx hb dX3_addVariable_48 rfl (lv_at hl 3 rfl) ?_
                refine lv_i2l hx hb dX3_addVariable_49 (v := x.toInt64) rfl ?_
                refine lv_aload hx hb dX3_addVariable_50 (lv_at hl 5 rfl) ?_
                refine lv_iload hx hb dX3_addVariable_52 (lv_at hl 0 rfl) ?_
                refine rD_lld (n := (15 + v)) (i := i) hx hb hK hP (by omega) (by omega) dX3_addVariable_54 ?_
                refine lv_lmul hx hb dX3_addVariable_55 ?_
                refine lv_ladd hx hb dX3_addVariable_56 ?_
                refine rD_lst (n := k) (i := i) hx hb hK hP hD hS (by omega) (by omega) dX3_addVariable_57 (fun H locs hP hD hS => ?_)
                refine lv_iinc (v := nI (i + 1)) (lv' := [(5, .int (nI (i + 1))), (0, .ref (ad 0)), (1, .ref (ad (11 + k))), (2, .int x), (3, .int (nI v)), (4, .ref (ad (11 + (15 + v))))]) hx hb dX3_addVariable_58 hl (k := 0) rfl (nI_1 _) (by decide) rfl (fun ls hl => ?_)
                refine lv_goto (tgt := 36) hx hb dX3_addVariable_61 (by decide) ?_
                have he : (fAV k v x) i U = (sRo U k i ((dRo U k i) + (x.toInt64 * (dRo U (15 + v) i)))) := rfl
                rw [lpN_s, he] at hex
                exact ih ((i + 1)) (sRo U k i ((dRo U k i) + (x.toInt64 * (dRo U (15 + v) i)))) _ _ _ (by omega) hP hD hS (lv_sub hl [0, 1, 2, 3, 4, 5] rfl) hex
          refine L36 7 0 S _ _ _ (by omega) hP hD hS (lv_sub hl [0, 2, 3, 4, 5, 1] rfl) (fun H locs ls hP hD hS hl => ?_)
          refine lv_aload_n hx hb dX3_addVariable_64 rfl (lv_at hl 2 rfl) ?_
          refine lv_bipush (v := nI 6) hx hb dX3_addVariable_65 (by decide) ?_
          refine lv_dup2_11 hx hb dX3_addVariable_67 rfl rfl ?_
          refine rD_lld (n := k) (i := 6) hx hb hK hP (by omega) (by omega) dX3_addVariable_68 ?_
          refine lv_iload_n hx hb dX3_addVariable_69 rfl (lv_at hl 3 rfl) ?_
          refine lv_sipush (v := nI 1000) hx hb dX3_addVariable_70 (by decide) ?_
          refine lv_imul hx hb dX3_addVariable_73 ?_
          refine lv_i2l hx hb dX3_addVariable_74 (v := (x * (nI 1000)).toInt64) rfl ?_
          refine lv_aload_n hx hb dX3_addVariable_75 rfl (lv_at hl 1 rfl) ?_
          refine rD_get (v := .long (dSc (lpN (fAV k v x) 7 0 S))) hx hb hts hin hown hK hP 1 (by decide) rfl (by decide +kernel) dX3_addVariable_76 ?_
          refine lv_lmul hx hb dX3_addVariable_79 ?_
          refine lv_ladd hx hb dX3_addVariable_80 ?_
          refine rD_lst (n := k) (i := 6) hx hb hK hP hD hS (by omega) (by omega) dX3_addVariable_81 (fun H locs hP hD hS => ?_)
          exact W.vret hx hb hr (fun t ht hW => ⟨⟨_, rfl, by simp only [kAV]; rw [if_neg c1]; rfl, by rw [ht]; exact hP, va_K.moved hW.alike hK, hD⟩, hS.F ht⟩) hS.2.2 dX3_addVariable_82
        · exact absurd c4 (by rw [nI_ltI (by omega) (by omega)]; omega)
set_option maxHeartbeats 4000000 in
set_option maxRecDepth 100000 in
theorem cD_placeWith (l : Launch) (D : va_G) (cy : Nat → ClassId) (ad : Nat → Nat) (X : va_W) (S : DS) (sz : Nat) {k : Nat} (hk : k < 15) (con : Int32) {i j a b : Nat} {rel con0 str wei : Int32} {f : Nat → Int32} (hi : X[i]? = some (a, .inr (1, [.ref b, .int rel, .int con0, .int str, .int wei]))) (hj : X[j]? = some (b, .inl (cy 1, 6, .inl f))) : Met l yX3_placeWith wsX3_placeWith (rm9 1 30) (dPc D cy ad X S sz [.ref (ad 0), .int (nI k), .ref a, .int con]) (dQv D cy ad X S sz (fun S' => S' = kPl S k f rel con str wei)) 0 0 (dA cy ad X S sz) := by
  refine dHead (cc := cX3_placeWith) (maxL := 6) (ret := none) (by decide) rfl (Nat.le_of_ble_eq_true rfl) ?_
  intro p e s m below meth c ls hx hb hr hlocks hml hown hts hsz hP hK hD hS hA hl
  have hin : ∀ w ∈ u_ws RX3 TX3 12, w ∈ wsX3_placeWith := by decide +kernel
  have hown : s.vm.findClass RX3 = some m.cls := hown
  have hl : lv_has ls 6 [(0, .ref (ad 0)), (1, .int (nI k)), (2, .ref a), (3, .int con)] := hl
  have hin1 : ∀ w ∈ u_ws RX1 TX1 5, w ∈ wsX3_placeWith := by decide +kernel
  refine lv_aload_n hx hb dX3_placeWith_0 rfl (lv_at hl 0 rfl) ?_
  refine lv_iload_n hx hb dX3_placeWith_1 rfl (lv_at hl 1 rfl) ?_
  refine dCallv (As := [.int (nI k)]) (rest := []) hx hb hml hown hts hK hP hD hS hA hl.1 (cD_lift l D cy ad _ _ _ (nI k)) (cwV 1 hts gX3_placeWith_X3_lift rfl rfl rfl (by decide +kernel) ⟨Nat.le_of_ble_eq_true rfl, Nat.le_of_ble_eq_true rfl⟩) rfl rfl (Nat.le_of_ble_eq_true rfl) ⟨Nat.le_of_ble_eq_true rfl, Nat.le_of_ble_eq_true rfl⟩ dX3_placeWith_2 (fun S1 H locs e1 hP hD hS => ?_)
  rw [show S1 = _ from e1] at hP hD
  refine lv_iload_n hx hb dX3_placeWith_5 rfl (lv_at hl 1 rfl) ?_
  refine lv_if_lt (tgt := 19) hx hb dX3_placeWith_6 (by decide) (fun c2 => ?_) (fun c2 => ?_)
  · exact absurd c2 (nI_pos (by omega))
  · skip
    refine lv_iload_n hx hb dX3_placeWith_9 rfl (lv_at hl 1 rfl) ?_
    refine lv_bipush (v := nI 14) hx hb dX3_placeWith_10 (by decide) ?_
    refine lv_icmp_gt (tgt := 19) hx hb dX3_placeWith_12 (by decide) (fun c3 => ?_) (fun c3 => ?_)
    · exact absurd c3 (by rw [nI_ltI (by omega) (by omega)]; omega)
    · rw [nI_ltI (by omega) (by omega)] at c3
      refine lv_aload_n hx hb dX3_placeWith_15 rfl (lv_at hl 2 rfl) ?_
      refine lv_ifnonnull (tgt := 20) hx hb dX3_placeWith_16 (by decide) ?_
      refine lv_aload_n hx hb dX3_placeWith_20 rfl (lv_at hl 0 rfl) ?_
      refine rD_get (v := .ref (ad 1)) hx hb hts hin hown hK hP 0 (by decide) rfl (by decide +kernel) dX3_placeWith_21 ?_
      refine lv_iload_n hx hb dX3_placeWith_24 rfl (lv_at hl 1 rfl) ?_
      refine rD_row (i := k) hx hb hK hP (by omega) dX3_placeWith_25 ?_
      refine lv_astore (lv' := [(4, .ref (ad (11 + k))), (0, .ref (ad 0)), (1, .int (nI k)), (2, .ref a), (3, .int con)]) hx hb dX3_placeWith_26 hl (by decide) rfl (fun ls hl => ?_)
      refine lv_iconst (v := nI 0) hx hb dX3_placeWith_28 (by decide) ?_
      refine lv_istore (lv' := [(5, .int (nI 0)), (4, .ref (ad (11 + k))), (0, .ref (ad 0)), (1, .int (nI k)), (2, .ref a), (3, .int con)]) hx hb dX3_placeWith_29 hl (by decide) rfl (fun ls hl => ?_)
      have L31 : ∀ (n i2 : Nat) (U : DS) (H : Heap) (locs : List Loc) (ls : Array Slot), i2 + n = 7 → va_P D vwCl (wD cy ad U ++ X) H → va_D (dA cy ad X S sz) (wD cy ad U ++ X) → va_S (dA cy ad X S sz) s.heap H locs → lv_has ls 6 [(5, .int (nI i2)), (0, .ref (ad 0)), (1, .int (nI k)), (2, .ref a), (3, .int con), (4, .ref (ad (11 + k)))] → (∀ (H : Heap) (locs : List Loc) (ls : Array Slot), va_P D vwCl (wD cy ad (lpN (fZr k) n i2 U) ++ X) H → va_D (dA cy ad X S sz) (wD cy ad (lpN (fZr k) n i2 U) ++ X) → va_S (dA cy ad X S sz) s.heap H locs → lv_has ls 6 [(5, .int (nI 7)), (0, .ref (ad 0)), (1, .int (nI k)), (2, .ref a), (3, .int con), (4, .ref (ad (11 + k)))] → W p l e (headSpec wsX3_placeWith (rm9 1 30)).room s m ([.ref (ad 0), .int (nI k), .ref a, .int con] : List Value).toArray below meth c H locs 0 0 (MQ below (dQv D cy ad X S sz (fun S' => S' = kPl S k f rel con str wei)) ([.ref (ad 0), .int (nI k), .ref a, .int con] : List Value).toArray s 0 0 (dA cy ad X S sz)) (F0 m 50 ls [])) → W p l e (headSpec wsX3_placeWith (rm9 1 30)).room s m ([.ref (ad 0), .int (nI k), .ref a, .int con] : List Value).toArray below meth c H locs 0 0 (MQ below (dQv D cy ad X S sz (fun S' => S' = kPl S k f rel con str wei)) ([.ref (ad 0), .int (nI k), .ref a, .int con] : List Value).toArray s 0 0 (dA cy ad X S sz)) (F0 m 31 ls []) := by
        intro n
        induction n with
        | zero =>
          intro i2 U H locs ls hk hP hD hS hl hex
          obtain rfl : i2 = 7 := by omega
          refine lv_iload hx hb dX3_placeWith_31 (lv_at hl 0 rfl) ?_
          refine lv_bipush (v := nI 6) hx hb dX3_placeWith_33 (by decide) ?_
          refine lv_icmp_gt (tgt := 50) hx hb dX3_placeWith_35 (by decide) (fun c4 => ?_) (fun c4 => ?_)
          · rw [nI_ltI (by omega) (by omega)] at c4
            exact hex _ _ _ hP hD hS (lv_sub hl [0, 1, 2, 3, 4, 5] rfl)
          · exact absurd c4 (by rw [nI_ltI (by omega) (by omega)]; omega)
        | succ n ih =>
          intro i2 U H locs ls hk hP hD hS hl hex
          have hk31 : i2 < 7 := by omega
          refine lv_iload hx hb dX3_placeWith_31 (lv_at hl 0 rfl) ?_
          refine lv_bipush (v := nI 6) hx hb dX3_placeWith_33 (by decide) ?_
          refine lv_icmp_gt (tgt := 50) hx hb dX3_placeWith_35 (by decide) (fun c5 => ?_) (fun c5 => ?_)
          · exact absurd c5 (by rw [nI_ltI (by omega) (by omega)]; omega)
          · rw [nI_ltI (by omega) (by omega)] at c5
            refine lv_aload hx hb dX3_placeWith_38 (lv_at hl 5 rfl) ?_
            refine lv_iload hx hb dX3_placeWith_40 (lv_at hl 0 rfl) ?_
            refine lv_lconst (v := 0) hx hb dX3_placeWith_42 (by decide) ?_
            refine rD_lst (n := k) (i := i2) hx hb hK hP hD hS (by omega) (by omega) dX3_placeWith_43 (fun H locs hP hD hS => ?_)
            refine lv_iinc (v := nI (i2 + 1)) (lv' := [(5, .int (nI (i2 + 1))), (0, .ref (ad 0)), (1, .int (nI k)), (2, .ref a), (3, .int con), (4, .ref (ad (11 + k)))]) hx hb dX3_placeWith_44 hl (k := 0) rfl (nI_1 _) (by decide) rfl (fun ls hl => ?_)
            refine lv_goto (tgt := 31) hx hb dX3_placeWith_47 (by decide) ?_
            have he : (fZr k) i2 U = (sRo U k i2 0) := rfl
            rw [lpN_s, he] at hex
            exact ih ((i2 + 1)) (sRo U k i2 0) _ _ _ (by omega) hP hD hS (lv_sub hl [0, 1, 2, 3, 4, 5] rfl) hex
      refine L31 7 0 (kLift S (nI k)) _ _ _ (by omega) hP hD hS (lv_sub hl [0, 2, 3, 4, 5, 1] rfl) (fun H locs ls hP hD hS hl => ?_)
      refine lv_aload hx hb dX3_placeWith_50 (lv_at hl 5 rfl) ?_
      refine lv_bipush (v := nI 6) hx hb dX3_placeWith_52 (by decide) ?_
      refine lv_aload_n hx hb dX3_placeWith_54 rfl (lv_at hl 1 rfl) ?_
      refine rD_get (v := .long (dSc (lpN (fZr k) 7 0 (kLift S (nI k))))) hx hb hts hin hown hK hP 1 (by decide) rfl (by decide +kernel) dX3_placeWith_55 ?_
      refine lv_lneg hx hb dX3_placeWith_58 ?_
      refine lv_iload_n hx hb dX3_placeWith_59 rfl (lv_at hl 4 rfl) ?_
      refine lv_i2l hx hb dX3_placeWith_60 (v := con.toInt64) rfl ?_
      refine lv_lmul hx hb dX3_placeWith_61 ?_
      refine rD_lst (n := k) (i := 6) hx hb hK hP hD hS (by omega) (by omega) dX3_placeWith_62 (fun H locs hP hD hS => ?_)
      have hk1 : sRo (lpN (fZr k) 7 0 (kLift S (nI k))) k 6 ((-(dSc (lpN (fZr k) 7 0 (kLift S (nI k))))) * con.toInt64) = kPl1 (kLift S (nI k)) k con := rfl
      rw [hk1] at hP hD
      refine lv_iconst (v := nI 0) hx hb dX3_placeWith_63 (by decide) ?_
      refine lv_istore (lv' := [(5, .int (nI 0)), (0, .ref (ad 0)), (1, .int (nI k)), (2, .ref a), (3, .int con), (4, .ref (ad (11 + k)))]) hx hb dX3_placeWith_64 hl (by decide) rfl (fun ls hl => ?_)
      have L66 : ∀ (n v : Nat) (U : DS) (H : Heap) (locs : List Loc) (ls : Array Slot), v + n = 6 → va_P D vwCl (wD cy ad U ++ X) H → va_D (dA cy ad X S sz) (wD cy ad U ++ X) → va_S (dA cy ad X S sz) s.heap H locs → lv_has ls 6 [(5, .int (nI v)), (0, .ref (ad 0)), (1, .int (nI k)), (2, .ref a), (3, .int con), (4, .ref (ad (11 + k)))] → (∀ (H : Heap) (locs : List Loc) (ls : Array Slot), va_P D vwCl (wD cy ad (lpN (fPl k f) n v U) ++ X) H → va_D (dA cy ad X S sz) (wD cy ad (lpN (fPl k f) n v U) ++ X) → va_S (dA cy ad X S sz) s.heap H locs → lv_has ls 6 [(5, .int (nI 6)), (0, .ref (ad 0)), (1, .int (nI k)), (2, .ref a), (3, .int con), (4, .ref (ad (11 + k)))] → W p l e (headSpec wsX3_placeWith (rm9 1 30)).room s m ([.ref (ad 0), .int (nI k), .ref a, .int con] : List Value).toArray below meth c H locs 0 0 (MQ below (dQv D cy ad X S sz (fun S' => S' = kPl S k f rel con str wei)) ([.ref (ad 0), .int (nI k), .ref a, .int con] : List Value).toArray s 0 0 (dA cy ad X S sz)) (F0 m 93 ls [])) → W p l e (headSpec wsX3_placeWith (rm9 1 30)).room s m ([.ref (ad 0), .int (nI k), .ref a, .int con] : List Value).toArray below meth c H locs 0 0 (MQ below (dQv D cy ad X S sz (fun S' => S' = kPl S k f rel con str wei)) ([.ref (ad 0), .int (nI k), .ref a, .int con] : List Value).toArray s 0 0 (dA cy ad X S sz)) (F0 m 66 ls []) := by
        intro n
        induction n with
        | zero =>
          intro v U H locs ls hk hP hD hS hl hex
          obtain rfl : v = 6 := by omega
          refine lv_iload hx hb dX3_placeWith_66 (lv_at hl 0 rfl) ?_
          refine lv_bipush (v := nI 6) hx hb dX3_placeWith_68 (by decide) ?_
          refine lv_icmp_ge (tgt := 93) hx hb dX3_placeWith_70 (by decide) (fun c6 => ?_) (fun c6 => ?_)
          · rw [nI_leI (by omega) (by omega)] at c6
            exact hex _ _ _ hP hD hS (lv_sub hl [0, 1, 2, 3, 4, 5] rfl)
          · exact absurd c6 (by rw [nI_leI (by omega) (by omega)]; omega)
        | succ n ih =>
          intro v U H locs ls hk hP hD hS hl hex
          have hk66 : v < 6 := by omega
          refine lv_iload hx hb dX3_placeWith_66 (lv_at hl 0 rfl) ?_
          refine lv_bipush (v := nI 6) hx hb dX3_placeWith_68 (by decide) ?_
          refine lv_icmp_ge (tgt := 93) hx hb dX3_placeWith_70 (by decide) (fun c7 => ?_) (fun c7 => ?_)
          · exact absurd c7 (by rw [nI_leI (by omega) (by omega)]; omega)
          · rw [nI_leI (by omega) (by omega)] at c7
            refine lv_aload_n hx hb dX3_placeWith_73 rfl (lv_at hl 1 rfl) ?_
            refine lv_aload hx hb dX3_placeWith_74 (lv_at hl 5 rfl) ?_
            refine lv_aload_n hx hb dX3_placeWith_76 rfl (lv_at hl 3 rfl) ?_
            refine lv_iload hx hb dX3_placeWith_77 (lv_at hl 0 rfl) ?_
            refine gCalli (ws := wD cy ad U ++ X) (As := [.int (nI v)]) (rest := [.ref (ad (11 + k)), .ref (ad 0)]) (q0 := 43 + i) (r0 := (RX1, TX1, 5)) hx hb hml hown hts hK hP hD hS hA hl.1 (wX_r hi) rfl (cK_coefficient l D cy _ _ (v := v) (by omega) (wX_r hi) (wX_r hj)) (cwV 1 hts gX3_placeWith_X1_coefficient rfl rfl rfl (by decide +kernel) ⟨Nat.le_of_ble_eq_true rfl, Nat.le_of_ble_eq_true rfl⟩) rfl rfl (Nat.le_of_ble_eq_true rfl) ⟨Nat.le_of_ble_eq_true rfl, Nat.le_of_ble_eq_true rfl⟩ dX3_placeWith_79 (fun r8 ws9 H locs e8 hP hD hS => ?_)
            obtain ⟨e8a, e8b⟩ := e8
            rw [e8a]
            rw [e8b] at hP hD
            refine lv_iload hx hb dX3_placeWith_82 (lv_at hl 0 rfl) ?_
            refine dCallv (As := [.ref (ad (11 + k)), .int (f v), .int (nI v)]) (rest := []) hx hb hml hown hts hK hP hD hS hA hl.1 (cD_addVariable l D cy ad _ _ _ (k := k) (v := v) (by omega) (by omega) (f v)) (cwV 3 hts gX3_placeWith_X3_addVariable rfl rfl rfl (by decide +kernel) ⟨Nat.le_of_ble_eq_true rfl, Nat.le_of_ble_eq_true rfl⟩) rfl rfl (Nat.le_of_ble_eq_true rfl) ⟨Nat.le_of_ble_eq_true rfl, Nat.le_of_ble_eq_true rfl⟩ dX3_placeWith_84 (fun S9 H locs e9 hP hD hS => ?_)
            rw [show S9 = _ from e9] at hP hD
            refine lv_iinc (v := nI (v + 1)) (lv' := [(5, .int (nI (v + 1))), (0, .ref (ad 0)), (1, .int (nI k)), (2, .ref a), (3, .int con), (4, .ref (ad (11 + k)))]) hx hb dX3_placeWith_87 hl (k := 0) rfl (nI_1 _) (by decide) rfl (fun ls hl => ?_)
            refine lv_goto (tgt := 66) hx hb dX3_placeWith_90 (by decide) ?_
            have he : (fPl k f) v U = (kAV U k (f v) v) := rfl
            rw [lpN_s, he] at hex
            exact ih ((v + 1)) (kAV U k (f v) v) _ _ _ (by omega) hP hD hS (lv_sub hl [0, 1, 2, 3, 4, 5] rfl) hex
      refine L66 6 0 (kPl1 (kLift S (nI k)) k con) _ _ _ (by omega) hP hD hS (lv_sub hl [0, 1, 2, 3, 4, 5] rfl) (fun H locs ls hP hD hS hl => ?_)
      refine lv_aload_n hx hb dX3_placeWith_93 rfl (lv_at hl 1 rfl) ?_
      refine rD_get (v := .ref (ad 2)) hx hb hts hin hown hK hP 2 (by decide) rfl (by decide +kernel) dX3_placeWith_94 ?_
      refine lv_iload_n hx hb dX3_placeWith_97 rfl (lv_at hl 2 rfl) ?_
      refine lv_iconst (v := nI 1) hx hb dX3_placeWith_98 (by decide) ?_
      refine rD_zst (i := k) hx hb hK hP hD hS (by omega) (by decide) dX3_placeWith_99 (fun H locs hP hD hS => ?_)
      refine lv_aload_n hx hb dX3_placeWith_100 rfl (lv_at hl 1 rfl) ?_
      refine rD_get (v := .ref (ad 3)) hx hb hts hin hown hK hP 3 (by decide) rfl (by decide +kernel) dX3_placeWith_101 ?_
      refine lv_iload_n hx hb dX3_placeWith_104 rfl (lv_at hl 2 rfl) ?_
      refine lv_iload_n hx hb dX3_placeWith_105 rfl (lv_at hl 4 rfl) ?_
      refine rD_ist (i := k) hx hb hK hP hD hS 3 (by decide) (by decide) (by omega) dX3_placeWith_106 (fun H locs hP hD hS => ?_)
      refine lv_aload_n hx hb dX3_placeWith_107 rfl (lv_at hl 1 rfl) ?_
      refine rD_get (v := .ref (ad 4)) hx hb hts hin hown hK hP 4 (by decide) rfl (by decide +kernel) dX3_placeWith_108 ?_
      refine lv_iload_n hx hb dX3_placeWith_111 rfl (lv_at hl 2 rfl) ?_
      refine lv_aload_n hx hb dX3_placeWith_112 rfl (lv_at hl 3 rfl) ?_
      refine va_get (v := .int str) (ci := 1) (C := RX1) (T := TX1) (N := 5) hx hb hts hin1 hown hK hP _ (wX_r hi) rfl 3 (by decide) (hts (.fieldLink RX3 78 "LayoutSolver$Constraint" "strength" "I") (by decide +kernel)) (fun x h => h) rfl dX3_placeWith_113 ?_
      refine rD_ist (i := k) hx hb hK hP hD hS 4 (by decide) (by decide) (by omega) dX3_placeWith_116 (fun H locs hP hD hS => ?_)
      refine lv_aload_n hx hb dX3_placeWith_117 rfl (lv_at hl 1 rfl) ?_
      refine rD_get (v := .ref (ad 5)) hx hb hts hin hown hK hP 5 (by decide) rfl (by decide +kernel) dX3_placeWith_118 ?_
      refine lv_iload_n hx hb dX3_placeWith_121 rfl (lv_at hl 2 rfl) ?_
      refine lv_aload_n hx hb dX3_placeWith_122 rfl (lv_at hl 3 rfl) ?_
      refine gCalli (ws := wD cy ad (sI (sI (sI (lpN (fPl k f) 6 0 (kPl1 (kLift S (nI k)) k con)) 2 k (nI 1)) 3 k con) 4 k str) ++ X) (As := []) (rest := [.int (nI k), .ref (ad 5)]) (q0 := 43 + i) (r0 := (RX1, TX1, 5)) hx hb hml hown hts hK hP hD hS hA hl.1 (wX_r hi) rfl (cK_costAbove l D cy _ _ (j := j) (f := f) (wX_r hi)) (cwV 0 hts gX3_placeWith_X1_costAbove rfl rfl rfl (by decide +kernel) ⟨Nat.le_of_ble_eq_true rfl, Nat.le_of_ble_eq_true rfl⟩) rfl rfl (Nat.le_of_ble_eq_true rfl) ⟨Nat.le_of_ble_eq_true rfl, Nat.le_of_ble_eq_true rfl⟩ dX3_placeWith_123 (fun r10 ws9 H locs e10 hP hD hS => ?_)
      obtain ⟨e10a, e10b⟩ := e10
      rw [e10a]
      rw [e10b] at hP hD
      refine rD_ist (i := k) hx hb hK hP hD hS 5 (by decide) (by decide) (by omega) dX3_placeWith_126 (fun H locs hP hD hS => ?_)
      refine lv_aload_n hx hb dX3_placeWith_127 rfl (lv_at hl 1 rfl) ?_
      refine rD_get (v := .ref (ad 6)) hx hb hts hin hown hK hP 6 (by decide) rfl (by decide +kernel) dX3_placeWith_128 ?_
      refine lv_iload_n hx hb dX3_placeWith_131 rfl (lv_at hl 2 rfl) ?_
      refine lv_aload_n hx hb dX3_placeWith_132 rfl (lv_at hl 3 rfl) ?_
      refine gCalli (ws := wD cy ad (sI (sI (sI (sI (lpN (fPl k f) 6 0 (kPl1 (kLift S (nI k)) k con)) 2 k (nI 1)) 3 k con) 4 k str) 5 k (kAbove rel wei)) ++ X) (As := []) (rest := [.int (nI k), .ref (ad 6)]) (q0 := 43 + i) (r0 := (RX1, TX1, 5)) hx hb hml hown hts hK hP hD hS hA hl.1 (wX_r hi) rfl (cK_costBelow l D cy _ _ (j := j) (f := f) (wX_r hi)) (cwV 0 hts gX3_placeWith_X1_costBelow rfl rfl rfl (by decide +kernel) ⟨Nat.le_of_ble_eq_true rfl, Nat.le_of_ble_eq_true rfl⟩) rfl rfl (Nat.le_of_ble_eq_true rfl) ⟨Nat.le_of_ble_eq_true rfl, Nat.le_of_ble_eq_true rfl⟩ dX3_placeWith_133 (fun r11 ws9 H locs e11 hP hD hS => ?_)
      obtain ⟨e11a, e11b⟩ := e11
      rw [e11a]
      rw [e11b] at hP hD
      refine rD_ist (i := k) hx hb hK hP hD hS 6 (by decide) (by decide) (by omega) dX3_placeWith_136 (fun H locs hP hD hS => ?_)
      have hk2 : sI (sI (sI (sI (sI (lpN (fPl k f) 6 0 (kPl1 (kLift S (nI k)) k con)) 2 k (nI 1)) 3 k con) 4 k str) 5 k (kAbove rel wei)) 6 k (kBelow rel wei) = kPl2 (lpN (fPl k f) 6 0 (kPl1 (kLift S (nI k)) k con)) k rel con str wei := rfl
      rw [hk2] at hP hD
      refine lv_aload_n hx hb dX3_placeWith_137 rfl (lv_at hl 1 rfl) ?_
      refine rD_get (v := .ref (ad 7)) hx hb hts hin hown hK hP 7 (by decide) rfl (by decide +kernel) dX3_placeWith_138 ?_
      refine lv_iload_n hx hb dX3_placeWith_141 rfl (lv_at hl 2 rfl) ?_
      refine lv_aload hx hb dX3_placeWith_142 (lv_at hl 5 rfl) ?_
      refine lv_bipush (v := nI 6) hx hb dX3_placeWith_144 (by decide) ?_
      refine rD_lld (n := k) (i := 6) hx hb hK hP (by omega) (by omega) dX3_placeWith_146 ?_
      refine lv_lconst (v := 0) hx hb dX3_placeWith_147 (by decide) ?_
      refine W.lcmp hx hb dX3_placeWith_148 ?_
      refine lv_if_ge (tgt := 156) hx hb dX3_placeWith_149 (by decide) (fun c12 => ?_) (fun c12 => ?_)
      · skip
        refine lv_iconst (v := nI 1) hx hb dX3_placeWith_156 (by decide) ?_
        refine rD_ist (i := k) hx hb hK hP hD hS 7 (by decide) (by decide) (by omega) dX3_placeWith_157 (fun H locs hP hD hS => ?_)
        exact W.vret hx hb hr (fun t ht hW => ⟨⟨_, rfl, by simp only [kPl]; rw [if_pos c12], by rw [ht]; exact hP, va_K.moved hW.alike hK, hD⟩, hS.F ht⟩) hS.2.2 dX3_placeWith_158
      · skip
        refine lv_iconst (v := -1) hx hb dX3_placeWith_152 (by decide) ?_
        refine lv_goto (tgt := 157) hx hb dX3_placeWith_153 (by decide) ?_
        refine rD_ist (i := k) hx hb hK hP hD hS 7 (by decide) (by decide) (by omega) dX3_placeWith_157 (fun H locs hP hD hS => ?_)
        exact W.vret hx hb hr (fun t ht hW => ⟨⟨_, rfl, by simp only [kPl]; rw [if_neg c12], by rw [ht]; exact hP, va_K.moved hW.alike hK, hD⟩, hS.F ht⟩) hS.2.2 dX3_placeWith_158
end
section
theorem zz_t : True := trivial
end
