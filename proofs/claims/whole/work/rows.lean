section
/-- a private method of a class that the tables say can be made, by its rows of tables_1 -/
def lw_okq (q : MethodName × Nat) : Prop := (q.1.cls ≠ "java/lang/invoke/MethodHandle" ∧ q.1.cls ≠ "java/lang/invoke/VarHandle") ∧ Cond.instantiable q.1.cls q.2 ∈ tables_1 ∧ Cond.privateMethod q.1 ∈ tables_1 ∧ Cond.instanceMethod q.1 ∈ tables_1
theorem lw_p0 : lw_okq (⟨"PlaneCells", "readText", "()I"⟩, 6) := ⟨⟨by decide +kernel, by decide +kernel⟩, List.mem_of_getElem? (i := 13) (by decide +kernel), List.mem_of_getElem? (i := 192) (by decide +kernel), List.mem_of_getElem? (i := 193) (by decide +kernel)⟩
theorem lw_p1 : lw_okq (⟨"PlaneCells$Reader", "takeHead", "()Z"⟩, 9) := ⟨⟨by decide +kernel, by decide +kernel⟩, List.mem_of_getElem? (i := 57) (by decide +kernel), List.mem_of_getElem? (i := 208) (by decide +kernel), List.mem_of_getElem? (i := 209) (by decide +kernel)⟩
theorem lw_p2 : lw_okq (⟨"PlaneCells$Reader", "peek", "()C"⟩, 9) := ⟨⟨by decide +kernel, by decide +kernel⟩, List.mem_of_getElem? (i := 57) (by decide +kernel), List.mem_of_getElem? (i := 212) (by decide +kernel), List.mem_of_getElem? (i := 213) (by decide +kernel)⟩
theorem lw_p3 : lw_okq (⟨"PlaneCells$Reader", "takeQuantifier", "()Z"⟩, 9) := ⟨⟨by decide +kernel, by decide +kernel⟩, List.mem_of_getElem? (i := 57) (by decide +kernel), List.mem_of_getElem? (i := 216) (by decide +kernel), List.mem_of_getElem? (i := 217) (by decide +kernel)⟩
theorem lw_p4 : lw_okq (⟨"PlaneCells$Reader", "take", "(C)Z"⟩, 9) := ⟨⟨by decide +kernel, by decide +kernel⟩, List.mem_of_getElem? (i := 57) (by decide +kernel), List.mem_of_getElem? (i := 220) (by decide +kernel), List.mem_of_getElem? (i := 221) (by decide +kernel)⟩
theorem lw_p5 : lw_okq (⟨"PlaneCells$Reader", "takeOpenings", "()V"⟩, 9) := ⟨⟨by decide +kernel, by decide +kernel⟩, List.mem_of_getElem? (i := 57) (by decide +kernel), List.mem_of_getElem? (i := 224) (by decide +kernel), List.mem_of_getElem? (i := 225) (by decide +kernel)⟩
theorem lw_p6 : lw_okq (⟨"PlaneCells$Reader", "hold", "(I)V"⟩, 9) := ⟨⟨by decide +kernel, by decide +kernel⟩, List.mem_of_getElem? (i := 57) (by decide +kernel), List.mem_of_getElem? (i := 228) (by decide +kernel), List.mem_of_getElem? (i := 229) (by decide +kernel)⟩
theorem lw_p7 : lw_okq (⟨"PlaneCells$Reader", "takeAtom", "()Z"⟩, 9) := ⟨⟨by decide +kernel, by decide +kernel⟩, List.mem_of_getElem? (i := 57) (by decide +kernel), List.mem_of_getElem? (i := 232) (by decide +kernel), List.mem_of_getElem? (i := 233) (by decide +kernel)⟩
theorem lw_p8 : lw_okq (⟨"PlaneCells$Reader", "takeSum", "(I)Z"⟩, 9) := ⟨⟨by decide +kernel, by decide +kernel⟩, List.mem_of_getElem? (i := 57) (by decide +kernel), List.mem_of_getElem? (i := 236) (by decide +kernel), List.mem_of_getElem? (i := 237) (by decide +kernel)⟩
theorem lw_p9 : lw_okq (⟨"PlaneCells$Reader", "takeTerm", "(I)Z"⟩, 9) := ⟨⟨by decide +kernel, by decide +kernel⟩, List.mem_of_getElem? (i := 57) (by decide +kernel), List.mem_of_getElem? (i := 240) (by decide +kernel), List.mem_of_getElem? (i := 241) (by decide +kernel)⟩
theorem lw_p10 : lw_okq (⟨"PlaneCells$Reader", "takeClosings", "()V"⟩, 9) := ⟨⟨by decide +kernel, by decide +kernel⟩, List.mem_of_getElem? (i := 57) (by decide +kernel), List.mem_of_getElem? (i := 258) (by decide +kernel), List.mem_of_getElem? (i := 259) (by decide +kernel)⟩
theorem lw_p11 : lw_okq (⟨"PlaneCells$Reader", "release", "(I)V"⟩, 9) := ⟨⟨by decide +kernel, by decide +kernel⟩, List.mem_of_getElem? (i := 57) (by decide +kernel), List.mem_of_getElem? (i := 262) (by decide +kernel), List.mem_of_getElem? (i := 263) (by decide +kernel)⟩
theorem lw_p12 : lw_okq (⟨"PlaneCells$Reader", "takeJoint", "()Z"⟩, 9) := ⟨⟨by decide +kernel, by decide +kernel⟩, List.mem_of_getElem? (i := 57) (by decide +kernel), List.mem_of_getElem? (i := 267) (by decide +kernel), List.mem_of_getElem? (i := 268) (by decide +kernel)⟩
theorem lw_p13 : lw_okq (⟨"PlaneCells$CriticalNumbers", "add", "(III)V"⟩, 4) := ⟨⟨by decide +kernel, by decide +kernel⟩, List.mem_of_getElem? (i := 98) (by decide +kernel), List.mem_of_getElem? (i := 303) (by decide +kernel), List.mem_of_getElem? (i := 304) (by decide +kernel)⟩
theorem lw_p14 : lw_okq (⟨"PlaneCells$CriticalNumbers", "signOfDifference", "(IIII)I"⟩, 4) := ⟨⟨by decide +kernel, by decide +kernel⟩, List.mem_of_getElem? (i := 98) (by decide +kernel), List.mem_of_getElem? (i := 307) (by decide +kernel), List.mem_of_getElem? (i := 308) (by decide +kernel)⟩
theorem lw_p15 : lw_okq (⟨"PlaneCells$CriticalNumbers", "insert", "(IIII)V"⟩, 4) := ⟨⟨by decide +kernel, by decide +kernel⟩, List.mem_of_getElem? (i := 98) (by decide +kernel), List.mem_of_getElem? (i := 321) (by decide +kernel), List.mem_of_getElem? (i := 322) (by decide +kernel)⟩
def lw_privs_1 : List (MethodName × Nat) := [(⟨"PlaneCells", "readText", "()I"⟩, 6), (⟨"PlaneCells$Reader", "takeHead", "()Z"⟩, 9), (⟨"PlaneCells$Reader", "peek", "()C"⟩, 9), (⟨"PlaneCells$Reader", "takeQuantifier", "()Z"⟩, 9), (⟨"PlaneCells$Reader", "take", "(C)Z"⟩, 9), (⟨"PlaneCells$Reader", "takeOpenings", "()V"⟩, 9), (⟨"PlaneCells$Reader", "hold", "(I)V"⟩, 9), (⟨"PlaneCells$Reader", "takeAtom", "()Z"⟩, 9), (⟨"PlaneCells$Reader", "takeSum", "(I)Z"⟩, 9), (⟨"PlaneCells$Reader", "takeTerm", "(I)Z"⟩, 9), (⟨"PlaneCells$Reader", "takeClosings", "()V"⟩, 9), (⟨"PlaneCells$Reader", "release", "(I)V"⟩, 9), (⟨"PlaneCells$Reader", "takeJoint", "()Z"⟩, 9), (⟨"PlaneCells$CriticalNumbers", "add", "(III)V"⟩, 4), (⟨"PlaneCells$CriticalNumbers", "signOfDifference", "(IIII)I"⟩, 4), (⟨"PlaneCells$CriticalNumbers", "insert", "(IIII)V"⟩, 4)]
theorem lw_r1 : ∀ q ∈ lw_privs_1, lw_okq q := List.forall_mem_cons.mpr ⟨lw_p0, List.forall_mem_cons.mpr ⟨lw_p1, List.forall_mem_cons.mpr ⟨lw_p2, List.forall_mem_cons.mpr ⟨lw_p3, List.forall_mem_cons.mpr ⟨lw_p4, List.forall_mem_cons.mpr ⟨lw_p5, List.forall_mem_cons.mpr ⟨lw_p6, List.forall_mem_cons.mpr ⟨lw_p7, List.forall_mem_cons.mpr ⟨lw_p8, List.forall_mem_cons.mpr ⟨lw_p9, List.forall_mem_cons.mpr ⟨lw_p10, List.forall_mem_cons.mpr ⟨lw_p11, List.forall_mem_cons.mpr ⟨lw_p12, List.forall_mem_cons.mpr ⟨lw_p13, List.forall_mem_cons.mpr ⟨lw_p14, List.forall_mem_cons.mpr ⟨lw_p15, fun _ h => absurd h List.not_mem_nil⟩⟩⟩⟩⟩⟩⟩⟩⟩⟩⟩⟩⟩⟩⟩⟩
theorem lw_p16 : lw_okq (⟨"PlaneCells$Plane", "addZero", "(II)V"⟩, 7) := ⟨⟨by decide +kernel, by decide +kernel⟩, List.mem_of_getElem? (i := 92) (by decide +kernel), List.mem_of_getElem? (i := 356) (by decide +kernel), List.mem_of_getElem? (i := 357) (by decide +kernel)⟩
theorem lw_p17 : lw_okq (⟨"PlaneCells", "hasPolynomial", "(I)Z"⟩, 6) := ⟨⟨by decide +kernel, by decide +kernel⟩, List.mem_of_getElem? (i := 13) (by decide +kernel), List.mem_of_getElem? (i := 392) (by decide +kernel), List.mem_of_getElem? (i := 393) (by decide +kernel)⟩
theorem lw_p18 : lw_okq (⟨"PlaneCells", "enterColumn", "(I)Z"⟩, 6) := ⟨⟨by decide +kernel, by decide +kernel⟩, List.mem_of_getElem? (i := 13) (by decide +kernel), List.mem_of_getElem? (i := 405) (by decide +kernel), List.mem_of_getElem? (i := 406) (by decide +kernel)⟩
theorem lw_p19 : lw_okq (⟨"PlaneCells", "hasColumn", "(I)Z"⟩, 6) := ⟨⟨by decide +kernel, by decide +kernel⟩, List.mem_of_getElem? (i := 13) (by decide +kernel), List.mem_of_getElem? (i := 409) (by decide +kernel), List.mem_of_getElem? (i := 410) (by decide +kernel)⟩
theorem lw_p20 : lw_okq (⟨"PlaneCells", "hasCell", "(I)Z"⟩, 6) := ⟨⟨by decide +kernel, by decide +kernel⟩, List.mem_of_getElem? (i := 13) (by decide +kernel), List.mem_of_getElem? (i := 417) (by decide +kernel), List.mem_of_getElem? (i := 418) (by decide +kernel)⟩
theorem lw_p21 : lw_okq (⟨"PlaneCellsModel", "takeText", "()V"⟩, 25) := ⟨⟨by decide +kernel, by decide +kernel⟩, List.mem_of_getElem? (i := 440) (by decide +kernel), List.mem_of_getElem? (i := 532) (by decide +kernel), List.mem_of_getElem? (i := 533) (by decide +kernel)⟩
theorem lw_p22 : lw_okq (⟨"PlaneCellsModel", "count", "(I)I"⟩, 25) := ⟨⟨by decide +kernel, by decide +kernel⟩, List.mem_of_getElem? (i := 440) (by decide +kernel), List.mem_of_getElem? (i := 536) (by decide +kernel), List.mem_of_getElem? (i := 537) (by decide +kernel)⟩
theorem lw_p23 : lw_okq (⟨"PlaneCellsModel", "wrong", "(II)I"⟩, 25) := ⟨⟨by decide +kernel, by decide +kernel⟩, List.mem_of_getElem? (i := 440) (by decide +kernel), List.mem_of_getElem? (i := 540) (by decide +kernel), List.mem_of_getElem? (i := 541) (by decide +kernel)⟩
theorem lw_p24 : lw_okq (⟨"PlaneCellsModel", "illAt", "()I"⟩, 25) := ⟨⟨by decide +kernel, by decide +kernel⟩, List.mem_of_getElem? (i := 440) (by decide +kernel), List.mem_of_getElem? (i := 544) (by decide +kernel), List.mem_of_getElem? (i := 545) (by decide +kernel)⟩
theorem lw_p25 : lw_okq (⟨"PlaneCellsModel", "at", "(I)I"⟩, 25) := ⟨⟨by decide +kernel, by decide +kernel⟩, List.mem_of_getElem? (i := 440) (by decide +kernel), List.mem_of_getElem? (i := 548) (by decide +kernel), List.mem_of_getElem? (i := 549) (by decide +kernel)⟩
theorem lw_p26 : lw_okq (⟨"PlaneCellsModel", "mayEnd", "(II)Z"⟩, 25) := ⟨⟨by decide +kernel, by decide +kernel⟩, List.mem_of_getElem? (i := 440) (by decide +kernel), List.mem_of_getElem? (i := 567) (by decide +kernel), List.mem_of_getElem? (i := 568) (by decide +kernel)⟩
theorem lw_p27 : lw_okq (⟨"PlaneCellsModel", "relations", "()I"⟩, 25) := ⟨⟨by decide +kernel, by decide +kernel⟩, List.mem_of_getElem? (i := 440) (by decide +kernel), List.mem_of_getElem? (i := 571) (by decide +kernel), List.mem_of_getElem? (i := 572) (by decide +kernel)⟩
theorem lw_p28 : lw_okq (⟨"PlaneCellsModel", "readFormula", "()V"⟩, 25) := ⟨⟨by decide +kernel, by decide +kernel⟩, List.mem_of_getElem? (i := 440) (by decide +kernel), List.mem_of_getElem? (i := 575) (by decide +kernel), List.mem_of_getElem? (i := 576) (by decide +kernel)⟩
theorem lw_p29 : lw_okq (⟨"PlaneCellsModel", "wait0", "(I)V"⟩, 25) := ⟨⟨by decide +kernel, by decide +kernel⟩, List.mem_of_getElem? (i := 440) (by decide +kernel), List.mem_of_getElem? (i := 579) (by decide +kernel), List.mem_of_getElem? (i := 580) (by decide +kernel)⟩
theorem lw_p30 : lw_okq (⟨"PlaneCellsModel", "giveAll", "(I)V"⟩, 25) := ⟨⟨by decide +kernel, by decide +kernel⟩, List.mem_of_getElem? (i := 440) (by decide +kernel), List.mem_of_getElem? (i := 583) (by decide +kernel), List.mem_of_getElem? (i := 584) (by decide +kernel)⟩
theorem lw_p31 : lw_okq (⟨"PlaneCellsModel", "give", "(I)V"⟩, 25) := ⟨⟨by decide +kernel, by decide +kernel⟩, List.mem_of_getElem? (i := 440) (by decide +kernel), List.mem_of_getElem? (i := 587) (by decide +kernel), List.mem_of_getElem? (i := 588) (by decide +kernel)⟩
def lw_privs_2 : List (MethodName × Nat) := [(⟨"PlaneCells$Plane", "addZero", "(II)V"⟩, 7), (⟨"PlaneCells", "hasPolynomial", "(I)Z"⟩, 6), (⟨"PlaneCells", "enterColumn", "(I)Z"⟩, 6), (⟨"PlaneCells", "hasColumn", "(I)Z"⟩, 6), (⟨"PlaneCells", "hasCell", "(I)Z"⟩, 6), (⟨"PlaneCellsModel", "takeText", "()V"⟩, 25), (⟨"PlaneCellsModel", "count", "(I)I"⟩, 25), (⟨"PlaneCellsModel", "wrong", "(II)I"⟩, 25), (⟨"PlaneCellsModel", "illAt", "()I"⟩, 25), (⟨"PlaneCellsModel", "at", "(I)I"⟩, 25), (⟨"PlaneCellsModel", "mayEnd", "(II)Z"⟩, 25), (⟨"PlaneCellsModel", "relations", "()I"⟩, 25), (⟨"PlaneCellsModel", "readFormula", "()V"⟩, 25), (⟨"PlaneCellsModel", "wait0", "(I)V"⟩, 25), (⟨"PlaneCellsModel", "giveAll", "(I)V"⟩, 25), (⟨"PlaneCellsModel", "give", "(I)V"⟩, 25)]
theorem lw_r2 : ∀ q ∈ lw_privs_2, lw_okq q := List.forall_mem_cons.mpr ⟨lw_p16, List.forall_mem_cons.mpr ⟨lw_p17, List.forall_mem_cons.mpr ⟨lw_p18, List.forall_mem_cons.mpr ⟨lw_p19, List.forall_mem_cons.mpr ⟨lw_p20, List.forall_mem_cons.mpr ⟨lw_p21, List.forall_mem_cons.mpr ⟨lw_p22, List.forall_mem_cons.mpr ⟨lw_p23, List.forall_mem_cons.mpr ⟨lw_p24, List.forall_mem_cons.mpr ⟨lw_p25, List.forall_mem_cons.mpr ⟨lw_p26, List.forall_mem_cons.mpr ⟨lw_p27, List.forall_mem_cons.mpr ⟨lw_p28, List.forall_mem_cons.mpr ⟨lw_p29, List.forall_mem_cons.mpr ⟨lw_p30, List.forall_mem_cons.mpr ⟨lw_p31, fun _ h => absurd h List.not_mem_nil⟩⟩⟩⟩⟩⟩⟩⟩⟩⟩⟩⟩⟩⟩⟩⟩
theorem lw_p32 : lw_okq (⟨"PlaneCellsModel", "readSum", "(III)I"⟩, 25) := ⟨⟨by decide +kernel, by decide +kernel⟩, List.mem_of_getElem? (i := 440) (by decide +kernel), List.mem_of_getElem? (i := 591) (by decide +kernel), List.mem_of_getElem? (i := 592) (by decide +kernel)⟩
theorem lw_p33 : lw_okq (⟨"PlaneCellsModel", "findCriticals", "()V"⟩, 25) := ⟨⟨by decide +kernel, by decide +kernel⟩, List.mem_of_getElem? (i := 440) (by decide +kernel), List.mem_of_getElem? (i := 595) (by decide +kernel), List.mem_of_getElem? (i := 596) (by decide +kernel)⟩
theorem lw_p34 : lw_okq (⟨"PlaneCellsModel", "addRoots", "(JJJ)V"⟩, 25) := ⟨⟨by decide +kernel, by decide +kernel⟩, List.mem_of_getElem? (i := 440) (by decide +kernel), List.mem_of_getElem? (i := 599) (by decide +kernel), List.mem_of_getElem? (i := 600) (by decide +kernel)⟩
theorem lw_p35 : lw_okq (⟨"PlaneCellsModel", "addRoot", "(JJJI)V"⟩, 25) := ⟨⟨by decide +kernel, by decide +kernel⟩, List.mem_of_getElem? (i := 440) (by decide +kernel), List.mem_of_getElem? (i := 604) (by decide +kernel), List.mem_of_getElem? (i := 605) (by decide +kernel)⟩
theorem lw_p36 : lw_okq (⟨"PlaneCellsModel", "against", "(IJJJI)I"⟩, 25) := ⟨⟨by decide +kernel, by decide +kernel⟩, List.mem_of_getElem? (i := 440) (by decide +kernel), List.mem_of_getElem? (i := 608) (by decide +kernel), List.mem_of_getElem? (i := 609) (by decide +kernel)⟩
theorem lw_p37 : lw_okq (⟨"PlaneCellsModel", "signAt", "(IJJJ)I"⟩, 25) := ⟨⟨by decide +kernel, by decide +kernel⟩, List.mem_of_getElem? (i := 440) (by decide +kernel), List.mem_of_getElem? (i := 612) (by decide +kernel), List.mem_of_getElem? (i := 613) (by decide +kernel)⟩
theorem lw_p38 : lw_okq (⟨"PlaneCellsModel", "mixed", "(III)J"⟩, 25) := ⟨⟨by decide +kernel, by decide +kernel⟩, List.mem_of_getElem? (i := 440) (by decide +kernel), List.mem_of_getElem? (i := 623) (by decide +kernel), List.mem_of_getElem? (i := 624) (by decide +kernel)⟩
theorem lw_p39 : lw_okq (⟨"PlaneCellsModel", "cross", "(IIII)J"⟩, 25) := ⟨⟨by decide +kernel, by decide +kernel⟩, List.mem_of_getElem? (i := 440) (by decide +kernel), List.mem_of_getElem? (i := 627) (by decide +kernel), List.mem_of_getElem? (i := 628) (by decide +kernel)⟩
theorem lw_p40 : lw_okq (⟨"PlaneCellsModel", "columnHolds", "(I)Z"⟩, 25) := ⟨⟨by decide +kernel, by decide +kernel⟩, List.mem_of_getElem? (i := 440) (by decide +kernel), List.mem_of_getElem? (i := 631) (by decide +kernel), List.mem_of_getElem? (i := 632) (by decide +kernel)⟩
theorem lw_p41 : lw_okq (⟨"PlaneCellsModel", "look", "(I)V"⟩, 25) := ⟨⟨by decide +kernel, by decide +kernel⟩, List.mem_of_getElem? (i := 440) (by decide +kernel), List.mem_of_getElem? (i := 635) (by decide +kernel), List.mem_of_getElem? (i := 636) (by decide +kernel)⟩
theorem lw_p42 : lw_okq (⟨"PlaneCellsModel", "signIn", "(IJJJ)I"⟩, 25) := ⟨⟨by decide +kernel, by decide +kernel⟩, List.mem_of_getElem? (i := 440) (by decide +kernel), List.mem_of_getElem? (i := 639) (by decide +kernel), List.mem_of_getElem? (i := 640) (by decide +kernel)⟩
theorem lw_p43 : lw_okq (⟨"PlaneCellsModel", "signBehind", "(IJJJ)I"⟩, 25) := ⟨⟨by decide +kernel, by decide +kernel⟩, List.mem_of_getElem? (i := 440) (by decide +kernel), List.mem_of_getElem? (i := 643) (by decide +kernel), List.mem_of_getElem? (i := 644) (by decide +kernel)⟩
theorem lw_p44 : lw_okq (⟨"PlaneCellsModel", "compareY", "(III)I"⟩, 25) := ⟨⟨by decide +kernel, by decide +kernel⟩, List.mem_of_getElem? (i := 440) (by decide +kernel), List.mem_of_getElem? (i := 647) (by decide +kernel), List.mem_of_getElem? (i := 648) (by decide +kernel)⟩
theorem lw_p45 : lw_okq (⟨"PlaneCellsModel", "isFirst", "(II)Z"⟩, 25) := ⟨⟨by decide +kernel, by decide +kernel⟩, List.mem_of_getElem? (i := 440) (by decide +kernel), List.mem_of_getElem? (i := 651) (by decide +kernel), List.mem_of_getElem? (i := 652) (by decide +kernel)⟩
theorem lw_p46 : lw_okq (⟨"PlaneCellsModel", "formulaIn", "(II)Z"⟩, 25) := ⟨⟨by decide +kernel, by decide +kernel⟩, List.mem_of_getElem? (i := 440) (by decide +kernel), List.mem_of_getElem? (i := 655) (by decide +kernel), List.mem_of_getElem? (i := 656) (by decide +kernel)⟩
theorem lw_p47 : lw_okq (⟨"PlaneCellsModel", "signOfCell", "(III)I"⟩, 25) := ⟨⟨by decide +kernel, by decide +kernel⟩, List.mem_of_getElem? (i := 440) (by decide +kernel), List.mem_of_getElem? (i := 659) (by decide +kernel), List.mem_of_getElem? (i := 660) (by decide +kernel)⟩
def lw_privs_3 : List (MethodName × Nat) := [(⟨"PlaneCellsModel", "readSum", "(III)I"⟩, 25), (⟨"PlaneCellsModel", "findCriticals", "()V"⟩, 25), (⟨"PlaneCellsModel", "addRoots", "(JJJ)V"⟩, 25), (⟨"PlaneCellsModel", "addRoot", "(JJJI)V"⟩, 25), (⟨"PlaneCellsModel", "against", "(IJJJI)I"⟩, 25), (⟨"PlaneCellsModel", "signAt", "(IJJJ)I"⟩, 25), (⟨"PlaneCellsModel", "mixed", "(III)J"⟩, 25), (⟨"PlaneCellsModel", "cross", "(IIII)J"⟩, 25), (⟨"PlaneCellsModel", "columnHolds", "(I)Z"⟩, 25), (⟨"PlaneCellsModel", "look", "(I)V"⟩, 25), (⟨"PlaneCellsModel", "signIn", "(IJJJ)I"⟩, 25), (⟨"PlaneCellsModel", "signBehind", "(IJJJ)I"⟩, 25), (⟨"PlaneCellsModel", "compareY", "(III)I"⟩, 25), (⟨"PlaneCellsModel", "isFirst", "(II)Z"⟩, 25), (⟨"PlaneCellsModel", "formulaIn", "(II)Z"⟩, 25), (⟨"PlaneCellsModel", "signOfCell", "(III)I"⟩, 25)]
theorem lw_r3 : ∀ q ∈ lw_privs_3, lw_okq q := List.forall_mem_cons.mpr ⟨lw_p32, List.forall_mem_cons.mpr ⟨lw_p33, List.forall_mem_cons.mpr ⟨lw_p34, List.forall_mem_cons.mpr ⟨lw_p35, List.forall_mem_cons.mpr ⟨lw_p36, List.forall_mem_cons.mpr ⟨lw_p37, List.forall_mem_cons.mpr ⟨lw_p38, List.forall_mem_cons.mpr ⟨lw_p39, List.forall_mem_cons.mpr ⟨lw_p40, List.forall_mem_cons.mpr ⟨lw_p41, List.forall_mem_cons.mpr ⟨lw_p42, List.forall_mem_cons.mpr ⟨lw_p43, List.forall_mem_cons.mpr ⟨lw_p44, List.forall_mem_cons.mpr ⟨lw_p45, List.forall_mem_cons.mpr ⟨lw_p46, List.forall_mem_cons.mpr ⟨lw_p47, fun _ h => absurd h List.not_mem_nil⟩⟩⟩⟩⟩⟩⟩⟩⟩⟩⟩⟩⟩⟩⟩⟩
theorem lw_p48 : lw_okq (⟨"PlaneCellsModel", "isColumn", "(I)Z"⟩, 25) := ⟨⟨by decide +kernel, by decide +kernel⟩, List.mem_of_getElem? (i := 440) (by decide +kernel), List.mem_of_getElem? (i := 683) (by decide +kernel), List.mem_of_getElem? (i := 684) (by decide +kernel)⟩
theorem lw_p49 : lw_okq (⟨"PlaneCellsModel", "isCell", "(II)Z"⟩, 25) := ⟨⟨by decide +kernel, by decide +kernel⟩, List.mem_of_getElem? (i := 440) (by decide +kernel), List.mem_of_getElem? (i := 691) (by decide +kernel), List.mem_of_getElem? (i := 692) (by decide +kernel)⟩
def lw_privs_4 : List (MethodName × Nat) := [(⟨"PlaneCellsModel", "isColumn", "(I)Z"⟩, 25), (⟨"PlaneCellsModel", "isCell", "(II)Z"⟩, 25)]
theorem lw_r4 : ∀ q ∈ lw_privs_4, lw_okq q := List.forall_mem_cons.mpr ⟨lw_p48, List.forall_mem_cons.mpr ⟨lw_p49, fun _ h => absurd h List.not_mem_nil⟩⟩
def lw_privs : List (MethodName × Nat) := lw_privs_1 ++ (lw_privs_2 ++ (lw_privs_3 ++ (lw_privs_4)))
def lw_tbl : List Cond := k2_sels lw_privs ++ tables_1
theorem lw_privs_ok : ∀ q ∈ lw_privs, lw_okq q := by
  show ∀ q ∈ lw_privs_1 ++ (lw_privs_2 ++ (lw_privs_3 ++ (lw_privs_4))), lw_okq q
  exact List.forall_mem_append.mpr ⟨lw_r1, List.forall_mem_append.mpr ⟨lw_r2, List.forall_mem_append.mpr ⟨lw_r3, lw_r4⟩⟩⟩
end
section
def jx_isN : Cond → Bool
  | .fieldLinkNest .. => true
  | .methodLinkNest .. => true
  | _ => false
def jx_W : List Cond := lw_tbl.filter goodWord
def jx_Z : List Cond := lw_tbl.filter jx_isN
theorem jx_Wg : jx_W.all goodWord = true := List.all_eq_true.mpr (fun w hw => (List.mem_filter.mp hw).2)
theorem jx_Zn : jx_Z.all jx_isN = true := List.all_eq_true.mpr (fun w hw => (List.mem_filter.mp hw).2)
theorem jx_mem {w : Cond} (i : Nat) (h : tables_1[i]? = some w) (hg : goodWord w = true) : w ∈ jx_W := List.mem_filter.mpr ⟨List.mem_append_right _ (List.mem_of_getElem? h), hg⟩
theorem jx_memZ {w : Cond} (i : Nat) (h : tables_1[i]? = some w) (hg : jx_isN w = true) : w ∈ jx_Z := List.mem_filter.mpr ⟨List.mem_append_right _ (List.mem_of_getElem? h), hg⟩
theorem jx_memS {w : Cond} (i : Nat) (h : (k2_sels lw_privs)[i]? = some w) (hg : goodWord w = true) : w ∈ jx_W := List.mem_filter.mpr ⟨List.mem_append_left _ (List.mem_of_getElem? h), hg⟩
def jn_F_P : u_T := fun k => match k with
  | 0 => ("PlaneCells", "sentence", "LPlaneCells$Sentence;", true)
  | 1 => ("PlaneCells", "reader", "LPlaneCells$Reader;", true)
  | 2 => ("PlaneCells", "plane", "LPlaneCells$Plane;", true)
  | 3 => ("PlaneCells", "illPlace", "I", false)
  | 4 => ("PlaneCells", "columnCount", "I", false)
  | _ => ("PlaneCells", "witnessColumn", "I", false)
def jn_t_P : Nat → FieldType := fun k => match k with
  | 0 => .object "PlaneCells$Sentence"
  | 1 => .object "PlaneCells$Reader"
  | 2 => .object "PlaneCells$Plane"
  | 3 => .int
  | 4 => .int
  | _ => .int
theorem jn_nm_P : ∀ a, a < 6 → ∀ b, b < 6 → a ≠ b → (jn_F_P a).2.1 ≠ (jn_F_P b).2.1 := by decide +kernel
theorem jn_tok_P : ∀ k, k < 6 → parseFieldDescriptor (jn_F_P k).2.2.1 = some (jn_t_P k) := by decide +kernel
theorem jn_in_P : ∀ w ∈ u_ws "PlaneCells" jn_F_P 6, w ∈ jx_W := by
  intro w hw
  obtain ⟨k, hk, rfl⟩ := List.mem_map.mp hw
  have hk := List.mem_range.mp hk
  refine List.mem_filter.mpr ⟨List.mem_append_right _ ?_, ?_⟩
  · exact (by decide +kernel : ∀ k, k < 6 → u_lay "PlaneCells" jn_F_P k ∈ tables_1) k hk
  · exact (by decide +kernel : ∀ k, k < 6 → goodWord (u_lay "PlaneCells" jn_F_P k) = true) k hk
def jn_F_S : u_T := fun k => match k with
  | 0 => ("PlaneCells$Sentence", "numbers", "[I", true)
  | 1 => ("PlaneCells$Sentence", "relations", "[C", true)
  | 2 => ("PlaneCells$Sentence", "steps", "[I", true)
  | 3 => ("PlaneCells$Sentence", "stepCount", "I", false)
  | 4 => ("PlaneCells$Sentence", "atoms", "I", false)
  | 5 => ("PlaneCells$Sentence", "allX", "Z", false)
  | _ => ("PlaneCells$Sentence", "allY", "Z", false)
def jn_t_S : Nat → FieldType := fun k => match k with
  | 0 => .array .int
  | 1 => .array .char
  | 2 => .array .int
  | 3 => .int
  | 4 => .int
  | 5 => .boolean
  | _ => .boolean
theorem jn_nm_S : ∀ a, a < 7 → ∀ b, b < 7 → a ≠ b → (jn_F_S a).2.1 ≠ (jn_F_S b).2.1 := by decide +kernel
theorem jn_tok_S : ∀ k, k < 7 → parseFieldDescriptor (jn_F_S k).2.2.1 = some (jn_t_S k) := by decide +kernel
theorem jn_in_S : ∀ w ∈ u_ws "PlaneCells$Sentence" jn_F_S 7, w ∈ jx_W := by
  intro w hw
  obtain ⟨k, hk, rfl⟩ := List.mem_map.mp hw
  have hk := List.mem_range.mp hk
  refine List.mem_filter.mpr ⟨List.mem_append_right _ ?_, ?_⟩
  · exact (by decide +kernel : ∀ k, k < 7 → u_lay "PlaneCells$Sentence" jn_F_S k ∈ tables_1) k hk
  · exact (by decide +kernel : ∀ k, k < 7 → goodWord (u_lay "PlaneCells$Sentence" jn_F_S k) = true) k hk
def jn_F_R : u_T := fun k => match k with
  | 0 => ("PlaneCells$Reader", "sentence", "LPlaneCells$Sentence;", true)
  | 1 => ("PlaneCells$Reader", "text", "[C", true)
  | 2 => ("PlaneCells$Reader", "waiting", "[I", true)
  | 3 => ("PlaneCells$Reader", "sum", "[I", true)
  | 4 => ("PlaneCells$Reader", "written", "I", false)
  | 5 => ("PlaneCells$Reader", "length", "I", false)
  | 6 => ("PlaneCells$Reader", "at", "I", false)
  | 7 => ("PlaneCells$Reader", "waitingCount", "I", false)
  | _ => ("PlaneCells$Reader", "open", "I", false)
def jn_t_R : Nat → FieldType := fun k => match k with
  | 0 => .object "PlaneCells$Sentence"
  | 1 => .array .char
  | 2 => .array .int
  | 3 => .array .int
  | 4 => .int
  | 5 => .int
  | 6 => .int
  | 7 => .int
  | _ => .int
theorem jn_nm_R : ∀ a, a < 9 → ∀ b, b < 9 → a ≠ b → (jn_F_R a).2.1 ≠ (jn_F_R b).2.1 := by decide +kernel
theorem jn_tok_R : ∀ k, k < 9 → parseFieldDescriptor (jn_F_R k).2.2.1 = some (jn_t_R k) := by decide +kernel
theorem jn_in_R : ∀ w ∈ u_ws "PlaneCells$Reader" jn_F_R 9, w ∈ jx_W := by
  intro w hw
  obtain ⟨k, hk, rfl⟩ := List.mem_map.mp hw
  have hk := List.mem_range.mp hk
  refine List.mem_filter.mpr ⟨List.mem_append_right _ ?_, ?_⟩
  · exact (by decide +kernel : ∀ k, k < 9 → u_lay "PlaneCells$Reader" jn_F_R k ∈ tables_1) k hk
  · exact (by decide +kernel : ∀ k, k < 9 → goodWord (u_lay "PlaneCells$Reader" jn_F_R k) = true) k hk
def jn_F_Q : u_T := fun k => match k with
  | 0 => ("PlaneCells$Plane", "sentence", "LPlaneCells$Sentence;", true)
  | 1 => ("PlaneCells$Plane", "critical", "LPlaneCells$CriticalNumbers;", true)
  | 2 => ("PlaneCells$Plane", "form", "LPlaneCells$Form;", true)
  | 3 => ("PlaneCells$Plane", "signOfA", "[I", true)
  | 4 => ("PlaneCells$Plane", "signOfB", "[I", true)
  | 5 => ("PlaneCells$Plane", "zeroCell", "[I", true)
  | _ => ("PlaneCells$Plane", "cellCount", "I", false)
def jn_t_Q : Nat → FieldType := fun k => match k with
  | 0 => .object "PlaneCells$Sentence"
  | 1 => .object "PlaneCells$CriticalNumbers"
  | 2 => .object "PlaneCells$Form"
  | 3 => .array .int
  | 4 => .array .int
  | 5 => .array .int
  | _ => .int
theorem jn_nm_Q : ∀ a, a < 7 → ∀ b, b < 7 → a ≠ b → (jn_F_Q a).2.1 ≠ (jn_F_Q b).2.1 := by decide +kernel
theorem jn_tok_Q : ∀ k, k < 7 → parseFieldDescriptor (jn_F_Q k).2.2.1 = some (jn_t_Q k) := by decide +kernel
theorem jn_in_Q : ∀ w ∈ u_ws "PlaneCells$Plane" jn_F_Q 7, w ∈ jx_W := by
  intro w hw
  obtain ⟨k, hk, rfl⟩ := List.mem_map.mp hw
  have hk := List.mem_range.mp hk
  refine List.mem_filter.mpr ⟨List.mem_append_right _ ?_, ?_⟩
  · exact (by decide +kernel : ∀ k, k < 7 → u_lay "PlaneCells$Plane" jn_F_Q k ∈ tables_1) k hk
  · exact (by decide +kernel : ∀ k, k < 7 → goodWord (u_lay "PlaneCells$Plane" jn_F_Q k) = true) k hk
def jn_F_C : u_T := fun k => match k with
  | 0 => ("PlaneCells$CriticalNumbers", "top", "[I", true)
  | 1 => ("PlaneCells$CriticalNumbers", "radicand", "[I", true)
  | 2 => ("PlaneCells$CriticalNumbers", "bottom", "[I", true)
  | _ => ("PlaneCells$CriticalNumbers", "count", "I", false)
def jn_t_C : Nat → FieldType := fun k => match k with
  | 0 => .array .int
  | 1 => .array .int
  | 2 => .array .int
  | _ => .int
theorem jn_nm_C : ∀ a, a < 4 → ∀ b, b < 4 → a ≠ b → (jn_F_C a).2.1 ≠ (jn_F_C b).2.1 := by decide +kernel
theorem jn_tok_C : ∀ k, k < 4 → parseFieldDescriptor (jn_F_C k).2.2.1 = some (jn_t_C k) := by decide +kernel
theorem jn_in_C : ∀ w ∈ u_ws "PlaneCells$CriticalNumbers" jn_F_C 4, w ∈ jx_W := by
  intro w hw
  obtain ⟨k, hk, rfl⟩ := List.mem_map.mp hw
  have hk := List.mem_range.mp hk
  refine List.mem_filter.mpr ⟨List.mem_append_right _ ?_, ?_⟩
  · exact (by decide +kernel : ∀ k, k < 4 → u_lay "PlaneCells$CriticalNumbers" jn_F_C k ∈ tables_1) k hk
  · exact (by decide +kernel : ∀ k, k < 4 → goodWord (u_lay "PlaneCells$CriticalNumbers" jn_F_C k) = true) k hk
def jn_F_F : u_T := fun k => match k with
  | 0 => ("PlaneCells$Form", "constant", "I", false)
  | 1 => ("PlaneCells$Form", "linear", "I", false)
  | _ => ("PlaneCells$Form", "square", "I", false)
def jn_t_F : Nat → FieldType := fun k => match k with
  | 0 => .int
  | 1 => .int
  | _ => .int
theorem jn_nm_F : ∀ a, a < 3 → ∀ b, b < 3 → a ≠ b → (jn_F_F a).2.1 ≠ (jn_F_F b).2.1 := by decide +kernel
theorem jn_tok_F : ∀ k, k < 3 → parseFieldDescriptor (jn_F_F k).2.2.1 = some (jn_t_F k) := by decide +kernel
theorem jn_in_F : ∀ w ∈ u_ws "PlaneCells$Form" jn_F_F 3, w ∈ jx_W := by
  intro w hw
  obtain ⟨k, hk, rfl⟩ := List.mem_map.mp hw
  have hk := List.mem_range.mp hk
  refine List.mem_filter.mpr ⟨List.mem_append_right _ ?_, ?_⟩
  · exact (by decide +kernel : ∀ k, k < 3 → u_lay "PlaneCells$Form" jn_F_F k ∈ tables_1) k hk
  · exact (by decide +kernel : ∀ k, k < 3 → goodWord (u_lay "PlaneCells$Form" jn_F_F k) = true) k hk
def jn_F_M : u_T := fun k => match k with
  | 0 => ("PlaneCellsModel", "written", "I", false)
  | 1 => ("PlaneCellsModel", "text", "[I", false)
  | 2 => ("PlaneCellsModel", "size", "I", false)
  | 3 => ("PlaneCellsModel", "line", "[I", false)
  | 4 => ("PlaneCellsModel", "fault", "I", false)
  | 5 => ("PlaneCellsModel", "allX", "Z", false)
  | 6 => ("PlaneCellsModel", "allY", "Z", false)
  | 7 => ("PlaneCellsModel", "many", "I", false)
  | 8 => ("PlaneCellsModel", "number", "[I", false)
  | 9 => ("PlaneCellsModel", "parts", "I", false)
  | 10 => ("PlaneCellsModel", "part", "[I", false)
  | 11 => ("PlaneCellsModel", "waits", "I", false)
  | 12 => ("PlaneCellsModel", "waiting", "[I", false)
  | 13 => ("PlaneCellsModel", "truth", "[Z", false)
  | 14 => ("PlaneCellsModel", "criticals", "I", false)
  | 15 => ("PlaneCellsModel", "rootA", "[J", false)
  | 16 => ("PlaneCellsModel", "rootB", "[J", false)
  | 17 => ("PlaneCellsModel", "rootC", "[J", false)
  | 18 => ("PlaneCellsModel", "rootWhich", "[I", false)
  | 19 => ("PlaneCellsModel", "column", "I", false)
  | 20 => ("PlaneCellsModel", "heights", "I", false)
  | 21 => ("PlaneCellsModel", "signA", "[I", false)
  | 22 => ("PlaneCellsModel", "rank", "[I", false)
  | 23 => ("PlaneCellsModel", "columnCount", "I", false)
  | _ => ("PlaneCellsModel", "relation", "[I", false)
def jn_t_M : Nat → FieldType := fun k => match k with
  | 0 => .int
  | 1 => .array .int
  | 2 => .int
  | 3 => .array .int
  | 4 => .int
  | 5 => .boolean
  | 6 => .boolean
  | 7 => .int
  | 8 => .array .int
  | 9 => .int
  | 10 => .array .int
  | 11 => .int
  | 12 => .array .int
  | 13 => .array .boolean
  | 14 => .int
  | 15 => .array .long
  | 16 => .array .long
  | 17 => .array .long
  | 18 => .array .int
  | 19 => .int
  | 20 => .int
  | 21 => .array .int
  | 22 => .array .int
  | 23 => .int
  | _ => .array .int
theorem jn_nm_M : ∀ a, a < 25 → ∀ b, b < 25 → a ≠ b → (jn_F_M a).2.1 ≠ (jn_F_M b).2.1 := by decide +kernel
theorem jn_tok_M : ∀ k, k < 25 → parseFieldDescriptor (jn_F_M k).2.2.1 = some (jn_t_M k) := by decide +kernel
theorem jn_in_M : ∀ w ∈ u_ws "PlaneCellsModel" jn_F_M 25, w ∈ jx_W := by
  intro w hw
  obtain ⟨k, hk, rfl⟩ := List.mem_map.mp hw
  have hk := List.mem_range.mp hk
  refine List.mem_filter.mpr ⟨List.mem_append_right _ ?_, ?_⟩
  · exact (by decide +kernel : ∀ k, k < 25 → u_lay "PlaneCellsModel" jn_F_M k ∈ tables_1) k hk
  · exact (by decide +kernel : ∀ k, k < 25 → goodWord (u_lay "PlaneCellsModel" jn_F_M k) = true) k hk
abbrev jx_cl : List vw_C := [("PlaneCells", jn_F_P, 6), ("PlaneCells$Sentence", jn_F_S, 7), ("PlaneCells$Reader", jn_F_R, 9), ("PlaneCells$Plane", jn_F_Q, 7), ("PlaneCells$CriticalNumbers", jn_F_C, 4), ("PlaneCells$Form", jn_F_F, 3), ("PlaneCellsModel", jn_F_M, 25)]
abbrev b_C_clear : ByteArray := prog_2_method_2_code
def y_C_clear : MethodName := ⟨"PlaneCells$CriticalNumbers", "clear", "()V"⟩
abbrev b_C_addZerosOf : ByteArray := prog_2_method_3_code
def y_C_addZerosOf : MethodName := ⟨"PlaneCells$CriticalNumbers", "addZerosOf", "(LPlaneCells$Form;)V"⟩
abbrev b_C_add : ByteArray := prog_2_method_4_code
def y_C_add : MethodName := ⟨"PlaneCells$CriticalNumbers", "add", "(III)V"⟩
abbrev b_C_insert : ByteArray := prog_2_method_5_code
def y_C_insert : MethodName := ⟨"PlaneCells$CriticalNumbers", "insert", "(IIII)V"⟩
abbrev b_C_signOfDifference : ByteArray := prog_2_method_6_code
def y_C_signOfDifference : MethodName := ⟨"PlaneCells$CriticalNumbers", "signOfDifference", "(IIII)I"⟩
abbrev b_C_signWithRoots : ByteArray := prog_2_method_7_code
def y_C_signWithRoots : MethodName := ⟨"PlaneCells$CriticalNumbers", "signWithRoots", "(JJJ)I"⟩
abbrev b_C_signInColumn : ByteArray := prog_2_method_8_code
def y_C_signInColumn : MethodName := ⟨"PlaneCells$CriticalNumbers", "signInColumn", "(ILPlaneCells$Form;)I"⟩
abbrev b_C_signBelowAll : ByteArray := prog_2_method_9_code
def y_C_signBelowAll : MethodName := ⟨"PlaneCells$CriticalNumbers", "signBelowAll", "(LPlaneCells$Form;)I"⟩
abbrev b_C_signAt : ByteArray := prog_2_method_10_code
def y_C_signAt : MethodName := ⟨"PlaneCells$CriticalNumbers", "signAt", "(IJJJ)I"⟩
abbrev b_F_setA : ByteArray := prog_3_method_2_code
def y_F_setA : MethodName := ⟨"PlaneCells$Form", "setA", "(LPlaneCells$Sentence;I)V"⟩
abbrev b_F_setB : ByteArray := prog_3_method_3_code
def y_F_setB : MethodName := ⟨"PlaneCells$Form", "setB", "(LPlaneCells$Sentence;I)V"⟩
abbrev b_F_setPair : ByteArray := prog_3_method_4_code
def y_F_setPair : MethodName := ⟨"PlaneCells$Form", "setPair", "(LPlaneCells$Sentence;II)V"⟩
abbrev b_Q_cut : ByteArray := prog_4_method_2_code
def y_Q_cut : MethodName := ⟨"PlaneCells$Plane", "cut", "()V"⟩
abbrev b_Q_countColumns : ByteArray := prog_4_method_3_code
def y_Q_countColumns : MethodName := ⟨"PlaneCells$Plane", "countColumns", "()I"⟩
abbrev b_Q_enter : ByteArray := prog_4_method_4_code
def y_Q_enter : MethodName := ⟨"PlaneCells$Plane", "enter", "(I)V"⟩
abbrev b_Q_addZero : ByteArray := prog_4_method_5_code
def y_Q_addZero : MethodName := ⟨"PlaneCells$Plane", "addZero", "(II)V"⟩
abbrev b_Q_signIn : ByteArray := prog_4_method_6_code
def y_Q_signIn : MethodName := ⟨"PlaneCells$Plane", "signIn", "(II)I"⟩
abbrev b_Q_trueIn : ByteArray := prog_4_method_7_code
def y_Q_trueIn : MethodName := ⟨"PlaneCells$Plane", "trueIn", "(I)Z"⟩
abbrev b_Q_columnHolds : ByteArray := prog_4_method_8_code
def y_Q_columnHolds : MethodName := ⟨"PlaneCells$Plane", "columnHolds", "()Z"⟩
abbrev b_R_clear : ByteArray := prog_5_method_2_code
def y_R_clear : MethodName := ⟨"PlaneCells$Reader", "clear", "()V"⟩
abbrev b_R_append : ByteArray := prog_5_method_3_code
def y_R_append : MethodName := ⟨"PlaneCells$Reader", "append", "(C)Z"⟩
abbrev b_R_countOpenings : ByteArray := prog_5_method_4_code
def y_R_countOpenings : MethodName := ⟨"PlaneCells$Reader", "countOpenings", "()I"⟩
abbrev b_R_readSentence : ByteArray := prog_5_method_5_code
def y_R_readSentence : MethodName := ⟨"PlaneCells$Reader", "readSentence", "()Z"⟩
abbrev b_R_takeHead : ByteArray := prog_5_method_6_code
def y_R_takeHead : MethodName := ⟨"PlaneCells$Reader", "takeHead", "()Z"⟩
abbrev b_R_takeQuantifier : ByteArray := prog_5_method_7_code
def y_R_takeQuantifier : MethodName := ⟨"PlaneCells$Reader", "takeQuantifier", "()Z"⟩
abbrev b_R_takeOpenings : ByteArray := prog_5_method_8_code
def y_R_takeOpenings : MethodName := ⟨"PlaneCells$Reader", "takeOpenings", "()V"⟩
abbrev b_R_takeClosings : ByteArray := prog_5_method_9_code
def y_R_takeClosings : MethodName := ⟨"PlaneCells$Reader", "takeClosings", "()V"⟩
abbrev b_R_takeJoint : ByteArray := prog_5_method_10_code
def y_R_takeJoint : MethodName := ⟨"PlaneCells$Reader", "takeJoint", "()Z"⟩
abbrev b_R_hold : ByteArray := prog_5_method_11_code
def y_R_hold : MethodName := ⟨"PlaneCells$Reader", "hold", "(I)V"⟩
abbrev b_R_release : ByteArray := prog_5_method_12_code
def y_R_release : MethodName := ⟨"PlaneCells$Reader", "release", "(I)V"⟩
abbrev b_R_takeAtom : ByteArray := prog_5_method_13_code
def y_R_takeAtom : MethodName := ⟨"PlaneCells$Reader", "takeAtom", "()Z"⟩
abbrev b_R_takeSum : ByteArray := prog_5_method_14_code
def y_R_takeSum : MethodName := ⟨"PlaneCells$Reader", "takeSum", "(I)Z"⟩
abbrev b_R_takeTerm : ByteArray := prog_5_method_15_code
def y_R_takeTerm : MethodName := ⟨"PlaneCells$Reader", "takeTerm", "(I)Z"⟩
abbrev b_R_numberOfLetter : ByteArray := prog_5_method_16_code
def y_R_numberOfLetter : MethodName := ⟨"PlaneCells$Reader", "numberOfLetter", "(C)I"⟩
abbrev b_R_peek : ByteArray := prog_5_method_17_code
def y_R_peek : MethodName := ⟨"PlaneCells$Reader", "peek", "()C"⟩
abbrev b_R_take : ByteArray := prog_5_method_18_code
def y_R_take : MethodName := ⟨"PlaneCells$Reader", "take", "(C)Z"⟩
abbrev b_S_clear : ByteArray := prog_6_method_2_code
def y_S_clear : MethodName := ⟨"PlaneCells$Sentence", "clear", "()V"⟩
abbrev b_S_addAtom : ByteArray := prog_6_method_3_code
def y_S_addAtom : MethodName := ⟨"PlaneCells$Sentence", "addAtom", "([IC)V"⟩
abbrev b_S_addStep : ByteArray := prog_6_method_4_code
def y_S_addStep : MethodName := ⟨"PlaneCells$Sentence", "addStep", "(I)V"⟩
abbrev b_S_fits : ByteArray := prog_6_method_5_code
def y_S_fits : MethodName := ⟨"PlaneCells$Sentence", "fits", "()Z"⟩
abbrev b_S_number : ByteArray := prog_6_method_6_code
def y_S_number : MethodName := ⟨"PlaneCells$Sentence", "number", "(II)I"⟩
abbrev b_S_atomIsTrue : ByteArray := prog_6_method_7_code
def y_S_atomIsTrue : MethodName := ⟨"PlaneCells$Sentence", "atomIsTrue", "(II)Z"⟩
abbrev b_P_write : ByteArray := prog_1_method_2_code
def y_P_write : MethodName := ⟨"PlaneCells", "write", "(C)Z"⟩
abbrev b_P_decide : ByteArray := prog_1_method_3_code
def y_P_decide : MethodName := ⟨"PlaneCells", "decide", "()I"⟩
abbrev b_P_readText : ByteArray := prog_1_method_4_code
def y_P_readText : MethodName := ⟨"PlaneCells", "readText", "()I"⟩
abbrev b_P_place : ByteArray := prog_1_method_5_code
def y_P_place : MethodName := ⟨"PlaneCells", "place", "()I"⟩
abbrev b_P_polynomials : ByteArray := prog_1_method_6_code
def y_P_polynomials : MethodName := ⟨"PlaneCells", "polynomials", "()I"⟩
abbrev b_P_coefficient : ByteArray := prog_1_method_7_code
def y_P_coefficient : MethodName := ⟨"PlaneCells", "coefficient", "(II)I"⟩
abbrev b_P_columns : ByteArray := prog_1_method_8_code
def y_P_columns : MethodName := ⟨"PlaneCells", "columns", "()I"⟩
abbrev b_P_cells : ByteArray := prog_1_method_9_code
def y_P_cells : MethodName := ⟨"PlaneCells", "cells", "(I)I"⟩
abbrev b_P_sign : ByteArray := prog_1_method_10_code
def y_P_sign : MethodName := ⟨"PlaneCells", "sign", "(III)I"⟩
abbrev b_P_truth : ByteArray := prog_1_method_11_code
def y_P_truth : MethodName := ⟨"PlaneCells", "truth", "(II)I"⟩
abbrev b_P_holds : ByteArray := prog_1_method_12_code
def y_P_holds : MethodName := ⟨"PlaneCells", "holds", "(I)I"⟩
abbrev b_P_witness : ByteArray := prog_1_method_13_code
def y_P_witness : MethodName := ⟨"PlaneCells", "witness", "()I"⟩
abbrev b_P_compare : ByteArray := prog_1_method_14_code
def y_P_compare : MethodName := ⟨"PlaneCells", "compare", "(III)I"⟩
abbrev b_P_hasPolynomial : ByteArray := prog_1_method_15_code
def y_P_hasPolynomial : MethodName := ⟨"PlaneCells", "hasPolynomial", "(I)Z"⟩
abbrev b_P_hasColumn : ByteArray := prog_1_method_16_code
def y_P_hasColumn : MethodName := ⟨"PlaneCells", "hasColumn", "(I)Z"⟩
abbrev b_P_hasCell : ByteArray := prog_1_method_17_code
def y_P_hasCell : MethodName := ⟨"PlaneCells", "hasCell", "(I)Z"⟩
abbrev b_P_enterColumn : ByteArray := prog_1_method_18_code
def y_P_enterColumn : MethodName := ⟨"PlaneCells", "enterColumn", "(I)Z"⟩
end
section
theorem wm_1 : (Cond.initialized "PlaneCells") ∈ jx_W := jx_mem 1 (by decide +kernel) rfl
theorem wm_2 : (Cond.initialized "PlaneCells$Sentence") ∈ jx_W := jx_mem 2 (by decide +kernel) rfl
theorem wm_3 : (Cond.initialized "PlaneCells$Reader") ∈ jx_W := jx_mem 3 (by decide +kernel) rfl
theorem wm_4 : (Cond.initialized "PlaneCells$Plane") ∈ jx_W := jx_mem 4 (by decide +kernel) rfl
theorem wm_5 : (Cond.initialized "PlaneCells$CriticalNumbers") ∈ jx_W := jx_mem 5 (by decide +kernel) rfl
theorem wm_6 : (Cond.initialized "PlaneCells$Form") ∈ jx_W := jx_mem 6 (by decide +kernel) rfl
theorem wm_26 : (Cond.fieldLink "PlaneCells$Sentence" 9 "PlaneCells$Sentence" "numbers" "[I") ∈ jx_W := jx_mem 26 (by decide +kernel) rfl
theorem wm_27 : (Cond.fieldLink "PlaneCells$Sentence" 15 "PlaneCells$Sentence" "relations" "[C") ∈ jx_W := jx_mem 27 (by decide +kernel) rfl
theorem wm_28 : (Cond.fieldLink "PlaneCells$Sentence" 19 "PlaneCells$Sentence" "steps" "[I") ∈ jx_W := jx_mem 28 (by decide +kernel) rfl
theorem wm_29 : (Cond.fieldLinkNest "PlaneCells$Plane" 92 "PlaneCells$Sentence" "steps" "[I" "PlaneCells") ∈ jx_Z := jx_memZ 29 (by decide +kernel) rfl
theorem wm_30 : (Cond.fieldLink "PlaneCells$Sentence" 22 "PlaneCells$Sentence" "stepCount" "I") ∈ jx_W := jx_mem 30 (by decide +kernel) rfl
theorem wm_31 : (Cond.fieldLinkNest "PlaneCells$Plane" 89 "PlaneCells$Sentence" "stepCount" "I" "PlaneCells") ∈ jx_Z := jx_memZ 31 (by decide +kernel) rfl
theorem wm_32 : (Cond.fieldLink "PlaneCells$Sentence" 26 "PlaneCells$Sentence" "atoms" "I") ∈ jx_W := jx_mem 32 (by decide +kernel) rfl
theorem wm_33 : (Cond.fieldLinkNest "PlaneCells$Plane" 42 "PlaneCells$Sentence" "atoms" "I" "PlaneCells") ∈ jx_Z := jx_memZ 33 (by decide +kernel) rfl
theorem wm_34 : (Cond.fieldLinkNest "PlaneCells" 84 "PlaneCells$Sentence" "atoms" "I" "PlaneCells") ∈ jx_Z := jx_memZ 34 (by decide +kernel) rfl
theorem wm_35 : (Cond.fieldLinkNest "PlaneCells" 68 "PlaneCells$Sentence" "allX" "Z" "PlaneCells") ∈ jx_Z := jx_memZ 35 (by decide +kernel) rfl
theorem wm_36 : (Cond.fieldLinkNest "PlaneCells$Reader" 71 "PlaneCells$Sentence" "allX" "Z" "PlaneCells") ∈ jx_Z := jx_memZ 36 (by decide +kernel) rfl
theorem wm_37 : (Cond.fieldLinkNest "PlaneCells$Reader" 82 "PlaneCells$Sentence" "allY" "Z" "PlaneCells") ∈ jx_Z := jx_memZ 37 (by decide +kernel) rfl
theorem wm_38 : (Cond.fieldLinkNest "PlaneCells$Plane" 106 "PlaneCells$Sentence" "allY" "Z" "PlaneCells") ∈ jx_Z := jx_memZ 38 (by decide +kernel) rfl
theorem wm_62 : (Cond.fieldLink "PlaneCells$Reader" 22 "PlaneCells$Reader" "sentence" "LPlaneCells$Sentence;") ∈ jx_W := jx_mem 62 (by decide +kernel) rfl
theorem wm_63 : (Cond.fieldLink "PlaneCells$Reader" 9 "PlaneCells$Reader" "text" "[C") ∈ jx_W := jx_mem 63 (by decide +kernel) rfl
theorem wm_64 : (Cond.fieldLink "PlaneCells$Reader" 15 "PlaneCells$Reader" "waiting" "[I") ∈ jx_W := jx_mem 64 (by decide +kernel) rfl
theorem wm_65 : (Cond.fieldLink "PlaneCells$Reader" 19 "PlaneCells$Reader" "sum" "[I") ∈ jx_W := jx_mem 65 (by decide +kernel) rfl
theorem wm_66 : (Cond.fieldLink "PlaneCells$Reader" 26 "PlaneCells$Reader" "written" "I") ∈ jx_W := jx_mem 66 (by decide +kernel) rfl
theorem wm_67 : (Cond.fieldLink "PlaneCells$Reader" 30 "PlaneCells$Reader" "length" "I") ∈ jx_W := jx_mem 67 (by decide +kernel) rfl
theorem wm_68 : (Cond.fieldLinkNest "PlaneCells" 78 "PlaneCells$Reader" "at" "I" "PlaneCells") ∈ jx_Z := jx_memZ 68 (by decide +kernel) rfl
theorem wm_69 : (Cond.fieldLink "PlaneCells$Reader" 33 "PlaneCells$Reader" "at" "I") ∈ jx_W := jx_mem 69 (by decide +kernel) rfl
theorem wm_70 : (Cond.fieldLink "PlaneCells$Reader" 36 "PlaneCells$Reader" "waitingCount" "I") ∈ jx_W := jx_mem 70 (by decide +kernel) rfl
theorem wm_71 : (Cond.fieldLink "PlaneCells$Reader" 39 "PlaneCells$Reader" "open" "I") ∈ jx_W := jx_mem 71 (by decide +kernel) rfl
theorem wm_103 : (Cond.fieldLink "PlaneCells$CriticalNumbers" 9 "PlaneCells$CriticalNumbers" "top" "[I") ∈ jx_W := jx_mem 103 (by decide +kernel) rfl
theorem wm_104 : (Cond.fieldLink "PlaneCells$CriticalNumbers" 15 "PlaneCells$CriticalNumbers" "radicand" "[I") ∈ jx_W := jx_mem 104 (by decide +kernel) rfl
theorem wm_105 : (Cond.fieldLink "PlaneCells$CriticalNumbers" 18 "PlaneCells$CriticalNumbers" "bottom" "[I") ∈ jx_W := jx_mem 105 (by decide +kernel) rfl
theorem wm_106 : (Cond.fieldLink "PlaneCells$CriticalNumbers" 21 "PlaneCells$CriticalNumbers" "count" "I") ∈ jx_W := jx_mem 106 (by decide +kernel) rfl
theorem wm_107 : (Cond.fieldLinkNest "PlaneCells$Plane" 63 "PlaneCells$CriticalNumbers" "count" "I" "PlaneCells") ∈ jx_Z := jx_memZ 107 (by decide +kernel) rfl
theorem wm_123 : (Cond.fieldLink "PlaneCells$Form" 13 "PlaneCells$Form" "constant" "I") ∈ jx_W := jx_mem 123 (by decide +kernel) rfl
theorem wm_124 : (Cond.fieldLinkNest "PlaneCells$CriticalNumbers" 33 "PlaneCells$Form" "constant" "I" "PlaneCells") ∈ jx_Z := jx_memZ 124 (by decide +kernel) rfl
theorem wm_125 : (Cond.fieldLink "PlaneCells$Form" 19 "PlaneCells$Form" "linear" "I") ∈ jx_W := jx_mem 125 (by decide +kernel) rfl
theorem wm_126 : (Cond.fieldLinkNest "PlaneCells$CriticalNumbers" 30 "PlaneCells$Form" "linear" "I" "PlaneCells") ∈ jx_Z := jx_memZ 126 (by decide +kernel) rfl
theorem wm_127 : (Cond.fieldLink "PlaneCells$Form" 22 "PlaneCells$Form" "square" "I") ∈ jx_W := jx_mem 127 (by decide +kernel) rfl
theorem wm_128 : (Cond.fieldLinkNest "PlaneCells$CriticalNumbers" 25 "PlaneCells$Form" "square" "I" "PlaneCells") ∈ jx_Z := jx_memZ 128 (by decide +kernel) rfl
theorem wm_136 : (Cond.fieldLink "PlaneCells$Plane" 35 "PlaneCells$Plane" "sentence" "LPlaneCells$Sentence;") ∈ jx_W := jx_mem 136 (by decide +kernel) rfl
theorem wm_137 : (Cond.fieldLink "PlaneCells$Plane" 12 "PlaneCells$Plane" "critical" "LPlaneCells$CriticalNumbers;") ∈ jx_W := jx_mem 137 (by decide +kernel) rfl
theorem wm_138 : (Cond.fieldLinkNest "PlaneCells" 113 "PlaneCells$Plane" "critical" "LPlaneCells$CriticalNumbers;" "PlaneCells") ∈ jx_Z := jx_memZ 138 (by decide +kernel) rfl
theorem wm_139 : (Cond.fieldLink "PlaneCells$Plane" 21 "PlaneCells$Plane" "form" "LPlaneCells$Form;") ∈ jx_W := jx_mem 139 (by decide +kernel) rfl
theorem wm_140 : (Cond.fieldLink "PlaneCells$Plane" 25 "PlaneCells$Plane" "signOfA" "[I") ∈ jx_W := jx_mem 140 (by decide +kernel) rfl
theorem wm_141 : (Cond.fieldLink "PlaneCells$Plane" 29 "PlaneCells$Plane" "signOfB" "[I") ∈ jx_W := jx_mem 141 (by decide +kernel) rfl
theorem wm_142 : (Cond.fieldLink "PlaneCells$Plane" 32 "PlaneCells$Plane" "zeroCell" "[I") ∈ jx_W := jx_mem 142 (by decide +kernel) rfl
theorem wm_143 : (Cond.fieldLink "PlaneCells$Plane" 66 "PlaneCells$Plane" "cellCount" "I") ∈ jx_W := jx_mem 143 (by decide +kernel) rfl
theorem wm_144 : (Cond.fieldLinkNest "PlaneCells" 98 "PlaneCells$Plane" "cellCount" "I" "PlaneCells") ∈ jx_Z := jx_memZ 144 (by decide +kernel) rfl
theorem wm_160 : (Cond.fieldLink "PlaneCells" 12 "PlaneCells" "sentence" "LPlaneCells$Sentence;") ∈ jx_W := jx_mem 160 (by decide +kernel) rfl
theorem wm_161 : (Cond.fieldLink "PlaneCells" 21 "PlaneCells" "reader" "LPlaneCells$Reader;") ∈ jx_W := jx_mem 161 (by decide +kernel) rfl
theorem wm_162 : (Cond.fieldLink "PlaneCells" 28 "PlaneCells" "plane" "LPlaneCells$Plane;") ∈ jx_W := jx_mem 162 (by decide +kernel) rfl
theorem wm_163 : (Cond.fieldLink "PlaneCells" 32 "PlaneCells" "illPlace" "I") ∈ jx_W := jx_mem 163 (by decide +kernel) rfl
theorem wm_164 : (Cond.fieldLink "PlaneCells" 36 "PlaneCells" "columnCount" "I") ∈ jx_W := jx_mem 164 (by decide +kernel) rfl
theorem wm_165 : (Cond.fieldLink "PlaneCells" 39 "PlaneCells" "witnessColumn" "I") ∈ jx_W := jx_mem 165 (by decide +kernel) rfl
theorem wm_183 : (Cond.methodLink "PlaneCells" 42 ⟨"PlaneCells$Reader", "append", "(C)Z"⟩) ∈ jx_W := jx_mem 183 (by decide +kernel) rfl
theorem wm_184 : (Cond.instanceMethod ⟨"PlaneCells$Reader", "append", "(C)Z"⟩) ∈ jx_W := jx_mem 184 (by decide +kernel) rfl
theorem wm_185 : (Cond.selects "PlaneCells$Reader" ⟨"PlaneCells$Reader", "append", "(C)Z"⟩ ⟨"PlaneCells$Reader", "append", "(C)Z"⟩) ∈ jx_W := jx_mem 185 (by decide +kernel) rfl
theorem wm_186 : (Cond.code y_R_append b_R_append 2 (some .boolean)) ∈ jx_W := jx_mem 186 rfl rfl
theorem wm_191 : (Cond.methodLink "PlaneCells" 46 ⟨"PlaneCells", "readText", "()I"⟩) ∈ jx_W := jx_mem 191 (by decide +kernel) rfl
theorem wm_193 : (Cond.instanceMethod ⟨"PlaneCells", "readText", "()I"⟩) ∈ jx_W := jx_mem 193 (by decide +kernel) rfl
theorem wm_194 : (Cond.code y_P_readText b_P_readText 1 (some .int)) ∈ jx_W := jx_mem 194 rfl rfl
theorem wm_195 : (Cond.methodLink "PlaneCells" 72 ⟨"PlaneCells$Reader", "countOpenings", "()I"⟩) ∈ jx_W := jx_mem 195 (by decide +kernel) rfl
theorem wm_196 : (Cond.instanceMethod ⟨"PlaneCells$Reader", "countOpenings", "()I"⟩) ∈ jx_W := jx_mem 196 (by decide +kernel) rfl
theorem wm_197 : (Cond.selects "PlaneCells$Reader" ⟨"PlaneCells$Reader", "countOpenings", "()I"⟩ ⟨"PlaneCells$Reader", "countOpenings", "()I"⟩) ∈ jx_W := jx_mem 197 (by decide +kernel) rfl
theorem wm_198 : (Cond.code y_R_countOpenings b_R_countOpenings 3 (some .int)) ∈ jx_W := jx_mem 198 rfl rfl
theorem wm_199 : (Cond.methodLink "PlaneCells" 75 ⟨"PlaneCells$Reader", "readSentence", "()Z"⟩) ∈ jx_W := jx_mem 199 (by decide +kernel) rfl
theorem wm_200 : (Cond.instanceMethod ⟨"PlaneCells$Reader", "readSentence", "()Z"⟩) ∈ jx_W := jx_mem 200 (by decide +kernel) rfl
theorem wm_201 : (Cond.selects "PlaneCells$Reader" ⟨"PlaneCells$Reader", "readSentence", "()Z"⟩ ⟨"PlaneCells$Reader", "readSentence", "()Z"⟩) ∈ jx_W := jx_mem 201 (by decide +kernel) rfl
theorem wm_202 : (Cond.code y_R_readSentence b_R_readSentence 2 (some .boolean)) ∈ jx_W := jx_mem 202 rfl rfl
theorem wm_203 : (Cond.methodLink "PlaneCells$Reader" 42 ⟨"PlaneCells$Sentence", "clear", "()V"⟩) ∈ jx_W := jx_mem 203 (by decide +kernel) rfl
theorem wm_204 : (Cond.instanceMethod ⟨"PlaneCells$Sentence", "clear", "()V"⟩) ∈ jx_W := jx_mem 204 (by decide +kernel) rfl
theorem wm_205 : (Cond.selects "PlaneCells$Sentence" ⟨"PlaneCells$Sentence", "clear", "()V"⟩ ⟨"PlaneCells$Sentence", "clear", "()V"⟩) ∈ jx_W := jx_mem 205 (by decide +kernel) rfl
theorem wm_206 : (Cond.code y_S_clear b_S_clear 1 none) ∈ jx_W := jx_mem 206 rfl rfl
theorem wm_207 : (Cond.methodLink "PlaneCells$Reader" 47 ⟨"PlaneCells$Reader", "takeHead", "()Z"⟩) ∈ jx_W := jx_mem 207 (by decide +kernel) rfl
theorem wm_209 : (Cond.instanceMethod ⟨"PlaneCells$Reader", "takeHead", "()Z"⟩) ∈ jx_W := jx_mem 209 (by decide +kernel) rfl
theorem wm_210 : (Cond.code y_R_takeHead b_R_takeHead 1 (some .boolean)) ∈ jx_W := jx_mem 210 rfl rfl
theorem wm_211 : (Cond.methodLink "PlaneCells$Reader" 67 ⟨"PlaneCells$Reader", "peek", "()C"⟩) ∈ jx_W := jx_mem 211 (by decide +kernel) rfl
theorem wm_213 : (Cond.instanceMethod ⟨"PlaneCells$Reader", "peek", "()C"⟩) ∈ jx_W := jx_mem 213 (by decide +kernel) rfl
theorem wm_214 : (Cond.code y_R_peek b_R_peek 1 (some .char)) ∈ jx_W := jx_mem 214 rfl rfl
theorem wm_215 : (Cond.methodLink "PlaneCells$Reader" 75 ⟨"PlaneCells$Reader", "takeQuantifier", "()Z"⟩) ∈ jx_W := jx_mem 215 (by decide +kernel) rfl
theorem wm_217 : (Cond.instanceMethod ⟨"PlaneCells$Reader", "takeQuantifier", "()Z"⟩) ∈ jx_W := jx_mem 217 (by decide +kernel) rfl
theorem wm_218 : (Cond.code y_R_takeQuantifier b_R_takeQuantifier 1 (some .boolean)) ∈ jx_W := jx_mem 218 rfl rfl
theorem wm_219 : (Cond.methodLink "PlaneCells$Reader" 78 ⟨"PlaneCells$Reader", "take", "(C)Z"⟩) ∈ jx_W := jx_mem 219 (by decide +kernel) rfl
theorem wm_221 : (Cond.instanceMethod ⟨"PlaneCells$Reader", "take", "(C)Z"⟩) ∈ jx_W := jx_mem 221 (by decide +kernel) rfl
theorem wm_222 : (Cond.code y_R_take b_R_take 2 (some .boolean)) ∈ jx_W := jx_mem 222 rfl rfl
theorem wm_223 : (Cond.methodLink "PlaneCells$Reader" 51 ⟨"PlaneCells$Reader", "takeOpenings", "()V"⟩) ∈ jx_W := jx_mem 223 (by decide +kernel) rfl
theorem wm_225 : (Cond.instanceMethod ⟨"PlaneCells$Reader", "takeOpenings", "()V"⟩) ∈ jx_W := jx_mem 225 (by decide +kernel) rfl
theorem wm_226 : (Cond.code y_R_takeOpenings b_R_takeOpenings 1 none) ∈ jx_W := jx_mem 226 rfl rfl
theorem wm_227 : (Cond.methodLink "PlaneCells$Reader" 85 ⟨"PlaneCells$Reader", "hold", "(I)V"⟩) ∈ jx_W := jx_mem 227 (by decide +kernel) rfl
theorem wm_229 : (Cond.instanceMethod ⟨"PlaneCells$Reader", "hold", "(I)V"⟩) ∈ jx_W := jx_mem 229 (by decide +kernel) rfl
theorem wm_230 : (Cond.code y_R_hold b_R_hold 2 none) ∈ jx_W := jx_mem 230 rfl rfl
theorem wm_231 : (Cond.methodLink "PlaneCells$Reader" 54 ⟨"PlaneCells$Reader", "takeAtom", "()Z"⟩) ∈ jx_W := jx_mem 231 (by decide +kernel) rfl
theorem wm_233 : (Cond.instanceMethod ⟨"PlaneCells$Reader", "takeAtom", "()Z"⟩) ∈ jx_W := jx_mem 233 (by decide +kernel) rfl
theorem wm_234 : (Cond.code y_R_takeAtom b_R_takeAtom 3 (some .boolean)) ∈ jx_W := jx_mem 234 rfl rfl
theorem wm_235 : (Cond.methodLink "PlaneCells$Reader" 91 ⟨"PlaneCells$Reader", "takeSum", "(I)Z"⟩) ∈ jx_W := jx_mem 235 (by decide +kernel) rfl
theorem wm_237 : (Cond.instanceMethod ⟨"PlaneCells$Reader", "takeSum", "(I)Z"⟩) ∈ jx_W := jx_mem 237 (by decide +kernel) rfl
theorem wm_238 : (Cond.code y_R_takeSum b_R_takeSum 4 (some .boolean)) ∈ jx_W := jx_mem 238 rfl rfl
theorem wm_239 : (Cond.methodLink "PlaneCells$Reader" 99 ⟨"PlaneCells$Reader", "takeTerm", "(I)Z"⟩) ∈ jx_W := jx_mem 239 (by decide +kernel) rfl
theorem wm_241 : (Cond.instanceMethod ⟨"PlaneCells$Reader", "takeTerm", "(I)Z"⟩) ∈ jx_W := jx_mem 241 (by decide +kernel) rfl
theorem wm_242 : (Cond.code y_R_takeTerm b_R_takeTerm 8 (some .boolean)) ∈ jx_W := jx_mem 242 rfl rfl
theorem wm_243 : (Cond.methodLink "PlaneCells$Reader" 102 ⟨"PlaneCells$Reader", "numberOfLetter", "(C)I"⟩) ∈ jx_W := jx_mem 243 (by decide +kernel) rfl
theorem wm_244 : (Cond.static ⟨"PlaneCells$Reader", "numberOfLetter", "(C)I"⟩) ∈ jx_W := jx_mem 244 (by decide +kernel) rfl
theorem wm_245 : (Cond.code y_R_numberOfLetter b_R_numberOfLetter 1 (some .int)) ∈ jx_W := jx_mem 245 rfl rfl
theorem wm_246 : (Cond.methodLink "PlaneCells$Reader" 95 ⟨"PlaneCells$Sentence", "addAtom", "([IC)V"⟩) ∈ jx_W := jx_mem 246 (by decide +kernel) rfl
theorem wm_247 : (Cond.instanceMethod ⟨"PlaneCells$Sentence", "addAtom", "([IC)V"⟩) ∈ jx_W := jx_mem 247 (by decide +kernel) rfl
theorem wm_248 : (Cond.selects "PlaneCells$Sentence" ⟨"PlaneCells$Sentence", "addAtom", "([IC)V"⟩ ⟨"PlaneCells$Sentence", "addAtom", "([IC)V"⟩) ∈ jx_W := jx_mem 248 (by decide +kernel) rfl
theorem wm_249 : (Cond.code y_S_addAtom b_S_addAtom 3 none) ∈ jx_W := jx_mem 249 rfl rfl
theorem wm_253 : (Cond.methodLink "PlaneCells$Sentence" 35 ⟨"PlaneCells$Sentence", "addStep", "(I)V"⟩) ∈ jx_W := jx_mem 253 (by decide +kernel) rfl
theorem wm_254 : (Cond.instanceMethod ⟨"PlaneCells$Sentence", "addStep", "(I)V"⟩) ∈ jx_W := jx_mem 254 (by decide +kernel) rfl
theorem wm_255 : (Cond.selects "PlaneCells$Sentence" ⟨"PlaneCells$Sentence", "addStep", "(I)V"⟩ ⟨"PlaneCells$Sentence", "addStep", "(I)V"⟩) ∈ jx_W := jx_mem 255 (by decide +kernel) rfl
theorem wm_256 : (Cond.code y_S_addStep b_S_addStep 2 none) ∈ jx_W := jx_mem 256 rfl rfl
theorem wm_257 : (Cond.methodLink "PlaneCells$Reader" 57 ⟨"PlaneCells$Reader", "takeClosings", "()V"⟩) ∈ jx_W := jx_mem 257 (by decide +kernel) rfl
theorem wm_259 : (Cond.instanceMethod ⟨"PlaneCells$Reader", "takeClosings", "()V"⟩) ∈ jx_W := jx_mem 259 (by decide +kernel) rfl
theorem wm_260 : (Cond.code y_R_takeClosings b_R_takeClosings 1 none) ∈ jx_W := jx_mem 260 rfl rfl
theorem wm_261 : (Cond.methodLink "PlaneCells$Reader" 63 ⟨"PlaneCells$Reader", "release", "(I)V"⟩) ∈ jx_W := jx_mem 261 (by decide +kernel) rfl
theorem wm_263 : (Cond.instanceMethod ⟨"PlaneCells$Reader", "release", "(I)V"⟩) ∈ jx_W := jx_mem 263 (by decide +kernel) rfl
theorem wm_264 : (Cond.code y_R_release b_R_release 2 none) ∈ jx_W := jx_mem 264 rfl rfl
theorem wm_265 : (Cond.methodLink "PlaneCells$Reader" 88 ⟨"PlaneCells$Sentence", "addStep", "(I)V"⟩) ∈ jx_W := jx_mem 265 (by decide +kernel) rfl
theorem wm_266 : (Cond.methodLink "PlaneCells$Reader" 60 ⟨"PlaneCells$Reader", "takeJoint", "()Z"⟩) ∈ jx_W := jx_mem 266 (by decide +kernel) rfl
theorem wm_268 : (Cond.instanceMethod ⟨"PlaneCells$Reader", "takeJoint", "()Z"⟩) ∈ jx_W := jx_mem 268 (by decide +kernel) rfl
theorem wm_269 : (Cond.code y_R_takeJoint b_R_takeJoint 2 (some .boolean)) ∈ jx_W := jx_mem 269 rfl rfl
theorem wm_270 : (Cond.methodLink "PlaneCells" 81 ⟨"PlaneCells$Sentence", "fits", "()Z"⟩) ∈ jx_W := jx_mem 270 (by decide +kernel) rfl
theorem wm_271 : (Cond.instanceMethod ⟨"PlaneCells$Sentence", "fits", "()Z"⟩) ∈ jx_W := jx_mem 271 (by decide +kernel) rfl
theorem wm_272 : (Cond.selects "PlaneCells$Sentence" ⟨"PlaneCells$Sentence", "fits", "()Z"⟩ ⟨"PlaneCells$Sentence", "fits", "()Z"⟩) ∈ jx_W := jx_mem 272 (by decide +kernel) rfl
theorem wm_273 : (Cond.code y_S_fits b_S_fits 2 (some .boolean)) ∈ jx_W := jx_mem 273 rfl rfl
theorem wm_274 : (Cond.methodLink "PlaneCells" 50 ⟨"PlaneCells$Reader", "clear", "()V"⟩) ∈ jx_W := jx_mem 274 (by decide +kernel) rfl
theorem wm_275 : (Cond.instanceMethod ⟨"PlaneCells$Reader", "clear", "()V"⟩) ∈ jx_W := jx_mem 275 (by decide +kernel) rfl
theorem wm_276 : (Cond.selects "PlaneCells$Reader" ⟨"PlaneCells$Reader", "clear", "()V"⟩ ⟨"PlaneCells$Reader", "clear", "()V"⟩) ∈ jx_W := jx_mem 276 (by decide +kernel) rfl
theorem wm_277 : (Cond.code y_R_clear b_R_clear 1 none) ∈ jx_W := jx_mem 277 rfl rfl
theorem wm_278 : (Cond.methodLink "PlaneCells" 53 ⟨"PlaneCells$Sentence", "clear", "()V"⟩) ∈ jx_W := jx_mem 278 (by decide +kernel) rfl
theorem wm_279 : (Cond.methodLink "PlaneCells" 54 ⟨"PlaneCells$Plane", "cut", "()V"⟩) ∈ jx_W := jx_mem 279 (by decide +kernel) rfl
theorem wm_280 : (Cond.instanceMethod ⟨"PlaneCells$Plane", "cut", "()V"⟩) ∈ jx_W := jx_mem 280 (by decide +kernel) rfl
theorem wm_281 : (Cond.selects "PlaneCells$Plane" ⟨"PlaneCells$Plane", "cut", "()V"⟩ ⟨"PlaneCells$Plane", "cut", "()V"⟩) ∈ jx_W := jx_mem 281 (by decide +kernel) rfl
theorem wm_282 : (Cond.code y_Q_cut b_Q_cut 3 none) ∈ jx_W := jx_mem 282 rfl rfl
theorem wm_283 : (Cond.methodLink "PlaneCells$Plane" 39 ⟨"PlaneCells$CriticalNumbers", "clear", "()V"⟩) ∈ jx_W := jx_mem 283 (by decide +kernel) rfl
theorem wm_284 : (Cond.instanceMethod ⟨"PlaneCells$CriticalNumbers", "clear", "()V"⟩) ∈ jx_W := jx_mem 284 (by decide +kernel) rfl
theorem wm_285 : (Cond.selects "PlaneCells$CriticalNumbers" ⟨"PlaneCells$CriticalNumbers", "clear", "()V"⟩ ⟨"PlaneCells$CriticalNumbers", "clear", "()V"⟩) ∈ jx_W := jx_mem 285 (by decide +kernel) rfl
theorem wm_286 : (Cond.code y_C_clear b_C_clear 1 none) ∈ jx_W := jx_mem 286 rfl rfl
theorem wm_287 : (Cond.methodLink "PlaneCells$Plane" 48 ⟨"PlaneCells$Form", "setA", "(LPlaneCells$Sentence;I)V"⟩) ∈ jx_W := jx_mem 287 (by decide +kernel) rfl
theorem wm_288 : (Cond.instanceMethod ⟨"PlaneCells$Form", "setA", "(LPlaneCells$Sentence;I)V"⟩) ∈ jx_W := jx_mem 288 (by decide +kernel) rfl
theorem wm_289 : (Cond.selects "PlaneCells$Form" ⟨"PlaneCells$Form", "setA", "(LPlaneCells$Sentence;I)V"⟩ ⟨"PlaneCells$Form", "setA", "(LPlaneCells$Sentence;I)V"⟩) ∈ jx_W := jx_mem 289 (by decide +kernel) rfl
theorem wm_290 : (Cond.code y_F_setA b_F_setA 3 none) ∈ jx_W := jx_mem 290 rfl rfl
theorem wm_291 : (Cond.methodLink "PlaneCells$Form" 7 ⟨"PlaneCells$Sentence", "number", "(II)I"⟩) ∈ jx_W := jx_mem 291 (by decide +kernel) rfl
theorem wm_292 : (Cond.instanceMethod ⟨"PlaneCells$Sentence", "number", "(II)I"⟩) ∈ jx_W := jx_mem 292 (by decide +kernel) rfl
theorem wm_293 : (Cond.selects "PlaneCells$Sentence" ⟨"PlaneCells$Sentence", "number", "(II)I"⟩ ⟨"PlaneCells$Sentence", "number", "(II)I"⟩) ∈ jx_W := jx_mem 293 (by decide +kernel) rfl
theorem wm_294 : (Cond.code y_S_number b_S_number 3 (some .int)) ∈ jx_W := jx_mem 294 rfl rfl
theorem wm_295 : (Cond.methodLink "PlaneCells$Plane" 52 ⟨"PlaneCells$CriticalNumbers", "addZerosOf", "(LPlaneCells$Form;)V"⟩) ∈ jx_W := jx_mem 295 (by decide +kernel) rfl
theorem wm_296 : (Cond.instanceMethod ⟨"PlaneCells$CriticalNumbers", "addZerosOf", "(LPlaneCells$Form;)V"⟩) ∈ jx_W := jx_mem 296 (by decide +kernel) rfl
theorem wm_297 : (Cond.selects "PlaneCells$CriticalNumbers" ⟨"PlaneCells$CriticalNumbers", "addZerosOf", "(LPlaneCells$Form;)V"⟩ ⟨"PlaneCells$CriticalNumbers", "addZerosOf", "(LPlaneCells$Form;)V"⟩) ∈ jx_W := jx_mem 297 (by decide +kernel) rfl
theorem wm_298 : (Cond.code y_C_addZerosOf b_C_addZerosOf 4 none) ∈ jx_W := jx_mem 298 rfl rfl
theorem wm_299 : (Cond.methodLink "PlaneCells$CriticalNumbers" 36 Lib.Math.abs.name) ∈ jx_W := jx_mem 299 (by decide +kernel) rfl
theorem wm_302 : (Cond.methodLink "PlaneCells$CriticalNumbers" 42 ⟨"PlaneCells$CriticalNumbers", "add", "(III)V"⟩) ∈ jx_W := jx_mem 302 (by decide +kernel) rfl
theorem wm_304 : (Cond.instanceMethod ⟨"PlaneCells$CriticalNumbers", "add", "(III)V"⟩) ∈ jx_W := jx_mem 304 (by decide +kernel) rfl
theorem wm_305 : (Cond.code y_C_add b_C_add 6 none) ∈ jx_W := jx_mem 305 rfl rfl
theorem wm_306 : (Cond.methodLink "PlaneCells$CriticalNumbers" 46 ⟨"PlaneCells$CriticalNumbers", "signOfDifference", "(IIII)I"⟩) ∈ jx_W := jx_mem 306 (by decide +kernel) rfl
theorem wm_308 : (Cond.instanceMethod ⟨"PlaneCells$CriticalNumbers", "signOfDifference", "(IIII)I"⟩) ∈ jx_W := jx_mem 308 (by decide +kernel) rfl
theorem wm_309 : (Cond.code y_C_signOfDifference b_C_signOfDifference 11 (some .int)) ∈ jx_W := jx_mem 309 rfl rfl
theorem wm_310 : (Cond.methodLink "PlaneCells$CriticalNumbers" 54 ⟨"PlaneCells$CriticalNumbers", "signWithRoots", "(JJJ)I"⟩) ∈ jx_W := jx_mem 310 (by decide +kernel) rfl
theorem wm_311 : (Cond.static ⟨"PlaneCells$CriticalNumbers", "signWithRoots", "(JJJ)I"⟩) ∈ jx_W := jx_mem 311 (by decide +kernel) rfl
theorem wm_312 : (Cond.code y_C_signWithRoots b_C_signWithRoots 10 (some .int)) ∈ jx_W := jx_mem 312 rfl rfl
theorem wm_313 : (Cond.methodLink "PlaneCells$CriticalNumbers" 58 ⟨"java/lang/Long", "signum", "(J)I"⟩) ∈ jx_W := jx_mem 313 (by decide +kernel) rfl
theorem wm_316 : (Cond.methodLink "PlaneCells$CriticalNumbers" 64 Lib.MathLoose.abs_long.x) ∈ jx_W := jx_mem 316 (by decide +kernel) rfl
theorem wm_319 : (Cond.constantLong "PlaneCells$CriticalNumbers" 67 4) ∈ jx_W := jx_mem 319 (by decide +kernel) rfl
theorem wm_320 : (Cond.methodLink "PlaneCells$CriticalNumbers" 50 ⟨"PlaneCells$CriticalNumbers", "insert", "(IIII)V"⟩) ∈ jx_W := jx_mem 320 (by decide +kernel) rfl
theorem wm_322 : (Cond.instanceMethod ⟨"PlaneCells$CriticalNumbers", "insert", "(IIII)V"⟩) ∈ jx_W := jx_mem 322 (by decide +kernel) rfl
theorem wm_323 : (Cond.code y_C_insert b_C_insert 6 none) ∈ jx_W := jx_mem 323 rfl rfl
theorem wm_324 : (Cond.methodLink "PlaneCells$Plane" 56 ⟨"PlaneCells$Form", "setB", "(LPlaneCells$Sentence;I)V"⟩) ∈ jx_W := jx_mem 324 (by decide +kernel) rfl
theorem wm_325 : (Cond.instanceMethod ⟨"PlaneCells$Form", "setB", "(LPlaneCells$Sentence;I)V"⟩) ∈ jx_W := jx_mem 325 (by decide +kernel) rfl
theorem wm_326 : (Cond.selects "PlaneCells$Form" ⟨"PlaneCells$Form", "setB", "(LPlaneCells$Sentence;I)V"⟩ ⟨"PlaneCells$Form", "setB", "(LPlaneCells$Sentence;I)V"⟩) ∈ jx_W := jx_mem 326 (by decide +kernel) rfl
theorem wm_327 : (Cond.code y_F_setB b_F_setB 3 none) ∈ jx_W := jx_mem 327 rfl rfl
theorem wm_328 : (Cond.methodLink "PlaneCells$Plane" 59 ⟨"PlaneCells$Form", "setPair", "(LPlaneCells$Sentence;II)V"⟩) ∈ jx_W := jx_mem 328 (by decide +kernel) rfl
theorem wm_329 : (Cond.instanceMethod ⟨"PlaneCells$Form", "setPair", "(LPlaneCells$Sentence;II)V"⟩) ∈ jx_W := jx_mem 329 (by decide +kernel) rfl
theorem wm_330 : (Cond.selects "PlaneCells$Form" ⟨"PlaneCells$Form", "setPair", "(LPlaneCells$Sentence;II)V"⟩ ⟨"PlaneCells$Form", "setPair", "(LPlaneCells$Sentence;II)V"⟩) ∈ jx_W := jx_mem 330 (by decide +kernel) rfl
theorem wm_331 : (Cond.code y_F_setPair b_F_setPair 4 none) ∈ jx_W := jx_mem 331 rfl rfl
theorem wm_332 : (Cond.methodLink "PlaneCells" 57 ⟨"PlaneCells$Plane", "countColumns", "()I"⟩) ∈ jx_W := jx_mem 332 (by decide +kernel) rfl
theorem wm_333 : (Cond.instanceMethod ⟨"PlaneCells$Plane", "countColumns", "()I"⟩) ∈ jx_W := jx_mem 333 (by decide +kernel) rfl
theorem wm_334 : (Cond.selects "PlaneCells$Plane" ⟨"PlaneCells$Plane", "countColumns", "()I"⟩ ⟨"PlaneCells$Plane", "countColumns", "()I"⟩) ∈ jx_W := jx_mem 334 (by decide +kernel) rfl
theorem wm_335 : (Cond.code y_Q_countColumns b_Q_countColumns 1 (some .int)) ∈ jx_W := jx_mem 335 rfl rfl
theorem wm_336 : (Cond.methodLink "PlaneCells" 60 ⟨"PlaneCells$Plane", "enter", "(I)V"⟩) ∈ jx_W := jx_mem 336 (by decide +kernel) rfl
theorem wm_337 : (Cond.instanceMethod ⟨"PlaneCells$Plane", "enter", "(I)V"⟩) ∈ jx_W := jx_mem 337 (by decide +kernel) rfl
theorem wm_338 : (Cond.selects "PlaneCells$Plane" ⟨"PlaneCells$Plane", "enter", "(I)V"⟩ ⟨"PlaneCells$Plane", "enter", "(I)V"⟩) ∈ jx_W := jx_mem 338 (by decide +kernel) rfl
theorem wm_339 : (Cond.code y_Q_enter b_Q_enter 3 none) ∈ jx_W := jx_mem 339 rfl rfl
theorem wm_340 : (Cond.methodLink "PlaneCells$Plane" 69 ⟨"PlaneCells$CriticalNumbers", "signInColumn", "(ILPlaneCells$Form;)I"⟩) ∈ jx_W := jx_mem 340 (by decide +kernel) rfl
theorem wm_341 : (Cond.instanceMethod ⟨"PlaneCells$CriticalNumbers", "signInColumn", "(ILPlaneCells$Form;)I"⟩) ∈ jx_W := jx_mem 341 (by decide +kernel) rfl
theorem wm_342 : (Cond.selects "PlaneCells$CriticalNumbers" ⟨"PlaneCells$CriticalNumbers", "signInColumn", "(ILPlaneCells$Form;)I"⟩ ⟨"PlaneCells$CriticalNumbers", "signInColumn", "(ILPlaneCells$Form;)I"⟩) ∈ jx_W := jx_mem 342 (by decide +kernel) rfl
theorem wm_343 : (Cond.code y_C_signInColumn b_C_signInColumn 6 (some .int)) ∈ jx_W := jx_mem 343 rfl rfl
theorem wm_344 : (Cond.methodLink "PlaneCells$CriticalNumbers" 69 ⟨"PlaneCells$CriticalNumbers", "signBelowAll", "(LPlaneCells$Form;)I"⟩) ∈ jx_W := jx_mem 344 (by decide +kernel) rfl
theorem wm_345 : (Cond.static ⟨"PlaneCells$CriticalNumbers", "signBelowAll", "(LPlaneCells$Form;)I"⟩) ∈ jx_W := jx_mem 345 (by decide +kernel) rfl
theorem wm_346 : (Cond.code y_C_signBelowAll b_C_signBelowAll 1 (some .int)) ∈ jx_W := jx_mem 346 rfl rfl
theorem wm_347 : (Cond.methodLink "PlaneCells$CriticalNumbers" 77 ⟨"java/lang/Integer", "signum", "(I)I"⟩) ∈ jx_W := jx_mem 347 (by decide +kernel) rfl
theorem wm_350 : (Cond.methodLink "PlaneCells$CriticalNumbers" 73 ⟨"PlaneCells$CriticalNumbers", "signAt", "(IJJJ)I"⟩) ∈ jx_W := jx_mem 350 (by decide +kernel) rfl
theorem wm_351 : (Cond.instanceMethod ⟨"PlaneCells$CriticalNumbers", "signAt", "(IJJJ)I"⟩) ∈ jx_W := jx_mem 351 (by decide +kernel) rfl
theorem wm_352 : (Cond.selects "PlaneCells$CriticalNumbers" ⟨"PlaneCells$CriticalNumbers", "signAt", "(IJJJ)I"⟩ ⟨"PlaneCells$CriticalNumbers", "signAt", "(IJJJ)I"⟩) ∈ jx_W := jx_mem 352 (by decide +kernel) rfl
theorem wm_353 : (Cond.code y_C_signAt b_C_signAt 18 (some .int)) ∈ jx_W := jx_mem 353 rfl rfl
theorem wm_354 : (Cond.constantLong "PlaneCells$CriticalNumbers" 81 2) ∈ jx_W := jx_mem 354 (by decide +kernel) rfl
theorem wm_355 : (Cond.methodLink "PlaneCells$Plane" 73 ⟨"PlaneCells$Plane", "addZero", "(II)V"⟩) ∈ jx_W := jx_mem 355 (by decide +kernel) rfl
theorem wm_357 : (Cond.instanceMethod ⟨"PlaneCells$Plane", "addZero", "(II)V"⟩) ∈ jx_W := jx_mem 357 (by decide +kernel) rfl
theorem wm_358 : (Cond.code y_Q_addZero b_Q_addZero 6 none) ∈ jx_W := jx_mem 358 rfl rfl
theorem wm_359 : (Cond.methodLink "PlaneCells$Plane" 77 Lib.Math.max.name) ∈ jx_W := jx_mem 359 (by decide +kernel) rfl
theorem wm_362 : (Cond.methodLink "PlaneCells" 64 ⟨"PlaneCells$Plane", "columnHolds", "()Z"⟩) ∈ jx_W := jx_mem 362 (by decide +kernel) rfl
theorem wm_363 : (Cond.instanceMethod ⟨"PlaneCells$Plane", "columnHolds", "()Z"⟩) ∈ jx_W := jx_mem 363 (by decide +kernel) rfl
theorem wm_364 : (Cond.selects "PlaneCells$Plane" ⟨"PlaneCells$Plane", "columnHolds", "()Z"⟩ ⟨"PlaneCells$Plane", "columnHolds", "()Z"⟩) ∈ jx_W := jx_mem 364 (by decide +kernel) rfl
theorem wm_365 : (Cond.code y_Q_columnHolds b_Q_columnHolds 2 (some .boolean)) ∈ jx_W := jx_mem 365 rfl rfl
theorem wm_366 : (Cond.methodLink "PlaneCells$Plane" 102 ⟨"PlaneCells$Plane", "trueIn", "(I)Z"⟩) ∈ jx_W := jx_mem 366 (by decide +kernel) rfl
theorem wm_367 : (Cond.instanceMethod ⟨"PlaneCells$Plane", "trueIn", "(I)Z"⟩) ∈ jx_W := jx_mem 367 (by decide +kernel) rfl
theorem wm_368 : (Cond.selects "PlaneCells$Plane" ⟨"PlaneCells$Plane", "trueIn", "(I)Z"⟩ ⟨"PlaneCells$Plane", "trueIn", "(I)Z"⟩) ∈ jx_W := jx_mem 368 (by decide +kernel) rfl
theorem wm_369 : (Cond.code y_Q_trueIn b_Q_trueIn 6 (some .boolean)) ∈ jx_W := jx_mem 369 rfl rfl
theorem wm_370 : (Cond.methodLink "PlaneCells$Plane" 95 ⟨"PlaneCells$Plane", "signIn", "(II)I"⟩) ∈ jx_W := jx_mem 370 (by decide +kernel) rfl
theorem wm_371 : (Cond.instanceMethod ⟨"PlaneCells$Plane", "signIn", "(II)I"⟩) ∈ jx_W := jx_mem 371 (by decide +kernel) rfl
theorem wm_372 : (Cond.selects "PlaneCells$Plane" ⟨"PlaneCells$Plane", "signIn", "(II)I"⟩ ⟨"PlaneCells$Plane", "signIn", "(II)I"⟩) ∈ jx_W := jx_mem 372 (by decide +kernel) rfl
theorem wm_373 : (Cond.code y_Q_signIn b_Q_signIn 3 (some .int)) ∈ jx_W := jx_mem 373 rfl rfl
theorem wm_374 : (Cond.methodLink "PlaneCells$Plane" 83 ⟨"java/lang/Integer", "signum", "(I)I"⟩) ∈ jx_W := jx_mem 374 (by decide +kernel) rfl
theorem wm_375 : (Cond.methodLink "PlaneCells$Plane" 98 ⟨"PlaneCells$Sentence", "atomIsTrue", "(II)Z"⟩) ∈ jx_W := jx_mem 375 (by decide +kernel) rfl
theorem wm_376 : (Cond.instanceMethod ⟨"PlaneCells$Sentence", "atomIsTrue", "(II)Z"⟩) ∈ jx_W := jx_mem 376 (by decide +kernel) rfl
theorem wm_377 : (Cond.selects "PlaneCells$Sentence" ⟨"PlaneCells$Sentence", "atomIsTrue", "(II)Z"⟩ ⟨"PlaneCells$Sentence", "atomIsTrue", "(II)Z"⟩) ∈ jx_W := jx_mem 377 (by decide +kernel) rfl
theorem wm_378 : (Cond.code y_S_atomIsTrue b_S_atomIsTrue 3 (some .boolean)) ∈ jx_W := jx_mem 378 rfl rfl
theorem wm_391 : (Cond.methodLink "PlaneCells" 87 ⟨"PlaneCells", "hasPolynomial", "(I)Z"⟩) ∈ jx_W := jx_mem 391 (by decide +kernel) rfl
theorem wm_393 : (Cond.instanceMethod ⟨"PlaneCells", "hasPolynomial", "(I)Z"⟩) ∈ jx_W := jx_mem 393 (by decide +kernel) rfl
theorem wm_394 : (Cond.code y_P_hasPolynomial b_P_hasPolynomial 2 (some .boolean)) ∈ jx_W := jx_mem 394 rfl rfl
theorem wm_395 : (Cond.methodLink "PlaneCells" 91 ⟨"PlaneCells$Sentence", "number", "(II)I"⟩) ∈ jx_W := jx_mem 395 (by decide +kernel) rfl
theorem wm_404 : (Cond.methodLink "PlaneCells" 95 ⟨"PlaneCells", "enterColumn", "(I)Z"⟩) ∈ jx_W := jx_mem 404 (by decide +kernel) rfl
theorem wm_406 : (Cond.instanceMethod ⟨"PlaneCells", "enterColumn", "(I)Z"⟩) ∈ jx_W := jx_mem 406 (by decide +kernel) rfl
theorem wm_407 : (Cond.code y_P_enterColumn b_P_enterColumn 2 (some .boolean)) ∈ jx_W := jx_mem 407 rfl rfl
theorem wm_408 : (Cond.methodLink "PlaneCells" 110 ⟨"PlaneCells", "hasColumn", "(I)Z"⟩) ∈ jx_W := jx_mem 408 (by decide +kernel) rfl
theorem wm_410 : (Cond.instanceMethod ⟨"PlaneCells", "hasColumn", "(I)Z"⟩) ∈ jx_W := jx_mem 410 (by decide +kernel) rfl
theorem wm_411 : (Cond.code y_P_hasColumn b_P_hasColumn 2 (some .boolean)) ∈ jx_W := jx_mem 411 rfl rfl
theorem wm_416 : (Cond.methodLink "PlaneCells" 101 ⟨"PlaneCells", "hasCell", "(I)Z"⟩) ∈ jx_W := jx_mem 416 (by decide +kernel) rfl
theorem wm_418 : (Cond.instanceMethod ⟨"PlaneCells", "hasCell", "(I)Z"⟩) ∈ jx_W := jx_mem 418 (by decide +kernel) rfl
theorem wm_419 : (Cond.code y_P_hasCell b_P_hasCell 2 (some .boolean)) ∈ jx_W := jx_mem 419 rfl rfl
theorem wm_420 : (Cond.methodLink "PlaneCells" 104 ⟨"PlaneCells$Plane", "signIn", "(II)I"⟩) ∈ jx_W := jx_mem 420 (by decide +kernel) rfl
theorem wm_425 : (Cond.methodLink "PlaneCells" 107 ⟨"PlaneCells$Plane", "trueIn", "(I)Z"⟩) ∈ jx_W := jx_mem 425 (by decide +kernel) rfl
theorem wm_438 : (Cond.methodLink "PlaneCells" 117 ⟨"PlaneCells$CriticalNumbers", "signAt", "(IJJJ)I"⟩) ∈ jx_W := jx_mem 438 (by decide +kernel) rfl
theorem ws_0 : (Cond.selects "PlaneCells" ⟨"PlaneCells", "readText", "()I"⟩ ⟨"PlaneCells", "readText", "()I"⟩) ∈ jx_W := jx_memS 0 (by decide +kernel) rfl
theorem ws_1 : (Cond.selects "PlaneCells$Reader" ⟨"PlaneCells$Reader", "takeHead", "()Z"⟩ ⟨"PlaneCells$Reader", "takeHead", "()Z"⟩) ∈ jx_W := jx_memS 1 (by decide +kernel) rfl
theorem ws_2 : (Cond.selects "PlaneCells$Reader" ⟨"PlaneCells$Reader", "peek", "()C"⟩ ⟨"PlaneCells$Reader", "peek", "()C"⟩) ∈ jx_W := jx_memS 2 (by decide +kernel) rfl
theorem ws_3 : (Cond.selects "PlaneCells$Reader" ⟨"PlaneCells$Reader", "takeQuantifier", "()Z"⟩ ⟨"PlaneCells$Reader", "takeQuantifier", "()Z"⟩) ∈ jx_W := jx_memS 3 (by decide +kernel) rfl
theorem ws_4 : (Cond.selects "PlaneCells$Reader" ⟨"PlaneCells$Reader", "take", "(C)Z"⟩ ⟨"PlaneCells$Reader", "take", "(C)Z"⟩) ∈ jx_W := jx_memS 4 (by decide +kernel) rfl
theorem ws_5 : (Cond.selects "PlaneCells$Reader" ⟨"PlaneCells$Reader", "takeOpenings", "()V"⟩ ⟨"PlaneCells$Reader", "takeOpenings", "()V"⟩) ∈ jx_W := jx_memS 5 (by decide +kernel) rfl
theorem ws_6 : (Cond.selects "PlaneCells$Reader" ⟨"PlaneCells$Reader", "hold", "(I)V"⟩ ⟨"PlaneCells$Reader", "hold", "(I)V"⟩) ∈ jx_W := jx_memS 6 (by decide +kernel) rfl
theorem ws_7 : (Cond.selects "PlaneCells$Reader" ⟨"PlaneCells$Reader", "takeAtom", "()Z"⟩ ⟨"PlaneCells$Reader", "takeAtom", "()Z"⟩) ∈ jx_W := jx_memS 7 (by decide +kernel) rfl
theorem ws_8 : (Cond.selects "PlaneCells$Reader" ⟨"PlaneCells$Reader", "takeSum", "(I)Z"⟩ ⟨"PlaneCells$Reader", "takeSum", "(I)Z"⟩) ∈ jx_W := jx_memS 8 (by decide +kernel) rfl
theorem ws_9 : (Cond.selects "PlaneCells$Reader" ⟨"PlaneCells$Reader", "takeTerm", "(I)Z"⟩ ⟨"PlaneCells$Reader", "takeTerm", "(I)Z"⟩) ∈ jx_W := jx_memS 9 (by decide +kernel) rfl
theorem ws_10 : (Cond.selects "PlaneCells$Reader" ⟨"PlaneCells$Reader", "takeClosings", "()V"⟩ ⟨"PlaneCells$Reader", "takeClosings", "()V"⟩) ∈ jx_W := jx_memS 10 (by decide +kernel) rfl
theorem ws_11 : (Cond.selects "PlaneCells$Reader" ⟨"PlaneCells$Reader", "release", "(I)V"⟩ ⟨"PlaneCells$Reader", "release", "(I)V"⟩) ∈ jx_W := jx_memS 11 (by decide +kernel) rfl
theorem ws_12 : (Cond.selects "PlaneCells$Reader" ⟨"PlaneCells$Reader", "takeJoint", "()Z"⟩ ⟨"PlaneCells$Reader", "takeJoint", "()Z"⟩) ∈ jx_W := jx_memS 12 (by decide +kernel) rfl
theorem ws_13 : (Cond.selects "PlaneCells$CriticalNumbers" ⟨"PlaneCells$CriticalNumbers", "add", "(III)V"⟩ ⟨"PlaneCells$CriticalNumbers", "add", "(III)V"⟩) ∈ jx_W := jx_memS 13 (by decide +kernel) rfl
theorem ws_14 : (Cond.selects "PlaneCells$CriticalNumbers" ⟨"PlaneCells$CriticalNumbers", "signOfDifference", "(IIII)I"⟩ ⟨"PlaneCells$CriticalNumbers", "signOfDifference", "(IIII)I"⟩) ∈ jx_W := jx_memS 14 (by decide +kernel) rfl
theorem ws_15 : (Cond.selects "PlaneCells$CriticalNumbers" ⟨"PlaneCells$CriticalNumbers", "insert", "(IIII)V"⟩ ⟨"PlaneCells$CriticalNumbers", "insert", "(IIII)V"⟩) ∈ jx_W := jx_memS 15 (by decide +kernel) rfl
theorem ws_16 : (Cond.selects "PlaneCells$Plane" ⟨"PlaneCells$Plane", "addZero", "(II)V"⟩ ⟨"PlaneCells$Plane", "addZero", "(II)V"⟩) ∈ jx_W := jx_memS 16 (by decide +kernel) rfl
theorem ws_17 : (Cond.selects "PlaneCells" ⟨"PlaneCells", "hasPolynomial", "(I)Z"⟩ ⟨"PlaneCells", "hasPolynomial", "(I)Z"⟩) ∈ jx_W := jx_memS 17 (by decide +kernel) rfl
theorem ws_18 : (Cond.selects "PlaneCells" ⟨"PlaneCells", "enterColumn", "(I)Z"⟩ ⟨"PlaneCells", "enterColumn", "(I)Z"⟩) ∈ jx_W := jx_memS 18 (by decide +kernel) rfl
theorem ws_19 : (Cond.selects "PlaneCells" ⟨"PlaneCells", "hasColumn", "(I)Z"⟩ ⟨"PlaneCells", "hasColumn", "(I)Z"⟩) ∈ jx_W := jx_memS 19 (by decide +kernel) rfl
theorem ws_20 : (Cond.selects "PlaneCells" ⟨"PlaneCells", "hasCell", "(I)Z"⟩ ⟨"PlaneCells", "hasCell", "(I)Z"⟩) ∈ jx_W := jx_memS 20 (by decide +kernel) rfl
theorem jw_absS : Cond.static Lib.Math.abs.name ∈ jx_W := jx_mem 300 (by decide +kernel) rfl
theorem jw_absC : Cond.code Lib.Math.abs.name Lib.Math.abs.code 1 (some .int) ∈ jx_W := jx_mem 301 rfl rfl
theorem jw_maxS : Cond.static Lib.Math.max.name ∈ jx_W := jx_mem 360 (by decide +kernel) rfl
theorem jw_maxC : Cond.code Lib.Math.max.name Lib.Math.max.code 2 (some .int) ∈ jx_W := jx_mem 361 rfl rfl
theorem jw_abslS : Cond.static Lib.MathLoose.abs_long.x ∈ jx_W := jx_mem 317 (by decide +kernel) rfl
theorem jw_abslC : Cond.code Lib.MathLoose.abs_long.x Lib.MathLoose.abs_long.code 2 (some .long) ∈ jx_W := jx_mem 318 rfl rfl
theorem jw_MathI : Cond.initialized "java/lang/Math" ∈ jx_W := jx_mem 9 (by decide +kernel) rfl
end
