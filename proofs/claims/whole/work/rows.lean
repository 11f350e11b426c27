section
/-- a private method of a class that the tables say can be made, by its rows of tables_1 -/
def lw_okq (q : MethodName × Nat) : Prop := (q.1.cls ≠ "java/lang/invoke/MethodHandle" ∧ q.1.cls ≠ "java/lang/invoke/VarHandle") ∧ Cond.instantiable q.1.cls q.2 ∈ tables_1 ∧ Cond.privateMethod q.1 ∈ tables_1 ∧ Cond.instanceMethod q.1 ∈ tables_1
theorem lw_p0 : lw_okq (⟨"PlaneCells", "readText", "()I"⟩, 6) := ⟨⟨by decide +kernel, by decide +kernel⟩, List.mem_of_getElem? (i := 13) (by decide +kernel), List.mem_of_getElem? (i := 192) (by decide +kernel), List.mem_of_getElem? (i := 193) (by decide +kernel)⟩
theorem lw_p1 : lw_okq (⟨"PlaneCells$Reader", "takeHead", "()Z"⟩, 9) := ⟨⟨by decide +kernel, by decide +kernel⟩, List.mem_of_getElem? (i := 57) (by decide +kernel), List.mem_of_getElem? (i := 208) (by decide +kernel), List.mem_of_getElem? (i := 209) (by decide +kernel)⟩
theorem lw_p2 : lw_okq (⟨"PlaneCells$Reader", "peek", "()C"⟩, 9) := ⟨⟨by decide +kernel, by decide +kernel⟩, List.mem_of_getElem? (i := 57) (by decide +kernel), List.mem_of_getElem? (i := 212) (by decide +kernel), List.mem_of_getElem? (i := 213) (by decide +kernel)⟩
theorem lw_p3 : lw_okq (⟨"PlaneCells$Reader", "takeQuantifier", "()Z"⟩, 9) := ⟨⟨by decide +kernel, by decide +kernel⟩, List.mem_of_getElem? (i := 57) (by decide +kernel), List.mem_of_getElem? (i := 216) (by decide +kernel), List.mem_of_getElem? (i := 217) (by decide +kernel)⟩
theorem lw_p4 : lw_okq (⟨"PlaneCells$Reader", "take", "(C)Z"⟩, 9) := ⟨⟨by decide +kernel, by decide +kernel⟩, List.mem_of_getElem? (i := 57) (by decide +kernel), List.mem_of_getElem? (i := 220) (by decide +kernel), List.mem_of_getElem? (i := 221) (by decide +kernel)⟩
theorem lw_p5 : lw_okq (⟨"PlaneCells$Reader", "takeOpenings", "()V"⟩, 9) := ⟨⟨by decide +kernel, by decide +kernel⟩, List.mem_of_getElem? (i := 57) (by decide +kernel), List.mem_of_getElem? (i := 224) (by decide +kernel), List.mem_of_getElem? (i := 225) (by decide +kernel)⟩
theorem lw_p6 : lw_okq (⟨"PlaneCells$Reader", "hold", "(I)V"⟩, 9) := ⟨⟨by decide +kernel, by decide +kernel⟩, List.mem_of_getElem? (i := 57) (by decide +kernel), List.mem_of_getElem? (i := 228) (by decide +kernel), List.mem_of_getElem? (i := 229) (by decide +kernel)⟩
theorem lw_p7 : lw_okq (⟨"PlaneCells$Reader", "takeAtom", "()Z"⟩, 9) := ⟨⟨by decide +kernel, by decide +kernel⟩, List.mem_of_getElem? (i := 57) (by decide +kernel), List.mem_of_getElem? (i := 232) (by decide +kernel), List.mem_of_getElem? (i := 233) (by decide +kernel)⟩
theorem lw_p8 : lw_okq (⟨"PlaneCells$Reader", "takeSum", "(I)Z"⟩, 9) := ⟨⟨by decide +kernel, by decide +kernel⟩, List.mem_of_getElem? (i := 57) (by decide +kernel), List.mem_of_getElem? (i := 236) (by decide +kernel), List.mem_of_getElem? (i := 237) (by decide +kernel)⟩
theorem lw_p9 : lw_okq (⟨"PlaneCells$Reader", "takeTerm", "(I)Z"⟩, 9) := ⟨⟨by decide +kernel, by decide +kernel⟩, List.mem_of_getElem? (i := 57) (by decide +kernel), List.mem_of_getElem? (i := 240) (by decide +kernel), List.mem_of_getElem? (i := 241) (by decide +kernel)⟩
theorem lw_p10 : lw_okq (⟨"PlaneCells$Reader", "takeClosings", "()V"⟩, 9) := ⟨⟨by decide +kernel, by decide +kernel⟩, List.mem_of_getElem? (i := 57) (by decide +kernel), List.mem_of_getElem? (i := 258) (by decide +kernel), List.mem_of_getElem? (i := 259) (by decide +kernel)⟩
theorem lw_p11 : lw_okq (⟨"PlaneCells$Reader", "release", "(I)V"⟩, 9) := ⟨⟨by decide +kernel, by decide +kernel⟩, List.mem_of_getElem? (i := 57) (by decide +kernel), List.mem_of_getElem? (i := 262) (by decide +kernel), List.mem_of_getElem? (i := 263) (by decide +kernel)⟩
theorem lw_p12 : lw_okq (⟨"PlaneCells$Reader", "takeJoint", "()Z"⟩, 9) := ⟨⟨by decide +kernel, by decide +kernel⟩, List.mem_of_getElem? (i := 57) (by decide +kernel), List.mem_of_getElem? (i := 267) (by decide +kernel), List.mem_of_getElem? (i := 268) (by decide +kernel)⟩
theorem lw_p13 : lw_okq (⟨"PlaneCells$CriticalNumbers", "add", "(III)V"⟩, 4) := ⟨⟨by decide +kernel, by decide +kernel⟩, List.mem_of_getElem? (i := 98) (by decide +kernel), List.mem_of_getElem? (i := 303) (by decide +kernel), List.mem_of_getElem? (i := 304) (by decide +kernel)⟩
theorem lw_p14 : lw_okq (⟨"PlaneCells$CriticalNumbers", "signOfDifference", "(IIII)I"⟩, 4) := ⟨⟨by decide +kernel, by decide +kernel⟩, List.mem_of_getElem? (i := 98) (by decide +kernel), List.mem_of_getElem? (i := 307) (by decide +kernel), List.mem_of_getElem? (i := 308) (by decide +kernel)⟩
theorem lw_p15 : lw_okq (⟨"PlaneCells$CriticalNumbers", "insert", "(IIII)V"⟩, 4) := ⟨⟨by decide +kernel, by decide +kernel⟩, List.mem_of_getElem? (i := 98) (by decide +kernel), List.mem_of_getElem? (i := 321) (by decide +kernel), List.mem_of_getElem? (i := 322) (by decide +kernel)⟩
def lw_privs_1 : List (MethodName × Nat) := [(⟨"PlaneCells", "readText", "()I"⟩, 6), (⟨"PlaneCells$Reader", "takeHead", "()Z"⟩, 9), (⟨"PlaneCells$Reader", "peek", "()C"⟩, 9), (⟨"PlaneCells$Reader", "takeQuantifier", "()Z"⟩, 9), (⟨"PlaneCells$Reader", "take", "(C)Z"⟩, 9), (⟨"PlaneCells$Reader", "takeOpenings", "()V"⟩, 9), (⟨"PlaneCells$Reader", "hold", "(I)V"⟩, 9), (⟨"PlaneCells$Reader", "takeAtom", "()Z"⟩, 9), (⟨"PlaneCells$Reader", "takeSum", "(I)Z"⟩, 9), (⟨"PlaneCells$Reader", "takeTerm", "(I)Z"⟩, 9), (⟨"PlaneCells$Reader", "takeClosings", "()V"⟩, 9), (⟨"PlaneCells$Reader", "release", "(I)V"⟩, 9), (⟨"PlaneCells$Reader", "takeJoint", "()Z"⟩, 9), (⟨"PlaneCells$CriticalNumbers", "add", "(III)V"⟩, 4), (⟨"PlaneCells$CriticalNumbers", "signOfDifference", "(IIII)I"⟩, 4), (⟨"PlaneCells$CriticalNumbers", "insert", "(IIII)V"⟩, 4)]
theorem lw_r1 : ∀ q ∈ lw_privs_1, lw_okq q := List.forall_mem_cons.mpr ⟨lw_p0, List.forall_mem_cons.mpr ⟨lw_p1, List.forall_mem_cons.mpr ⟨lw_p2, List.forall_mem_cons.mpr ⟨lw_p3, List.forall_mem_cons.mpr ⟨lw_p4, List.forall_mem_cons.mpr ⟨lw_p5, List.forall_mem_cons.mpr ⟨lw_p6, List.forall_mem_cons.mpr ⟨lw_p7, List.forall_mem_cons.mpr ⟨lw_p8, List.forall_mem_cons.mpr ⟨lw_p9, List.forall_mem_cons.mpr ⟨lw_p10, List.forall_mem_cons.mpr ⟨lw_p11, List.forall_mem_cons.mpr ⟨lw_p12, List.forall_mem_cons.mpr ⟨lw_p13, List.forall_mem_cons.mpr ⟨lw_p14, List.forall_mem_cons.mpr ⟨lw_p15, fun _ h => absurd h List.not_mem_nil⟩⟩⟩⟩⟩⟩⟩⟩⟩⟩⟩⟩⟩⟩⟩⟩
theorem lw_p16 : lw_okq (⟨"PlaneCells$Plane", "addZero", "(II)V"⟩, 7) := ⟨⟨by decide +kernel, by decide +kernel⟩, List.mem_of_getElem? (i := 92) (by decide +kernel), List.mem_of_getElem? (i := 356) (by decide +kernel), List.mem_of_getElem? (i := 357) (by decide +kernel)⟩
theorem lw_p17 : lw_okq (⟨"PlaneCells", "hasPolynomial", "(I)Z"⟩, 6) := ⟨⟨by decide +kernel, by decide +kernel⟩, List.mem_of_getElem? (i := 13) (by decide +kernel), List.mem_of_getElem? (i := 392) (by decide +kernel), List.mem_of_getElem? (i := 393) (by decide +kernel)⟩
theorem lw_p18 : lw_okq (⟨"PlaneCells", "enterColumn", "(I)Z"⟩, 6) := ⟨⟨by decide +kernel, by decide +kernel⟩, List.mem_of_getElem? (i := 13) (by decide +kernel), List.mem_of_getElem? (i := 405) (by decide +kernel), List.mem_of_getElem? (i := 406) (by decide +kernel)⟩
theorem lw_p19 : lw_okq (⟨"PlaneCells", "hasColumn", "(I)Z"⟩, 6) := ⟨⟨by decide +kernel, by decide +kernel⟩, List.mem_of_getElem? (i := 13) (by decide +kernel), List.mem_of_getElem? (i := 409) (by decide +kernel), List.mem_of_getElem? (i := 410) (by decide +kernel)⟩
theorem lw_p20 : lw_okq (⟨"PlaneCells", "hasCell", "(I)Z"⟩, 6) := ⟨⟨by decide +kernel, by decide +kernel⟩, List.mem_of_getElem? (i := 13) (by decide +kernel), List.mem_of_getElem? (i := 417) (by decide +kernel), List.mem_of_getElem? (i := 418) (by decide +kernel)⟩
theorem lw_p21 : lw_okq (⟨"PlaneCellsModel", "takeText", "()V"⟩, 25) := ⟨⟨by decide +kernel, by decide +kernel⟩, List.mem_of_getElem? (i := 440) (by decide +kernel), List.mem_of_getElem? (i := 532) (by decide +kernel), List.mem_of_getElem? (i := 533) (by decide +kernel)⟩
theorem lw_p22 : lw_okq (⟨"PlaneCellsModel", "count", "(I)I"⟩, 25) := ⟨⟨by decide +kernel, by decide +kernel⟩, List.mem_of_getElem? (i := 440) (by decide +kernel), List.mem_of_getElem? (i := 536) (by decide +kernel), List.mem_of_getElem? (i := 537) (by decide +kernel)⟩
theorem lw_p23 : lw_okq (⟨"PlaneCellsModel", "wrong", "(II)I"⟩, 25) := ⟨⟨by decide +kernel, by decide +kernel⟩, List.mem_of_getElem? (i := 440) (by decide +kernel), List.mem_of_getElem? (i := 540) (by decide +kernel), List.mem_of_getElem? (i := 541) (by decide +kernel)⟩
theorem lw_p24 : lw_okq (⟨"PlaneCellsModel", "illAt", "()I"⟩, 25) := ⟨⟨by decide +kernel, by decide +kernel⟩, List.mem_of_getElem? (i := 440) (by decide +kernel), List.mem_of_getElem? (i := 544) (by decide +kernel), List.mem_of_getElem? (i := 545) (by decide +kernel)⟩
theorem lw_p25 : lw_okq (⟨"PlaneCellsModel", "at", "(I)I"⟩, 25) := ⟨⟨by decide +kernel, by decide +kernel⟩, List.mem_of_getElem? (i := 440) (by decide +kernel), List.mem_of_getElem? (i := 548) (by decide +kernel), List.mem_of_getElem? (i := 549) (by decide +kernel)⟩
theorem lw_p26 : lw_okq (⟨"PlaneCellsModel", "mayEnd", "(II)Z"⟩, 25) := ⟨⟨by decide +kernel, by decide +kernel⟩, List.mem_of_getElem? (i := 440) (by decide +kernel), List.mem_of_getElem? (i := 567) (by decide +kernel), List.mem_of_getElem? (i := 568) (by decide +kernel)⟩
theorem lw_p27 : lw_okq (⟨"PlaneCellsModel", "relations", "()I"⟩, 25) := ⟨⟨by decide +kernel, by decide +kernel⟩, List.mem_of_getElem? (i := 440) (by decide +kernel), List.mem_of_getElem? (i := 571) (by decide +kernel), List.mem_of_getElem? (i := 572) (by decide +kernel)⟩
theorem lw_p28 : lw_okq (⟨"PlaneCellsModel", "readFormula", "()V"⟩, 25) := ⟨⟨by decide +kernel, by decide +kernel⟩, List.mem_of_getElem? (i := 440) (by decide +kernel), List.mem_of_getElem? (i := 575) (by decide +kernel), List.mem_of_getElem? (i := 576) (by decide +kernel)⟩
theorem lw_p29 : lw_okq (⟨"PlaneCellsModel", "wait0", "(I)V"⟩, 25) := ⟨⟨by decide +kernel, by decide +kernel⟩, List.mem_of_getElem? (i := 440) (by decide +kernel), List.mem_of_getElem? (i := 579) (by decide +kernel), List.mem_of_getElem? (i := 580) (by decide +kernel)⟩
theorem lw_p30 : lw_okq (⟨"PlaneCellsModel", "giveAll", "(I)V"⟩, 25) := ⟨⟨by decide +kernel, by decide +kernel⟩, List.mem_of_getElem? (i := 440) (by decide +kernel), List.mem_of_getElem? (i := 583) (by decide +kernel), List.mem_of_getElem? (i := 584) (by decide +kernel)⟩
theorem lw_p31 : lw_okq (⟨"PlaneCellsModel", "give", "(I)V"⟩, 25) := ⟨⟨by decide +kernel, by decide +kernel⟩, List.mem_of_getElem? (i := 440) (by decide +kernel), List.mem_of_getElem? (i := 587) (by decide +kernel), List.mem_of_getElem? (i := 588) (by decide +kernel)⟩
def lw_privs_2 : List (MethodName × Nat) := [(⟨"PlaneCells$Plane", "addZero", "(II)V"⟩, 7), (⟨"PlaneCells", "hasPolynomial", "(I)Z"⟩, 6), (⟨"PlaneCells", "enterColumn", "(I)Z"⟩, 6), (⟨"PlaneCells", "hasColumn", "(I)Z"⟩, 6), (⟨"PlaneCells", "hasCell", "(I)Z"⟩, 6), (⟨"PlaneCellsModel", "takeText", "()V"⟩, 25), (⟨"PlaneCellsModel", "count", "(I)I"⟩, 25), (⟨"PlaneCellsModel", "wrong", "(II)I"⟩, 25), (⟨"PlaneCellsModel", "illAt", "()I"⟩, 25), (⟨"PlaneCellsModel", "at", "(I)I"⟩, 25), (⟨"PlaneCellsModel", "mayEnd", "(II)Z"⟩, 25), (⟨"PlaneCellsModel", "relations", "()I"⟩, 25), (⟨"PlaneCellsModel", "readFormula", "()V"⟩, 25), (⟨"PlaneCellsModel", "wait0", "(I)V"⟩, 25), (⟨"PlaneCellsModel", "giveAll", "(I)V"⟩, 25), (⟨"PlaneCellsModel", "give", "(I)V"⟩, 25)]
theorem lw_r2 : ∀ q ∈ lw_privs_2, lw_okq q := List.forall_mem_cons.mpr ⟨lw_p16, List.forall_mem_cons.mpr ⟨lw_p17, List.forall_mem_cons.mpr ⟨lw_p18, List.forall_mem_cons.mpr ⟨lw_p19, List.forall_mem_cons.mpr ⟨lw_p20, List.forall_mem_cons.mpr ⟨lw_p21, List.forall_mem_cons.mpr ⟨lw_p22, List.forall_mem_cons.mpr ⟨lw_p23, List.forall_mem_cons.mpr ⟨lw_p24, List.forall_mem_cons.mpr ⟨lw_p25, List.forall_mem_cons.mpr ⟨lw_p26, List.forall_mem_cons.mpr ⟨lw_p27, List.forall_mem_cons.mpr ⟨lw_p28, List.forall_mem_cons.mpr ⟨lw_p29, List.forall_mem_cons.mpr ⟨lw_p30, List.forall_mem_cons.mpr ⟨lw_p31, fun _ h => absurd h List.not_mem_nil⟩⟩⟩⟩⟩⟩⟩⟩⟩⟩⟩⟩⟩⟩⟩⟩
theorem lw_p32 : lw_okq (⟨"PlaneCellsModel", "readSum", "(III)I"⟩, 25) := ⟨⟨by decide +kernel, by decide +kernel⟩, List.mem_of_getElem? (i := 440) (by decide +kernel), List.mem_of_getElem? (i := 591) (by decide +kernel), List.mem_of_getElem? (i := 592) (by decide +kernel)⟩
theorem lw_p33 : lw_okq (⟨"PlaneCellsModel", "findCriticals", "()V"⟩, 25) := ⟨⟨by decide +kernel, by decide +kernel⟩, List.mem_of_getElem? (i := 440) (by decide +kernel), List.mem_of_getElem? (i := 595) (by decide +kernel), List.mem_of_getElem? (i := 596) (by decide +kernel)⟩
theorem lw_p34 : lw_okq (⟨"PlaneCellsModel", "addRoots", "(JJJ)V"⟩, 25) := ⟨⟨by decide +kernel, by decide +kernel⟩, List.mem_of_getElem? (i := 440) (by decide +kernel), List.mem_of_getElem? (i := 599) (by decide +kernel), List.mem_of_getElem? (i := 600) (by decide +kernel)⟩
theorem lw_p35 : lw_okq (⟨"PlaneCellsModel", "addRoot", "(JJJI)V"⟩, 25) := ⟨⟨by decide +kernel, by decide +kernel⟩, List.mem_of_getElem? (i := 440) (by decide +kernel), List.mem_of_getElem? (i := 604) (by decide +kernel), List.mem_of_getElem? (i := 605) (by decide +kernel)⟩
theorem lw_p36 : lw_okq (⟨"PlaneCellsModel", "against", "(IJJJI)I"⟩, 25) := ⟨⟨by decide +kernel, by decide +kernel⟩, List.mem_of_getElem? (i := 440) (by decide +kernel), List.mem_of_getElem? (i := 608) (by decide +kernel), List.mem_of_getElem? (i := 609) (by decide +kernel)⟩
theorem lw_p37 : lw_okq (⟨"PlaneCellsModel", "signAt", "(IJJJ)I"⟩, 25) := ⟨⟨by decide +kernel, by decide +kernel⟩, List.mem_of_getElem? (i := 440) (by decide +kernel), List.mem_of_getElem? (i := 612) (by decide +kernel), List.mem_of_getElem? (i := 613) (by decide +kernel)⟩
theorem lw_p38 : lw_okq (⟨"PlaneCellsModel", "mixed", "(III)J"⟩, 25) := ⟨⟨by decide +kernel, by decide +kernel⟩, List.mem_of_getElem? (i := 440) (by decide +kernel), List.mem_of_getElem? (i := 623) (by decide +kernel), List.mem_of_getElem? (i := 624) (by decide +kernel)⟩
theorem lw_p39 : lw_okq (⟨"PlaneCellsModel", "cross", "(IIII)J"⟩, 25) := ⟨⟨by decide +kernel, by decide +kernel⟩, List.mem_of_getElem? (i := 440) (by decide +kernel), List.mem_of_getElem? (i := 627) (by decide +kernel), List.mem_of_getElem? (i := 628) (by decide +kernel)⟩
theorem lw_p40 : lw_okq (⟨"PlaneCellsModel", "columnHolds", "(I)Z"⟩, 25) := ⟨⟨by decide +kernel, by decide +kernel⟩, List.mem_of_getElem? (i := 440) (by decide +kernel), List.mem_of_getElem? (i := 631) (by decide +kernel), List.mem_of_getElem? (i := 632) (by decide +kernel)⟩
theorem lw_p41 : lw_okq (⟨"PlaneCellsModel", "look", "(I)V"⟩, 25) := ⟨⟨by decide +kernel, by decide +kernel⟩, List.mem_of_getElem? (i := 440) (by decide +kernel), List.mem_of_getElem? (i := 635) (by decide +kernel), List.mem_of_getElem? (i := 636) (by decide +kernel)⟩
theorem lw_p42 : lw_okq (⟨"PlaneCellsModel", "signIn", "(IJJJ)I"⟩, 25) := ⟨⟨by decide +kernel, by decide +kernel⟩, List.mem_of_getElem? (i := 440) (by decide +kernel), List.mem_of_getElem? (i := 639) (by decide +kernel), List.mem_of_getElem? (i := 640) (by decide +kernel)⟩
theorem lw_p43 : lw_okq (⟨"PlaneCellsModel", "signBehind", "(IJJJ)I"⟩, 25) := ⟨⟨by decide +kernel, by decide +kernel⟩, List.mem_of_getElem? (i := 440) (by decide +kernel), List.mem_of_getElem? (i := 643) (by decide +kernel), List.mem_of_getElem? (i := 644) (by decide +kernel)⟩
theorem lw_p44 : lw_okq (⟨"PlaneCellsModel", "compareY", "(III)I"⟩, 25) := ⟨⟨by decide +kernel, by decide +kernel⟩, List.mem_of_getElem? (i := 440) (by decide +kernel), List.mem_of_getElem? (i := 647) (by decide +kernel), List.mem_of_getElem? (i := 648) (by decide +kernel)⟩
theorem lw_p45 : lw_okq (⟨"PlaneCellsModel", "isFirst", "(II)Z"⟩, 25) := ⟨⟨by decide +kernel, by decide +kernel⟩, List.mem_of_getElem? (i := 440) (by decide +kernel), List.mem_of_getElem? (i := 651) (by decide +kernel), List.mem_of_getElem? (i := 652) (by decide +kernel)⟩
theorem lw_p46 : lw_okq (⟨"PlaneCellsModel", "formulaIn", "(II)Z"⟩, 25) := ⟨⟨by decide +kernel, by decide +kernel⟩, List.mem_of_getElem? (i := 440) (by decide +kernel), List.mem_of_getElem? (i := 655) (by decide +kernel), List.mem_of_getElem? (i := 656) (by decide +kernel)⟩
theorem lw_p47 : lw_okq (⟨"PlaneCellsModel", "signOfCell", "(III)I"⟩, 25) := ⟨⟨by decide +kernel, by decide +kernel⟩, List.mem_of_getElem? (i := 440) (by decide +kernel), List.mem_of_getElem? (i := 659) (by decide +kernel), List.mem_of_getElem? (i := 660) (by decide +kernel)⟩
def lw_privs_3 : List (MethodName × Nat) := [(⟨"PlaneCellsModel", "readSum", "(III)I"⟩, 25), (⟨"PlaneCellsModel", "findCriticals", "()V"⟩, 25), (⟨"PlaneCellsModel", "addRoots", "(JJJ)V"⟩, 25), (⟨"PlaneCellsModel", "addRoot", "(JJJI)V"⟩, 25), (⟨"PlaneCellsModel", "against", "(IJJJI)I"⟩, 25), (⟨"PlaneCellsModel", "signAt", "(IJJJ)I"⟩, 25), (⟨"PlaneCellsModel", "mixed", "(III)J"⟩, 25), (⟨"PlaneCellsModel", "cross", "(IIII)J"⟩, 25), (⟨"PlaneCellsModel", "columnHolds", "(I)Z"⟩, 25), (⟨"PlaneCellsModel", "look", "(I)V"⟩, 25), (⟨"PlaneCellsModel", "signIn", "(IJJJ)I"⟩, 25), (⟨"PlaneCellsModel", "signBehind", "(IJJJ)I"⟩, 25), (⟨"PlaneCellsModel", "compareY", "(III)I"⟩, 25), (⟨"PlaneCellsModel", "isFirst", "(II)Z"⟩, 25), (⟨"PlaneCellsModel", "formulaIn", "(II)Z"⟩, 25), (⟨"PlaneCellsModel", "signOfCell", "(III)I"⟩, 25)]
theorem lw_r3 : ∀ q ∈ lw_privs_3, lw_okq q := List.forall_mem_cons.mpr ⟨lw_p32, List.forall_mem_cons.mpr ⟨lw_p33, List.forall_mem_cons.mpr ⟨lw_p34, List.forall_mem_cons.mpr ⟨lw_p35, List.forall_mem_cons.mpr ⟨lw_p36, List.forall_mem_cons.mpr ⟨lw_p37, List.forall_mem_cons.mpr ⟨lw_p38, List.forall_mem_cons.mpr ⟨lw_p39, List.forall_mem_cons.mpr ⟨lw_p40, List.forall_mem_cons.mpr ⟨lw_p41, List.forall_mem_cons.mpr ⟨lw_p42, List.forall_mem_cons.mpr ⟨lw_p43, List.forall_mem_cons.mpr ⟨lw_p44, List.forall_mem_cons.mpr ⟨lw_p45, List.forall_mem_cons.mpr ⟨lw_p46, List.forall_mem_cons.mpr ⟨lw_p47, fun _ h => absurd h List.not_mem_nil⟩⟩⟩⟩⟩⟩⟩⟩⟩⟩⟩⟩⟩⟩⟩⟩
theorem lw_p48 : lw_okq (⟨"PlaneCellsModel", "isColumn", "(I)Z"⟩, 25) := ⟨⟨by decide +kernel, by decide +kernel⟩, List.mem_of_getElem? (i := 440) (by decide +kernel), List.mem_of_getElem? (i := 683) (by decide +kernel), List.mem_of_getElem? (i := 684) (by decide +kernel)⟩
theorem lw_p49 : lw_okq (⟨"PlaneCellsModel", "isCell", "(II)Z"⟩, 25) := ⟨⟨by decide +kernel, by decide +kernel⟩, List.mem_of_getElem? (i := 440) (by decide +kernel), List.mem_of_getElem? (i := 691) (by decide +kernel), List.mem_of_getElem? (i := 692) (by decide +kernel)⟩
def lw_privs_4 : List (MethodName × Nat) := [(⟨"PlaneCellsModel", "isColumn", "(I)Z"⟩, 25), (⟨"PlaneCellsModel", "isCell", "(II)Z"⟩, 25)]
theorem lw_r4 : ∀ q ∈ lw_privs_4, lw_okq q := List.forall_mem_cons.mpr ⟨lw_p48, List.forall_mem_cons.mpr ⟨lw_p49, fun _ h => absurd h List.not_mem_nil⟩⟩
def lw_privs : List (MethodName × Nat) := lw_privs_1 ++ (lw_privs_2 ++ (lw_privs_3 ++ (lw_privs_4)))
def lw_tbl : List Cond := k2_sels lw_privs ++ tables_1
theorem lw_privs_ok : ∀ q ∈ lw_privs, lw_okq q := by
  show ∀ q ∈ lw_privs_1 ++ (lw_privs_2 ++ (lw_privs_3 ++ (lw_privs_4))), lw_okq q
  exact List.forall_mem_append.mpr ⟨lw_r1, List.forall_mem_append.mpr ⟨lw_r2, List.forall_mem_append.mpr ⟨lw_r3, lw_r4⟩⟩⟩
end
section
def jx_isN : Cond → Bool
  | .fieldLinkNest .. => true
  | .methodLinkNest .. => true
  | _ => false
def jx_W : List Cond := lw_tbl.filter goodWord
def jx_Z : List Cond := lw_tbl.filter jx_isN
theorem jx_Wg : jx_W.all goodWord = true := List.all_eq_true.mpr (fun w hw => (List.mem_filter.mp hw).2)
theorem jx_Zn : jx_Z.all jx_isN = true := List.all_eq_true.mpr (fun w hw => (List.mem_filter.mp hw).2)
theorem jx_mem {w : Cond} (i : Nat) (h : tables_1[i]? = some w) (hg : goodWord w = true) : w ∈ jx_W := List.mem_filter.mpr ⟨List.mem_append_right _ (List.mem_of_getElem? h), hg⟩
theorem jx_memZ {w : Cond} (i : Nat) (h : tables_1[i]? = some w) (hg : jx_isN w = true) : w ∈ jx_Z := List.mem_filter.mpr ⟨List.mem_append_right _ (List.mem_of_getElem? h), hg⟩
theorem jx_memS {w : Cond} (i : Nat) (h : (k2_sels lw_privs)[i]? = some w) (hg : goodWord w = true) : w ∈ jx_W := List.mem_filter.mpr ⟨List.mem_append_left _ (List.mem_of_getElem? h), hg⟩
def jn_F_P : u_T := fun k => match k with
  | 0 => ("PlaneCells", "sentence", "LPlaneCells$Sentence;", true)
  | 1 => ("PlaneCells", "reader", "LPlaneCells$Reader;", true)
  | 2 => ("PlaneCells", "plane", "LPlaneCells$Plane;", true)
  | 3 => ("PlaneCells", "illPlace", "I", false)
  | 4 => ("PlaneCells", "columnCount", "I", false)
  | _ => ("PlaneCells", "witnessColumn", "I", false)
def jn_t_P : Nat → FieldType := fun k => match k with
  | 0 => .object "PlaneCells$Sentence"
  | 1 => .object "PlaneCells$Reader"
  | 2 => .object "PlaneCells$Plane"
  | 3 => .int
  | 4 => .int
  | _ => .int
theorem jn_nm_P : ∀ a, a < 6 → ∀ b, b < 6 → a ≠ b → (jn_F_P a).2.1 ≠ (jn_F_P b).2.1 := by decide +kernel
theorem jn_tok_P : ∀ k, k < 6 → parseFieldDescriptor (jn_F_P k).2.2.1 = some (jn_t_P k) := by decide +kernel
theorem jn_in_P : ∀ w ∈ u_ws "PlaneCells" jn_F_P 6, w ∈ jx_W := by
  intro w hw
  obtain ⟨k, hk, rfl⟩ := List.mem_map.mp hw
  have hk := List.mem_range.mp hk
  refine List.mem_filter.mpr ⟨List.mem_append_right _ ?_, ?_⟩
  · exact (by decide +kernel : ∀ k, k < 6 → u_lay "PlaneCells" jn_F_P k ∈ tables_1) k hk
  · exact (by decide +kernel : ∀ k, k < 6 → goodWord (u_lay "PlaneCells" jn_F_P k) = true) k hk
def jn_F_S : u_T := fun k => match k with
  | 0 => ("PlaneCells$Sentence", "numbers", "[I", true)
  | 1 => ("PlaneCells$Sentence", "relations", "[C", true)
  | 2 => ("PlaneCells$Sentence", "steps", "[I", true)
  | 3 => ("PlaneCells$Sentence", "stepCount", "I", false)
  | 4 => ("PlaneCells$Sentence", "atoms", "I", false)
  | 5 => ("PlaneCells$Sentence", "allX", "Z", false)
  | _ => ("PlaneCells$Sentence", "allY", "Z", false)
def jn_t_S : Nat → FieldType := fun k => match k with
  | 0 => .array .int
  | 1 => .array .char
  | 2 => .array .int
  | 3 => .int
  | 4 => .int
  | 5 => .boolean
  | _ => .boolean
theorem jn_nm_S : ∀ a, a < 7 → ∀ b, b < 7 → a ≠ b → (jn_F_S a).2.1 ≠ (jn_F_S b).2.1 := by decide +kernel
theorem jn_tok_S : ∀ k, k < 7 → parseFieldDescriptor (jn_F_S k).2.2.1 = some (jn_t_S k) := by decide +kernel
theorem jn_in_S : ∀ w ∈ u_ws "PlaneCells$Sentence" jn_F_S 7, w ∈ jx_W := by
  intro w hw
  obtain ⟨k, hk, rfl⟩ := List.mem_map.mp hw
  have hk := List.mem_range.mp hk
  refine List.mem_filter.mpr ⟨List.mem_append_right _ ?_, ?_⟩
  · exact (by decide +kernel : ∀ k, k < 7 → u_lay "PlaneCells$Sentence" jn_F_S k ∈ tables_1) k hk
  · exact (by decide +kernel : ∀ k, k < 7 → goodWord (u_lay "PlaneCells$Sentence" jn_F_S k) = true) k hk
def jn_F_R : u_T := fun k => match k with
  | 0 => ("PlaneCells$Reader", "sentence", "LPlaneCells$Sentence;", true)
  | 1 => ("PlaneCells$Reader", "text", "[C", true)
  | 2 => ("PlaneCells$Reader", "waiting", "[I", true)
  | 3 => ("PlaneCells$Reader", "sum", "[I", true)
  | 4 => ("PlaneCells$Reader", "written", "I", false)
  | 5 => ("PlaneCells$Reader", "length", "I", false)
  | 6 => ("PlaneCells$Reader", "at", "I", false)
  | 7 => ("PlaneCells$Reader", "waitingCount", "I", false)
  | _ => ("PlaneCells$Reader", "open", "I", false)
def jn_t_R : Nat → FieldType := fun k => match k with
  | 0 => .object "PlaneCells$Sentence"
  | 1 => .array .char
  | 2 => .array .int
  | 3 => .array .int
  | 4 => .int
  | 5 => .int
  | 6 => .int
  | 7 => .int
  | _ => .int
theorem jn_nm_R : ∀ a, a < 9 → ∀ b, b < 9 → a ≠ b → (jn_F_R a).2.1 ≠ (jn_F_R b).2.1 := by decide +kernel
theorem jn_tok_R : ∀ k, k < 9 → parseFieldDescriptor (jn_F_R k).2.2.1 = some (jn_t_R k) := by decide +kernel
theorem jn_in_R : ∀ w ∈ u_ws "PlaneCells$Reader" jn_F_R 9, w ∈ jx_W := by
  intro w hw
  obtain ⟨k, hk, rfl⟩ := List.mem_map.mp hw
  have hk := List.mem_range.mp hk
  refine List.mem_filter.mpr ⟨List.mem_append_right _ ?_, ?_⟩
  · exact (by decide +kernel : ∀ k, k < 9 → u_lay "PlaneCells$Reader" jn_F_R k ∈ tables_1) k hk
  · exact (by decide +kernel : ∀ k, k < 9 → goodWord (u_lay "PlaneCells$Reader" jn_F_R k) = true) k hk
def jn_F_Q : u_T := fun k => match k with
  | 0 => ("PlaneCells$Plane", "sentence", "LPlaneCells$Sentence;", true)
  | 1 => ("PlaneCells$Plane", "critical", "LPlaneCells$CriticalNumbers;", true)
  | 2 => ("PlaneCells$Plane", "form", "LPlaneCells$Form;", true)
  | 3 => ("PlaneCells$Plane", "signOfA", "[I", true)
  | 4 => ("PlaneCells$Plane", "signOfB", "[I", true)
  | 5 => ("PlaneCells$Plane", "zeroCell", "[I", true)
  | _ => ("PlaneCells$Plane", "cellCount", "I", false)
def jn_t_Q : Nat → FieldType := fun k => match k with
  | 0 => .object "PlaneCells$Sentence"
  | 1 => .object "PlaneCells$CriticalNumbers"
  | 2 => .object "PlaneCells$Form"
  | 3 => .array .int
  | 4 => .array .int
  | 5 => .array .int
  | _ => .int
theorem jn_nm_Q : ∀ a, a < 7 → ∀ b, b < 7 → a ≠ b → (jn_F_Q a).2.1 ≠ (jn_F_Q b).2.1 := by decide +kernel
theorem jn_tok_Q : ∀ k, k < 7 → parseFieldDescriptor (jn_F_Q k).2.2.1 = some (jn_t_Q k) := by decide +kernel
theorem jn_in_Q : ∀ w ∈ u_ws "PlaneCells$Plane" jn_F_Q 7, w ∈ jx_W := by
  intro w hw
  obtain ⟨k, hk, rfl⟩ := List.mem_map.mp hw
  have hk := List.mem_range.mp hk
  refine List.mem_filter.mpr ⟨List.mem_append_right _ ?_, ?_⟩
  · exact (by decide +kernel : ∀ k, k < 7 → u_lay "PlaneCells$Plane" jn_F_Q k ∈ tables_1) k hk
  · exact (by decide +kernel : ∀ k, k < 7 → goodWord (u_lay "PlaneCells$Plane" jn_F_Q k) = true) k hk
def jn_F_C : u_T := fun k => match k with
  | 0 => ("PlaneCells$CriticalNumbers", "top", "[I", true)
  | 1 => ("PlaneCells$CriticalNumbers", "radicand", "[I", true)
  | 2 => ("PlaneCells$CriticalNumbers", "bottom", "[I", true)
  | _ => ("PlaneCells$CriticalNumbers", "count", "I", false)
def jn_t_C : Nat → FieldType := fun k => match k with
  | 0 => .array .int
  | 1 => .array .int
  | 2 => .array .int
  | _ => .int
theorem jn_nm_C : ∀ a, a < 4 → ∀ b, b < 4 → a ≠ b → (jn_F_C a).2.1 ≠ (jn_F_C b).2.1 := by decide +kernel
theorem jn_tok_C : ∀ k, k < 4 → parseFieldDescriptor (jn_F_C k).2.2.1 = some (jn_t_C k) := by decide +kernel
theorem jn_in_C : ∀ w ∈ u_ws "PlaneCells$CriticalNumbers" jn_F_C 4, w ∈ jx_W := by
  intro w hw
  obtain ⟨k, hk, rfl⟩ := List.mem_map.mp hw
  have hk := List.mem_range.mp hk
  refine List.mem_filter.mpr ⟨List.mem_append_right _ ?_, ?_⟩
  · exact (by decide +kernel : ∀ k, k < 4 → u_lay "PlaneCells$CriticalNumbers" jn_F_C k ∈ tables_1) k hk
  · exact (by decide +kernel : ∀ k, k < 4 → goodWord (u_lay "PlaneCells$CriticalNumbers" jn_F_C k) = true) k hk
def jn_F_F : u_T := fun k => match k with
  | 0 => ("PlaneCells$Form", "constant", "I", false)
  | 1 => ("PlaneCells$Form", "linear", "I", false)
  | _ => ("PlaneCells$Form", "square", "I", false)
def jn_t_F : Nat → FieldType := fun k => match k with
  | 0 => .int
  | 1 => .int
  | _ => .int
theorem jn_nm_F : ∀ a, a < 3 → ∀ b, b < 3 → a ≠ b → (jn_F_F a).2.1 ≠ (jn_F_F b).2.1 := by decide +kernel
theorem jn_tok_F : ∀ k, k < 3 → parseFieldDescriptor (jn_F_F k).2.2.1 = some (jn_t_F k) := by decide +kernel
theorem jn_in_F : ∀ w ∈ u_ws "PlaneCells$Form" jn_F_F 3, w ∈ jx_W := by
  intro w hw
  obtain ⟨k, hk, rfl⟩ := List.mem_map.mp hw
  have hk := List.mem_range.mp hk
  refine List.mem_filter.mpr ⟨List.mem_append_right _ ?_, ?_⟩
  · exact (by decide +kernel : ∀ k, k < 3 → u_lay "PlaneCells$Form" jn_F_F k ∈ tables_1) k hk
  · exact (by decide +kernel : ∀ k, k < 3 → goodWord (u_lay "PlaneCells$Form" jn_F_F k) = true) k hk
def jn_F_M : u_T := fun k => match k with
  | 0 => ("PlaneCellsModel", "written", "I", false)
  | 1 => ("PlaneCellsModel", "text", "[I", false)
  | 2 => ("PlaneCellsModel", "size", "I", false)
  | 3 => ("PlaneCellsModel", "line", "[I", false)
  | 4 => ("PlaneCellsModel", "fault", "I", false)
  | 5 => ("PlaneCellsModel", "allX", "Z", false)
  | 6 => ("PlaneCellsModel", "allY", "Z", false)
  | 7 => ("PlaneCellsModel", "many", "I", false)
  | 8 => ("PlaneCellsModel", "number", "[I", false)
  | 9 => ("PlaneCellsModel", "parts", "I", false)
  | 10 => ("PlaneCellsModel", "part", "[I", false)
  | 11 => ("PlaneCellsModel", "waits", "I", false)
  | 12 => ("PlaneCellsModel", "waiting", "[I", false)
  | 13 => ("PlaneCellsModel", "truth", "[Z", false)
  | 14 => ("PlaneCellsModel", "criticals", "I", false)
  | 15 => ("PlaneCellsModel", "rootA", "[J", false)
  | 16 => ("PlaneCellsModel", "rootB", "[J", false)
  | 17 => ("PlaneCellsModel", "rootC", "[J", false)
  | 18 => ("PlaneCellsModel", "rootWhich", "[I", false)
  | 19 => ("PlaneCellsModel", "column", "I", false)
  | 20 => ("PlaneCellsModel", "heights", "I", false)
  | 21 => ("PlaneCellsModel", "signA", "[I", false)
  | 22 => ("PlaneCellsModel", "rank", "[I", false)
  | 23 => ("PlaneCellsModel", "columnCount", "I", false)
  | _ => ("PlaneCellsModel", "relation", "[I", false)
def jn_t_M : Nat → FieldType := fun k => match k with
  | 0 => .int
  | 1 => .array .int
  | 2 => .int
  | 3 => .array .int
  | 4 => .int
  | 5 => .boolean
  | 6 => .boolean
  | 7 => .int
  | 8 => .array .int
  | 9 => .int
  | 10 => .array .int
  | 11 => .int
  | 12 => .array .int
  | 13 => .array .boolean
  | 14 => .int
  | 15 => .array .long
  | 16 => .array .long
  | 17 => .array .long
  | 18 => .array .int
  | 19 => .int
  | 20 => .int
  | 21 => .array .int
  | 22 => .array .int
  | 23 => .int
  | _ => .array .int
theorem jn_nm_M : ∀ a, a < 25 → ∀ b, b < 25 → a ≠ b → (jn_F_M a).2.1 ≠ (jn_F_M b).2.1 := by decide +kernel
theorem jn_tok_M : ∀ k, k < 25 → parseFieldDescriptor (jn_F_M k).2.2.1 = some (jn_t_M k) := by decide +kernel
theorem jn_in_M : ∀ w ∈ u_ws "PlaneCellsModel" jn_F_M 25, w ∈ jx_W := by
  intro w hw
  obtain ⟨k, hk, rfl⟩ := List.mem_map.mp hw
  have hk := List.mem_range.mp hk
  refine List.mem_filter.mpr ⟨List.mem_append_right _ ?_, ?_⟩
  · exact (by decide +kernel : ∀ k, k < 25 → u_lay "PlaneCellsModel" jn_F_M k ∈ tables_1) k hk
  · exact (by decide +kernel : ∀ k, k < 25 → goodWord (u_lay "PlaneCellsModel" jn_F_M k) = true) k hk
abbrev jx_cl : List vw_C := [("PlaneCells", jn_F_P, 6), ("PlaneCells$Sentence", jn_F_S, 7), ("PlaneCells$Reader", jn_F_R, 9), ("PlaneCells$Plane", jn_F_Q, 7), ("PlaneCells$CriticalNumbers", jn_F_C, 4), ("PlaneCells$Form", jn_F_F, 3), ("PlaneCellsModel", jn_F_M, 25)]
abbrev b_C_clear : ByteArray := prog_2_method_2_code
def y_C_clear : MethodName := ⟨"PlaneCells$CriticalNumbers", "clear", "()V"⟩
abbrev b_C_addZerosOf : ByteArray := prog_2_method_3_code
def y_C_addZerosOf : MethodName := ⟨"PlaneCells$CriticalNumbers", "addZerosOf", "(LPlaneCells$Form;)V"⟩
abbrev b_C_add : ByteArray := prog_2_method_4_code
def y_C_add : MethodName := ⟨"PlaneCells$CriticalNumbers", "add", "(III)V"⟩
abbrev b_C_insert : ByteArray := prog_2_method_5_code
def y_C_insert : MethodName := ⟨"PlaneCells$CriticalNumbers", "insert", "(IIII)V"⟩
abbrev b_C_signOfDifference : ByteArray := prog_2_method_6_code
def y_C_signOfDifference : MethodName := ⟨"PlaneCells$CriticalNumbers", "signOfDifference", "(IIII)I"⟩
abbrev b_C_signWithRoots : ByteArray := prog_2_method_7_code
def y_C_signWithRoots : MethodName := ⟨"PlaneCells$CriticalNumbers", "signWithRoots", "(JJJ)I"⟩
abbrev b_C_signInColumn : ByteArray := prog_2_method_8_code
def y_C_signInColumn : MethodName := ⟨"PlaneCells$CriticalNumbers", "signInColumn", "(ILPlaneCells$Form;)I"⟩
abbrev b_C_signBelowAll : ByteArray := prog_2_method_9_code
def y_C_signBelowAll : MethodName := ⟨"PlaneCells$CriticalNumbers", "signBelowAll", "(LPlaneCells$Form;)I"⟩
abbrev b_C_signAt : ByteArray := prog_2_method_10_code
def y_C_signAt : MethodName := ⟨"PlaneCells$CriticalNumbers", "signAt", "(IJJJ)I"⟩
abbrev b_F_setA : ByteArray := prog_3_method_2_code
def y_F_setA : MethodName := ⟨"PlaneCells$Form", "setA", "(LPlaneCells$Sentence;I)V"⟩
abbrev b_F_setB : ByteArray := prog_3_method_3_code
def y_F_setB : MethodName := ⟨"PlaneCells$Form", "setB", "(LPlaneCells$Sentence;I)V"⟩
abbrev b_F_setPair : ByteArray := prog_3_method_4_code
def y_F_setPair : MethodName := ⟨"PlaneCells$Form", "setPair", "(LPlaneCells$Sentence;II)V"⟩
abbrev b_Q_cut : ByteArray := prog_4_method_2_code
def y_Q_cut : MethodName := ⟨"PlaneCells$Plane", "cut", "()V"⟩
abbrev b_Q_countColumns : ByteArray := prog_4_method_3_code
def y_Q_countColumns : MethodName := ⟨"PlaneCells$Plane", "countColumns", "()I"⟩
abbrev b_Q_enter : ByteArray := prog_4_method_4_code
def y_Q_enter : MethodName := ⟨"PlaneCells$Plane", "enter", "(I)V"⟩
abbrev b_Q_addZero : ByteArray := prog_4_method_5_code
def y_Q_addZero : MethodName := ⟨"PlaneCells$Plane", "addZero", "(II)V"⟩
abbrev b_Q_signIn : ByteArray := prog_4_method_6_code
def y_Q_signIn : MethodName := ⟨"PlaneCells$Plane", "signIn", "(II)I"⟩
abbrev b_Q_trueIn : ByteArray := prog_4_method_7_code
def y_Q_trueIn : MethodName := ⟨"PlaneCells$Plane", "trueIn", "(I)Z"⟩
abbrev b_Q_columnHolds : ByteArray := prog_4_method_8_code
def y_Q_columnHolds : MethodName := ⟨"PlaneCells$Plane", "columnHolds", "()Z"⟩
abbrev b_R_clear : ByteArray := prog_5_method_2_code
def y_R_clear : MethodName := ⟨"PlaneCells$Reader", "clear", "()V"⟩
abbrev b_R_append : ByteArray := prog_5_method_3_code
def y_R_append : MethodName := ⟨"PlaneCells$Reader", "append", "(C)Z"⟩
abbrev b_R_countOpenings : ByteArray := prog_5_method_4_code
def y_R_countOpenings : MethodName := ⟨"PlaneCells$Reader", "countOpenings", "()I"⟩
abbrev b_R_readSentence : ByteArray := prog_5_method_5_code
def y_R_readSentence : MethodName := ⟨"PlaneCells$Reader", "readSentence", "()Z"⟩
abbrev b_R_takeHead : ByteArray := prog_5_method_6_code
def y_R_takeHead : MethodName := ⟨"PlaneCells$Reader", "takeHead", "()Z"⟩
abbrev b_R_takeQuantifier : ByteArray := prog_5_method_7_code
def y_R_takeQuantifier : MethodName := ⟨"PlaneCells$Reader", "takeQuantifier", "()Z"⟩
abbrev b_R_takeOpenings : ByteArray := prog_5_method_8_code
def y_R_takeOpenings : MethodName := ⟨"PlaneCells$Reader", "takeOpenings", "()V"⟩
abbrev b_R_takeClosings : ByteArray := prog_5_method_9_code
def y_R_takeClosings : MethodName := ⟨"PlaneCells$Reader", "takeClosings", "()V"⟩
abbrev b_R_takeJoint : ByteArray := prog_5_method_10_code
def y_R_takeJoint : MethodName := ⟨"PlaneCells$Reader", "takeJoint", "()Z"⟩
abbrev b_R_hold : ByteArray := prog_5_method_11_code
def y_R_hold : MethodName := ⟨"PlaneCells$Reader", "hold", "(I)V"⟩
abbrev b_R_release : ByteArray := prog_5_method_12_code
def y_R_release : MethodName := ⟨"PlaneCells$Reader", "release", "(I)V"⟩
abbrev b_R_takeAtom : ByteArray := prog_5_method_13_code
def y_R_takeAtom : MethodName := ⟨"PlaneCells$Reader", "takeAtom", "()Z"⟩
abbrev b_R_takeSum : ByteArray := prog_5_method_14_code
def y_R_takeSum : MethodName := ⟨"PlaneCells$Reader", "takeSum", "(I)Z"⟩
abbrev b_R_takeTerm : ByteArray := prog_5_method_15_code
def y_R_takeTerm : MethodName := ⟨"PlaneCells$Reader", "takeTerm", "(I)Z"⟩
abbrev b_R_numberOfLetter : ByteArray := prog_5_method_16_code
def y_R_numberOfLetter : MethodName := ⟨"PlaneCells$Reader", "numberOfLetter", "(C)I"⟩
abbrev b_R_peek : ByteArray := prog_5_method_17_code
def y_R_peek : MethodName := ⟨"PlaneCells$Reader", "peek", "()C"⟩
abbrev b_R_take : ByteArray := prog_5_method_18_code
def y_R_take : MethodName := ⟨"PlaneCells$Reader", "take", "(C)Z"⟩
abbrev b_S_clear : ByteArray := prog_6_method_2_code
def y_S_clear : MethodName := ⟨"PlaneCells$Sentence", "clear", "()V"⟩
abbrev b_S_addAtom : ByteArray := prog_6_method_3_code
def y_S_addAtom : MethodName := ⟨"PlaneCells$Sentence", "addAtom", "([IC)V"⟩
abbrev b_S_addStep : ByteArray := prog_6_method_4_code
def y_S_addStep : MethodName := ⟨"PlaneCells$Sentence", "addStep", "(I)V"⟩
abbrev b_S_fits : ByteArray := prog_6_method_5_code
def y_S_fits : MethodName := ⟨"PlaneCells$Sentence", "fits", "()Z"⟩
abbrev b_S_number : ByteArray := prog_6_method_6_code
def y_S_number : MethodName := ⟨"PlaneCells$Sentence", "number", "(II)I"⟩
abbrev b_S_atomIsTrue : ByteArray := prog_6_method_7_code
def y_S_atomIsTrue : MethodName := ⟨"PlaneCells$Sentence", "atomIsTrue", "(II)Z"⟩
abbrev b_P_write : ByteArray := prog_1_method_2_code
def y_P_write : MethodName := ⟨"PlaneCells", "write", "(C)Z"⟩
abbrev b_P_decide : ByteArray := prog_1_method_3_code
def y_P_decide : MethodName := ⟨"PlaneCells", "decide", "()I"⟩
abbrev b_P_readText : ByteArray := prog_1_method_4_code
def y_P_readText : MethodName := ⟨"PlaneCells", "readText", "()I"⟩
abbrev b_P_place : ByteArray := prog_1_method_5_code
def y_P_place : MethodName := ⟨"PlaneCells", "place", "()I"⟩
abbrev b_P_polynomials : ByteArray := prog_1_method_6_code
def y_P_polynomials : MethodName := ⟨"PlaneCells", "polynomials", "()I"⟩
abbrev b_P_coefficient : ByteArray := prog_1_method_7_code
def y_P_coefficient : MethodName := ⟨"PlaneCells", "coefficient", "(II)I"⟩
abbrev b_P_columns : ByteArray := prog_1_method_8_code
def y_P_columns : MethodName := ⟨"PlaneCells", "columns", "()I"⟩
abbrev b_P_cells : ByteArray := prog_1_method_9_code
def y_P_cells : MethodName := ⟨"PlaneCells", "cells", "(I)I"⟩
abbrev b_P_sign : ByteArray := prog_1_method_10_code
def y_P_sign : MethodName := ⟨"PlaneCells", "sign", "(III)I"⟩
abbrev b_P_truth : ByteArray := prog_1_method_11_code
def y_P_truth : MethodName := ⟨"PlaneCells", "truth", "(II)I"⟩
abbrev b_P_holds : ByteArray := prog_1_method_12_code
def y_P_holds : MethodName := ⟨"PlaneCells", "holds", "(I)I"⟩
abbrev b_P_witness : ByteArray := prog_1_method_13_code
def y_P_witness : MethodName := ⟨"PlaneCells", "witness", "()I"⟩
abbrev b_P_compare : ByteArray := prog_1_method_14_code
def y_P_compare : MethodName := ⟨"PlaneCells", "compare", "(III)I"⟩
abbrev b_P_hasPolynomial : ByteArray := prog_1_method_15_code
def y_P_hasPolynomial : MethodName := ⟨"PlaneCells", "hasPolynomial", "(I)Z"⟩
abbrev b_P_hasColumn : ByteArray := prog_1_method_16_code
def y_P_hasColumn : MethodName := ⟨"PlaneCells", "hasColumn", "(I)Z"⟩
abbrev b_P_hasCell : ByteArray := prog_1_method_17_code
def y_P_hasCell : MethodName := ⟨"PlaneCells", "hasCell", "(I)Z"⟩
abbrev b_P_enterColumn : ByteArray := prog_1_method_18_code
def y_P_enterColumn : MethodName := ⟨"PlaneCells", "enterColumn", "(I)Z"⟩
end
section
theorem wm_1 : (Cond.initialized "PlaneCells") ∈ jx_W := jx_mem 1 (by decide +kernel) rfl
theorem wm_2 : (Cond.initialized "PlaneCells$Sentence") ∈ jx_W := jx_mem 2 (by decide +kernel) rfl
theorem wm_3 : (Cond.initialized "PlaneCells$Reader") ∈ jx_W := jx_mem 3 (by decide +kernel) rfl
theorem wm_4 : (Cond.initialized "PlaneCells$Plane") ∈ jx_W := jx_mem 4 (by decide +kernel) rfl
theorem wm_5 : (Cond.initialized "PlaneCells$CriticalNumbers") ∈ jx_W := jx_mem 5 (by decide +kernel) rfl
theorem wm_6 : (Cond.initialized "PlaneCells$Form") ∈ jx_W := jx_mem 6 (by decide +kernel) rfl
theorem wm_26 : (Cond.fieldLink "PlaneCells$Sentence" 9 "PlaneCells$Sentence" "numbers" "[I") ∈ jx_W := jx_mem 26 (by decide +kernel) rfl
theorem wm_27 : (Cond.fieldLink "PlaneCells$Sentence" 15 "PlaneCells$Sentence" "relations" "[C") ∈ jx_W := jx_mem 27 (by decide +kernel) rfl
theorem wm_28 : (Cond.fieldLink "PlaneCells$Sentence" 19 "PlaneCells$Sentence" "steps" "[I") ∈ jx_W := jx_mem 28 (by decide +kernel) rfl
theorem wm_29 : (Cond.fieldLinkNest "PlaneCells$Plane" 92 "PlaneCells$Sentence" "steps" "[I" "PlaneCells") ∈ jx_Z := jx_memZ 29 (by decide +kernel) rfl
theorem wm_30 : (Cond.fieldLink "PlaneCells$Sentence" 22 "PlaneCells$Sentence" "stepCount" "I") ∈ jx_W := jx_mem 30 (by decide +kernel) rfl
theorem wm_31 : (Cond.fieldLinkNest "PlaneCells$Plane" 89 "PlaneCells$Sentence" "stepCount" "I" "PlaneCells") ∈ jx_Z := jx_memZ 31 (by decide +kernel) rfl
theorem wm_32 : (Cond.fieldLink "PlaneCells$Sentence" 26 "PlaneCells$Sentence" "atoms" "I") ∈ jx_W := jx_mem 32 (by decide +kernel) rfl
theorem wm_33 : (Cond.fieldLinkNest "PlaneCells$Plane" 42 "PlaneCells$Sentence" "atoms" "I" "PlaneCells") ∈ jx_Z := jx_memZ 33 (by decide +kernel) rfl
theorem wm_34 : (Cond.fieldLinkNest "PlaneCells" 84 "PlaneCells$Sentence" "atoms" "I" "PlaneCells") ∈ jx_Z := jx_memZ 34 (by decide +kernel) rfl
theorem wm_35 : (Cond.fieldLinkNest "PlaneCells" 68 "PlaneCells$Sentence" "allX" "Z" "PlaneCells") ∈ jx_Z := jx_memZ 35 (by decide +kernel) rfl
theorem wm_36 : (Cond.fieldLinkNest "PlaneCells$Reader" 71 "PlaneCells$Sentence" "allX" "Z" "PlaneCells") ∈ jx_Z := jx_memZ 36 (by decide +kernel) rfl
theorem wm_37 : (Cond.fieldLinkNest "PlaneCells$Reader" 82 "PlaneCells$Sentence" "allY" "Z" "PlaneCells") ∈ jx_Z := jx_memZ 37 (by decide +kernel) rfl
theorem wm_38 : (Cond.fieldLinkNest "PlaneCells$Plane" 106 "PlaneCells$Sentence" "allY" "Z" "PlaneCells") ∈ jx_Z := jx_memZ 38 (by decide +kernel) rfl
theorem wm_62 : (Cond.fieldLink "PlaneCells$Reader" 22 "PlaneCells$Reader" "sentence" "LPlaneCells$Sentence;") ∈ jx_W := jx_mem 62 (by decide +kernel) rfl
theorem wm_63 : (Cond.fieldLink "PlaneCells$Reader" 9 "PlaneCells$Reader" "text" "[C") ∈ jx_W := jx_mem 63 (by decide +kernel) rfl
theorem wm_64 : (Cond.fieldLink "PlaneCells$Reader" 15 "PlaneCells$Reader" "waiting" "[I") ∈ jx_W := jx_mem 64 (by decide +kernel) rfl
theorem wm_65 : (Cond.fieldLink "PlaneCells$Reader" 19 "PlaneCells$Reader" "sum" "[I") ∈ jx_W := jx_mem 65 (by decide +kernel) rfl
theorem wm_66 : (Cond.fieldLink "PlaneCells$Reader" 26 "PlaneCells$Reader" "written" "I") ∈ jx_W := jx_mem 66 (by decide +kernel) rfl
theorem wm_67 : (Cond.fieldLink "PlaneCells$Reader" 30 "PlaneCells$Reader" "length" "I") ∈ jx_W := jx_mem 67 (by decide +kernel) rfl
theorem wm_68 : (Cond.fieldLinkNest "PlaneCells" 78 "PlaneCells$Reader" "at" "I" "PlaneCells") ∈ jx_Z := jx_memZ 68 (by decide +kernel) rfl
theorem wm_69 : (Cond.fieldLink "PlaneCells$Reader" 33 "PlaneCells$Reader" "at" "I") ∈ jx_W := jx_mem 69 (by decide +kernel) rfl
theorem wm_70 : (Cond.fieldLink "PlaneCells$Reader" 36 "PlaneCells$Reader" "waitingCount" "I") ∈ jx_W := jx_mem 70 (by decide +kernel) rfl
theorem wm_71 : (Cond.fieldLink "PlaneCells$Reader" 39 "PlaneCells$Reader" "open" "I") ∈ jx_W := jx_mem 71 (by decide +kernel) rfl
theorem wm_103 : (Cond.fieldLink "PlaneCells$CriticalNumbers" 9 "PlaneCells$CriticalNumbers" "top" "[I") ∈ jx_W := jx_mem 103 (by decide +kernel) rfl
theorem wm_104 : (Cond.fieldLink "PlaneCells$CriticalNumbers" 15 "PlaneCells$CriticalNumbers" "radicand" "[I") ∈ jx_W := jx_mem 104 (by decide +kernel) rfl
theorem wm_105 : (Cond.fieldLink "PlaneCells$CriticalNumbers" 18 "PlaneCells$CriticalNumbers" "bottom" "[I") ∈ jx_W := jx_mem 105 (by decide +kernel) rfl
theorem wm_106 : (Cond.fieldLink "PlaneCells$CriticalNumbers" 21 "PlaneCells$CriticalNumbers" "count" "I") ∈ jx_W := jx_mem 106 (by decide +kernel) rfl
theorem wm_107 : (Cond.fieldLinkNest "PlaneCells$Plane" 63 "PlaneCells$CriticalNumbers" "count" "I" "PlaneCells") ∈ jx_Z := jx_memZ 107 (by decide +kernel) rfl
theorem wm_123 : (Cond.fieldLink "PlaneCells$Form" 13 "PlaneCells$Form" "constant" "I") ∈ jx_W := jx_mem 123 (by decide +kernel) rfl
theorem wm_124 : (Cond.fieldLinkNest "PlaneCells$CriticalNumbers" 33 "PlaneCells$Form" "constant" "I" "PlaneCells") ∈ jx_Z := jx_memZ 124 (by decide +kernel) rfl
theorem wm_125 : (Cond.fieldLink "PlaneCells$Form" 19 "PlaneCells$Form" "linear" "I") ∈ jx_W := jx_mem 125 (by decide +kernel) rfl
theorem wm_126 : (Cond.fieldLinkNest "PlaneCells$CriticalNumbers" 30 "PlaneCells$Form" "linear" "I" "PlaneCells") ∈ jx_Z := jx_memZ 126 (by decide +kernel) rfl
theorem wm_127 : (Cond.fieldLink "PlaneCells$Form" 22 "PlaneCells$Form" "square" "I") ∈ jx_W := jx_mem 127 (by decide +kernel) rfl
theorem wm_128 : (Cond.fieldLinkNest "PlaneCells$CriticalNumbers" 25 "PlaneCells$Form" "square" "I" "PlaneCells") ∈ jx_Z := jx_memZ 128 (by decide +kernel) rfl
theorem wm_136 : (Cond.fieldLink "PlaneCells$Plane" 35 "PlaneCells$Plane" "sentence" "LPlaneCells$Sentence;") ∈ jx_W := jx_mem 136 (by decide +kernel) rfl
theorem wm_137 : (Cond.fieldLink "PlaneCells$Plane" 12 "PlaneCells$Plane" "critical" "LPlaneCells$CriticalNumbers;") ∈ jx_W := jx_mem 137 (by decide +kernel) rfl
theorem wm_138 : (Cond.fieldLinkNest "PlaneCells" 113 "PlaneCells$Plane" "critical" "LPlaneCells$CriticalNumbers;" "PlaneCells") ∈ jx_Z := jx_memZ 138 (by decide +kernel) rfl
theorem wm_139 : (Cond.fieldLink "PlaneCells$Plane" 21 "PlaneCells$Plane" "form" "LPlaneCells$Form;") ∈ jx_W := jx_mem 139 (by decide +kernel) rfl
theorem wm_140 : (Cond.fieldLink "PlaneCells$Plane" 25 "PlaneCells$Plane" "signOfA" "[I") ∈ jx_W := jx_mem 140 (by decide +kernel) rfl
theorem wm_141 : (Cond.fieldLink "PlaneCells$Plane" 29 "PlaneCells$Plane" "signOfB" "[I") ∈ jx_W := jx_mem 141 (by decide +kernel) rfl
theorem wm_142 : (Cond.fieldLink "PlaneCells$Plane" 32 "PlaneCells$Plane" "zeroCell" "[I") ∈ jx_W := jx_mem 142 (by decide +kernel) rfl
theorem wm_143 : (Cond.fieldLink "PlaneCells$Plane" 66 "PlaneCells$Plane" "cellCount" "I") ∈ jx_W := jx_mem 143 (by decide +kernel) rfl
theorem wm_144 : (Cond.fieldLinkNest "PlaneCells" 98 "PlaneCells$Plane" "cellCount" "I" "PlaneCells") ∈ jx_Z := jx_memZ 144 (by decide +kernel) rfl
theorem wm_160 : (Cond.fieldLink "PlaneCells" 12 "PlaneCells" "sentence" "LPlaneCells$Sentence;") ∈ jx_W := jx_mem 160 (by decide +kernel) rfl
theorem wm_161 : (Cond.fieldLink "PlaneCells" 21 "PlaneCells" "reader" "LPlaneCells$Reader;") ∈ jx_W := jx_mem 161 (by decide +kernel) rfl
theorem wm_162 : (Cond.fieldLink "PlaneCells" 28 "PlaneCells" "plane" "LPlaneCells$Plane;") ∈ jx_W := jx_mem 162 (by decide +kernel) rfl
theorem wm_163 : (Cond.fieldLink "PlaneCells" 32 "PlaneCells" "illPlace" "I") ∈ jx_W := jx_mem 163 (by decide +kernel) rfl
theorem wm_164 : (Cond.fieldLink "PlaneCells" 36 "PlaneCells" "columnCount" "I") ∈ jx_W := jx_mem 164 (by decide +kernel) rfl
theorem wm_165 : (Cond.fieldLink "PlaneCells" 39 "PlaneCells" "witnessColumn" "I") ∈ jx_W := jx_mem 165 (by decide +kernel) rfl
theorem wm_183 : (Cond.methodLink "PlaneCells" 42 ⟨"PlaneCells$Reader", "append", "(C)Z"⟩) ∈ jx_W := jx_mem 183 (by decide +kernel) rfl
theorem wm_184 : (Cond.instanceMethod ⟨"PlaneCells$Reader", "append", "(C)Z"⟩) ∈ jx_W := jx_mem 184 (by decide +kernel) rfl
theorem wm_185 : (Cond.selects "PlaneCells$Reader" ⟨"PlaneCells$Reader", "append", "(C)Z"⟩ ⟨"PlaneCells$Reader", "append", "(C)Z"⟩) ∈ jx_W := jx_mem 185 (by decide +kernel) rfl
theorem wm_186 : (Cond.code y_R_append b_R_append 2 (some .boolean)) ∈ jx_W := jx_mem 186 rfl rfl
theorem wm_191 : (Cond.methodLink "PlaneCells" 46 ⟨"PlaneCells", "readText", "()I"⟩) ∈ jx_W := jx_mem 191 (by decide +kernel) rfl
theorem wm_193 : (Cond.instanceMethod ⟨"PlaneCells", "readText", "()I"⟩) ∈ jx_W := jx_mem 193 (by decide +kernel) rfl
theorem wm_194 : (Cond.code y_P_readText b_P_readText 1 (some .int)) ∈ jx_W := jx_mem 194 rfl rfl
theorem wm_195 : (Cond.methodLink "PlaneCells" 72 ⟨"PlaneCells$Reader", "countOpenings", "()I"⟩) ∈ jx_W := jx_mem 195 (by decide +kernel) rfl
theorem wm_196 : (Cond.instanceMethod ⟨"PlaneCells$Reader", "countOpenings", "()I"⟩) ∈ jx_W := jx_mem 196 (by decide +kernel) rfl
theorem wm_197 : (Cond.selects "PlaneCells$Reader" ⟨"PlaneCells$Reader", "countOpenings", "()I"⟩ ⟨"PlaneCells$Reader", "countOpenings", "()I"⟩) ∈ jx_W := jx_mem 197 (by decide +kernel) rfl
theorem wm_198 : (Cond.code y_R_countOpenings b_R_countOpenings 3 (some .int)) ∈ jx_W := jx_mem 198 rfl rfl
theorem wm_199 : (Cond.methodLink "PlaneCells" 75 ⟨"PlaneCells$Reader", "readSentence", "()Z"⟩) ∈ jx_W := jx_mem 199 (by decide +kernel) rfl
theorem wm_200 : (Cond.instanceMethod ⟨"PlaneCells$Reader", "readSentence", "()Z"⟩) ∈ jx_W := jx_mem 200 (by decide +kernel) rfl
theorem wm_201 : (Cond.selects "PlaneCells$Reader" ⟨"PlaneCells$Reader", "readSentence", "()Z"⟩ ⟨"PlaneCells$Reader", "readSentence", "()Z"⟩) ∈ jx_W := jx_mem 201 (by decide +kernel) rfl
theorem wm_202 : (Cond.code y_R_readSentence b_R_readSentence 2 (some .boolean)) ∈ jx_W := jx_mem 202 rfl rfl
theorem wm_203 : (Cond.methodLink "PlaneCells$Reader" 42 ⟨"PlaneCells$Sentence", "clear", "()V"⟩) ∈ jx_W := jx_mem 203 (by decide +kernel) rfl
theorem wm_204 : (Cond.instanceMethod ⟨"PlaneCells$Sentence", "clear", "()V"⟩) ∈ jx_W := jx_mem 204 (by decide +kernel) rfl
theorem wm_205 : (Cond.selects "PlaneCells$Sentence" ⟨"PlaneCells$Sentence", "clear", "()V"⟩ ⟨"PlaneCells$Sentence", "clear", "()V"⟩) ∈ jx_W := jx_mem 205 (by decide +kernel) rfl
theorem wm_206 : (Cond.code y_S_clear b_S_clear 1 none) ∈ jx_W := jx_mem 206 rfl rfl
theorem wm_207 : (Cond.methodLink "PlaneCells$Reader" 47 ⟨"PlaneCells$Reader", "takeHead", "()Z"⟩) ∈ jx_W := jx_mem 207 (by decide +kernel) rfl
theorem wm_209 : (Cond.instanceMethod ⟨"PlaneCells$Reader", "takeHead", "()Z"⟩) ∈ jx_W := jx_mem 209 (by decide +kernel) rfl
theorem wm_210 : (Cond.code y_R_takeHead b_R_takeHead 1 (some .boolean)) ∈ jx_W := jx_mem 210 rfl rfl
theorem wm_211 : (Cond.methodLink "PlaneCells$Reader" 67 ⟨"PlaneCells$Reader", "peek", "()C"⟩) ∈ jx_W := jx_mem 211 (by decide +kernel) rfl
theorem wm_213 : (Cond.instanceMethod ⟨"PlaneCells$Reader", "peek", "()C"⟩) ∈ jx_W := jx_mem 213 (by decide +kernel) rfl
theorem wm_214 : (Cond.code y_R_peek b_R_peek 1 (some .char)) ∈ jx_W := jx_mem 214 rfl rfl
theorem wm_215 : (Cond.methodLink "PlaneCells$Reader" 75 ⟨"PlaneCells$Reader", "takeQuantifier", "()Z"⟩) ∈ jx_W := jx_mem 215 (by decide +kernel) rfl
theorem wm_217 : (Cond.instanceMethod ⟨"PlaneCells$Reader", "takeQuantifier", "()Z"⟩) ∈ jx_W := jx_mem 217 (by decide +kernel) rfl
theorem wm_218 : (Cond.code y_R_takeQuantifier b_R_takeQuantifier 1 (some .boolean)) ∈ jx_W := jx_mem 218 rfl rfl
theorem wm_219 : (Cond.methodLink "PlaneCells$Reader" 78 ⟨"PlaneCells$Reader", "take", "(C)Z"⟩) ∈ jx_W := jx_mem 219 (by decide +kernel) rfl
theorem wm_221 : (Cond.instanceMethod ⟨"PlaneCells$Reader", "take", "(C)Z"⟩) ∈ jx_W := jx_mem 221 (by decide +kernel) rfl
theorem wm_222 : (Cond.code y_R_take b_R_take 2 (some .boolean)) ∈ jx_W := jx_mem 222 rfl rfl
theorem wm_223 : (Cond.methodLink "PlaneCells$Reader" 51 ⟨"PlaneCells$Reader", "takeOpenings", "()V"⟩) ∈ jx_W := jx_mem 223 (by decide +kernel) rfl
theorem wm_225 : (Cond.instanceMethod ⟨"PlaneCells$Reader", "takeOpenings", "()V"⟩) ∈ jx_W := jx_mem 225 (by decide +kernel) rfl
theorem wm_226 : (Cond.code y_R_takeOpenings b_R_takeOpenings 1 none) ∈ jx_W := jx_mem 226 rfl rfl
theorem wm_227 : (Cond.methodLink "PlaneCells$Reader" 85 ⟨"PlaneCells$Reader", "hold", "(I)V"⟩) ∈ jx_W := jx_mem 227 (by decide +kernel) rfl
theorem wm_229 : (Cond.instanceMethod ⟨"PlaneCells$Reader", "hold", "(I)V"⟩) ∈ jx_W := jx_mem 229 (by decide +kernel) rfl
theorem wm_230 : (Cond.code y_R_hold b_R_hold 2 none) ∈ jx_W := jx_mem 230 rfl rfl
theorem wm_231 : (Cond.methodLink "PlaneCells$Reader" 54 ⟨"PlaneCells$Reader", "takeAtom", "()Z"⟩) ∈ jx_W := jx_mem 231 (by decide +kernel) rfl
theorem wm_233 : (Cond.instanceMethod ⟨"PlaneCells$Reader", "takeAtom", "()Z"⟩) ∈ jx_W := jx_mem 233 (by decide +kernel) rfl
theorem wm_234 : (Cond.code y_R_takeAtom b_R_takeAtom 3 (some .boolean)) ∈ jx_W := jx_mem 234 rfl rfl
theorem wm_235 : (Cond.methodLink "PlaneCells$Reader" 91 ⟨"PlaneCells$Reader", "takeSum", "(I)Z"⟩) ∈ jx_W := jx_mem 235 (by decide +kernel) rfl
theorem wm_237 : (Cond.instanceMethod ⟨"PlaneCells$Reader", "takeSum", "(I)Z"⟩) ∈ jx_W := jx_mem 237 (by decide +kernel) rfl
theorem wm_238 : (Cond.code y_R_takeSum b_R_takeSum 4 (some .boolean)) ∈ jx_W := jx_mem 238 rfl rfl
theorem wm_239 : (Cond.methodLink "PlaneCells$Reader" 99 ⟨"PlaneCells$Reader", "takeTerm", "(I)Z"⟩) ∈ jx_W := jx_mem 239 (by decide +kernel) rfl
theorem wm_241 : (Cond.instanceMethod ⟨"PlaneCells$Reader", "takeTerm", "(I)Z"⟩) ∈ jx_W := jx_mem 241 (by decide +kernel) rfl
theorem wm_242 : (Cond.code y_R_takeTerm b_R_takeTerm 8 (some .boolean)) ∈ jx_W := jx_mem 242 rfl rfl
theorem wm_243 : (Cond.methodLink "PlaneCells$Reader" 102 ⟨"PlaneCells$Reader", "numberOfLetter", "(C)I"⟩) ∈ jx_W := jx_mem 243 (by decide +kernel) rfl
theorem wm_244 : (Cond.static ⟨"PlaneCells$Reader", "numberOfLetter", "(C)I"⟩) ∈ jx_W := jx_mem 244 (by decide +kernel) rfl
theorem wm_245 : (Cond.code y_R_numberOfLetter b_R_numberOfLetter 1 (some .int)) ∈ jx_W := jx_mem 245 rfl rfl
theorem wm_246 : (Cond.methodLink "PlaneCells$Reader" 95 ⟨"PlaneCells$Sentence", "addAtom", "([IC)V"⟩) ∈ jx_W := jx_mem 246 (by decide +kernel) rfl
theorem wm_247 : (Cond.instanceMethod ⟨"PlaneCells$Sentence", "addAtom", "([IC)V"⟩) ∈ jx_W := jx_mem 247 (by decide +kernel) rfl
theorem wm_248 : (Cond.selects "PlaneCells$Sentence" ⟨"PlaneCells$Sentence", "addAtom", "([IC)V"⟩ ⟨"PlaneCells$Sentence", "addAtom", "([IC)V"⟩) ∈ jx_W := jx_mem 248 (by decide +kernel) rfl
theorem wm_249 : (Cond.code y_S_addAtom b_S_addAtom 3 none) ∈ jx_W := jx_mem 249 rfl rfl
theorem wm_253 : (Cond.methodLink "PlaneCells$Sentence" 35 ⟨"PlaneCells$Sentence", "addStep", "(I)V"⟩) ∈ jx_W := jx_mem 253 (by decide +kernel) rfl
theorem wm_254 : (Cond.instanceMethod ⟨"PlaneCells$Sentence", "addStep", "(I)V"⟩) ∈ jx_W := jx_mem 254 (by decide +kernel) rfl
theorem wm_255 : (Cond.selects "PlaneCells$Sentence" ⟨"PlaneCells$Sentence", "addStep", "(I)V"⟩ ⟨"PlaneCells$Sentence", "addStep", "(I)V"⟩) ∈ jx_W := jx_mem 255 (by decide +kernel) rfl
theorem wm_256 : (Cond.code y_S_addStep b_S_addStep 2 none) ∈ jx_W := jx_mem 256 rfl rfl
theorem wm_257 : (Cond.methodLink "PlaneCells$Reader" 57 ⟨"PlaneCells$Reader", "takeClosings", "()V"⟩) ∈ jx_W := jx_mem 257 (by decide +kernel) rfl
theorem wm_259 : (Cond.instanceMethod ⟨"PlaneCells$Reader", "takeClosings", "()V"⟩) ∈ jx_W := jx_mem 259 (by decide +kernel) rfl
theorem wm_260 : (Cond.code y_R_takeClosings b_R_takeClosings 1 none) ∈ jx_W := jx_mem 260 rfl rfl
theorem wm_261 : (Cond.methodLink "PlaneCells$Reader" 63 ⟨"PlaneCells$Reader", "release", "(I)V"⟩) ∈ jx_W := jx_mem 261 (by decide +kernel) rfl
theorem wm_263 : (Cond.instanceMethod ⟨"PlaneCells$Reader", "release", "(I)V"⟩) ∈ jx_W := jx_mem 263 (by decide +kernel) rfl
theorem wm_264 : (Cond.code y_R_release b_R_release 2 none) ∈ jx_W := jx_mem 264 rfl rfl
theorem wm_265 : (Cond.methodLink "PlaneCells$Reader" 88 ⟨"PlaneCells$Sentence", "addStep", "(I)V"⟩) ∈ jx_W := jx_mem 265 (by decide +kernel) rfl
theorem wm_266 : (Cond.methodLink "PlaneCells$Reader" 60 ⟨"PlaneCells$Reader", "takeJoint", "()Z"⟩) ∈ jx_W := jx_mem 266 (by decide +kernel) rfl
theorem wm_268 : (Cond.instanceMethod ⟨"PlaneCells$Reader", "takeJoint", "()Z"⟩) ∈ jx_W := jx_mem 268 (by decide +kernel) rfl
theorem wm_269 : (Cond.code y_R_takeJoint b_R_takeJoint 2 (some .boolean)) ∈ jx_W := jx_mem 269 rfl rfl
theorem wm_270 : (Cond.methodLink "PlaneCells" 81 ⟨"PlaneCells$Sentence", "fits", "()Z"⟩) ∈ jx_W := jx_mem 270 (by decide +kernel) rfl
theorem wm_271 : (Cond.instanceMethod ⟨"PlaneCells$Sentence", "fits", "()Z"⟩) ∈ jx_W := jx_mem 271 (by decide +kernel) rfl
theorem wm_272 : (Cond.selects "PlaneCells$Sentence" ⟨"PlaneCells$Sentence", "fits", "()Z"⟩ ⟨"PlaneCells$Sentence", "fits", "()Z"⟩) ∈ jx_W := jx_mem 272 (by decide +kernel) rfl
theorem wm_273 : (Cond.code y_S_fits b_S_fits 2 (some .boolean)) ∈ jx_W := jx_mem 273 rfl rfl
theorem wm_274 : (Cond.methodLink "PlaneCells" 50 ⟨"PlaneCells$Reader", "clear", "()V"⟩) ∈ jx_W := jx_mem 274 (by decide +kernel) rfl
theorem wm_275 : (Cond.instanceMethod ⟨"PlaneCells$Reader", "clear", "()V"⟩) ∈ jx_W := jx_mem 275 (by decide +kernel) rfl
theorem wm_276 : (Cond.selects "PlaneCells$Reader" ⟨"PlaneCells$Reader", "clear", "()V"⟩ ⟨"PlaneCells$Reader", "clear", "()V"⟩) ∈ jx_W := jx_mem 276 (by decide +kernel) rfl
theorem wm_277 : (Cond.code y_R_clear b_R_clear 1 none) ∈ jx_W := jx_mem 277 rfl rfl
theorem wm_278 : (Cond.methodLink "PlaneCells" 53 ⟨"PlaneCells$Sentence", "clear", "()V"⟩) ∈ jx_W := jx_mem 278 (by decide +kernel) rfl
theorem wm_279 : (Cond.methodLink "PlaneCells" 54 ⟨"PlaneCells$Plane", "cut", "()V"⟩) ∈ jx_W := jx_mem 279 (by decide +kernel) rfl
theorem wm_280 : (Cond.instanceMethod ⟨"PlaneCells$Plane", "cut", "()V"⟩) ∈ jx_W := jx_mem 280 (by decide +kernel) rfl
theorem wm_281 : (Cond.selects "PlaneCells$Plane" ⟨"PlaneCells$Plane", "cut", "()V"⟩ ⟨"PlaneCells$Plane", "cut", "()V"⟩) ∈ jx_W := jx_mem 281 (by decide +kernel) rfl
theorem wm_282 : (Cond.code y_Q_cut b_Q_cut 3 none) ∈ jx_W := jx_mem 282 rfl rfl
theorem wm_283 : (Cond.methodLink "PlaneCells$Plane" 39 ⟨"PlaneCells$CriticalNumbers", "clear", "()V"⟩) ∈ jx_W := jx_mem 283 (by decide +kernel) rfl
theorem wm_284 : (Cond.instanceMethod ⟨"PlaneCells$CriticalNumbers", "clear", "()V"⟩) ∈ jx_W := jx_mem 284 (by decide +kernel) rfl
theorem wm_285 : (Cond.selects "PlaneCells$CriticalNumbers" ⟨"PlaneCells$CriticalNumbers", "clear", "()V"⟩ ⟨"PlaneCells$CriticalNumbers", "clear", "()V"⟩) ∈ jx_W := jx_mem 285 (by decide +kernel) rfl
theorem wm_286 : (Cond.code y_C_clear b_C_clear 1 none) ∈ jx_W := jx_mem 286 rfl rfl
theorem wm_287 : (Cond.methodLink "PlaneCells$Plane" 48 ⟨"PlaneCells$Form", "setA", "(LPlaneCells$Sentence;I)V"⟩) ∈ jx_W := jx_mem 287 (by decide +kernel) rfl
theorem wm_288 : (Cond.instanceMethod ⟨"PlaneCells$Form", "setA", "(LPlaneCells$Sentence;I)V"⟩) ∈ jx_W := jx_mem 288 (by decide +kernel) rfl
theorem wm_289 : (Cond.selects "PlaneCells$Form" ⟨"PlaneCells$Form", "setA", "(LPlaneCells$Sentence;I)V"⟩ ⟨"PlaneCells$Form", "setA", "(LPlaneCells$Sentence;I)V"⟩) ∈ jx_W := jx_mem 289 (by decide +kernel) rfl
theorem wm_290 : (Cond.code y_F_setA b_F_setA 3 none) ∈ jx_W := jx_mem 290 rfl rfl
theorem wm_291 : (Cond.methodLink "PlaneCells$Form" 7 ⟨"PlaneCells$Sentence", "number", "(II)I"⟩) ∈ jx_W := jx_mem 291 (by decide +kernel) rfl
theorem wm_292 : (Cond.instanceMethod ⟨"PlaneCells$Sentence", "number", "(II)I"⟩) ∈ jx_W := jx_mem 292 (by decide +kernel) rfl
theorem wm_293 : (Cond.selects "PlaneCells$Sentence" ⟨"PlaneCells$Sentence", "number", "(II)I"⟩ ⟨"PlaneCells$Sentence", "number", "(II)I"⟩) ∈ jx_W := jx_mem 293 (by decide +kernel) rfl
theorem wm_294 : (Cond.code y_S_number b_S_number 3 (some .int)) ∈ jx_W := jx_mem 294 rfl rfl
theorem wm_295 : (Cond.methodLink "PlaneCells$Plane" 52 ⟨"PlaneCells$CriticalNumbers", "addZerosOf", "(LPlaneCells$Form;)V"⟩) ∈ jx_W := jx_mem 295 (by decide +kernel) rfl
theorem wm_296 : (Cond.instanceMethod ⟨"PlaneCells$CriticalNumbers", "addZerosOf", "(LPlaneCells$Form;)V"⟩) ∈ jx_W := jx_mem 296 (by decide +kernel) rfl
theorem wm_297 : (Cond.selects "PlaneCells$CriticalNumbers" ⟨"PlaneCells$CriticalNumbers", "addZerosOf", "(LPlaneCells$Form;)V"⟩ ⟨"PlaneCells$CriticalNumbers", "addZerosOf", "(LPlaneCells$Form;)V"⟩) ∈ jx_W := jx_mem 297 (by decide +kernel) rfl
theorem wm_298 : (Cond.code y_C_addZerosOf b_C_addZerosOf 4 none) ∈ jx_W := jx_mem 298 rfl rfl
theorem wm_299 : (Cond.methodLink "PlaneCells$CriticalNumbers" 36 Lib.Math.abs.name) ∈ jx_W := jx_mem 299 (by decide +kernel) rfl
theorem wm_302 : (Cond.methodLink "PlaneCells$CriticalNumbers" 42 ⟨"PlaneCells$CriticalNumbers", "add", "(III)V"⟩) ∈ jx_W := jx_mem 302 (by decide +kernel) rfl
theorem wm_304 : (Cond.instanceMethod ⟨"PlaneCells$CriticalNumbers", "add", "(III)V"⟩) ∈ jx_W := jx_mem 304 (by decide +kernel) rfl
theorem wm_305 : (Cond.code y_C_add b_C_add 6 none) ∈ jx_W := jx_mem 305 rfl rfl
theorem wm_306 : (Cond.methodLink "PlaneCells$CriticalNumbers" 46 ⟨"PlaneCells$CriticalNumbers", "signOfDifference", "(IIII)I"⟩) ∈ jx_W := jx_mem 306 (by decide +kernel) rfl
theorem wm_308 : (Cond.instanceMethod ⟨"PlaneCells$CriticalNumbers", "signOfDifference", "(IIII)I"⟩) ∈ jx_W := jx_mem 308 (by decide +kernel) rfl
theorem wm_309 : (Cond.code y_C_signOfDifference b_C_signOfDifference 11 (some .int)) ∈ jx_W := jx_mem 309 rfl rfl
theorem wm_310 : (Cond.methodLink "PlaneCells$CriticalNumbers" 54 ⟨"PlaneCells$CriticalNumbers", "signWithRoots", "(JJJ)I"⟩) ∈ jx_W := jx_mem 310 (by decide +kernel) rfl
theorem wm_311 : (Cond.static ⟨"PlaneCells$CriticalNumbers", "signWithRoots", "(JJJ)I"⟩) ∈ jx_W := jx_mem 311 (by decide +kernel) rfl
theorem wm_312 : (Cond.code y_C_signWithRoots b_C_signWithRoots 10 (some .int)) ∈ jx_W := jx_mem 312 rfl rfl
theorem wm_313 : (Cond.methodLink "PlaneCells$CriticalNumbers" 58 ⟨"java/lang/Long", "signum", "(J)I"⟩) ∈ jx_W := jx_mem 313 (by decide +kernel) rfl
theorem wm_316 : (Cond.methodLink "PlaneCells$CriticalNumbers" 64 Lib.MathLoose.abs_long.x) ∈ jx_W := jx_mem 316 (by decide +kernel) rfl
theorem wm_319 : (Cond.constantLong "PlaneCells$CriticalNumbers" 67 4) ∈ jx_W := jx_mem 319 (by decide +kernel) rfl
theorem wm_320 : (Cond.methodLink "PlaneCells$CriticalNumbers" 50 ⟨"PlaneCells$CriticalNumbers", "insert", "(IIII)V"⟩) ∈ jx_W := jx_mem 320 (by decide +kernel) rfl
theorem wm_322 : (Cond.instanceMethod ⟨"PlaneCells$CriticalNumbers", "insert", "(IIII)V"⟩) ∈ jx_W := jx_mem 322 (by decide +kernel) rfl
theorem wm_323 : (Cond.code y_C_insert b_C_insert 6 none) ∈ jx_W := jx_mem 323 rfl rfl
theorem wm_324 : (Cond.methodLink "PlaneCells$Plane" 56 ⟨"PlaneCells$Form", "setB", "(LPlaneCells$Sentence;I)V"⟩) ∈ jx_W := jx_mem 324 (by decide +kernel) rfl
theorem wm_325 : (Cond.instanceMethod ⟨"PlaneCells$Form", "setB", "(LPlaneCells$Sentence;I)V"⟩) ∈ jx_W := jx_mem 325 (by decide +kernel) rfl
theorem wm_326 : (Cond.selects "PlaneCells$Form" ⟨"PlaneCells$Form", "setB", "(LPlaneCells$Sentence;I)V"⟩ ⟨"PlaneCells$Form", "setB", "(LPlaneCells$Sentence;I)V"⟩) ∈ jx_W := jx_mem 326 (by decide +kernel) rfl
theorem wm_327 : (Cond.code y_F_setB b_F_setB 3 none) ∈ jx_W := jx_mem 327 rfl rfl
theorem wm_328 : (Cond.methodLink "PlaneCells$Plane" 59 ⟨"PlaneCells$Form", "setPair", "(LPlaneCells$Sentence;II)V"⟩) ∈ jx_W := jx_mem 328 (by decide +kernel) rfl
theorem wm_329 : (Cond.instanceMethod ⟨"PlaneCells$Form", "setPair", "(LPlaneCells$Sentence;II)V"⟩) ∈ jx_W := jx_mem 329 (by decide +kernel) rfl
theorem wm_330 : (Cond.selects "PlaneCells$Form" ⟨"PlaneCells$Form", "setPair", "(LPlaneCells$Sentence;II)V"⟩ ⟨"PlaneCells$Form", "setPair", "(LPlaneCells$Sentence;II)V"⟩) ∈ jx_W := jx_mem 330 (by decide +kernel) rfl
theorem wm_331 : (Cond.code y_F_setPair b_F_setPair 4 none) ∈ jx_W := jx_mem 331 rfl rfl
theorem wm_332 : (Cond.methodLink "PlaneCells" 57 ⟨"PlaneCells$Plane", "countColumns", "()I"⟩) ∈ jx_W := jx_mem 332 (by decide +kernel) rfl
theorem wm_333 : (Cond.instanceMethod ⟨"PlaneCells$Plane", "countColumns", "()I"⟩) ∈ jx_W := jx_mem 333 (by decide +kernel) rfl
theorem wm_334 : (Cond.selects "PlaneCells$Plane" ⟨"PlaneCells$Plane", "countColumns", "()I"⟩ ⟨"PlaneCells$Plane", "countColumns", "()I"⟩) ∈ jx_W := jx_mem 334 (by decide +kernel) rfl
theorem wm_335 : (Cond.code y_Q_countColumns b_Q_countColumns 1 (some .int)) ∈ jx_W := jx_mem 335 rfl rfl
theorem wm_336 : (Cond.methodLink "PlaneCells" 60 ⟨"PlaneCells$Plane", "enter", "(I)V"⟩) ∈ jx_W := jx_mem 336 (by decide +kernel) rfl
theorem wm_337 : (Cond.instanceMethod ⟨"PlaneCells$Plane", "enter", "(I)V"⟩) ∈ jx_W := jx_mem 337 (by decide +kernel) rfl
theorem wm_338 : (Cond.selects "PlaneCells$Plane" ⟨"PlaneCells$Plane", "enter", "(I)V"⟩ ⟨"PlaneCells$Plane", "enter", "(I)V"⟩) ∈ jx_W := jx_mem 338 (by decide +kernel) rfl
theorem wm_339 : (Cond.code y_Q_enter b_Q_enter 3 none) ∈ jx_W := jx_mem 339 rfl rfl
theorem wm_340 : (Cond.methodLink "PlaneCells$Plane" 69 ⟨"PlaneCells$CriticalNumbers", "signInColumn", "(ILPlaneCells$Form;)I"⟩) ∈ jx_W := jx_mem 340 (by decide +kernel) rfl
theorem wm_341 : (Cond.instanceMethod ⟨"PlaneCells$CriticalNumbers", "signInColumn", "(ILPlaneCells$Form;)I"⟩) ∈ jx_W := jx_mem 341 (by decide +kernel) rfl
theorem wm_342 : (Cond.selects "PlaneCells$CriticalNumbers" ⟨"PlaneCells$CriticalNumbers", "signInColumn", "(ILPlaneCells$Form;)I"⟩ ⟨"PlaneCells$CriticalNumbers", "signInColumn", "(ILPlaneCells$Form;)I"⟩) ∈ jx_W := jx_mem 342 (by decide +kernel) rfl
theorem wm_343 : (Cond.code y_C_signInColumn b_C_signInColumn 6 (some .int)) ∈ jx_W := jx_mem 343 rfl rfl
theorem wm_344 : (Cond.methodLink "PlaneCells$CriticalNumbers" 69 ⟨"PlaneCells$CriticalNumbers", "signBelowAll", "(LPlaneCells$Form;)I"⟩) ∈ jx_W := jx_mem 344 (by decide +kernel) rfl
theorem wm_345 : (Cond.static ⟨"PlaneCells$CriticalNumbers", "signBelowAll", "(LPlaneCells$Form;)I"⟩) ∈ jx_W := jx_mem 345 (by decide +kernel) rfl
theorem wm_346 : (Cond.code y_C_signBelowAll b_C_signBelowAll 1 (some .int)) ∈ jx_W := jx_mem 346 rfl rfl
theorem wm_347 : (Cond.methodLink "PlaneCells$CriticalNumbers" 77 ⟨"java/lang/Integer", "signum", "(I)I"⟩) ∈ jx_W := jx_mem 347 (by decide +kernel) rfl
theorem wm_350 : (Cond.methodLink "PlaneCells$CriticalNumbers" 73 ⟨"PlaneCells$CriticalNumbers", "signAt", "(IJJJ)I"⟩) ∈ jx_W := jx_mem 350 (by decide +kernel) rfl
theorem wm_351 : (Cond.instanceMethod ⟨"PlaneCells$CriticalNumbers", "signAt", "(IJJJ)I"⟩) ∈ jx_W := jx_mem 351 (by decide +kernel) rfl
theorem wm_352 : (Cond.selects "PlaneCells$CriticalNumbers" ⟨"PlaneCells$CriticalNumbers", "signAt", "(IJJJ)I"⟩ ⟨"PlaneCells$CriticalNumbers", "signAt", "(IJJJ)I"⟩) ∈ jx_W := jx_mem 352 (by decide +kernel) rfl
theorem wm_353 : (Cond.code y_C_signAt b_C_signAt 18 (some .int)) ∈ jx_W := jx_mem 353 rfl rfl
theorem wm_354 : (Cond.constantLong "PlaneCells$CriticalNumbers" 81 2) ∈ jx_W := jx_mem 354 (by decide +kernel) rfl
theorem wm_355 : (Cond.methodLink "PlaneCells$Plane" 73 ⟨"PlaneCells$Plane", "addZero", "(II)V"⟩) ∈ jx_W := jx_mem 355 (by decide +kernel) rfl
theorem wm_357 : (Cond.instanceMethod ⟨"PlaneCells$Plane", "addZero", "(II)V"⟩) ∈ jx_W := jx_mem 357 (by decide +kernel) rfl
theorem wm_358 : (Cond.code y_Q_addZero b_Q_addZero 6 none) ∈ jx_W := jx_mem 358 rfl rfl
theorem wm_359 : (Cond.methodLink "PlaneCells$Plane" 77 Lib.Math.max.name) ∈ jx_W := jx_mem 359 (by decide +kernel) rfl
theorem wm_362 : (Cond.methodLink "PlaneCells" 64 ⟨"PlaneCells$Plane", "columnHolds", "()Z"⟩) ∈ jx_W := jx_mem 362 (by decide +kernel) rfl
theorem wm_363 : (Cond.instanceMethod ⟨"PlaneCells$Plane", "columnHolds", "()Z"⟩) ∈ jx_W := jx_mem 363 (by decide +kernel) rfl
theorem wm_364 : (Cond.selects "PlaneCells$Plane" ⟨"PlaneCells$Plane", "columnHolds", "()Z"⟩ ⟨"PlaneCells$Plane", "columnHolds", "()Z"⟩) ∈ jx_W := jx_mem 364 (by decide +kernel) rfl
theorem wm_365 : (Cond.code y_Q_columnHolds b_Q_columnHolds 2 (some .boolean)) ∈ jx_W := jx_mem 365 rfl rfl
theorem wm_366 : (Cond.methodLink "PlaneCells$Plane" 102 ⟨"PlaneCells$Plane", "trueIn", "(I)Z"⟩) ∈ jx_W := jx_mem 366 (by decide +kernel) rfl
theorem wm_367 : (Cond.instanceMethod ⟨"PlaneCells$Plane", "trueIn", "(I)Z"⟩) ∈ jx_W := jx_mem 367 (by decide +kernel) rfl
theorem wm_368 : (Cond.selects "PlaneCells$Plane" ⟨"PlaneCells$Plane", "trueIn", "(I)Z"⟩ ⟨"PlaneCells$Plane", "trueIn", "(I)Z"⟩) ∈ jx_W := jx_mem 368 (by decide +kernel) rfl
theorem wm_369 : (Cond.code y_Q_trueIn b_Q_trueIn 6 (some .boolean)) ∈ jx_W := jx_mem 369 rfl rfl
theorem wm_370 : (Cond.methodLink "PlaneCells$Plane" 95 ⟨"PlaneCells$Plane", "signIn", "(II)I"⟩) ∈ jx_W := jx_mem 370 (by decide +kernel) rfl
theorem wm_371 : (Cond.instanceMethod ⟨"PlaneCells$Plane", "signIn", "(II)I"⟩) ∈ jx_W := jx_mem 371 (by decide +kernel) rfl
theorem wm_372 : (Cond.selects "PlaneCells$Plane" ⟨"PlaneCells$Plane", "signIn", "(II)I"⟩ ⟨"PlaneCells$Plane", "signIn", "(II)I"⟩) ∈ jx_W := jx_mem 372 (by decide +kernel) rfl
theorem wm_373 : (Cond.code y_Q_signIn b_Q_signIn 3 (some .int)) ∈ jx_W := jx_mem 373 rfl rfl
theorem wm_374 : (Cond.methodLink "PlaneCells$Plane" 83 ⟨"java/lang/Integer", "signum", "(I)I"⟩) ∈ jx_W := jx_mem 374 (by decide +kernel) rfl
theorem wm_375 : (Cond.methodLink "PlaneCells$Plane" 98 ⟨"PlaneCells$Sentence", "atomIsTrue", "(II)Z"⟩) ∈ jx_W := jx_mem 375 (by decide +kernel) rfl
theorem wm_376 : (Cond.instanceMethod ⟨"PlaneCells$Sentence", "atomIsTrue", "(II)Z"⟩) ∈ jx_W := jx_mem 376 (by decide +kernel) rfl
theorem wm_377 : (Cond.selects "PlaneCells$Sentence" ⟨"PlaneCells$Sentence", "atomIsTrue", "(II)Z"⟩ ⟨"PlaneCells$Sentence", "atomIsTrue", "(II)Z"⟩) ∈ jx_W := jx_mem 377 (by decide +kernel) rfl
theorem wm_378 : (Cond.code y_S_atomIsTrue b_S_atomIsTrue 3 (some .boolean)) ∈ jx_W := jx_mem 378 rfl rfl
theorem wm_391 : (Cond.methodLink "PlaneCells" 87 ⟨"PlaneCells", "hasPolynomial", "(I)Z"⟩) ∈ jx_W := jx_mem 391 (by decide +kernel) rfl
theorem wm_393 : (Cond.instanceMethod ⟨"PlaneCells", "hasPolynomial", "(I)Z"⟩) ∈ jx_W := jx_mem 393 (by decide +kernel) rfl
theorem wm_394 : (Cond.code y_P_hasPolynomial b_P_hasPolynomial 2 (some .boolean)) ∈ jx_W := jx_mem 394 rfl rfl
theorem wm_395 : (Cond.methodLink "PlaneCells" 91 ⟨"PlaneCells$Sentence", "number", "(II)I"⟩) ∈ jx_W := jx_mem 395 (by decide +kernel) rfl
theorem wm_404 : (Cond.methodLink "PlaneCells" 95 ⟨"PlaneCells", "enterColumn", "(I)Z"⟩) ∈ jx_W := jx_mem 404 (by decide +kernel) rfl
theorem wm_406 : (Cond.instanceMethod ⟨"PlaneCells", "enterColumn", "(I)Z"⟩) ∈ jx_W := jx_mem 406 (by decide +kernel) rfl
theorem wm_407 : (Cond.code y_P_enterColumn b_P_enterColumn 2 (some .boolean)) ∈ jx_W := jx_mem 407 rfl rfl
theorem wm_408 : (Cond.methodLink "PlaneCells" 110 ⟨"PlaneCells", "hasColumn", "(I)Z"⟩) ∈ jx_W := jx_mem 408 (by decide +kernel) rfl
theorem wm_410 : (Cond.instanceMethod ⟨"PlaneCells", "hasColumn", "(I)Z"⟩) ∈ jx_W := jx_mem 410 (by decide +kernel) rfl
theorem wm_411 : (Cond.code y_P_hasColumn b_P_hasColumn 2 (some .boolean)) ∈ jx_W := jx_mem 411 rfl rfl
theorem wm_416 : (Cond.methodLink "PlaneCells" 101 ⟨"PlaneCells", "hasCell", "(I)Z"⟩) ∈ jx_W := jx_mem 416 (by decide +kernel) rfl
theorem wm_418 : (Cond.instanceMethod ⟨"PlaneCells", "hasCell", "(I)Z"⟩) ∈ jx_W := jx_mem 418 (by decide +kernel) rfl
theorem wm_419 : (Cond.code y_P_hasCell b_P_hasCell 2 (some .boolean)) ∈ jx_W := jx_mem 419 rfl rfl
theorem wm_420 : (Cond.methodLink "PlaneCells" 104 ⟨"PlaneCells$Plane", "signIn", "(II)I"⟩) ∈ jx_W := jx_mem 420 (by decide +kernel) rfl
theorem wm_425 : (Cond.methodLink "PlaneCells" 107 ⟨"PlaneCells$Plane", "trueIn", "(I)Z"⟩) ∈ jx_W := jx_mem 425 (by decide +kernel) rfl
theorem wm_438 : (Cond.methodLink "PlaneCells" 117 ⟨"PlaneCells$CriticalNumbers", "signAt", "(IJJJ)I"⟩) ∈ jx_W := jx_mem 438 (by decide +kernel) rfl
theorem ws_0 : (Cond.selects "PlaneCells" ⟨"PlaneCells", "readText", "()I"⟩ ⟨"PlaneCells", "readText", "()I"⟩) ∈ jx_W := jx_memS 0 (by decide +kernel) rfl
theorem ws_1 : (Cond.selects "PlaneCells$Reader" ⟨"PlaneCells$Reader", "takeHead", "()Z"⟩ ⟨"PlaneCells$Reader", "takeHead", "()Z"⟩) ∈ jx_W := jx_memS 1 (by decide +kernel) rfl
theorem ws_2 : (Cond.selects "PlaneCells$Reader" ⟨"PlaneCells$Reader", "peek", "()C"⟩ ⟨"PlaneCells$Reader", "peek", "()C"⟩) ∈ jx_W := jx_memS 2 (by decide +kernel) rfl
theorem ws_3 : (Cond.selects "PlaneCells$Reader" ⟨"PlaneCells$Reader", "takeQuantifier", "()Z"⟩ ⟨"PlaneCells$Reader", "takeQuantifier", "()Z"⟩) ∈ jx_W := jx_memS 3 (by decide +kernel) rfl
theorem ws_4 : (Cond.selects "PlaneCells$Reader" ⟨"PlaneCells$Reader", "take", "(C)Z"⟩ ⟨"PlaneCells$Reader", "take", "(C)Z"⟩) ∈ jx_W := jx_memS 4 (by decide +kernel) rfl
theorem ws_5 : (Cond.selects "PlaneCells$Reader" ⟨"PlaneCells$Reader", "takeOpenings", "()V"⟩ ⟨"PlaneCells$Reader", "takeOpenings", "()V"⟩) ∈ jx_W := jx_memS 5 (by decide +kernel) rfl
theorem ws_6 : (Cond.selects "PlaneCells$Reader" ⟨"PlaneCells$Reader", "hold", "(I)V"⟩ ⟨"PlaneCells$Reader", "hold", "(I)V"⟩) ∈ jx_W := jx_memS 6 (by decide +kernel) rfl
theorem ws_7 : (Cond.selects "PlaneCells$Reader" ⟨"PlaneCells$Reader", "takeAtom", "()Z"⟩ ⟨"PlaneCells$Reader", "takeAtom", "()Z"⟩) ∈ jx_W := jx_memS 7 (by decide +kernel) rfl
theorem ws_8 : (Cond.selects "PlaneCells$Reader" ⟨"PlaneCells$Reader", "takeSum", "(I)Z"⟩ ⟨"PlaneCells$Reader", "takeSum", "(I)Z"⟩) ∈ jx_W := jx_memS 8 (by decide +kernel) rfl
theorem ws_9 : (Cond.selects "PlaneCells$Reader" ⟨"PlaneCells$Reader", "takeTerm", "(I)Z"⟩ ⟨"PlaneCells$Reader", "takeTerm", "(I)Z"⟩) ∈ jx_W := jx_memS 9 (by decide +kernel) rfl
theorem ws_10 : (Cond.selects "PlaneCells$Reader" ⟨"PlaneCells$Reader", "takeClosings", "()V"⟩ ⟨"PlaneCells$Reader", "takeClosings", "()V"⟩) ∈ jx_W := jx_memS 10 (by decide +kernel) rfl
theorem ws_11 : (Cond.selects "PlaneCells$Reader" ⟨"PlaneCells$Reader", "release", "(I)V"⟩ ⟨"PlaneCells$Reader", "release", "(I)V"⟩) ∈ jx_W := jx_memS 11 (by decide +kernel) rfl
theorem ws_12 : (Cond.selects "PlaneCells$Reader" ⟨"PlaneCells$Reader", "takeJoint", "()Z"⟩ ⟨"PlaneCells$Reader", "takeJoint", "()Z"⟩) ∈ jx_W := jx_memS 12 (by decide +kernel) rfl
theorem ws_13 : (Cond.selects "PlaneCells$CriticalNumbers" ⟨"PlaneCells$CriticalNumbers", "add", "(III)V"⟩ ⟨"PlaneCells$CriticalNumbers", "add", "(III)V"⟩) ∈ jx_W := jx_memS 13 (by decide +kernel) rfl
theorem ws_14 : (Cond.selects "PlaneCells$CriticalNumbers" ⟨"PlaneCells$CriticalNumbers", "signOfDifference", "(IIII)I"⟩ ⟨"PlaneCells$CriticalNumbers", "signOfDifference", "(IIII)I"⟩) ∈ jx_W := jx_memS 14 (by decide +kernel) rfl
theorem ws_15 : (Cond.selects "PlaneCells$CriticalNumbers" ⟨"PlaneCells$CriticalNumbers", "insert", "(IIII)V"⟩ ⟨"PlaneCells$CriticalNumbers", "insert", "(IIII)V"⟩) ∈ jx_W := jx_memS 15 (by decide +kernel) rfl
theorem ws_16 : (Cond.selects "PlaneCells$Plane" ⟨"PlaneCells$Plane", "addZero", "(II)V"⟩ ⟨"PlaneCells$Plane", "addZero", "(II)V"⟩) ∈ jx_W := jx_memS 16 (by decide +kernel) rfl
theorem ws_17 : (Cond.selects "PlaneCells" ⟨"PlaneCells", "hasPolynomial", "(I)Z"⟩ ⟨"PlaneCells", "hasPolynomial", "(I)Z"⟩) ∈ jx_W := jx_memS 17 (by decide +kernel) rfl
theorem ws_18 : (Cond.selects "PlaneCells" ⟨"PlaneCells", "enterColumn", "(I)Z"⟩ ⟨"PlaneCells", "enterColumn", "(I)Z"⟩) ∈ jx_W := jx_memS 18 (by decide +kernel) rfl
theorem ws_19 : (Cond.selects "PlaneCells" ⟨"PlaneCells", "hasColumn", "(I)Z"⟩ ⟨"PlaneCells", "hasColumn", "(I)Z"⟩) ∈ jx_W := jx_memS 19 (by decide +kernel) rfl
theorem ws_20 : (Cond.selects "PlaneCells" ⟨"PlaneCells", "hasCell", "(I)Z"⟩ ⟨"PlaneCells", "hasCell", "(I)Z"⟩) ∈ jx_W := jx_memS 20 (by decide +kernel) rfl
theorem jw_absS : Cond.static Lib.Math.abs.name ∈ jx_W := jx_mem 300 (by decide +kernel) rfl
theorem jw_absC : Cond.code Lib.Math.abs.name Lib.Math.abs.code 1 (some .int) ∈ jx_W := jx_mem 301 rfl rfl
theorem jw_maxS : Cond.static Lib.Math.max.name ∈ jx_W := jx_mem 360 (by decide +kernel) rfl
theorem jw_maxC : Cond.code Lib.Math.max.name Lib.Math.max.code 2 (some .int) ∈ jx_W := jx_mem 361 rfl rfl
theorem jw_abslS : Cond.static Lib.MathLoose.abs_long.x ∈ jx_W := jx_mem 317 (by decide +kernel) rfl
theorem jw_abslC : Cond.code Lib.MathLoose.abs_long.x Lib.MathLoose.abs_long.code 2 (some .long) ∈ jx_W := jx_mem 318 rfl rfl
theorem jw_MathI : Cond.initialized "java/lang/Math" ∈ jx_W := jx_mem 9 (by decide +kernel) rfl
theorem jw_JII : Cond.initialized "java/lang/Integer" ∈ jx_W := jx_mem 11 (by decide +kernel) rfl
theorem jw_JIS : Cond.static ⟨"java/lang/Integer", "signum", "(I)I"⟩ ∈ jx_W := jx_mem 348 (by decide +kernel) rfl
theorem jw_JIC : Cond.code ⟨"java/lang/Integer", "signum", "(I)I"⟩ prog_9_method_56_code 1 (some .int) ∈ jx_W := jx_mem 349 rfl rfl
theorem jw_JLI : Cond.initialized "java/lang/Long" ∈ jx_W := jx_mem 10 (by decide +kernel) rfl
theorem jw_JLS : Cond.static ⟨"java/lang/Long", "signum", "(J)I"⟩ ∈ jx_W := jx_mem 314 (by decide +kernel) rfl
theorem jw_JLC : Cond.code ⟨"java/lang/Long", "signum", "(J)I"⟩ prog_10_method_57_code 2 (some .int) ∈ jx_W := jx_mem 315 rfl rfl
theorem jw_acN : Cond.native arraycopyName ∈ jx_W := jx_mem 252 (by decide +kernel) rfl
theorem jw_acS : Cond.static arraycopyName ∈ jx_W := jx_mem 251 (by decide +kernel) rfl
theorem jw_acI : Cond.initialized "java/lang/System" ∈ jx_W := jx_mem 8 (by decide +kernel) rfl
theorem jw_acL : Cond.methodLink "PlaneCells$Sentence" 29 arraycopyName ∈ jx_W := jx_mem 250 (by decide +kernel) rfl
end
section
/-! the judgement of a walk: at a place of a method, with a world, locals and a stack, it comes to its end; a row an instruction -/
abbrev jx_S : Type := (Nat → Int32) × (Nat → Nat → Int32) × (Nat → Nat → Int64)
def jx_f (S : jx_S) (k : Nat) (v : Int32) : jx_S := (fun j => bif Nat.beq j k then v else S.1 j, S.2)
def jx_g (S : jx_S) (a : Nat) (f : Nat → Int32) : jx_S := (S.1, fun b => bif Nat.beq b a then f else S.2.1 b, S.2.2)
def jx_gl (S : jx_S) (a : Nat) (f : Nat → Int64) : jx_S := (S.1, S.2.1, fun b => bif Nat.beq b a then f else S.2.2 b)
abbrev jx_G : Type := va_G × (Nat → ClassId) × (Nat → Nat)
abbrev jx_ad (G : jx_G) (k : Nat) : Nat := G.2.2 k
abbrev jx_ca (G : jx_G) (k : Nat) : ClassId := G.2.1 k
abbrev jx_ty (G : jx_G) : List (ClassId × FieldType) := [(G.2.1 0, .int), (G.2.1 1, .char), (G.2.1 2, .boolean), (G.2.1 3, .long)]
abbrev jx_C := Program × Launch × Env × Room × State × MethodId × Array Value × List Frame × Method × Code × (Nat → Prop)
abbrev jx_p (X : jx_C) := X.1
abbrev jx_l (X : jx_C) := X.2.1
abbrev jx_e (X : jx_C) := X.2.2.1
abbrev jx_R (X : jx_C) := X.2.2.2.1
abbrev jx_s (X : jx_C) := X.2.2.2.2.1
abbrev jx_m (X : jx_C) := X.2.2.2.2.2.1
abbrev jx_a (X : jx_C) := X.2.2.2.2.2.2.1
abbrev jx_b (X : jx_C) := X.2.2.2.2.2.2.2.1
abbrev jx_h (X : jx_C) := X.2.2.2.2.2.2.2.2.1
abbrev jx_c (X : jx_C) := X.2.2.2.2.2.2.2.2.2.1
abbrev jx_A (X : jx_C) : Nat → Prop := X.2.2.2.2.2.2.2.2.2.2
def jx_rm (lv : Nat) : Room := { frames := lv, cells := 0, slots := 0, locals := 52 * lv }
def jx_Q (G : jx_G) (A : Nat → Prop) (fin : Option Value × va_W) : Array Value → State → Outcome → State → Prop := fun _ st oc t => (oc = .returned fin.1 ∧ va_P G.1 jx_cl fin.2 t.heap ∧ va_K G.1 jx_cl (jx_ty G) t ∧ va_D A fin.2) ∧ va_F A st t
def jx_At (G : jx_G) (X : jx_C) (fin : Option Value × va_W) (w : va_W) (pc : Nat) (L : List (Nat × Value)) (st : List Value) : Prop :=
  ∀ (H : Heap) (locs : List Loc) (ls : Array Slot), va_P G.1 jx_cl w H → va_D (jx_A X) w → va_S (jx_A X) (jx_s X).heap H locs → lv_has ls (jx_c X).maxLocals L →
    W (jx_p X) (jx_l X) (jx_e X) (jx_R X) (jx_s X) (jx_m X) (jx_a X) (jx_b X) (jx_h X) (jx_c X) H locs 0 0 (MQ (jx_b X) (jx_Q G (jx_A X) fin) (jx_a X) (jx_s X) 0 0 (jx_A X)) (F0 (jx_m X) pc ls st)
def jx_Ok (G : jx_G) (X : jx_C) (cc : ByteArray) (own : String) (ret : Option FieldType) (nL lv : Nat) : Prop :=
  (jx_p X).tables.exec = Jvm.exec ∧ (jx_c X).code = cc ∧ (jx_c X).maxLocals = nL ∧ (jx_s X).vm.findClass own = some (jx_m X).cls ∧ (∀ w ∈ jx_W, w.before (jx_a X) (jx_s X) = true) ∧ va_K G.1 jx_cl (jx_ty G) (jx_s X) ∧ (∀ w ∈ jx_Z, va_Nw w (jx_s X)) ∧ (jx_h X).locks = false ∧ (jx_h X).sig.returnType = ret ∧ (∀ q, (jx_s X).heap.size ≤ q → jx_A X q) ∧ jx_R X = jx_rm lv
theorem jx_gd {α : Type} {c : Prop} [Decidable c] {x : Option α} {r : α} (h : (if c then x else none) = some r) : c ∧ x = some r := by
  by_cases hc : c
  · rw [if_pos hc] at h; exact ⟨hc, h⟩
  · rw [if_neg hc] at h; cases h
theorem jx_ip {α : Type} {c : Prop} [Decidable c] {x y r : α} (hc : c) (h : (if c then x else y) = r) : x = r := by rw [if_pos hc] at h; exact h
theorem jx_in_ {α : Type} {c : Prop} [Decidable c] {x y r : α} (hc : ¬ c) (h : (if c then x else y) = r) : y = r := by rw [if_neg hc] at h; exact h
theorem jx_bd {α β : Type} {o : Option α} {f : α → Option β} {r : β} (h : o.bind f = some r) : ∃ q, o = some q ∧ f q = some r := by
  cases o with
  | none => cases h
  | some q => exact ⟨q, rfl, h⟩
def jx_N : Nat := 100000
def jx_lp {σ ρ : Type} (f : σ → Option (σ ⊕ ρ)) : Nat → σ → Option ρ
  | 0, _ => none
  | n + 1, s => (f s).bind (Sum.elim (fun s' => jx_lp f n s') (fun r => some r))
theorem jx_el {α β γ : Type} {f : α → γ} {g : β → γ} {z : α} {x : γ} (h : Sum.elim f g (Sum.inl z) = x) : f z = x := h
theorem jx_er {α β γ : Type} {f : α → γ} {g : β → γ} {z : β} {x : γ} (h : Sum.elim f g (Sum.inr z) = x) : g z = x := h
theorem jx_loop1 {σ ρ : Type} (f : σ → Option (σ ⊕ ρ)) (P : σ → Prop) (E : ρ → Prop) (hs : ∀ z o, f z = some o → (∀ z', o = .inl z' → P z') → (∀ r, o = .inr r → E r) → P z) : ∀ n z r, jx_lp f n z = some r → E r → P z
  | 0, z, r, h, _ => by simp [jx_lp] at h
  | n + 1, z, r, h, hE => by
    rw [jx_lp] at h
    obtain ⟨o, ho, h⟩ := jx_bd h
    refine hs z o ho (fun z' e => ?_) (fun r' e => ?_)
    · subst e
      exact jx_loop1 f P E hs n z' r (jx_el h) hE
    · subst e
      have e2 : r' = r := Option.some.inj (jx_er h)
      rw [e2]; exact hE
theorem jx_loop2 {σ ρ τ : Type} (f : σ → Option (σ ⊕ (ρ ⊕ τ))) (P : σ → Prop) (E : ρ → Prop) (fin : τ) (hs : ∀ z o, f z = some o → (∀ z', o = .inl z' → P z') → (∀ r, o = .inr (.inl r) → E r) → (∀ y, o = .inr (.inr y) → y = fin) → P z) : ∀ n z r, jx_lp f n z = some r → (∀ u, r = .inl u → E u) → (∀ y, r = .inr y → y = fin) → P z
  | 0, z, r, h, _, _ => by simp [jx_lp] at h
  | n + 1, z, r, h, hE, hy => by
    rw [jx_lp] at h
    obtain ⟨o, ho, h⟩ := jx_bd h
    refine hs z o ho (fun z' e => ?_) (fun r' e => ?_) (fun y e => ?_)
    · subst e
      exact jx_loop2 f P E fin hs n z' r (jx_el h) hE hy
    · subst e
      exact hE _ (Option.some.inj (jx_er h)).symm
    · subst e
      exact hy _ (Option.some.inj (jx_er h)).symm
def jx_in (i : Int32) (n : Nat) : Bool := decide (¬ (i < 0 ∨ n ≤ i.toNatClampNeg))
theorem jx_in_ok {i : Int32} {n : Nat} (h : jx_in i n = true) : vp_in i n := by
  unfold jx_in at h
  unfold vp_in
  exact of_decide_eq_true h
def jx_ck (sp dp n : Int32) (n0 n1 : Nat) : Bool := decide (¬ sp < 0 ∧ ¬ dp < 0 ∧ ¬ n < 0 ∧ sp.toNatClampNeg + n.toNatClampNeg ≤ n0 ∧ dp.toNatClampNeg + n.toNatClampNeg ≤ n1)
def jx_nc (v : Int32) : Bool := decide (v.toUInt32.toUInt16.toUInt32.toInt32 = v)
def jx_nb (v : Int32) : Bool := decide (v &&& 1 = v)
theorem jx_nc_ok {v : Int32} (h : jx_nc v = true) : narrow .char (.int v) = .int v := congrArg Value.int (of_decide_eq_true h)
theorem jx_nb_ok {v : Int32} (h : jx_nb v = true) : narrow .boolean (.int v) = .int v := congrArg Value.int (of_decide_eq_true h)
def jx_01 (v : Int32) : Prop := v = 0 ∨ v = 1
theorem jx_z0 : jx_01 0 := Or.inl rfl
theorem jx_z1 : jx_01 1 := Or.inr rfl
theorem jx_zi {c : Prop} [Decidable c] {a b : Int32} (ha : jx_01 a) (hb : jx_01 b) : jx_01 (if c then a else b) := by
  by_cases hc : c
  · rw [if_pos hc]; exact ha
  · rw [if_neg hc]; exact hb
theorem jx_01n {v : Int32} (h : jx_01 v) : narrow .boolean (.int v) = .int v := by rcases h with rfl | rfl <;> rfl
theorem jx_01c {v : Int32} (h : jx_01 v) : narrow .char (.int v) = .int v := by rcases h with rfl | rfl <;> rfl
theorem jx_01f {v : Int32} (h : jx_01 v) : fits .boolean (.int v) = true := by rcases h with rfl | rfl <;> rfl
def jx_ai (x : Int32) : Int32 := if 0 ≤ x then x else 0 - x
def jx_al (x : Int64) : Int64 := if 0 < x then x else -x
def jx_mx (x y : Int32) : Int32 := if x < y then y else x
def jx_si (x : Int32) : Int32 := (x >>> (31 &&& 31)) ||| ((-x).toUInt32 >>> ((31 : Int32).toUInt32 &&& Int32.toUInt32 31)).toInt32
def jx_sl (x : Int64) : Int32 := ((x >>> ((63 : Int32).toInt64 &&& 63)) ||| ((-x).toUInt64 >>> ((63 : Int32).toInt64.toUInt64 &&& Int64.toUInt64 63)).toInt64).toInt32
section JX
variable {G : jx_G} {X : jx_C} {cc : ByteArray} {own : String} {ret : Option FieldType} {nL lv : Nat} {fin : Option Value × va_W} {w : va_W} {pc : Nat} {L : List (Nat × Value)} {st : List Value}
theorem jx_L {L2 : List (Nat × Value)} (h : L = L2) (k : jx_At G X fin w pc L2 st) : jx_At G X fin w pc L st := by rw [h]; exact k
theorem jx_sub {L2 : List (Nat × Value)} (ks : List Nat) (h : lv_pick L ks = L2) (k : jx_At G X fin w pc L2 st) : jx_At G X fin w pc L st := fun H locs ls hP hD hS hl => k H locs ls hP hD hS (lv_sub hl ks h)
theorem jx_iconst (hX : jx_Ok G X cc own ret nL lv) {n : Int} {v : Int32} (hd : decode cc pc = .ok (.iconst n, 1)) (hv : Int32.ofInt n = v) (k : jx_At G X fin w (pc + 1) L (.int v :: st)) : jx_At G X fin w pc L st :=
  fun H locs ls hP hD hS hl => lv_iconst hX.1 hX.2.1 hd hv (k H locs ls hP hD hS hl)
theorem jx_bipush (hX : jx_Ok G X cc own ret nL lv) {n : Int} {v : Int32} (hd : decode cc pc = .ok (.bipush n, 2)) (hv : (Int8.ofInt n).toInt32 = v) (k : jx_At G X fin w (pc + 2) L (.int v :: st)) : jx_At G X fin w pc L st :=
  fun H locs ls hP hD hS hl => lv_bipush hX.1 hX.2.1 hd hv (k H locs ls hP hD hS hl)
theorem jx_sipush (hX : jx_Ok G X cc own ret nL lv) {n : Int} {v : Int32} (hd : decode cc pc = .ok (.sipush n, 3)) (hv : (Int16.ofInt n).toInt32 = v) (k : jx_At G X fin w (pc + 3) L (.int v :: st)) : jx_At G X fin w pc L st :=
  fun H locs ls hP hD hS hl => lv_sipush hX.1 hX.2.1 hd hv (k H locs ls hP hD hS hl)
theorem jx_lconst (hX : jx_Ok G X cc own ret nL lv) {n : Fin 2} {v : Int64} (hd : decode cc pc = .ok (.lconst n, 1)) (hv : Int64.ofNat (n : Nat) = v) (k : jx_At G X fin w (pc + 1) L (.long v :: st)) : jx_At G X fin w pc L st :=
  fun H locs ls hP hD hS hl => lv_lconst hX.1 hX.2.1 hd hv (k H locs ls hP hD hS hl)
theorem jx_iload_n (hX : jx_Ok G X cc own ret nL lv) {i : Nat} {x : Int32} {n : Fin 4} (hd : decode cc pc = .ok (.iload_n n, 1)) (j : Nat) (hj : L[j]? = some (i, .int x)) (hi : (n : Nat) = i) (k : jx_At G X fin w (pc + 1) L (.int x :: st)) : jx_At G X fin w pc L st :=
  fun H locs ls hP hD hS hl => lv_iload_n hX.1 hX.2.1 hd hi (lv_at hl j hj) (k H locs ls hP hD hS hl)
theorem jx_iload (hX : jx_Ok G X cc own ret nL lv) {i : Nat} {x : Int32} (hd : decode cc pc = .ok (.iload i, 2)) (j : Nat) (hj : L[j]? = some (i, .int x)) (k : jx_At G X fin w (pc + 2) L (.int x :: st)) : jx_At G X fin w pc L st :=
  fun H locs ls hP hD hS hl => lv_iload hX.1 hX.2.1 hd (lv_at hl j hj) (k H locs ls hP hD hS hl)
theorem jx_istore_n (hX : jx_Ok G X cc own ret nL lv) {i : Nat} {x : Int32} {n : Fin 4} (hd : decode cc pc = .ok (.istore_n n, 1)) (hi : (n : Nat) = i) (hn : i < nL) {L2 : List (Nat × Value)} (hL : (i, Value.int x) :: L.filter (fun q => !(q.1 == i) && !(q.1 + 1 == i && q.2.category == 2)) = L2) (k : jx_At G X fin w (pc + 1) L2 st) : jx_At G X fin w pc L (.int x :: st) :=
  fun H locs ls hP hD hS hl => lv_istore_n hX.1 hX.2.1 hd hi hl (by rw [hX.2.2.1]; exact hn) hL (fun ls2 hl2 => k H locs ls2 hP hD hS hl2)
theorem jx_istore (hX : jx_Ok G X cc own ret nL lv) {i : Nat} {x : Int32} (hd : decode cc pc = .ok (.istore i, 2)) (hn : i < nL) {L2 : List (Nat × Value)} (hL : (i, Value.int x) :: L.filter (fun q => !(q.1 == i) && !(q.1 + 1 == i && q.2.category == 2)) = L2) (k : jx_At G X fin w (pc + 2) L2 st) : jx_At G X fin w pc L (.int x :: st) :=
  fun H locs ls hP hD hS hl => lv_istore hX.1 hX.2.1 hd hl (by rw [hX.2.2.1]; exact hn) hL (fun ls2 hl2 => k H locs ls2 hP hD hS hl2)
theorem jx_lload_n (hX : jx_Ok G X cc own ret nL lv) {i : Nat} {x : Int64} {n : Fin 4} (hd : decode cc pc = .ok (.lload_n n, 1)) (j : Nat) (hj : L[j]? = some (i, .long x)) (hi : (n : Nat) = i) (k : jx_At G X fin w (pc + 1) L (.long x :: st)) : jx_At G X fin w pc L st :=
  fun H locs ls hP hD hS hl => lv_lload_n hX.1 hX.2.1 hd hi (lv_at hl j hj) (k H locs ls hP hD hS hl)
theorem jx_lload (hX : jx_Ok G X cc own ret nL lv) {i : Nat} {x : Int64} (hd : decode cc pc = .ok (.lload i, 2)) (j : Nat) (hj : L[j]? = some (i, .long x)) (k : jx_At G X fin w (pc + 2) L (.long x :: st)) : jx_At G X fin w pc L st :=
  fun H locs ls hP hD hS hl => lv_lload hX.1 hX.2.1 hd (lv_at hl j hj) (k H locs ls hP hD hS hl)
theorem jx_lstore_n (hX : jx_Ok G X cc own ret nL lv) {i : Nat} {x : Int64} {n : Fin 4} (hd : decode cc pc = .ok (.lstore_n n, 1)) (hi : (n : Nat) = i) (hn : i + 1 < nL) {L2 : List (Nat × Value)} (hL : (i, Value.long x) :: L.filter (fun q => !(q.1 == i) && (!(q.1 == i + 1) && !(q.1 + 1 == i && q.2.category == 2))) = L2) (k : jx_At G X fin w (pc + 1) L2 st) : jx_At G X fin w pc L (.long x :: st) :=
  fun H locs ls hP hD hS hl => lv_lstore_n hX.1 hX.2.1 hd hi hl (by rw [hX.2.2.1]; exact hn) hL (fun ls2 hl2 => k H locs ls2 hP hD hS hl2)
theorem jx_lstore (hX : jx_Ok G X cc own ret nL lv) {i : Nat} {x : Int64} (hd : decode cc pc = .ok (.lstore i, 2)) (hn : i + 1 < nL) {L2 : List (Nat × Value)} (hL : (i, Value.long x) :: L.filter (fun q => !(q.1 == i) && (!(q.1 == i + 1) && !(q.1 + 1 == i && q.2.category == 2))) = L2) (k : jx_At G X fin w (pc + 2) L2 st) : jx_At G X fin w pc L (.long x :: st) :=
  fun H locs ls hP hD hS hl => lv_lstore hX.1 hX.2.1 hd hl (by rw [hX.2.2.1]; exact hn) hL (fun ls2 hl2 => k H locs ls2 hP hD hS hl2)
theorem jx_aload_n (hX : jx_Ok G X cc own ret nL lv) {i : Nat} {x : Nat} {n : Fin 4} (hd : decode cc pc = .ok (.aload_n n, 1)) (j : Nat) (hj : L[j]? = some (i, .ref x)) (hi : (n : Nat) = i) (k : jx_At G X fin w (pc + 1) L (.ref x :: st)) : jx_At G X fin w pc L st :=
  fun H locs ls hP hD hS hl => lv_aload_n hX.1 hX.2.1 hd hi (lv_at hl j hj) (k H locs ls hP hD hS hl)
theorem jx_aload (hX : jx_Ok G X cc own ret nL lv) {i : Nat} {x : Nat} (hd : decode cc pc = .ok (.aload i, 2)) (j : Nat) (hj : L[j]? = some (i, .ref x)) (k : jx_At G X fin w (pc + 2) L (.ref x :: st)) : jx_At G X fin w pc L st :=
  fun H locs ls hP hD hS hl => lv_aload hX.1 hX.2.1 hd (lv_at hl j hj) (k H locs ls hP hD hS hl)
theorem jx_astore_n (hX : jx_Ok G X cc own ret nL lv) {i : Nat} {x : Nat} {n : Fin 4} (hd : decode cc pc = .ok (.astore_n n, 1)) (hi : (n : Nat) = i) (hn : i < nL) {L2 : List (Nat × Value)} (hL : (i, Value.ref x) :: L.filter (fun q => !(q.1 == i) && !(q.1 + 1 == i && q.2.category == 2)) = L2) (k : jx_At G X fin w (pc + 1) L2 st) : jx_At G X fin w pc L (.ref x :: st) :=
  fun H locs ls hP hD hS hl => lv_astore_n hX.1 hX.2.1 hd hi hl (by rw [hX.2.2.1]; exact hn) hL (fun ls2 hl2 => k H locs ls2 hP hD hS hl2)
theorem jx_astore (hX : jx_Ok G X cc own ret nL lv) {i : Nat} {x : Nat} (hd : decode cc pc = .ok (.astore i, 2)) (hn : i < nL) {L2 : List (Nat × Value)} (hL : (i, Value.ref x) :: L.filter (fun q => !(q.1 == i) && !(q.1 + 1 == i && q.2.category == 2)) = L2) (k : jx_At G X fin w (pc + 2) L2 st) : jx_At G X fin w pc L (.ref x :: st) :=
  fun H locs ls hP hD hS hl => lv_astore hX.1 hX.2.1 hd hl (by rw [hX.2.2.1]; exact hn) hL (fun ls2 hl2 => k H locs ls2 hP hD hS hl2)
theorem jx_iinc (hX : jx_Ok G X cc own ret nL lv) {i : Nat} {n : Int} {x v : Int32} (hd : decode cc pc = .ok (.iinc i n, 3)) (j : Nat) (hj : L[j]? = some (i, .int x)) (hv : x + Int32.ofInt n = v) (hn : i < nL) {L2 : List (Nat × Value)} (hL : (i, Value.int v) :: L.filter (fun q => !(q.1 == i) && !(q.1 + 1 == i && q.2.category == 2)) = L2) (k : jx_At G X fin w (pc + 3) L2 st) : jx_At G X fin w pc L st :=
  fun H locs ls hP hD hS hl => lv_iinc hX.1 hX.2.1 hd hl hj hv (by rw [hX.2.2.1]; exact hn) hL (fun ls2 hl2 => k H locs ls2 hP hD hS hl2)
theorem jx_iadd (hX : jx_Ok G X cc own ret nL lv) {x y : Int32} (hd : decode cc pc = .ok (.iadd, 1))  (k : jx_At G X fin w (pc + 1) L (.int (x + y) :: st)) : jx_At G X fin w pc L (.int y :: .int x :: st) :=
  fun H locs ls hP hD hS hl => lv_iadd hX.1 hX.2.1 hd (k H locs ls hP hD hS hl)
theorem jx_isub (hX : jx_Ok G X cc own ret nL lv) {x y : Int32} (hd : decode cc pc = .ok (.isub, 1))  (k : jx_At G X fin w (pc + 1) L (.int (x - y) :: st)) : jx_At G X fin w pc L (.int y :: .int x :: st) :=
  fun H locs ls hP hD hS hl => lv_isub hX.1 hX.2.1 hd (k H locs ls hP hD hS hl)
theorem jx_imul (hX : jx_Ok G X cc own ret nL lv) {x y : Int32} (hd : decode cc pc = .ok (.imul, 1))  (k : jx_At G X fin w (pc + 1) L (.int (x * y) :: st)) : jx_At G X fin w pc L (.int y :: .int x :: st) :=
  fun H locs ls hP hD hS hl => lv_imul hX.1 hX.2.1 hd (k H locs ls hP hD hS hl)
theorem jx_iand (hX : jx_Ok G X cc own ret nL lv) {x y : Int32} (hd : decode cc pc = .ok (.iand, 1))  (k : jx_At G X fin w (pc + 1) L (.int (x &&& y) :: st)) : jx_At G X fin w pc L (.int y :: .int x :: st) :=
  fun H locs ls hP hD hS hl => lv_iand hX.1 hX.2.1 hd (k H locs ls hP hD hS hl)
theorem jx_ior (hX : jx_Ok G X cc own ret nL lv) {x y : Int32} (hd : decode cc pc = .ok (.ior, 1))  (k : jx_At G X fin w (pc + 1) L (.int (x ||| y) :: st)) : jx_At G X fin w pc L (.int y :: .int x :: st) :=
  fun H locs ls hP hD hS hl => lv_ior hX.1 hX.2.1 hd (k H locs ls hP hD hS hl)
theorem jx_ixor (hX : jx_Ok G X cc own ret nL lv) {x y : Int32} (hd : decode cc pc = .ok (.ixor, 1))  (k : jx_At G X fin w (pc + 1) L (.int (x ^^^ y) :: st)) : jx_At G X fin w pc L (.int y :: .int x :: st) :=
  fun H locs ls hP hD hS hl => lv_ixor hX.1 hX.2.1 hd (k H locs ls hP hD hS hl)
theorem jx_ladd (hX : jx_Ok G X cc own ret nL lv) {x y : Int64} (hd : decode cc pc = .ok (.ladd, 1))  (k : jx_At G X fin w (pc + 1) L (.long (x + y) :: st)) : jx_At G X fin w pc L (.long y :: .long x :: st) :=
  fun H locs ls hP hD hS hl => lv_ladd hX.1 hX.2.1 hd (k H locs ls hP hD hS hl)
theorem jx_lsub (hX : jx_Ok G X cc own ret nL lv) {x y : Int64} (hd : decode cc pc = .ok (.lsub, 1))  (k : jx_At G X fin w (pc + 1) L (.long (x - y) :: st)) : jx_At G X fin w pc L (.long y :: .long x :: st) :=
  fun H locs ls hP hD hS hl => lv_lsub hX.1 hX.2.1 hd (k H locs ls hP hD hS hl)
theorem jx_lmul (hX : jx_Ok G X cc own ret nL lv) {x y : Int64} (hd : decode cc pc = .ok (.lmul, 1))  (k : jx_At G X fin w (pc + 1) L (.long (x * y) :: st)) : jx_At G X fin w pc L (.long y :: .long x :: st) :=
  fun H locs ls hP hD hS hl => lv_lmul hX.1 hX.2.1 hd (k H locs ls hP hD hS hl)
theorem jx_land (hX : jx_Ok G X cc own ret nL lv) {x y : Int64} (hd : decode cc pc = .ok (.land, 1))  (k : jx_At G X fin w (pc + 1) L (.long (x &&& y) :: st)) : jx_At G X fin w pc L (.long y :: .long x :: st) :=
  fun H locs ls hP hD hS hl => lv_land hX.1 hX.2.1 hd (k H locs ls hP hD hS hl)
theorem jx_lor (hX : jx_Ok G X cc own ret nL lv) {x y : Int64} (hd : decode cc pc = .ok (.lor, 1))  (k : jx_At G X fin w (pc + 1) L (.long (x ||| y) :: st)) : jx_At G X fin w pc L (.long y :: .long x :: st) :=
  fun H locs ls hP hD hS hl => lv_lor hX.1 hX.2.1 hd (k H locs ls hP hD hS hl)
theorem jx_lxor (hX : jx_Ok G X cc own ret nL lv) {x y : Int64} (hd : decode cc pc = .ok (.lxor, 1))  (k : jx_At G X fin w (pc + 1) L (.long (x ^^^ y) :: st)) : jx_At G X fin w pc L (.long y :: .long x :: st) :=
  fun H locs ls hP hD hS hl => lv_lxor hX.1 hX.2.1 hd (k H locs ls hP hD hS hl)
theorem jx_ineg (hX : jx_Ok G X cc own ret nL lv) {x : Int32} (hd : decode cc pc = .ok (.ineg, 1))  (k : jx_At G X fin w (pc + 1) L (.int (-x) :: st)) : jx_At G X fin w pc L (.int x :: st) :=
  fun H locs ls hP hD hS hl => lv_ineg hX.1 hX.2.1 hd (k H locs ls hP hD hS hl)
theorem jx_lneg (hX : jx_Ok G X cc own ret nL lv) {x : Int64} (hd : decode cc pc = .ok (.lneg, 1))  (k : jx_At G X fin w (pc + 1) L (.long (-x) :: st)) : jx_At G X fin w pc L (.long x :: st) :=
  fun H locs ls hP hD hS hl => lv_lneg hX.1 hX.2.1 hd (k H locs ls hP hD hS hl)
theorem jx_ishl (hX : jx_Ok G X cc own ret nL lv) {x y : Int32} (hd : decode cc pc = .ok (.ishl, 1))  (k : jx_At G X fin w (pc + 1) L (.int (x <<< (y &&& 31)) :: st)) : jx_At G X fin w pc L (.int y :: .int x :: st) :=
  fun H locs ls hP hD hS hl => lv_ishl hX.1 hX.2.1 hd (k H locs ls hP hD hS hl)
theorem jx_ishr (hX : jx_Ok G X cc own ret nL lv) {x y : Int32} (hd : decode cc pc = .ok (.ishr, 1))  (k : jx_At G X fin w (pc + 1) L (.int (x >>> (y &&& 31)) :: st)) : jx_At G X fin w pc L (.int y :: .int x :: st) :=
  fun H locs ls hP hD hS hl => lv_ishr hX.1 hX.2.1 hd (k H locs ls hP hD hS hl)
theorem jx_iushr (hX : jx_Ok G X cc own ret nL lv) {x y v : Int32} (hd : decode cc pc = .ok (.iushr, 1)) (hv : (x.toUInt32 >>> (y.toUInt32 &&& Int32.toUInt32 31)).toInt32 = v) (k : jx_At G X fin w (pc + 1) L (.int v :: st)) : jx_At G X fin w pc L (.int y :: .int x :: st) :=
  fun H locs ls hP hD hS hl => lv_iushr hX.1 hX.2.1 hd hv (k H locs ls hP hD hS hl)
theorem jx_lshr (hX : jx_Ok G X cc own ret nL lv) {x v : Int64} {y : Int32} (hd : decode cc pc = .ok (.lshr, 1)) (hv : x >>> (y.toInt64 &&& 63) = v) (k : jx_At G X fin w (pc + 1) L (.long v :: st)) : jx_At G X fin w pc L (.int y :: .long x :: st) :=
  fun H locs ls hP hD hS hl => lv_lshr hX.1 hX.2.1 hd hv (k H locs ls hP hD hS hl)
theorem jx_lushr (hX : jx_Ok G X cc own ret nL lv) {x v : Int64} {y : Int32} (hd : decode cc pc = .ok (.lushr, 1)) (hv : (x.toUInt64 >>> (y.toInt64.toUInt64 &&& Int64.toUInt64 63)).toInt64 = v) (k : jx_At G X fin w (pc + 1) L (.long v :: st)) : jx_At G X fin w pc L (.int y :: .long x :: st) :=
  fun H locs ls hP hD hS hl => lv_lushr hX.1 hX.2.1 hd hv (k H locs ls hP hD hS hl)
theorem jx_i2l (hX : jx_Ok G X cc own ret nL lv) {x : Int32} {v : Int64} (hd : decode cc pc = .ok (.i2l, 1)) (hv : x.toInt64 = v) (k : jx_At G X fin w (pc + 1) L (.long v :: st)) : jx_At G X fin w pc L (.int x :: st) :=
  fun H locs ls hP hD hS hl => lv_i2l hX.1 hX.2.1 hd hv (k H locs ls hP hD hS hl)
theorem jx_l2i (hX : jx_Ok G X cc own ret nL lv) {x : Int64} {v : Int32} (hd : decode cc pc = .ok (.l2i, 1)) (hv : x.toInt32 = v) (k : jx_At G X fin w (pc + 1) L (.int v :: st)) : jx_At G X fin w pc L (.long x :: st) :=
  fun H locs ls hP hD hS hl => lv_l2i hX.1 hX.2.1 hd hv (k H locs ls hP hD hS hl)
theorem jx_i2c (hX : jx_Ok G X cc own ret nL lv) {x v : Int32} (hd : decode cc pc = .ok (.i2c, 1)) (hv : (x.toUInt32 % 65536).toInt32 = v) (k : jx_At G X fin w (pc + 1) L (.int v :: st)) : jx_At G X fin w pc L (.int x :: st) :=
  fun H locs ls hP hD hS hl => lv_i2c hX.1 hX.2.1 hd hv (k H locs ls hP hD hS hl)
theorem jx_lcmp (hX : jx_Ok G X cc own ret nL lv) {x y : Int64} (hd : decode cc pc = .ok (.lcmp, 1))  (k : jx_At G X fin w (pc + 1) L (.int (lg_cmp x y) :: st)) : jx_At G X fin w pc L (.long y :: .long x :: st) :=
  fun H locs ls hP hD hS hl => W.lcmp hX.1 hX.2.1 hd (k H locs ls hP hD hS hl)
theorem jx_dup (hX : jx_Ok G X cc own ret nL lv) {v : Value} (hd : decode cc pc = .ok (.dup, 1)) (hv : v.category = 1) (k : jx_At G X fin w (pc + 1) L (v :: v :: st)) : jx_At G X fin w pc L (v :: st) :=
  fun H locs ls hP hD hS hl => lv_dup hX.1 hX.2.1 hd hv (k H locs ls hP hD hS hl)
theorem jx_pop (hX : jx_Ok G X cc own ret nL lv) {v : Value} (hd : decode cc pc = .ok (.pop, 1)) (hv : v.category = 1) (k : jx_At G X fin w (pc + 1) L st) : jx_At G X fin w pc L (v :: st) :=
  fun H locs ls hP hD hS hl => lv_pop hX.1 hX.2.1 hd hv (k H locs ls hP hD hS hl)
theorem jx_dup2 (hX : jx_Ok G X cc own ret nL lv) {v u : Value} (hd : decode cc pc = .ok (.dup2, 1)) (hv : v.category = 1) (hu : u.category = 1) (k : jx_At G X fin w (pc + 1) L (v :: u :: v :: u :: st)) : jx_At G X fin w pc L (v :: u :: st) :=
  fun H locs ls hP hD hS hl => lv_dup2_11 hX.1 hX.2.1 hd hv hu (k H locs ls hP hD hS hl)
theorem jx_icmp_eq (hX : jx_Ok G X cc own ret nL lv) {x y : Int32} {off : Int} {tgt : Nat} (hd : decode cc pc = .ok (.if_icmp .eq off, 3)) (ht : (pc : Int) + off = (tgt : Int)) (kt : x = y → jx_At G X fin w tgt L st) (kf : ¬ x = y → jx_At G X fin w (pc + 3) L st) : jx_At G X fin w pc L (.int y :: .int x :: st) :=
  fun H locs ls hP hD hS hl => lv_icmp_eq hX.1 hX.2.1 hd ht (fun h => kt h H locs ls hP hD hS hl) (fun h => kf h H locs ls hP hD hS hl)
theorem jx_if_eq (hX : jx_Ok G X cc own ret nL lv) {x : Int32} {off : Int} {tgt : Nat} (hd : decode cc pc = .ok (.ifCond .eq off, 3)) (ht : (pc : Int) + off = (tgt : Int)) (kt : x = 0 → jx_At G X fin w tgt L st) (kf : ¬ x = 0 → jx_At G X fin w (pc + 3) L st) : jx_At G X fin w pc L (.int x :: st) :=
  fun H locs ls hP hD hS hl => lv_if_eq hX.1 hX.2.1 hd ht (fun h => kt h H locs ls hP hD hS hl) (fun h => kf h H locs ls hP hD hS hl)
theorem jx_icmp_ne (hX : jx_Ok G X cc own ret nL lv) {x y : Int32} {off : Int} {tgt : Nat} (hd : decode cc pc = .ok (.if_icmp .ne off, 3)) (ht : (pc : Int) + off = (tgt : Int)) (kt : ¬ x = y → jx_At G X fin w tgt L st) (kf : x = y → jx_At G X fin w (pc + 3) L st) : jx_At G X fin w pc L (.int y :: .int x :: st) :=
  fun H locs ls hP hD hS hl => lv_icmp_ne hX.1 hX.2.1 hd ht (fun h => kt h H locs ls hP hD hS hl) (fun h => kf h H locs ls hP hD hS hl)
theorem jx_if_ne (hX : jx_Ok G X cc own ret nL lv) {x : Int32} {off : Int} {tgt : Nat} (hd : decode cc pc = .ok (.ifCond .ne off, 3)) (ht : (pc : Int) + off = (tgt : Int)) (kt : ¬ x = 0 → jx_At G X fin w tgt L st) (kf : x = 0 → jx_At G X fin w (pc + 3) L st) : jx_At G X fin w pc L (.int x :: st) :=
  fun H locs ls hP hD hS hl => lv_if_ne hX.1 hX.2.1 hd ht (fun h => kt h H locs ls hP hD hS hl) (fun h => kf h H locs ls hP hD hS hl)
theorem jx_icmp_lt (hX : jx_Ok G X cc own ret nL lv) {x y : Int32} {off : Int} {tgt : Nat} (hd : decode cc pc = .ok (.if_icmp .lt off, 3)) (ht : (pc : Int) + off = (tgt : Int)) (kt : x < y → jx_At G X fin w tgt L st) (kf : ¬ x < y → jx_At G X fin w (pc + 3) L st) : jx_At G X fin w pc L (.int y :: .int x :: st) :=
  fun H locs ls hP hD hS hl => lv_icmp_lt hX.1 hX.2.1 hd ht (fun h => kt h H locs ls hP hD hS hl) (fun h => kf h H locs ls hP hD hS hl)
theorem jx_if_lt (hX : jx_Ok G X cc own ret nL lv) {x : Int32} {off : Int} {tgt : Nat} (hd : decode cc pc = .ok (.ifCond .lt off, 3)) (ht : (pc : Int) + off = (tgt : Int)) (kt : x < 0 → jx_At G X fin w tgt L st) (kf : ¬ x < 0 → jx_At G X fin w (pc + 3) L st) : jx_At G X fin w pc L (.int x :: st) :=
  fun H locs ls hP hD hS hl => lv_if_lt hX.1 hX.2.1 hd ht (fun h => kt h H locs ls hP hD hS hl) (fun h => kf h H locs ls hP hD hS hl)
theorem jx_icmp_ge (hX : jx_Ok G X cc own ret nL lv) {x y : Int32} {off : Int} {tgt : Nat} (hd : decode cc pc = .ok (.if_icmp .ge off, 3)) (ht : (pc : Int) + off = (tgt : Int)) (kt : y ≤ x → jx_At G X fin w tgt L st) (kf : ¬ y ≤ x → jx_At G X fin w (pc + 3) L st) : jx_At G X fin w pc L (.int y :: .int x :: st) :=
  fun H locs ls hP hD hS hl => lv_icmp_ge hX.1 hX.2.1 hd ht (fun h => kt h H locs ls hP hD hS hl) (fun h => kf h H locs ls hP hD hS hl)
theorem jx_if_ge (hX : jx_Ok G X cc own ret nL lv) {x : Int32} {off : Int} {tgt : Nat} (hd : decode cc pc = .ok (.ifCond .ge off, 3)) (ht : (pc : Int) + off = (tgt : Int)) (kt : 0 ≤ x → jx_At G X fin w tgt L st) (kf : ¬ 0 ≤ x → jx_At G X fin w (pc + 3) L st) : jx_At G X fin w pc L (.int x :: st) :=
  fun H locs ls hP hD hS hl => lv_if_ge hX.1 hX.2.1 hd ht (fun h => kt h H locs ls hP hD hS hl) (fun h => kf h H locs ls hP hD hS hl)
theorem jx_icmp_gt (hX : jx_Ok G X cc own ret nL lv) {x y : Int32} {off : Int} {tgt : Nat} (hd : decode cc pc = .ok (.if_icmp .gt off, 3)) (ht : (pc : Int) + off = (tgt : Int)) (kt : y < x → jx_At G X fin w tgt L st) (kf : ¬ y < x → jx_At G X fin w (pc + 3) L st) : jx_At G X fin w pc L (.int y :: .int x :: st) :=
  fun H locs ls hP hD hS hl => lv_icmp_gt hX.1 hX.2.1 hd ht (fun h => kt h H locs ls hP hD hS hl) (fun h => kf h H locs ls hP hD hS hl)
theorem jx_if_gt (hX : jx_Ok G X cc own ret nL lv) {x : Int32} {off : Int} {tgt : Nat} (hd : decode cc pc = .ok (.ifCond .gt off, 3)) (ht : (pc : Int) + off = (tgt : Int)) (kt : 0 < x → jx_At G X fin w tgt L st) (kf : ¬ 0 < x → jx_At G X fin w (pc + 3) L st) : jx_At G X fin w pc L (.int x :: st) :=
  fun H locs ls hP hD hS hl => lv_if_gt hX.1 hX.2.1 hd ht (fun h => kt h H locs ls hP hD hS hl) (fun h => kf h H locs ls hP hD hS hl)
theorem jx_icmp_le (hX : jx_Ok G X cc own ret nL lv) {x y : Int32} {off : Int} {tgt : Nat} (hd : decode cc pc = .ok (.if_icmp .le off, 3)) (ht : (pc : Int) + off = (tgt : Int)) (kt : x ≤ y → jx_At G X fin w tgt L st) (kf : ¬ x ≤ y → jx_At G X fin w (pc + 3) L st) : jx_At G X fin w pc L (.int y :: .int x :: st) :=
  fun H locs ls hP hD hS hl => lv_icmp_le hX.1 hX.2.1 hd ht (fun h => kt h H locs ls hP hD hS hl) (fun h => kf h H locs ls hP hD hS hl)
theorem jx_if_le (hX : jx_Ok G X cc own ret nL lv) {x : Int32} {off : Int} {tgt : Nat} (hd : decode cc pc = .ok (.ifCond .le off, 3)) (ht : (pc : Int) + off = (tgt : Int)) (kt : x ≤ 0 → jx_At G X fin w tgt L st) (kf : ¬ x ≤ 0 → jx_At G X fin w (pc + 3) L st) : jx_At G X fin w pc L (.int x :: st) :=
  fun H locs ls hP hD hS hl => lv_if_le hX.1 hX.2.1 hd ht (fun h => kt h H locs ls hP hD hS hl) (fun h => kf h H locs ls hP hD hS hl)
theorem jx_goto (hX : jx_Ok G X cc own ret nL lv) {off : Int} {tgt : Nat} (hd : decode cc pc = .ok (.goto off, 3)) (ht : (pc : Int) + off = (tgt : Int)) (k : jx_At G X fin w tgt L st) : jx_At G X fin w pc L st :=
  fun H locs ls hP hD hS hl => lv_goto hX.1 hX.2.1 hd ht (k H locs ls hP hD hS hl)
theorem jx_end (hX : jx_Ok G X cc own ret nL lv) {H : Heap} {locs : List Loc} {r : Option Value} (hP : va_P G.1 jx_cl w H) (hD : va_D (jx_A X) w) (hS : va_S (jx_A X) (jx_s X).heap H locs) : ∀ t : State, t.heap = H → (jx_s X).WarmedH t.vm → jx_Q G (jx_A X) (r, w) (jx_a X) (jx_s X) (.returned r) t :=
  fun t ht hW => ⟨⟨rfl, by rw [ht]; exact hP, va_K.moved hW.alike hX.2.2.2.2.2.1, hD⟩, hS.F ht⟩
theorem jx_iret (hX : jx_Ok G X cc own (some .int) nL lv) {v : Int32} (hd : decode cc pc = .ok (.ireturn, 1)) : jx_At G X (some (.int v), w) w pc L [.int v] :=
  fun H locs ls hP hD hS hl => W.iret hX.1 hX.2.1 hX.2.2.2.2.2.2.2.2.1 (jx_end hX hP hD hS) hS.2.2 hd hX.2.2.2.2.2.2.2.1
theorem jx_zret {ty : FieldType} (hX : jx_Ok G X cc own (some ty) nL lv) {v : Int32} (hd : decode cc pc = .ok (.ireturn, 1)) (hn : narrow ty (.int v) = .int v) : jx_At G X (some (.int v), w) w pc L [.int v] :=
  fun H locs ls hP hD hS hl => W.zret hX.1 hX.2.1 hX.2.2.2.2.2.2.2.2.1 hn (jx_end hX hP hD hS) hS.2.2 hd hX.2.2.2.2.2.2.2.1
theorem jx_lret (hX : jx_Ok G X cc own (some .long) nL lv) {v : Int64} (hd : decode cc pc = .ok (.lreturn, 1)) : jx_At G X (some (.long v), w) w pc L [.long v] :=
  fun H locs ls hP hD hS hl => W.lret hX.1 hX.2.1 hX.2.2.2.2.2.2.2.2.1 (jx_end hX hP hD hS) hS.2.2 hd hX.2.2.2.2.2.2.2.1
theorem jx_vret (hX : jx_Ok G X cc own none nL lv) (hd : decode cc pc = .ok (.return_, 1)) : jx_At G X (none, w) w pc L [] :=
  fun H locs ls hP hD hS hl => W.vret hX.1 hX.2.1 hX.2.2.2.2.2.2.2.2.1 (jx_end hX hP hD hS) hS.2.2 hd hX.2.2.2.2.2.2.2.1
theorem jx_get (hX : jx_Ok G X cc own ret nL lv) {C : String} {T : u_T} {N ci index a : Nat} (hin : ∀ w ∈ u_ws C T N, w ∈ jx_W) (q0 : Nat) {fs : List Value} (he : w[q0]? = some (a, .inr (ci, fs))) (hc : jx_cl[ci]? = some (C, T, N)) (j : Nat) (hj : j < N) (h1 : (T j).1 = C) (hlink : Cond.fieldLink own index C (T j).2.1 (T j).2.2.1 ∈ jx_W) {v : Value} (hv : fs[j]? = some v) (hd : decode cc pc = .ok (.getfield index, 3)) (k : jx_At G X fin w (pc + 3) L (v :: st)) : jx_At G X fin w pc L (.ref a :: st) :=
  fun H locs ls hP hD hS hl => va_get hX.1 hX.2.1 hX.2.2.2.2.1 hin hX.2.2.2.1 hX.2.2.2.2.2.1 hP q0 he hc j hj (hX.2.2.2.2.1 _ hlink) (fun x hx => by rw [h1] at hx; exact hx) hv hd (k H locs ls hP hD hS hl)
theorem jx_getN (hX : jx_Ok G X cc own ret nL lv) {C host : String} {T : u_T} {N ci index a : Nat} (hin : ∀ w ∈ u_ws C T N, w ∈ jx_W) (q0 : Nat) {fs : List Value} (he : w[q0]? = some (a, .inr (ci, fs))) (hc : jx_cl[ci]? = some (C, T, N)) (j : Nat) (hj : j < N) (h1 : (T j).1 = C) (hlink : Cond.fieldLinkNest own index C (T j).2.1 (T j).2.2.1 host ∈ jx_Z) {v : Value} (hv : fs[j]? = some v) (hd : decode cc pc = .ok (.getfield index, 3)) (k : jx_At G X fin w (pc + 3) L (v :: st)) : jx_At G X fin w pc L (.ref a :: st) :=
  fun H locs ls hP hD hS hl => va_getN hX.1 hX.2.1 hX.2.2.2.2.1 hin hX.2.2.2.1 hX.2.2.2.2.2.1 hP q0 he hc j hj (va_Nw.use rfl (hX.2.2.2.2.2.2.1 _ hlink)) (fun x hx => by rw [h1] at hx; exact hx) hv hd (k H locs ls hP hD hS hl)
theorem jx_put (hX : jx_Ok G X cc own ret nL lv) {C : String} {T : u_T} {N ci index a : Nat} (hin : ∀ w ∈ u_ws C T N, w ∈ jx_W) (ty0 : Nat → FieldType) (hty : ∀ k, k < N → parseFieldDescriptor (T k).2.2.1 = some (ty0 k)) (hnm : ∀ a, a < N → ∀ b, b < N → a ≠ b → (T a).2.1 ≠ (T b).2.1) (q0 : Nat) {fs : List Value} (he : w[q0]? = some (a, .inr (ci, fs))) (hc : jx_cl[ci]? = some (C, T, N)) (j : Nat) (hj : j < N) (h1 : (T j).1 = C) (hlink : Cond.fieldLink own index C (T j).2.1 (T j).2.2.1 ∈ jx_W) (hfin : (T j).2.2.2 = false) {v : Value} {ty : FieldType} (ht : ty0 j = ty) (hn : narrow ty v = v) (hfit : fits ty v = true) (hl0 : j < fs.length) {w2 : va_W} (hw : w.set q0 (a, .inr (ci, fs.set j v)) = w2) (hd : decode cc pc = .ok (.putfield index, 3)) (k : jx_At G X fin w2 (pc + 3) L st) : jx_At G X fin w pc L (v :: .ref a :: st) :=
  fun H locs ls hP hD hS hl => va_put hX.1 hX.2.1 hX.2.2.2.2.1 hin ty0 hty hnm hX.2.2.2.1 hX.2.2.2.2.2.1 hP hD hS q0 he hc j hj (hX.2.2.2.2.1 _ hlink) (fun x hx => by rw [h1] at hx; exact hx) hfin (by rw [← ht]; exact hty j hj) hn hfit hl0 hd (fun H1 locs1 hP hD hS => k H1 locs1 ls (by rw [hw] at hP; exact hP) (by rw [hw] at hD; exact hD) hS hl)
theorem jx_putN (hX : jx_Ok G X cc own ret nL lv) {C host : String} {T : u_T} {N ci index a : Nat} (hin : ∀ w ∈ u_ws C T N, w ∈ jx_W) (ty0 : Nat → FieldType) (hty : ∀ k, k < N → parseFieldDescriptor (T k).2.2.1 = some (ty0 k)) (hnm : ∀ a, a < N → ∀ b, b < N → a ≠ b → (T a).2.1 ≠ (T b).2.1) (q0 : Nat) {fs : List Value} (he : w[q0]? = some (a, .inr (ci, fs))) (hc : jx_cl[ci]? = some (C, T, N)) (j : Nat) (hj : j < N) (h1 : (T j).1 = C) (hlink : Cond.fieldLinkNest own index C (T j).2.1 (T j).2.2.1 host ∈ jx_Z) (hfin : (T j).2.2.2 = false) {v : Value} {ty : FieldType} (ht : ty0 j = ty) (hn : narrow ty v = v) (hfit : fits ty v = true) (hl0 : j < fs.length) {w2 : va_W} (hw : w.set q0 (a, .inr (ci, fs.set j v)) = w2) (hd : decode cc pc = .ok (.putfield index, 3)) (k : jx_At G X fin w2 (pc + 3) L st) : jx_At G X fin w pc L (v :: .ref a :: st) :=
  fun H locs ls hP hD hS hl => va_putN hX.1 hX.2.1 hX.2.2.2.2.1 hin ty0 hty hnm hX.2.2.2.1 hX.2.2.2.2.2.1 hP hD hS q0 he hc j hj (va_Nw.use rfl (hX.2.2.2.2.2.2.1 _ hlink)) (fun x hx => by rw [h1] at hx; exact hx) hfin (by rw [← ht]; exact hty j hj) hn hfit hl0 hd (fun H1 locs1 hP hD hS => k H1 locs1 ls (by rw [hw] at hP; exact hP) (by rw [hw] at hD; exact hD) hS hl)
theorem jx_iald (hX : jx_Ok G X cc own ret nL lv) {a : Nat} (q0 : Nat) {n : Nat} {f : Nat → Int32} (ha : w[q0]? = some (a, .inl (jx_ca G 0, n, .inl f))) {i : Int32} (hin : jx_in i n = true) (hd : decode cc pc = .ok (.iaload, 1)) (k : jx_At G X fin w (pc + 1) L (.int (f i.toNatClampNeg) :: st)) : jx_At G X fin w pc L (.int i :: .ref a :: st) :=
  fun H locs ls hP hD hS hl => va_iald hX.1 hX.2.1 hX.2.2.2.2.2.1 hP q0 0 ha rfl (jx_in_ok hin) hd (k H locs ls hP hD hS hl)
theorem jx_cald (hX : jx_Ok G X cc own ret nL lv) {a : Nat} (q0 : Nat) {n : Nat} {f : Nat → Int32} (ha : w[q0]? = some (a, .inl (jx_ca G 1, n, .inl f))) {i : Int32} (hin : jx_in i n = true) (hd : decode cc pc = .ok (.caload, 1)) (k : jx_At G X fin w (pc + 1) L (.int (f i.toNatClampNeg) :: st)) : jx_At G X fin w pc L (.int i :: .ref a :: st) :=
  fun H locs ls hP hD hS hl => va_cald hX.1 hX.2.1 hX.2.2.2.2.2.1 hP q0 1 ha rfl (jx_in_ok hin) hd (k H locs ls hP hD hS hl)
theorem jx_iast (hX : jx_Ok G X cc own ret nL lv) {a : Nat} (q0 : Nat) {n : Nat} {f : Nat → Int32} (ha : w[q0]? = some (a, .inl (jx_ca G 0, n, .inl f))) {i x : Int32} (hin : jx_in i n = true) {w2 : va_W} (hw : w.set q0 (a, .inl (jx_ca G 0, n, .inl (upd f i.toNatClampNeg x))) = w2) (hd : decode cc pc = .ok (.iastore, 1)) (k : jx_At G X fin w2 (pc + 1) L st) : jx_At G X fin w pc L (.int x :: .int i :: .ref a :: st) :=
  fun H locs ls hP hD hS hl => va_iast hX.1 hX.2.1 hX.2.2.2.2.2.1 hP hD hS q0 0 ha rfl (jx_in_ok hin) hd (fun H1 locs1 hP hD hS => k H1 locs1 ls (by rw [hw] at hP; exact hP) (by rw [hw] at hD; exact hD) hS hl)
theorem jx_cast (hX : jx_Ok G X cc own ret nL lv) {a : Nat} (q0 : Nat) {n : Nat} {f : Nat → Int32} (ha : w[q0]? = some (a, .inl (jx_ca G 1, n, .inl f))) {i x : Int32} (hin : jx_in i n = true) {w2 : va_W} (hw : w.set q0 (a, .inl (jx_ca G 1, n, .inl (upd f i.toNatClampNeg (vp_nar .char x)))) = w2) (hd : decode cc pc = .ok (.castore, 1)) (k : jx_At G X fin w2 (pc + 1) L st) : jx_At G X fin w pc L (.int x :: .int i :: .ref a :: st) :=
  fun H locs ls hP hD hS hl => va_cast hX.1 hX.2.1 hX.2.2.2.2.2.1 hP hD hS q0 1 ha rfl (jx_in_ok hin) hd (fun H1 locs1 hP hD hS => k H1 locs1 ls (by rw [hw] at hP; exact hP) (by rw [hw] at hD; exact hD) hS hl)
theorem jx_zald (hX : jx_Ok G X cc own ret nL lv) {a : Nat} (q0 : Nat) {n : Nat} {f : Nat → Int32} (ha : w[q0]? = some (a, .inl (jx_ca G 2, n, .inl f))) {i : Int32} (hin : jx_in i n = true) (hd : decode cc pc = .ok (.baload, 1)) (k : jx_At G X fin w (pc + 1) L (.int (f i.toNatClampNeg) :: st)) : jx_At G X fin w pc L (.int i :: .ref a :: st) :=
  fun H locs ls hP hD hS hl => va_zald hX.1 hX.2.1 hX.2.2.2.2.2.1 hP q0 2 ha rfl (jx_in_ok hin) hd (k H locs ls hP hD hS hl)
theorem jx_zast (hX : jx_Ok G X cc own ret nL lv) {a : Nat} (q0 : Nat) {n : Nat} {f : Nat → Int32} (ha : w[q0]? = some (a, .inl (jx_ca G 2, n, .inl f))) {i x : Int32} (hin : jx_in i n = true) {w2 : va_W} (hw : w.set q0 (a, .inl (jx_ca G 2, n, .inl (upd f i.toNatClampNeg (vp_nar .boolean x)))) = w2) (hd : decode cc pc = .ok (.bastore, 1)) (k : jx_At G X fin w2 (pc + 1) L st) : jx_At G X fin w pc L (.int x :: .int i :: .ref a :: st) :=
  fun H locs ls hP hD hS hl => va_zast hX.1 hX.2.1 hX.2.2.2.2.2.1 hP hD hS q0 2 ha rfl (jx_in_ok hin) hd (fun H1 locs1 hP hD hS => k H1 locs1 ls (by rw [hw] at hP; exact hP) (by rw [hw] at hD; exact hD) hS hl)
theorem jx_lald (hX : jx_Ok G X cc own ret nL lv) {a : Nat} (q0 : Nat) {n : Nat} {f : Nat → Int64} (ha : w[q0]? = some (a, .inl (jx_ca G 3, n, .inr (.inl f)))) {i : Int32} (hin : jx_in i n = true) (hd : decode cc pc = .ok (.laload, 1)) (k : jx_At G X fin w (pc + 1) L (.long (f i.toNatClampNeg) :: st)) : jx_At G X fin w pc L (.int i :: .ref a :: st) :=
  fun H locs ls hP hD hS hl => va_lald hX.1 hX.2.1 hX.2.2.2.2.2.1 hP q0 3 ha rfl (jx_in_ok hin) hd (k H locs ls hP hD hS hl)
theorem jx_last (hX : jx_Ok G X cc own ret nL lv) {a : Nat} (q0 : Nat) {n : Nat} {f : Nat → Int64} (ha : w[q0]? = some (a, .inl (jx_ca G 3, n, .inr (.inl f)))) {i : Int32} {x : Int64} (hin : jx_in i n = true) {w2 : va_W} (hw : w.set q0 (a, .inl (jx_ca G 3, n, .inr (.inl (vp_updL f i.toNatClampNeg x)))) = w2) (hd : decode cc pc = .ok (.lastore, 1)) (k : jx_At G X fin w2 (pc + 1) L st) : jx_At G X fin w pc L (.long x :: .int i :: .ref a :: st) :=
  fun H locs ls hP hD hS hl => va_last hX.1 hX.2.1 hX.2.2.2.2.2.1 hP hD hS q0 3 ha rfl (jx_in_ok hin) hd (fun H1 locs1 hP hD hS => k H1 locs1 ls (by rw [hw] at hP; exact hP) (by rw [hw] at hD; exact hD) hS hl)
theorem jx_ldc2 (hX : jx_Ok G X cc own ret nL lv) {index : Nat} {v : Int64} (hc : Cond.constantLong own index v ∈ jx_W) (hd : decode cc pc = .ok (.ldc2_w index, 3)) (k : jx_At G X fin w (pc + 3) L (.long v :: st)) : jx_At G X fin w pc L st :=
  fun H locs ls hP hD hS hl => lv_ldc2 hX.1 hX.2.1 hX.2.2.2.1 (hX.2.2.2.2.1 _ hc) hd (k H locs ls hP hD hS hl)
theorem jx_ai_r (hX : jx_Ok G X cc own ret nL lv) {index : Nat} {x : Int32} (hlink : Cond.methodLink own index Lib.Math.abs.name ∈ jx_W) (hd : decode cc pc = .ok (.invokestatic index, 3)) (hr : (st.map fun v => v.category).sum ≤ 8) (hlv : 0 < lv) (k : jx_At G X fin w (pc + 3) L (.int (jx_ai x) :: st)) : jx_At G X fin w pc L (.int x :: st) :=
  fun H locs ls hP hD hS hl => va_mabs hX.1 hX.2.1 hl.1.symm hX.2.2.2.1 (hX.2.2.2.2.1 _ hlink) (hX.2.2.2.2.1 _ jw_absS) (hX.2.2.2.2.1 _ jw_MathI) (hX.2.2.2.2.1 _ jw_absC) (by rw [hX.2.2.2.2.2.2.2.2.2.2]; exact hlv) (by rw [hX.2.2.2.2.2.2.2.2.2.2]; simp only [jx_rm]; omega) (Nat.zero_le _) (Nat.zero_le _) hd (k H locs ls hP hD hS hl)
theorem jx_mx_r (hX : jx_Ok G X cc own ret nL lv) {index : Nat} {x y : Int32} (hlink : Cond.methodLink own index Lib.Math.max.name ∈ jx_W) (hd : decode cc pc = .ok (.invokestatic index, 3)) (hr : (st.map fun v => v.category).sum ≤ 8) (hlv : 0 < lv) (k : jx_At G X fin w (pc + 3) L (.int (jx_mx x y) :: st)) : jx_At G X fin w pc L (.int y :: .int x :: st) :=
  fun H locs ls hP hD hS hl => va_mmax hX.1 hX.2.1 hl.1.symm hX.2.2.2.1 (hX.2.2.2.2.1 _ hlink) (hX.2.2.2.2.1 _ jw_maxS) (hX.2.2.2.2.1 _ jw_MathI) (hX.2.2.2.2.1 _ jw_maxC) (by rw [hX.2.2.2.2.2.2.2.2.2.2]; exact hlv) (by rw [hX.2.2.2.2.2.2.2.2.2.2]; simp only [jx_rm]; omega) (Nat.zero_le _) (Nat.zero_le _) hd (k H locs ls hP hD hS hl)
theorem jx_al_r (hX : jx_Ok G X cc own ret nL lv) {index : Nat} {x : Int64} (hlink : Cond.methodLink own index Lib.MathLoose.abs_long.x ∈ jx_W) (hd : decode cc pc = .ok (.invokestatic index, 3)) (hr : (st.map fun v => v.category).sum ≤ 8) (hlv : 0 < lv) (k : jx_At G X fin w (pc + 3) L (.long (jx_al x) :: st)) : jx_At G X fin w pc L (.long x :: st) :=
  fun H locs ls hP hD hS hl => va_mabs_long hX.1 hX.2.1 hl.1.symm hX.2.2.2.1 (hX.2.2.2.2.1 _ hlink) (hX.2.2.2.2.1 _ jw_abslS) (hX.2.2.2.2.1 _ jw_MathI) (hX.2.2.2.2.1 _ jw_abslC) (by rw [hX.2.2.2.2.2.2.2.2.2.2]; exact hlv) (by rw [hX.2.2.2.2.2.2.2.2.2.2]; simp only [jx_rm]; omega) (Nat.zero_le _) (Nat.zero_le _) hd (k H locs ls hP hD hS hl)
end JX
def jx_M (l : Launch) (y : MethodName) (b : ByteArray) (nL : Nat) (ret : Option FieldType) (lv : Nat) (G : jx_G) (av : List Value) (w0 : va_W) (fin : Option Value × va_W) : Prop :=
  ∀ sz : Nat, Met l y (Cond.code y b nL ret :: jx_W) (jx_rm lv) (va_Pc av (fun U => U.heap.size = sz ∧ va_P G.1 jx_cl w0 U.heap ∧ va_K G.1 jx_cl (jx_ty G) U ∧ va_D (fun _ => True) w0 ∧ ∀ w ∈ jx_Z, va_Nw w U)) (jx_Q G (va_A w0 sz) fin) 0 0 (va_A w0 sz)
theorem jx_met {l : Launch} {y : MethodName} {b : ByteArray} {nL : Nat} {ret : Option FieldType} {lv : Nat} {G : jx_G} {av : List Value} {w0 : va_W} {fin : Option Value × va_W} {own : String} (hy : plainName y.cls = true) (ho : y.cls = own) (hlen : (lg_sl av).length ≤ nL)
    (h : ∀ X : jx_C, jx_Ok G X b own ret nL lv → jx_l X = l → jx_At G X fin w0 0 (lv_args 0 av) []) : jx_M l y b nL ret lv G av w0 fin := by
  intro sz
  refine Met.ofW (cc := b) (maxL := nL) (ret := ret) hy rfl ?_
  intro p e s m args below meth c s₁ B hml hv
  obtain ⟨rfl, hsz, hP, hK, hD0, hZ⟩ := hv
  subst hsz
  have hts := atoms_spec (ws := Cond.code y b nL ret :: jx_W) B.pre
  have hD := hD0.self (sz := s.heap.size)
  have hl := lv_entry av (n := nL) hlen
  rw [lg_entry_eq]
  have hX : jx_Ok G (p, l, e, jx_rm lv, s, m, av.toArray, below, meth, c, va_A w0 s.heap.size) b own ret nL lv :=
    ⟨B.exec, B.bytes, hml, by rw [← ho]; exact findClass_of_methodNamed B.named, fun w hw => hts w (List.mem_cons_of_mem _ hw), hK, hZ, B.notSynchronized, B.returns, fun q h => Or.inr h, rfl⟩
  exact h (p, l, e, jx_rm lv, s, m, av.toArray, below, meth, c, va_A w0 s.heap.size) hX rfl s.heap [] _ hP hD va_S.rf (by show lv_has _ c.maxLocals _; rw [hml]; exact hl)
theorem jx_Zw {s U : State} (hW : s.WarmedH U.vm) (h : ∀ w ∈ jx_Z, va_Nw w s) : ∀ w ∈ jx_Z, va_Nw w U := by
  intro w hw
  have h1 : jx_isN w = true := List.all_eq_true.mp jx_Zn w hw
  have h2 := h w hw
  cases w <;> first | (simp [jx_isN] at h1; done) | exact va_Nw.warmF hW h2 | exact va_Nw.warmM hW h2
theorem jx_Zs {s U : State} (hvm : s.vm = U.vm) (h : ∀ w ∈ jx_Z, va_Nw w s) : ∀ w ∈ jx_Z, va_Nw w U := by
  intro w hw
  have h1 : jx_isN w = true := List.all_eq_true.mp jx_Zn w hw
  have h2 := h w hw
  cases w <;> first | (simp [jx_isN] at h1; done) | exact va_Nw.same rfl hvm h2
theorem jx_goodW {y : MethodName} {b : ByteArray} {nL : Nat} {ret : Option FieldType} (hc : Cond.code y b nL ret ∈ jx_W) : GoodIn jx_W (Cond.code y b nL ret :: jx_W) := by
  intro w hw
  have hm : w ∈ jx_W := by
    rcases List.mem_cons.mp hw with h | h
    · rw [h]; exact hc
    · exact h
  exact ⟨hm, good_of_word (List.all_eq_true.mp jx_Wg w hm)⟩
section JXC
variable {G : jx_G} {X : jx_C} {cc : ByteArray} {own : String} {ret : Option FieldType} {nL lv : Nat} {fin fin1 : Option Value × va_W} {w : va_W} {pc : Nat} {L : List (Nat × Value)} {st rest : List Value}
theorem jx_behind (hX : jx_Ok G X cc own ret nL lv) {H : Heap} {locs : List Loc} {ls : Array Slot} {a : Array Value} (hD : va_D (jx_A X) w) (hS : va_S (jx_A X) (jx_s X).heap H locs) (hl : lv_has ls (jx_c X).maxLocals L)
    (hr : va_Run (jx_p X) (jx_l X) (jx_e X) (jx_R X) (jx_s X) (jx_m X) (jx_a X) (jx_b X) (jx_h X) (jx_c X) H locs 0 0 0 0 (F0 (jx_m X) pc ls st) rest (jx_Q G (va_A w H.size) fin1 a) (va_A w H.size))
    (k : jx_At G X fin fin1.2 (pc + 3) L (fin1.1.toList ++ rest)) : W (jx_p X) (jx_l X) (jx_e X) (jx_R X) (jx_s X) (jx_m X) (jx_a X) (jx_b X) (jx_h X) (jx_c X) H locs 0 0 (MQ (jx_b X) (jx_Q G (jx_A X) fin) (jx_a X) (jx_s X) 0 0 (jx_A X)) (F0 (jx_m X) pc ls st) := by
  intro T hT X9
  obtain ⟨v, st₀, t, T', L9, h0, X', hL, e1, e2, ⟨⟨hv, hP1, hK1, hD1⟩, hz, hk⟩, stp⟩ := hr T hT X9
  have hv2 : v = fin1.1 := Outcome.returned.inj hv
  subst hv2
  rw [h0] at hz hk
  have hF : ∀ q, va_A w H.size q → jx_A X q := by
    intro q h
    rcases h with ⟨j, e, h⟩ | h
    · exact hD.2 j _ h
    · exact hX.2.2.2.2.2.2.2.2.2.1 q (Nat.le_trans hS.1 h)
  obtain ⟨t2, a1, b1⟩ := k T'.heap (locs ++ L9) ls (by rw [e1]; exact hP1) (hD1.weaken (fun _ q _ h => hF q.1 h))
    ⟨Nat.le_trans hS.1 (by rw [e1]; exact hz), fun q h1 h2 => by rw [e1, hk q (Nat.lt_of_lt_of_le h1 hS.1) (fun z => h2 (hF q z))]; exact hS.2.1 q h1 h2, fun q hq => by
      rcases List.mem_append.mp hq with h | h
      · exact hS.2.2 q h
      · exact hF _ (hL q h)⟩ hl T' rfl X'
  exact ⟨t2, stp t2 a1, b1⟩
variable {y : MethodName} {b : ByteArray} {nL' lv' index n : Nat} {ret' : Option FieldType} {As : List Value}
theorem jx_pre (hX : jx_Ok G X cc own ret nL lv) {H : Heap} (hP : va_P G.1 jx_cl w H) (hD : va_D (jx_A X) w) {av : List Value} : PreS (jx_s X) H (va_Pc av (fun U => U.heap.size = H.size ∧ va_P G.1 jx_cl w U.heap ∧ va_K G.1 jx_cl (jx_ty G) U ∧ va_D (fun _ => True) w ∧ ∀ w ∈ jx_Z, va_Nw w U)) av :=
  ⟨fun a U g mk q => by obtain ⟨q0, q1, qP, qK, qD, qZ⟩ := q; exact ⟨q0, q1, qP, va_K.moved (u := U) (U := U.calling g mk a) (Vm.Alike.refl U.vm) qK, qD, jx_Zs (s := U) (U := U.calling g mk a) rfl qZ⟩,
    fun U hU hW => ⟨rfl, by rw [hU], by rw [hU]; exact hP, va_K.moved hW.alike hX.2.2.2.2.2.1, hD.weaken (fun _ _ _ _ => trivial), jx_Zw hW hX.2.2.2.2.2.2.1⟩⟩
theorem jx_callB (hX : jx_Ok G X cc own ret nL lv) (hcode : Cond.code y b nL' ret' ∈ jx_W) (hini : Cond.initialized y.cls ∈ jx_W) (hlink : Cond.methodLink own index y ∈ jx_W) (hd : y.cls ≠ "java/lang/invoke/MethodHandle" ∧ y.cls ≠ "java/lang/invoke/VarHandle" ∧ (parseMethodDescriptor y.desc).map (fun d => d.parameters.length) = some n) (hlv : lv' < lv) (hn : nL' ≤ 33) :
    CallB (jx_R X) (jx_s X) (jx_a X) own index y b nL' ret' (Cond.code y b nL' ret' :: jx_W) (jx_rm lv') 0 0 n :=
  callB_of n hX.2.2.2.2.1 (jx_goodW hcode) rfl rfl rfl (hX.2.2.2.2.1 _ hini) (hX.2.2.2.2.1 _ hlink) hd (by rw [hX.2.2.2.2.2.2.2.2.2.2]; simp only [jx_rm]; omega)
theorem jx_callV (hX : jx_Ok G X cc own ret nL lv) {C : String} {T : u_T} {N ci a : Nat} {fs : List Value} (hM : jx_M (jx_l X) y b nL' ret' lv' G (.ref a :: As) w fin1) (hcode : Cond.code y b nL' ret' ∈ jx_W) (hini : Cond.initialized y.cls ∈ jx_W) (hlink : Cond.methodLink own index y ∈ jx_W) (hinst : Cond.instanceMethod y ∈ jx_W) (hsel : Cond.selects C y y ∈ jx_W) (hdd : y.cls ≠ "java/lang/invoke/MethodHandle" ∧ y.cls ≠ "java/lang/invoke/VarHandle" ∧ (parseMethodDescriptor y.desc).map (fun d => d.parameters.length) = some n) (q0 : Nat) (he : w[q0]? = some (a, .inr (ci, fs))) (hc : jx_cl[ci]? = some (C, T, N)) (hn : As.length = n) (hst : st = As.reverse ++ .ref a :: rest) (hnL : nL' ≤ 33) (hd : decode cc pc = .ok (.invokevirtual index, 3)) (hlv : lv' < lv) (hroom : (rest.map fun v => v.category).sum ≤ 8)
    (k : jx_At G X fin fin1.2 (pc + 3) L (fin1.1.toList ++ rest)) : jx_At G X fin w pc L st :=
  fun H locs ls hP hD hS hl => jx_behind hX hD hS hl (va_runV (As := As) (rest := rest) (C := C) ⟨hX.1, hX.2.1, rfl, hX.2.2.2.1, hX.2.2.2.2.1⟩ (hM H.size) ⟨jx_callB hX hcode hini hlink hdd hlv hnL, hX.2.2.2.2.1 _ hinst, hX.2.2.2.2.1 _ hsel⟩ ⟨(jx_pre hX hP hD).1, va_recv hX.2.2.2.2.2.1 hP hc he, (jx_pre hX hP hD).2⟩ rfl hn hl.1 hst (lv_room hroom) hd ⟨Nat.zero_le _, Nat.zero_le _⟩) k
theorem jx_callS (hX : jx_Ok G X cc own ret nL lv) (hM : jx_M (jx_l X) y b nL' ret' lv' G As w fin1) (hcode : Cond.code y b nL' ret' ∈ jx_W) (hini : Cond.initialized y.cls ∈ jx_W) (hlink : Cond.methodLink own index y ∈ jx_W) (hstat : Cond.static y ∈ jx_W) (hdd : y.cls ≠ "java/lang/invoke/MethodHandle" ∧ y.cls ≠ "java/lang/invoke/VarHandle" ∧ (parseMethodDescriptor y.desc).map (fun d => d.parameters.length) = some n) (hn : As.length = n) (hst : st = As.reverse ++ rest) (hnL : nL' ≤ 33) (hd : decode cc pc = .ok (.invokestatic index, 3)) (hlv : lv' < lv) (hroom : (rest.map fun v => v.category).sum ≤ 8)
    (k : jx_At G X fin fin1.2 (pc + 3) L (fin1.1.toList ++ rest)) : jx_At G X fin w pc L st :=
  fun H locs ls hP hD hS hl => jx_behind hX hD hS hl (va_runS (As := As) (rest := rest) ⟨hX.1, hX.2.1, rfl, hX.2.2.2.1, hX.2.2.2.2.1⟩ (hM H.size) ⟨jx_callB hX hcode hini hlink hdd hlv hnL, hX.2.2.2.2.1 _ hstat⟩ (jx_pre hX hP hD) rfl hn hl.1 hst (lv_room hroom) hd ⟨Nat.zero_le _, Nat.zero_le _⟩) k
end JXC
end
section
def jx_w (G : jx_G) (S : jx_S) : va_W := [(jx_ad G 0, .inr (0, [.ref (jx_ad G 1), .ref (jx_ad G 2), .ref (jx_ad G 3), .int (S.1 0), .int (S.1 1), .int (S.1 2)])),
  (jx_ad G 1, .inr (1, [.ref (jx_ad G 6), .ref (jx_ad G 7), .ref (jx_ad G 8), .int (S.1 3), .int (S.1 4), .int (S.1 5), .int (S.1 6)])),
  (jx_ad G 2, .inr (2, [.ref (jx_ad G 1), .ref (jx_ad G 9), .ref (jx_ad G 10), .ref (jx_ad G 11), .int (S.1 7), .int (S.1 8), .int (S.1 9), .int (S.1 10), .int (S.1 11)])),
  (jx_ad G 3, .inr (3, [.ref (jx_ad G 1), .ref (jx_ad G 4), .ref (jx_ad G 5), .ref (jx_ad G 15), .ref (jx_ad G 16), .ref (jx_ad G 17), .int (S.1 12)])),
  (jx_ad G 4, .inr (4, [.ref (jx_ad G 12), .ref (jx_ad G 13), .ref (jx_ad G 14), .int (S.1 13)])),
  (jx_ad G 5, .inr (5, [.int (S.1 14), .int (S.1 15), .int (S.1 16)])),
  (jx_ad G 6, .inl (jx_ca G 0, 32, .inl (S.2.1 0))),
  (jx_ad G 7, .inl (jx_ca G 1, 8, .inl (S.2.1 1))),
  (jx_ad G 8, .inl (jx_ca G 0, 80, .inl (S.2.1 2))),
  (jx_ad G 9, .inl (jx_ca G 1, 80, .inl (S.2.1 3))),
  (jx_ad G 10, .inl (jx_ca G 0, 80, .inl (S.2.1 4))),
  (jx_ad G 11, .inl (jx_ca G 0, 4, .inl (S.2.1 5))),
  (jx_ad G 12, .inl (jx_ca G 0, 72, .inl (S.2.1 6))),
  (jx_ad G 13, .inl (jx_ca G 0, 72, .inl (S.2.1 7))),
  (jx_ad G 14, .inl (jx_ca G 0, 72, .inl (S.2.1 8))),
  (jx_ad G 15, .inl (jx_ca G 0, 8, .inl (S.2.1 9))),
  (jx_ad G 16, .inl (jx_ca G 0, 8, .inl (S.2.1 10))),
  (jx_ad G 17, .inl (jx_ca G 0, 8, .inl (S.2.1 11)))]
section FR
variable {G : jx_G} {X : jx_C} {cc : ByteArray} {ret : Option FieldType} {nL lv : Nat} {fin : Option Value × va_W} {pc : Nat} {L : List (Nat × Value)} {st : List Value} {S : jx_S}
theorem gf_P_12 (hX : jx_Ok G X cc "PlaneCells" ret nL lv) (hd : decode cc pc = .ok (.getfield 12, 3)) (k : jx_At G X fin (jx_w G S) (pc + 3) L (.ref (jx_ad G 1) :: st)) : jx_At G X fin (jx_w G S) pc L (.ref (jx_ad G 0) :: st) := by
  exact jx_get hX jn_in_P 0 rfl rfl 0 (by decide) rfl wm_160 rfl hd k
theorem gf_P_21 (hX : jx_Ok G X cc "PlaneCells" ret nL lv) (hd : decode cc pc = .ok (.getfield 21, 3)) (k : jx_At G X fin (jx_w G S) (pc + 3) L (.ref (jx_ad G 2) :: st)) : jx_At G X fin (jx_w G S) pc L (.ref (jx_ad G 0) :: st) := by
  exact jx_get hX jn_in_P 0 rfl rfl 1 (by decide) rfl wm_161 rfl hd k
theorem gf_P_28 (hX : jx_Ok G X cc "PlaneCells" ret nL lv) (hd : decode cc pc = .ok (.getfield 28, 3)) (k : jx_At G X fin (jx_w G S) (pc + 3) L (.ref (jx_ad G 3) :: st)) : jx_At G X fin (jx_w G S) pc L (.ref (jx_ad G 0) :: st) := by
  exact jx_get hX jn_in_P 0 rfl rfl 2 (by decide) rfl wm_162 rfl hd k
theorem gf_P_32 (hX : jx_Ok G X cc "PlaneCells" ret nL lv) (hd : decode cc pc = .ok (.getfield 32, 3)) {x : Int32} (hx : S.1 0 = x) (k : jx_At G X fin (jx_w G S) (pc + 3) L (.int x :: st)) : jx_At G X fin (jx_w G S) pc L (.ref (jx_ad G 0) :: st) := by
  subst hx
  exact jx_get hX jn_in_P 0 rfl rfl 3 (by decide) rfl wm_163 rfl hd k
theorem gf_P_36 (hX : jx_Ok G X cc "PlaneCells" ret nL lv) (hd : decode cc pc = .ok (.getfield 36, 3)) {x : Int32} (hx : S.1 1 = x) (k : jx_At G X fin (jx_w G S) (pc + 3) L (.int x :: st)) : jx_At G X fin (jx_w G S) pc L (.ref (jx_ad G 0) :: st) := by
  subst hx
  exact jx_get hX jn_in_P 0 rfl rfl 4 (by decide) rfl wm_164 rfl hd k
theorem gf_P_39 (hX : jx_Ok G X cc "PlaneCells" ret nL lv) (hd : decode cc pc = .ok (.getfield 39, 3)) {x : Int32} (hx : S.1 2 = x) (k : jx_At G X fin (jx_w G S) (pc + 3) L (.int x :: st)) : jx_At G X fin (jx_w G S) pc L (.ref (jx_ad G 0) :: st) := by
  subst hx
  exact jx_get hX jn_in_P 0 rfl rfl 5 (by decide) rfl wm_165 rfl hd k
theorem gf_P_68 (hX : jx_Ok G X cc "PlaneCells" ret nL lv) (hd : decode cc pc = .ok (.getfield 68, 3)) {x : Int32} (hx : S.1 5 = x) (k : jx_At G X fin (jx_w G S) (pc + 3) L (.int x :: st)) : jx_At G X fin (jx_w G S) pc L (.ref (jx_ad G 1) :: st) := by
  subst hx
  exact jx_getN hX jn_in_S 1 rfl rfl 5 (by decide) rfl wm_35 rfl hd k
theorem gf_P_78 (hX : jx_Ok G X cc "PlaneCells" ret nL lv) (hd : decode cc pc = .ok (.getfield 78, 3)) {x : Int32} (hx : S.1 9 = x) (k : jx_At G X fin (jx_w G S) (pc + 3) L (.int x :: st)) : jx_At G X fin (jx_w G S) pc L (.ref (jx_ad G 2) :: st) := by
  subst hx
  exact jx_getN hX jn_in_R 2 rfl rfl 6 (by decide) rfl wm_68 rfl hd k
theorem gf_P_84 (hX : jx_Ok G X cc "PlaneCells" ret nL lv) (hd : decode cc pc = .ok (.getfield 84, 3)) {x : Int32} (hx : S.1 4 = x) (k : jx_At G X fin (jx_w G S) (pc + 3) L (.int x :: st)) : jx_At G X fin (jx_w G S) pc L (.ref (jx_ad G 1) :: st) := by
  subst hx
  exact jx_getN hX jn_in_S 1 rfl rfl 4 (by decide) rfl wm_34 rfl hd k
theorem gf_P_98 (hX : jx_Ok G X cc "PlaneCells" ret nL lv) (hd : decode cc pc = .ok (.getfield 98, 3)) {x : Int32} (hx : S.1 12 = x) (k : jx_At G X fin (jx_w G S) (pc + 3) L (.int x :: st)) : jx_At G X fin (jx_w G S) pc L (.ref (jx_ad G 3) :: st) := by
  subst hx
  exact jx_getN hX jn_in_Q 3 rfl rfl 6 (by decide) rfl wm_144 rfl hd k
theorem gf_P_113 (hX : jx_Ok G X cc "PlaneCells" ret nL lv) (hd : decode cc pc = .ok (.getfield 113, 3)) (k : jx_At G X fin (jx_w G S) (pc + 3) L (.ref (jx_ad G 4) :: st)) : jx_At G X fin (jx_w G S) pc L (.ref (jx_ad G 3) :: st) := by
  exact jx_getN hX jn_in_Q 3 rfl rfl 1 (by decide) rfl wm_138 rfl hd k
theorem gf_C_9 (hX : jx_Ok G X cc "PlaneCells$CriticalNumbers" ret nL lv) (hd : decode cc pc = .ok (.getfield 9, 3)) (k : jx_At G X fin (jx_w G S) (pc + 3) L (.ref (jx_ad G 12) :: st)) : jx_At G X fin (jx_w G S) pc L (.ref (jx_ad G 4) :: st) := by
  exact jx_get hX jn_in_C 4 rfl rfl 0 (by decide) rfl wm_103 rfl hd k
theorem gf_C_15 (hX : jx_Ok G X cc "PlaneCells$CriticalNumbers" ret nL lv) (hd : decode cc pc = .ok (.getfield 15, 3)) (k : jx_At G X fin (jx_w G S) (pc + 3) L (.ref (jx_ad G 13) :: st)) : jx_At G X fin (jx_w G S) pc L (.ref (jx_ad G 4) :: st) := by
  exact jx_get hX jn_in_C 4 rfl rfl 1 (by decide) rfl wm_104 rfl hd k
theorem gf_C_18 (hX : jx_Ok G X cc "PlaneCells$CriticalNumbers" ret nL lv) (hd : decode cc pc = .ok (.getfield 18, 3)) (k : jx_At G X fin (jx_w G S) (pc + 3) L (.ref (jx_ad G 14) :: st)) : jx_At G X fin (jx_w G S) pc L (.ref (jx_ad G 4) :: st) := by
  exact jx_get hX jn_in_C 4 rfl rfl 2 (by decide) rfl wm_105 rfl hd k
theorem gf_C_21 (hX : jx_Ok G X cc "PlaneCells$CriticalNumbers" ret nL lv) (hd : decode cc pc = .ok (.getfield 21, 3)) {x : Int32} (hx : S.1 13 = x) (k : jx_At G X fin (jx_w G S) (pc + 3) L (.int x :: st)) : jx_At G X fin (jx_w G S) pc L (.ref (jx_ad G 4) :: st) := by
  subst hx
  exact jx_get hX jn_in_C 4 rfl rfl 3 (by decide) rfl wm_106 rfl hd k
theorem gf_C_25 (hX : jx_Ok G X cc "PlaneCells$CriticalNumbers" ret nL lv) (hd : decode cc pc = .ok (.getfield 25, 3)) {x : Int32} (hx : S.1 16 = x) (k : jx_At G X fin (jx_w G S) (pc + 3) L (.int x :: st)) : jx_At G X fin (jx_w G S) pc L (.ref (jx_ad G 5) :: st) := by
  subst hx
  exact jx_getN hX jn_in_F 5 rfl rfl 2 (by decide) rfl wm_128 rfl hd k
theorem gf_C_30 (hX : jx_Ok G X cc "PlaneCells$CriticalNumbers" ret nL lv) (hd : decode cc pc = .ok (.getfield 30, 3)) {x : Int32} (hx : S.1 15 = x) (k : jx_At G X fin (jx_w G S) (pc + 3) L (.int x :: st)) : jx_At G X fin (jx_w G S) pc L (.ref (jx_ad G 5) :: st) := by
  subst hx
  exact jx_getN hX jn_in_F 5 rfl rfl 1 (by decide) rfl wm_126 rfl hd k
theorem gf_C_33 (hX : jx_Ok G X cc "PlaneCells$CriticalNumbers" ret nL lv) (hd : decode cc pc = .ok (.getfield 33, 3)) {x : Int32} (hx : S.1 14 = x) (k : jx_At G X fin (jx_w G S) (pc + 3) L (.int x :: st)) : jx_At G X fin (jx_w G S) pc L (.ref (jx_ad G 5) :: st) := by
  subst hx
  exact jx_getN hX jn_in_F 5 rfl rfl 0 (by decide) rfl wm_124 rfl hd k
theorem gf_Q_12 (hX : jx_Ok G X cc "PlaneCells$Plane" ret nL lv) (hd : decode cc pc = .ok (.getfield 12, 3)) (k : jx_At G X fin (jx_w G S) (pc + 3) L (.ref (jx_ad G 4) :: st)) : jx_At G X fin (jx_w G S) pc L (.ref (jx_ad G 3) :: st) := by
  exact jx_get hX jn_in_Q 3 rfl rfl 1 (by decide) rfl wm_137 rfl hd k
theorem gf_Q_21 (hX : jx_Ok G X cc "PlaneCells$Plane" ret nL lv) (hd : decode cc pc = .ok (.getfield 21, 3)) (k : jx_At G X fin (jx_w G S) (pc + 3) L (.ref (jx_ad G 5) :: st)) : jx_At G X fin (jx_w G S) pc L (.ref (jx_ad G 3) :: st) := by
  exact jx_get hX jn_in_Q 3 rfl rfl 2 (by decide) rfl wm_139 rfl hd k
theorem gf_Q_25 (hX : jx_Ok G X cc "PlaneCells$Plane" ret nL lv) (hd : decode cc pc = .ok (.getfield 25, 3)) (k : jx_At G X fin (jx_w G S) (pc + 3) L (.ref (jx_ad G 15) :: st)) : jx_At G X fin (jx_w G S) pc L (.ref (jx_ad G 3) :: st) := by
  exact jx_get hX jn_in_Q 3 rfl rfl 3 (by decide) rfl wm_140 rfl hd k
theorem gf_Q_29 (hX : jx_Ok G X cc "PlaneCells$Plane" ret nL lv) (hd : decode cc pc = .ok (.getfield 29, 3)) (k : jx_At G X fin (jx_w G S) (pc + 3) L (.ref (jx_ad G 16) :: st)) : jx_At G X fin (jx_w G S) pc L (.ref (jx_ad G 3) :: st) := by
  exact jx_get hX jn_in_Q 3 rfl rfl 4 (by decide) rfl wm_141 rfl hd k
theorem gf_Q_32 (hX : jx_Ok G X cc "PlaneCells$Plane" ret nL lv) (hd : decode cc pc = .ok (.getfield 32, 3)) (k : jx_At G X fin (jx_w G S) (pc + 3) L (.ref (jx_ad G 17) :: st)) : jx_At G X fin (jx_w G S) pc L (.ref (jx_ad G 3) :: st) := by
  exact jx_get hX jn_in_Q 3 rfl rfl 5 (by decide) rfl wm_142 rfl hd k
theorem gf_Q_35 (hX : jx_Ok G X cc "PlaneCells$Plane" ret nL lv) (hd : decode cc pc = .ok (.getfield 35, 3)) (k : jx_At G X fin (jx_w G S) (pc + 3) L (.ref (jx_ad G 1) :: st)) : jx_At G X fin (jx_w G S) pc L (.ref (jx_ad G 3) :: st) := by
  exact jx_get hX jn_in_Q 3 rfl rfl 0 (by decide) rfl wm_136 rfl hd k
theorem gf_Q_42 (hX : jx_Ok G X cc "PlaneCells$Plane" ret nL lv) (hd : decode cc pc = .ok (.getfield 42, 3)) {x : Int32} (hx : S.1 4 = x) (k : jx_At G X fin (jx_w G S) (pc + 3) L (.int x :: st)) : jx_At G X fin (jx_w G S) pc L (.ref (jx_ad G 1) :: st) := by
  subst hx
  exact jx_getN hX jn_in_S 1 rfl rfl 4 (by decide) rfl wm_33 rfl hd k
theorem gf_Q_63 (hX : jx_Ok G X cc "PlaneCells$Plane" ret nL lv) (hd : decode cc pc = .ok (.getfield 63, 3)) {x : Int32} (hx : S.1 13 = x) (k : jx_At G X fin (jx_w G S) (pc + 3) L (.int x :: st)) : jx_At G X fin (jx_w G S) pc L (.ref (jx_ad G 4) :: st) := by
  subst hx
  exact jx_getN hX jn_in_C 4 rfl rfl 3 (by decide) rfl wm_107 rfl hd k
theorem gf_Q_66 (hX : jx_Ok G X cc "PlaneCells$Plane" ret nL lv) (hd : decode cc pc = .ok (.getfield 66, 3)) {x : Int32} (hx : S.1 12 = x) (k : jx_At G X fin (jx_w G S) (pc + 3) L (.int x :: st)) : jx_At G X fin (jx_w G S) pc L (.ref (jx_ad G 3) :: st) := by
  subst hx
  exact jx_get hX jn_in_Q 3 rfl rfl 6 (by decide) rfl wm_143 rfl hd k
theorem gf_Q_89 (hX : jx_Ok G X cc "PlaneCells$Plane" ret nL lv) (hd : decode cc pc = .ok (.getfield 89, 3)) {x : Int32} (hx : S.1 3 = x) (k : jx_At G X fin (jx_w G S) (pc + 3) L (.int x :: st)) : jx_At G X fin (jx_w G S) pc L (.ref (jx_ad G 1) :: st) := by
  subst hx
  exact jx_getN hX jn_in_S 1 rfl rfl 3 (by decide) rfl wm_31 rfl hd k
theorem gf_Q_92 (hX : jx_Ok G X cc "PlaneCells$Plane" ret nL lv) (hd : decode cc pc = .ok (.getfield 92, 3)) (k : jx_At G X fin (jx_w G S) (pc + 3) L (.ref (jx_ad G 8) :: st)) : jx_At G X fin (jx_w G S) pc L (.ref (jx_ad G 1) :: st) := by
  exact jx_getN hX jn_in_S 1 rfl rfl 2 (by decide) rfl wm_29 rfl hd k
theorem gf_Q_106 (hX : jx_Ok G X cc "PlaneCells$Plane" ret nL lv) (hd : decode cc pc = .ok (.getfield 106, 3)) {x : Int32} (hx : S.1 6 = x) (k : jx_At G X fin (jx_w G S) (pc + 3) L (.int x :: st)) : jx_At G X fin (jx_w G S) pc L (.ref (jx_ad G 1) :: st) := by
  subst hx
  exact jx_getN hX jn_in_S 1 rfl rfl 6 (by decide) rfl wm_38 rfl hd k
theorem gf_R_9 (hX : jx_Ok G X cc "PlaneCells$Reader" ret nL lv) (hd : decode cc pc = .ok (.getfield 9, 3)) (k : jx_At G X fin (jx_w G S) (pc + 3) L (.ref (jx_ad G 9) :: st)) : jx_At G X fin (jx_w G S) pc L (.ref (jx_ad G 2) :: st) := by
  exact jx_get hX jn_in_R 2 rfl rfl 1 (by decide) rfl wm_63 rfl hd k
theorem gf_R_15 (hX : jx_Ok G X cc "PlaneCells$Reader" ret nL lv) (hd : decode cc pc = .ok (.getfield 15, 3)) (k : jx_At G X fin (jx_w G S) (pc + 3) L (.ref (jx_ad G 10) :: st)) : jx_At G X fin (jx_w G S) pc L (.ref (jx_ad G 2) :: st) := by
  exact jx_get hX jn_in_R 2 rfl rfl 2 (by decide) rfl wm_64 rfl hd k
theorem gf_R_19 (hX : jx_Ok G X cc "PlaneCells$Reader" ret nL lv) (hd : decode cc pc = .ok (.getfield 19, 3)) (k : jx_At G X fin (jx_w G S) (pc + 3) L (.ref (jx_ad G 11) :: st)) : jx_At G X fin (jx_w G S) pc L (.ref (jx_ad G 2) :: st) := by
  exact jx_get hX jn_in_R 2 rfl rfl 3 (by decide) rfl wm_65 rfl hd k
theorem gf_R_22 (hX : jx_Ok G X cc "PlaneCells$Reader" ret nL lv) (hd : decode cc pc = .ok (.getfield 22, 3)) (k : jx_At G X fin (jx_w G S) (pc + 3) L (.ref (jx_ad G 1) :: st)) : jx_At G X fin (jx_w G S) pc L (.ref (jx_ad G 2) :: st) := by
  exact jx_get hX jn_in_R 2 rfl rfl 0 (by decide) rfl wm_62 rfl hd k
theorem gf_R_26 (hX : jx_Ok G X cc "PlaneCells$Reader" ret nL lv) (hd : decode cc pc = .ok (.getfield 26, 3)) {x : Int32} (hx : S.1 7 = x) (k : jx_At G X fin (jx_w G S) (pc + 3) L (.int x :: st)) : jx_At G X fin (jx_w G S) pc L (.ref (jx_ad G 2) :: st) := by
  subst hx
  exact jx_get hX jn_in_R 2 rfl rfl 4 (by decide) rfl wm_66 rfl hd k
theorem gf_R_30 (hX : jx_Ok G X cc "PlaneCells$Reader" ret nL lv) (hd : decode cc pc = .ok (.getfield 30, 3)) {x : Int32} (hx : S.1 8 = x) (k : jx_At G X fin (jx_w G S) (pc + 3) L (.int x :: st)) : jx_At G X fin (jx_w G S) pc L (.ref (jx_ad G 2) :: st) := by
  subst hx
  exact jx_get hX jn_in_R 2 rfl rfl 5 (by decide) rfl wm_67 rfl hd k
theorem gf_R_33 (hX : jx_Ok G X cc "PlaneCells$Reader" ret nL lv) (hd : decode cc pc = .ok (.getfield 33, 3)) {x : Int32} (hx : S.1 9 = x) (k : jx_At G X fin (jx_w G S) (pc + 3) L (.int x :: st)) : jx_At G X fin (jx_w G S) pc L (.ref (jx_ad G 2) :: st) := by
  subst hx
  exact jx_get hX jn_in_R 2 rfl rfl 6 (by decide) rfl wm_69 rfl hd k
theorem gf_R_36 (hX : jx_Ok G X cc "PlaneCells$Reader" ret nL lv) (hd : decode cc pc = .ok (.getfield 36, 3)) {x : Int32} (hx : S.1 10 = x) (k : jx_At G X fin (jx_w G S) (pc + 3) L (.int x :: st)) : jx_At G X fin (jx_w G S) pc L (.ref (jx_ad G 2) :: st) := by
  subst hx
  exact jx_get hX jn_in_R 2 rfl rfl 7 (by decide) rfl wm_70 rfl hd k
theorem gf_R_39 (hX : jx_Ok G X cc "PlaneCells$Reader" ret nL lv) (hd : decode cc pc = .ok (.getfield 39, 3)) {x : Int32} (hx : S.1 11 = x) (k : jx_At G X fin (jx_w G S) (pc + 3) L (.int x :: st)) : jx_At G X fin (jx_w G S) pc L (.ref (jx_ad G 2) :: st) := by
  subst hx
  exact jx_get hX jn_in_R 2 rfl rfl 8 (by decide) rfl wm_71 rfl hd k
theorem gf_S_9 (hX : jx_Ok G X cc "PlaneCells$Sentence" ret nL lv) (hd : decode cc pc = .ok (.getfield 9, 3)) (k : jx_At G X fin (jx_w G S) (pc + 3) L (.ref (jx_ad G 6) :: st)) : jx_At G X fin (jx_w G S) pc L (.ref (jx_ad G 1) :: st) := by
  exact jx_get hX jn_in_S 1 rfl rfl 0 (by decide) rfl wm_26 rfl hd k
theorem gf_S_15 (hX : jx_Ok G X cc "PlaneCells$Sentence" ret nL lv) (hd : decode cc pc = .ok (.getfield 15, 3)) (k : jx_At G X fin (jx_w G S) (pc + 3) L (.ref (jx_ad G 7) :: st)) : jx_At G X fin (jx_w G S) pc L (.ref (jx_ad G 1) :: st) := by
  exact jx_get hX jn_in_S 1 rfl rfl 1 (by decide) rfl wm_27 rfl hd k
theorem gf_S_19 (hX : jx_Ok G X cc "PlaneCells$Sentence" ret nL lv) (hd : decode cc pc = .ok (.getfield 19, 3)) (k : jx_At G X fin (jx_w G S) (pc + 3) L (.ref (jx_ad G 8) :: st)) : jx_At G X fin (jx_w G S) pc L (.ref (jx_ad G 1) :: st) := by
  exact jx_get hX jn_in_S 1 rfl rfl 2 (by decide) rfl wm_28 rfl hd k
theorem gf_S_22 (hX : jx_Ok G X cc "PlaneCells$Sentence" ret nL lv) (hd : decode cc pc = .ok (.getfield 22, 3)) {x : Int32} (hx : S.1 3 = x) (k : jx_At G X fin (jx_w G S) (pc + 3) L (.int x :: st)) : jx_At G X fin (jx_w G S) pc L (.ref (jx_ad G 1) :: st) := by
  subst hx
  exact jx_get hX jn_in_S 1 rfl rfl 3 (by decide) rfl wm_30 rfl hd k
theorem gf_S_26 (hX : jx_Ok G X cc "PlaneCells$Sentence" ret nL lv) (hd : decode cc pc = .ok (.getfield 26, 3)) {x : Int32} (hx : S.1 4 = x) (k : jx_At G X fin (jx_w G S) (pc + 3) L (.int x :: st)) : jx_At G X fin (jx_w G S) pc L (.ref (jx_ad G 1) :: st) := by
  subst hx
  exact jx_get hX jn_in_S 1 rfl rfl 4 (by decide) rfl wm_32 rfl hd k
theorem pf_P_32 (hX : jx_Ok G X cc "PlaneCells" ret nL lv) {x : Int32} (hd : decode cc pc = .ok (.putfield 32, 3)) (k : jx_At G X fin (jx_w G (jx_f S 0 x)) (pc + 3) L st) : jx_At G X fin (jx_w G S) pc L (.int x :: .ref (jx_ad G 0) :: st) :=
  jx_put hX jn_in_P jn_t_P jn_tok_P jn_nm_P 0 rfl rfl 3 (by decide) rfl wm_163 rfl rfl rfl rfl (Nat.le_of_ble_eq_true rfl) (w2 := jx_w G (jx_f S 0 x)) rfl hd k
theorem pf_P_36 (hX : jx_Ok G X cc "PlaneCells" ret nL lv) {x : Int32} (hd : decode cc pc = .ok (.putfield 36, 3)) (k : jx_At G X fin (jx_w G (jx_f S 1 x)) (pc + 3) L st) : jx_At G X fin (jx_w G S) pc L (.int x :: .ref (jx_ad G 0) :: st) :=
  jx_put hX jn_in_P jn_t_P jn_tok_P jn_nm_P 0 rfl rfl 4 (by decide) rfl wm_164 rfl rfl rfl rfl (Nat.le_of_ble_eq_true rfl) (w2 := jx_w G (jx_f S 1 x)) rfl hd k
theorem pf_P_39 (hX : jx_Ok G X cc "PlaneCells" ret nL lv) {x : Int32} (hd : decode cc pc = .ok (.putfield 39, 3)) (k : jx_At G X fin (jx_w G (jx_f S 2 x)) (pc + 3) L st) : jx_At G X fin (jx_w G S) pc L (.int x :: .ref (jx_ad G 0) :: st) :=
  jx_put hX jn_in_P jn_t_P jn_tok_P jn_nm_P 0 rfl rfl 5 (by decide) rfl wm_165 rfl rfl rfl rfl (Nat.le_of_ble_eq_true rfl) (w2 := jx_w G (jx_f S 2 x)) rfl hd k
theorem pf_C_21 (hX : jx_Ok G X cc "PlaneCells$CriticalNumbers" ret nL lv) {x : Int32} (hd : decode cc pc = .ok (.putfield 21, 3)) (k : jx_At G X fin (jx_w G (jx_f S 13 x)) (pc + 3) L st) : jx_At G X fin (jx_w G S) pc L (.int x :: .ref (jx_ad G 4) :: st) :=
  jx_put hX jn_in_C jn_t_C jn_tok_C jn_nm_C 4 rfl rfl 3 (by decide) rfl wm_106 rfl rfl rfl rfl (Nat.le_of_ble_eq_true rfl) (w2 := jx_w G (jx_f S 13 x)) rfl hd k
theorem pf_F_13 (hX : jx_Ok G X cc "PlaneCells$Form" ret nL lv) {x : Int32} (hd : decode cc pc = .ok (.putfield 13, 3)) (k : jx_At G X fin (jx_w G (jx_f S 14 x)) (pc + 3) L st) : jx_At G X fin (jx_w G S) pc L (.int x :: .ref (jx_ad G 5) :: st) :=
  jx_put hX jn_in_F jn_t_F jn_tok_F jn_nm_F 5 rfl rfl 0 (by decide) rfl wm_123 rfl rfl rfl rfl (Nat.le_of_ble_eq_true rfl) (w2 := jx_w G (jx_f S 14 x)) rfl hd k
theorem pf_F_19 (hX : jx_Ok G X cc "PlaneCells$Form" ret nL lv) {x : Int32} (hd : decode cc pc = .ok (.putfield 19, 3)) (k : jx_At G X fin (jx_w G (jx_f S 15 x)) (pc + 3) L st) : jx_At G X fin (jx_w G S) pc L (.int x :: .ref (jx_ad G 5) :: st) :=
  jx_put hX jn_in_F jn_t_F jn_tok_F jn_nm_F 5 rfl rfl 1 (by decide) rfl wm_125 rfl rfl rfl rfl (Nat.le_of_ble_eq_true rfl) (w2 := jx_w G (jx_f S 15 x)) rfl hd k
theorem pf_F_22 (hX : jx_Ok G X cc "PlaneCells$Form" ret nL lv) {x : Int32} (hd : decode cc pc = .ok (.putfield 22, 3)) (k : jx_At G X fin (jx_w G (jx_f S 16 x)) (pc + 3) L st) : jx_At G X fin (jx_w G S) pc L (.int x :: .ref (jx_ad G 5) :: st) :=
  jx_put hX jn_in_F jn_t_F jn_tok_F jn_nm_F 5 rfl rfl 2 (by decide) rfl wm_127 rfl rfl rfl rfl (Nat.le_of_ble_eq_true rfl) (w2 := jx_w G (jx_f S 16 x)) rfl hd k
theorem pf_Q_66 (hX : jx_Ok G X cc "PlaneCells$Plane" ret nL lv) {x : Int32} (hd : decode cc pc = .ok (.putfield 66, 3)) (k : jx_At G X fin (jx_w G (jx_f S 12 x)) (pc + 3) L st) : jx_At G X fin (jx_w G S) pc L (.int x :: .ref (jx_ad G 3) :: st) :=
  jx_put hX jn_in_Q jn_t_Q jn_tok_Q jn_nm_Q 3 rfl rfl 6 (by decide) rfl wm_143 rfl rfl rfl rfl (Nat.le_of_ble_eq_true rfl) (w2 := jx_w G (jx_f S 12 x)) rfl hd k
theorem pf_R_26 (hX : jx_Ok G X cc "PlaneCells$Reader" ret nL lv) {x : Int32} (hd : decode cc pc = .ok (.putfield 26, 3)) (k : jx_At G X fin (jx_w G (jx_f S 7 x)) (pc + 3) L st) : jx_At G X fin (jx_w G S) pc L (.int x :: .ref (jx_ad G 2) :: st) :=
  jx_put hX jn_in_R jn_t_R jn_tok_R jn_nm_R 2 rfl rfl 4 (by decide) rfl wm_66 rfl rfl rfl rfl (Nat.le_of_ble_eq_true rfl) (w2 := jx_w G (jx_f S 7 x)) rfl hd k
theorem pf_R_30 (hX : jx_Ok G X cc "PlaneCells$Reader" ret nL lv) {x : Int32} (hd : decode cc pc = .ok (.putfield 30, 3)) (k : jx_At G X fin (jx_w G (jx_f S 8 x)) (pc + 3) L st) : jx_At G X fin (jx_w G S) pc L (.int x :: .ref (jx_ad G 2) :: st) :=
  jx_put hX jn_in_R jn_t_R jn_tok_R jn_nm_R 2 rfl rfl 5 (by decide) rfl wm_67 rfl rfl rfl rfl (Nat.le_of_ble_eq_true rfl) (w2 := jx_w G (jx_f S 8 x)) rfl hd k
theorem pf_R_33 (hX : jx_Ok G X cc "PlaneCells$Reader" ret nL lv) {x : Int32} (hd : decode cc pc = .ok (.putfield 33, 3)) (k : jx_At G X fin (jx_w G (jx_f S 9 x)) (pc + 3) L st) : jx_At G X fin (jx_w G S) pc L (.int x :: .ref (jx_ad G 2) :: st) :=
  jx_put hX jn_in_R jn_t_R jn_tok_R jn_nm_R 2 rfl rfl 6 (by decide) rfl wm_69 rfl rfl rfl rfl (Nat.le_of_ble_eq_true rfl) (w2 := jx_w G (jx_f S 9 x)) rfl hd k
theorem pf_R_36 (hX : jx_Ok G X cc "PlaneCells$Reader" ret nL lv) {x : Int32} (hd : decode cc pc = .ok (.putfield 36, 3)) (k : jx_At G X fin (jx_w G (jx_f S 10 x)) (pc + 3) L st) : jx_At G X fin (jx_w G S) pc L (.int x :: .ref (jx_ad G 2) :: st) :=
  jx_put hX jn_in_R jn_t_R jn_tok_R jn_nm_R 2 rfl rfl 7 (by decide) rfl wm_70 rfl rfl rfl rfl (Nat.le_of_ble_eq_true rfl) (w2 := jx_w G (jx_f S 10 x)) rfl hd k
theorem pf_R_39 (hX : jx_Ok G X cc "PlaneCells$Reader" ret nL lv) {x : Int32} (hd : decode cc pc = .ok (.putfield 39, 3)) (k : jx_At G X fin (jx_w G (jx_f S 11 x)) (pc + 3) L st) : jx_At G X fin (jx_w G S) pc L (.int x :: .ref (jx_ad G 2) :: st) :=
  jx_put hX jn_in_R jn_t_R jn_tok_R jn_nm_R 2 rfl rfl 8 (by decide) rfl wm_71 rfl rfl rfl rfl (Nat.le_of_ble_eq_true rfl) (w2 := jx_w G (jx_f S 11 x)) rfl hd k
theorem pf_R_71 (hX : jx_Ok G X cc "PlaneCells$Reader" ret nL lv) {x : Int32} (hd : decode cc pc = .ok (.putfield 71, 3)) (h01 : jx_01 x) (k : jx_At G X fin (jx_w G (jx_f S 5 x)) (pc + 3) L st) : jx_At G X fin (jx_w G S) pc L (.int x :: .ref (jx_ad G 1) :: st) :=
  jx_putN hX jn_in_S jn_t_S jn_tok_S jn_nm_S 1 rfl rfl 5 (by decide) rfl wm_36 rfl rfl (jx_01n h01) (jx_01f h01) (Nat.le_of_ble_eq_true rfl) (w2 := jx_w G (jx_f S 5 x)) rfl hd k
theorem pf_R_82 (hX : jx_Ok G X cc "PlaneCells$Reader" ret nL lv) {x : Int32} (hd : decode cc pc = .ok (.putfield 82, 3)) (h01 : jx_01 x) (k : jx_At G X fin (jx_w G (jx_f S 6 x)) (pc + 3) L st) : jx_At G X fin (jx_w G S) pc L (.int x :: .ref (jx_ad G 1) :: st) :=
  jx_putN hX jn_in_S jn_t_S jn_tok_S jn_nm_S 1 rfl rfl 6 (by decide) rfl wm_37 rfl rfl (jx_01n h01) (jx_01f h01) (Nat.le_of_ble_eq_true rfl) (w2 := jx_w G (jx_f S 6 x)) rfl hd k
theorem pf_S_22 (hX : jx_Ok G X cc "PlaneCells$Sentence" ret nL lv) {x : Int32} (hd : decode cc pc = .ok (.putfield 22, 3)) (k : jx_At G X fin (jx_w G (jx_f S 3 x)) (pc + 3) L st) : jx_At G X fin (jx_w G S) pc L (.int x :: .ref (jx_ad G 1) :: st) :=
  jx_put hX jn_in_S jn_t_S jn_tok_S jn_nm_S 1 rfl rfl 3 (by decide) rfl wm_30 rfl rfl rfl rfl (Nat.le_of_ble_eq_true rfl) (w2 := jx_w G (jx_f S 3 x)) rfl hd k
theorem pf_S_26 (hX : jx_Ok G X cc "PlaneCells$Sentence" ret nL lv) {x : Int32} (hd : decode cc pc = .ok (.putfield 26, 3)) (k : jx_At G X fin (jx_w G (jx_f S 4 x)) (pc + 3) L st) : jx_At G X fin (jx_w G S) pc L (.int x :: .ref (jx_ad G 1) :: st) :=
  jx_put hX jn_in_S jn_t_S jn_tok_S jn_nm_S 1 rfl rfl 4 (by decide) rfl wm_32 rfl rfl rfl rfl (Nat.le_of_ble_eq_true rfl) (w2 := jx_w G (jx_f S 4 x)) rfl hd k
theorem al_0 {own : String} (hX : jx_Ok G X cc own ret nL lv) {i : Int32} (hd : decode cc pc = .ok (.iaload, 1)) {f : Nat → Int32} (hf : S.2.1 0 = f) (hin : jx_in i 32 = true) (k : jx_At G X fin (jx_w G S) (pc + 1) L (.int (f i.toNatClampNeg) :: st)) : jx_At G X fin (jx_w G S) pc L (.int i :: .ref (jx_ad G 6) :: st) := by
  subst hf
  exact jx_iald hX 6 rfl hin hd k
theorem as_0 {own : String} (hX : jx_Ok G X cc own ret nL lv) {i : Int32} {x : Int32} (hd : decode cc pc = .ok (.iastore, 1)) {f : Nat → Int32} (hf : S.2.1 0 = f) (hin : jx_in i 32 = true) (k : jx_At G X fin (jx_w G (jx_g S 0 (upd f i.toNatClampNeg x))) (pc + 1) L st) : jx_At G X fin (jx_w G S) pc L (.int x :: .int i :: .ref (jx_ad G 6) :: st) := by
  subst hf
  exact jx_iast hX 6 rfl hin (w2 := jx_w G (jx_g S 0 (upd (S.2.1 0) i.toNatClampNeg x))) rfl hd k
theorem al_1 {own : String} (hX : jx_Ok G X cc own ret nL lv) {i : Int32} (hd : decode cc pc = .ok (.caload, 1)) {f : Nat → Int32} (hf : S.2.1 1 = f) (hin : jx_in i 8 = true) (k : jx_At G X fin (jx_w G S) (pc + 1) L (.int (f i.toNatClampNeg) :: st)) : jx_At G X fin (jx_w G S) pc L (.int i :: .ref (jx_ad G 7) :: st) := by
  subst hf
  exact jx_cald hX 7 rfl hin hd k
theorem as_1 {own : String} (hX : jx_Ok G X cc own ret nL lv) {i : Int32} {x : Int32} (hd : decode cc pc = .ok (.castore, 1)) {f : Nat → Int32} (hf : S.2.1 1 = f) (hin : jx_in i 8 = true) (k : jx_At G X fin (jx_w G (jx_g S 1 (upd f i.toNatClampNeg (vp_nar .char x)))) (pc + 1) L st) : jx_At G X fin (jx_w G S) pc L (.int x :: .int i :: .ref (jx_ad G 7) :: st) := by
  subst hf
  exact jx_cast hX 7 rfl hin (w2 := jx_w G (jx_g S 1 (upd (S.2.1 1) i.toNatClampNeg (vp_nar .char x)))) rfl hd k
theorem al_2 {own : String} (hX : jx_Ok G X cc own ret nL lv) {i : Int32} (hd : decode cc pc = .ok (.iaload, 1)) {f : Nat → Int32} (hf : S.2.1 2 = f) (hin : jx_in i 80 = true) (k : jx_At G X fin (jx_w G S) (pc + 1) L (.int (f i.toNatClampNeg) :: st)) : jx_At G X fin (jx_w G S) pc L (.int i :: .ref (jx_ad G 8) :: st) := by
  subst hf
  exact jx_iald hX 8 rfl hin hd k
theorem as_2 {own : String} (hX : jx_Ok G X cc own ret nL lv) {i : Int32} {x : Int32} (hd : decode cc pc = .ok (.iastore, 1)) {f : Nat → Int32} (hf : S.2.1 2 = f) (hin : jx_in i 80 = true) (k : jx_At G X fin (jx_w G (jx_g S 2 (upd f i.toNatClampNeg x))) (pc + 1) L st) : jx_At G X fin (jx_w G S) pc L (.int x :: .int i :: .ref (jx_ad G 8) :: st) := by
  subst hf
  exact jx_iast hX 8 rfl hin (w2 := jx_w G (jx_g S 2 (upd (S.2.1 2) i.toNatClampNeg x))) rfl hd k
theorem al_3 {own : String} (hX : jx_Ok G X cc own ret nL lv) {i : Int32} (hd : decode cc pc = .ok (.caload, 1)) {f : Nat → Int32} (hf : S.2.1 3 = f) (hin : jx_in i 80 = true) (k : jx_At G X fin (jx_w G S) (pc + 1) L (.int (f i.toNatClampNeg) :: st)) : jx_At G X fin (jx_w G S) pc L (.int i :: .ref (jx_ad G 9) :: st) := by
  subst hf
  exact jx_cald hX 9 rfl hin hd k
theorem as_3 {own : String} (hX : jx_Ok G X cc own ret nL lv) {i : Int32} {x : Int32} (hd : decode cc pc = .ok (.castore, 1)) {f : Nat → Int32} (hf : S.2.1 3 = f) (hin : jx_in i 80 = true) (k : jx_At G X fin (jx_w G (jx_g S 3 (upd f i.toNatClampNeg (vp_nar .char x)))) (pc + 1) L st) : jx_At G X fin (jx_w G S) pc L (.int x :: .int i :: .ref (jx_ad G 9) :: st) := by
  subst hf
  exact jx_cast hX 9 rfl hin (w2 := jx_w G (jx_g S 3 (upd (S.2.1 3) i.toNatClampNeg (vp_nar .char x)))) rfl hd k
theorem al_4 {own : String} (hX : jx_Ok G X cc own ret nL lv) {i : Int32} (hd : decode cc pc = .ok (.iaload, 1)) {f : Nat → Int32} (hf : S.2.1 4 = f) (hin : jx_in i 80 = true) (k : jx_At G X fin (jx_w G S) (pc + 1) L (.int (f i.toNatClampNeg) :: st)) : jx_At G X fin (jx_w G S) pc L (.int i :: .ref (jx_ad G 10) :: st) := by
  subst hf
  exact jx_iald hX 10 rfl hin hd k
theorem as_4 {own : String} (hX : jx_Ok G X cc own ret nL lv) {i : Int32} {x : Int32} (hd : decode cc pc = .ok (.iastore, 1)) {f : Nat → Int32} (hf : S.2.1 4 = f) (hin : jx_in i 80 = true) (k : jx_At G X fin (jx_w G (jx_g S 4 (upd f i.toNatClampNeg x))) (pc + 1) L st) : jx_At G X fin (jx_w G S) pc L (.int x :: .int i :: .ref (jx_ad G 10) :: st) := by
  subst hf
  exact jx_iast hX 10 rfl hin (w2 := jx_w G (jx_g S 4 (upd (S.2.1 4) i.toNatClampNeg x))) rfl hd k
theorem al_5 {own : String} (hX : jx_Ok G X cc own ret nL lv) {i : Int32} (hd : decode cc pc = .ok (.iaload, 1)) {f : Nat → Int32} (hf : S.2.1 5 = f) (hin : jx_in i 4 = true) (k : jx_At G X fin (jx_w G S) (pc + 1) L (.int (f i.toNatClampNeg) :: st)) : jx_At G X fin (jx_w G S) pc L (.int i :: .ref (jx_ad G 11) :: st) := by
  subst hf
  exact jx_iald hX 11 rfl hin hd k
theorem as_5 {own : String} (hX : jx_Ok G X cc own ret nL lv) {i : Int32} {x : Int32} (hd : decode cc pc = .ok (.iastore, 1)) {f : Nat → Int32} (hf : S.2.1 5 = f) (hin : jx_in i 4 = true) (k : jx_At G X fin (jx_w G (jx_g S 5 (upd f i.toNatClampNeg x))) (pc + 1) L st) : jx_At G X fin (jx_w G S) pc L (.int x :: .int i :: .ref (jx_ad G 11) :: st) := by
  subst hf
  exact jx_iast hX 11 rfl hin (w2 := jx_w G (jx_g S 5 (upd (S.2.1 5) i.toNatClampNeg x))) rfl hd k
theorem al_6 {own : String} (hX : jx_Ok G X cc own ret nL lv) {i : Int32} (hd : decode cc pc = .ok (.iaload, 1)) {f : Nat → Int32} (hf : S.2.1 6 = f) (hin : jx_in i 72 = true) (k : jx_At G X fin (jx_w G S) (pc + 1) L (.int (f i.toNatClampNeg) :: st)) : jx_At G X fin (jx_w G S) pc L (.int i :: .ref (jx_ad G 12) :: st) := by
  subst hf
  exact jx_iald hX 12 rfl hin hd k
theorem as_6 {own : String} (hX : jx_Ok G X cc own ret nL lv) {i : Int32} {x : Int32} (hd : decode cc pc = .ok (.iastore, 1)) {f : Nat → Int32} (hf : S.2.1 6 = f) (hin : jx_in i 72 = true) (k : jx_At G X fin (jx_w G (jx_g S 6 (upd f i.toNatClampNeg x))) (pc + 1) L st) : jx_At G X fin (jx_w G S) pc L (.int x :: .int i :: .ref (jx_ad G 12) :: st) := by
  subst hf
  exact jx_iast hX 12 rfl hin (w2 := jx_w G (jx_g S 6 (upd (S.2.1 6) i.toNatClampNeg x))) rfl hd k
theorem al_7 {own : String} (hX : jx_Ok G X cc own ret nL lv) {i : Int32} (hd : decode cc pc = .ok (.iaload, 1)) {f : Nat → Int32} (hf : S.2.1 7 = f) (hin : jx_in i 72 = true) (k : jx_At G X fin (jx_w G S) (pc + 1) L (.int (f i.toNatClampNeg) :: st)) : jx_At G X fin (jx_w G S) pc L (.int i :: .ref (jx_ad G 13) :: st) := by
  subst hf
  exact jx_iald hX 13 rfl hin hd k
theorem as_7 {own : String} (hX : jx_Ok G X cc own ret nL lv) {i : Int32} {x : Int32} (hd : decode cc pc = .ok (.iastore, 1)) {f : Nat → Int32} (hf : S.2.1 7 = f) (hin : jx_in i 72 = true) (k : jx_At G X fin (jx_w G (jx_g S 7 (upd f i.toNatClampNeg x))) (pc + 1) L st) : jx_At G X fin (jx_w G S) pc L (.int x :: .int i :: .ref (jx_ad G 13) :: st) := by
  subst hf
  exact jx_iast hX 13 rfl hin (w2 := jx_w G (jx_g S 7 (upd (S.2.1 7) i.toNatClampNeg x))) rfl hd k
theorem al_8 {own : String} (hX : jx_Ok G X cc own ret nL lv) {i : Int32} (hd : decode cc pc = .ok (.iaload, 1)) {f : Nat → Int32} (hf : S.2.1 8 = f) (hin : jx_in i 72 = true) (k : jx_At G X fin (jx_w G S) (pc + 1) L (.int (f i.toNatClampNeg) :: st)) : jx_At G X fin (jx_w G S) pc L (.int i :: .ref (jx_ad G 14) :: st) := by
  subst hf
  exact jx_iald hX 14 rfl hin hd k
theorem as_8 {own : String} (hX : jx_Ok G X cc own ret nL lv) {i : Int32} {x : Int32} (hd : decode cc pc = .ok (.iastore, 1)) {f : Nat → Int32} (hf : S.2.1 8 = f) (hin : jx_in i 72 = true) (k : jx_At G X fin (jx_w G (jx_g S 8 (upd f i.toNatClampNeg x))) (pc + 1) L st) : jx_At G X fin (jx_w G S) pc L (.int x :: .int i :: .ref (jx_ad G 14) :: st) := by
  subst hf
  exact jx_iast hX 14 rfl hin (w2 := jx_w G (jx_g S 8 (upd (S.2.1 8) i.toNatClampNeg x))) rfl hd k
theorem al_9 {own : String} (hX : jx_Ok G X cc own ret nL lv) {i : Int32} (hd : decode cc pc = .ok (.iaload, 1)) {f : Nat → Int32} (hf : S.2.1 9 = f) (hin : jx_in i 8 = true) (k : jx_At G X fin (jx_w G S) (pc + 1) L (.int (f i.toNatClampNeg) :: st)) : jx_At G X fin (jx_w G S) pc L (.int i :: .ref (jx_ad G 15) :: st) := by
  subst hf
  exact jx_iald hX 15 rfl hin hd k
theorem as_9 {own : String} (hX : jx_Ok G X cc own ret nL lv) {i : Int32} {x : Int32} (hd : decode cc pc = .ok (.iastore, 1)) {f : Nat → Int32} (hf : S.2.1 9 = f) (hin : jx_in i 8 = true) (k : jx_At G X fin (jx_w G (jx_g S 9 (upd f i.toNatClampNeg x))) (pc + 1) L st) : jx_At G X fin (jx_w G S) pc L (.int x :: .int i :: .ref (jx_ad G 15) :: st) := by
  subst hf
  exact jx_iast hX 15 rfl hin (w2 := jx_w G (jx_g S 9 (upd (S.2.1 9) i.toNatClampNeg x))) rfl hd k
theorem al_10 {own : String} (hX : jx_Ok G X cc own ret nL lv) {i : Int32} (hd : decode cc pc = .ok (.iaload, 1)) {f : Nat → Int32} (hf : S.2.1 10 = f) (hin : jx_in i 8 = true) (k : jx_At G X fin (jx_w G S) (pc + 1) L (.int (f i.toNatClampNeg) :: st)) : jx_At G X fin (jx_w G S) pc L (.int i :: .ref (jx_ad G 16) :: st) := by
  subst hf
  exact jx_iald hX 16 rfl hin hd k
theorem as_10 {own : String} (hX : jx_Ok G X cc own ret nL lv) {i : Int32} {x : Int32} (hd : decode cc pc = .ok (.iastore, 1)) {f : Nat → Int32} (hf : S.2.1 10 = f) (hin : jx_in i 8 = true) (k : jx_At G X fin (jx_w G (jx_g S 10 (upd f i.toNatClampNeg x))) (pc + 1) L st) : jx_At G X fin (jx_w G S) pc L (.int x :: .int i :: .ref (jx_ad G 16) :: st) := by
  subst hf
  exact jx_iast hX 16 rfl hin (w2 := jx_w G (jx_g S 10 (upd (S.2.1 10) i.toNatClampNeg x))) rfl hd k
theorem al_11 {own : String} (hX : jx_Ok G X cc own ret nL lv) {i : Int32} (hd : decode cc pc = .ok (.iaload, 1)) {f : Nat → Int32} (hf : S.2.1 11 = f) (hin : jx_in i 8 = true) (k : jx_At G X fin (jx_w G S) (pc + 1) L (.int (f i.toNatClampNeg) :: st)) : jx_At G X fin (jx_w G S) pc L (.int i :: .ref (jx_ad G 17) :: st) := by
  subst hf
  exact jx_iald hX 17 rfl hin hd k
theorem as_11 {own : String} (hX : jx_Ok G X cc own ret nL lv) {i : Int32} {x : Int32} (hd : decode cc pc = .ok (.iastore, 1)) {f : Nat → Int32} (hf : S.2.1 11 = f) (hin : jx_in i 8 = true) (k : jx_At G X fin (jx_w G (jx_g S 11 (upd f i.toNatClampNeg x))) (pc + 1) L st) : jx_At G X fin (jx_w G S) pc L (.int x :: .int i :: .ref (jx_ad G 17) :: st) := by
  subst hf
  exact jx_iast hX 17 rfl hin (w2 := jx_w G (jx_g S 11 (upd (S.2.1 11) i.toNatClampNeg x))) rfl hd k
end FR
section CR
variable {G : jx_G} {X : jx_C} {cc : ByteArray} {ret : Option FieldType} {nL lv : Nat} {fin : Option Value × va_W} {pc : Nat} {L : List (Nat × Value)} {rest : List Value} {S : jx_S}
theorem cs_P_42 (hX : jx_Ok G X cc "PlaneCells" ret nL lv) {v1 : Value} {r : Int32} {w1 : va_W} (hM : jx_M (jx_l X) y_R_append b_R_append 2 (some .boolean) 0 G [.ref (jx_ad G 2), v1] (jx_w G S) (some (.int r), w1)) (hd : decode cc pc = .ok (.invokevirtual 42, 3)) (hlv : 0 < lv) (hroom : (rest.map fun v => v.category).sum ≤ 8) (k : jx_At G X fin w1 (pc + 3) L (.int r :: rest)) : jx_At G X fin (jx_w G S) pc L (v1 :: .ref (jx_ad G 2) :: rest) :=
  jx_callV hX (n := 1) (As := [v1]) hM wm_186 wm_3 wm_183 wm_184 wm_185 (by decide) 2 rfl rfl rfl rfl (by decide) hd hlv hroom k
theorem cs_P_46 (hX : jx_Ok G X cc "PlaneCells" ret nL lv) {r : Int32} {w1 : va_W} (hM : jx_M (jx_l X) y_P_readText b_P_readText 1 (some .int) 5 G [.ref (jx_ad G 0)] (jx_w G S) (some (.int r), w1)) (hd : decode cc pc = .ok (.invokevirtual 46, 3)) (hlv : 5 < lv) (hroom : (rest.map fun v => v.category).sum ≤ 8) (k : jx_At G X fin w1 (pc + 3) L (.int r :: rest)) : jx_At G X fin (jx_w G S) pc L (.ref (jx_ad G 0) :: rest) :=
  jx_callV hX (n := 0) (As := []) hM wm_194 wm_1 wm_191 wm_193 ws_0 (by decide) 0 rfl rfl rfl rfl (by decide) hd hlv hroom k
theorem cs_P_50 (hX : jx_Ok G X cc "PlaneCells" ret nL lv) {w1 : va_W} (hM : jx_M (jx_l X) y_R_clear b_R_clear 1 none 0 G [.ref (jx_ad G 2)] (jx_w G S) (none, w1)) (hd : decode cc pc = .ok (.invokevirtual 50, 3)) (hlv : 0 < lv) (hroom : (rest.map fun v => v.category).sum ≤ 8) (k : jx_At G X fin w1 (pc + 3) L rest) : jx_At G X fin (jx_w G S) pc L (.ref (jx_ad G 2) :: rest) :=
  jx_callV hX (n := 0) (As := []) hM wm_277 wm_3 wm_274 wm_275 wm_276 (by decide) 2 rfl rfl rfl rfl (by decide) hd hlv hroom k
theorem cs_P_53 (hX : jx_Ok G X cc "PlaneCells" ret nL lv) {w1 : va_W} (hM : jx_M (jx_l X) y_S_clear b_S_clear 1 none 0 G [.ref (jx_ad G 1)] (jx_w G S) (none, w1)) (hd : decode cc pc = .ok (.invokevirtual 53, 3)) (hlv : 0 < lv) (hroom : (rest.map fun v => v.category).sum ≤ 8) (k : jx_At G X fin w1 (pc + 3) L rest) : jx_At G X fin (jx_w G S) pc L (.ref (jx_ad G 1) :: rest) :=
  jx_callV hX (n := 0) (As := []) hM wm_206 wm_2 wm_278 wm_204 wm_205 (by decide) 1 rfl rfl rfl rfl (by decide) hd hlv hroom k
theorem cs_P_54 (hX : jx_Ok G X cc "PlaneCells" ret nL lv) {w1 : va_W} (hM : jx_M (jx_l X) y_Q_cut b_Q_cut 3 none 5 G [.ref (jx_ad G 3)] (jx_w G S) (none, w1)) (hd : decode cc pc = .ok (.invokevirtual 54, 3)) (hlv : 5 < lv) (hroom : (rest.map fun v => v.category).sum ≤ 8) (k : jx_At G X fin w1 (pc + 3) L rest) : jx_At G X fin (jx_w G S) pc L (.ref (jx_ad G 3) :: rest) :=
  jx_callV hX (n := 0) (As := []) hM wm_282 wm_4 wm_279 wm_280 wm_281 (by decide) 3 rfl rfl rfl rfl (by decide) hd hlv hroom k
theorem cs_P_57 (hX : jx_Ok G X cc "PlaneCells" ret nL lv) {r : Int32} {w1 : va_W} (hM : jx_M (jx_l X) y_Q_countColumns b_Q_countColumns 1 (some .int) 0 G [.ref (jx_ad G 3)] (jx_w G S) (some (.int r), w1)) (hd : decode cc pc = .ok (.invokevirtual 57, 3)) (hlv : 0 < lv) (hroom : (rest.map fun v => v.category).sum ≤ 8) (k : jx_At G X fin w1 (pc + 3) L (.int r :: rest)) : jx_At G X fin (jx_w G S) pc L (.ref (jx_ad G 3) :: rest) :=
  jx_callV hX (n := 0) (As := []) hM wm_335 wm_4 wm_332 wm_333 wm_334 (by decide) 3 rfl rfl rfl rfl (by decide) hd hlv hroom k
theorem cs_P_60 (hX : jx_Ok G X cc "PlaneCells" ret nL lv) {v1 : Value} {w1 : va_W} (hM : jx_M (jx_l X) y_Q_enter b_Q_enter 3 none 4 G [.ref (jx_ad G 3), v1] (jx_w G S) (none, w1)) (hd : decode cc pc = .ok (.invokevirtual 60, 3)) (hlv : 4 < lv) (hroom : (rest.map fun v => v.category).sum ≤ 8) (k : jx_At G X fin w1 (pc + 3) L rest) : jx_At G X fin (jx_w G S) pc L (v1 :: .ref (jx_ad G 3) :: rest) :=
  jx_callV hX (n := 1) (As := [v1]) hM wm_339 wm_4 wm_336 wm_337 wm_338 (by decide) 3 rfl rfl rfl rfl (by decide) hd hlv hroom k
theorem cs_P_64 (hX : jx_Ok G X cc "PlaneCells" ret nL lv) {r : Int32} {w1 : va_W} (hM : jx_M (jx_l X) y_Q_columnHolds b_Q_columnHolds 2 (some .boolean) 3 G [.ref (jx_ad G 3)] (jx_w G S) (some (.int r), w1)) (hd : decode cc pc = .ok (.invokevirtual 64, 3)) (hlv : 3 < lv) (hroom : (rest.map fun v => v.category).sum ≤ 8) (k : jx_At G X fin w1 (pc + 3) L (.int r :: rest)) : jx_At G X fin (jx_w G S) pc L (.ref (jx_ad G 3) :: rest) :=
  jx_callV hX (n := 0) (As := []) hM wm_365 wm_4 wm_362 wm_363 wm_364 (by decide) 3 rfl rfl rfl rfl (by decide) hd hlv hroom k
theorem cs_P_72 (hX : jx_Ok G X cc "PlaneCells" ret nL lv) {r : Int32} {w1 : va_W} (hM : jx_M (jx_l X) y_R_countOpenings b_R_countOpenings 3 (some .int) 0 G [.ref (jx_ad G 2)] (jx_w G S) (some (.int r), w1)) (hd : decode cc pc = .ok (.invokevirtual 72, 3)) (hlv : 0 < lv) (hroom : (rest.map fun v => v.category).sum ≤ 8) (k : jx_At G X fin w1 (pc + 3) L (.int r :: rest)) : jx_At G X fin (jx_w G S) pc L (.ref (jx_ad G 2) :: rest) :=
  jx_callV hX (n := 0) (As := []) hM wm_198 wm_3 wm_195 wm_196 wm_197 (by decide) 2 rfl rfl rfl rfl (by decide) hd hlv hroom k
theorem cs_P_75 (hX : jx_Ok G X cc "PlaneCells" ret nL lv) {r : Int32} {w1 : va_W} (hM : jx_M (jx_l X) y_R_readSentence b_R_readSentence 2 (some .boolean) 4 G [.ref (jx_ad G 2)] (jx_w G S) (some (.int r), w1)) (hd : decode cc pc = .ok (.invokevirtual 75, 3)) (hlv : 4 < lv) (hroom : (rest.map fun v => v.category).sum ≤ 8) (k : jx_At G X fin w1 (pc + 3) L (.int r :: rest)) : jx_At G X fin (jx_w G S) pc L (.ref (jx_ad G 2) :: rest) :=
  jx_callV hX (n := 0) (As := []) hM wm_202 wm_3 wm_199 wm_200 wm_201 (by decide) 2 rfl rfl rfl rfl (by decide) hd hlv hroom k
theorem cs_P_81 (hX : jx_Ok G X cc "PlaneCells" ret nL lv) {r : Int32} {w1 : va_W} (hM : jx_M (jx_l X) y_S_fits b_S_fits 2 (some .boolean) 0 G [.ref (jx_ad G 1)] (jx_w G S) (some (.int r), w1)) (hd : decode cc pc = .ok (.invokevirtual 81, 3)) (hlv : 0 < lv) (hroom : (rest.map fun v => v.category).sum ≤ 8) (k : jx_At G X fin w1 (pc + 3) L (.int r :: rest)) : jx_At G X fin (jx_w G S) pc L (.ref (jx_ad G 1) :: rest) :=
  jx_callV hX (n := 0) (As := []) hM wm_273 wm_2 wm_270 wm_271 wm_272 (by decide) 1 rfl rfl rfl rfl (by decide) hd hlv hroom k
theorem cs_P_87 (hX : jx_Ok G X cc "PlaneCells" ret nL lv) {v1 : Value} {r : Int32} {w1 : va_W} (hM : jx_M (jx_l X) y_P_hasPolynomial b_P_hasPolynomial 2 (some .boolean) 0 G [.ref (jx_ad G 0), v1] (jx_w G S) (some (.int r), w1)) (hd : decode cc pc = .ok (.invokevirtual 87, 3)) (hlv : 0 < lv) (hroom : (rest.map fun v => v.category).sum ≤ 8) (k : jx_At G X fin w1 (pc + 3) L (.int r :: rest)) : jx_At G X fin (jx_w G S) pc L (v1 :: .ref (jx_ad G 0) :: rest) :=
  jx_callV hX (n := 1) (As := [v1]) hM wm_394 wm_1 wm_391 wm_393 ws_17 (by decide) 0 rfl rfl rfl rfl (by decide) hd hlv hroom k
theorem cs_P_91 (hX : jx_Ok G X cc "PlaneCells" ret nL lv) {v1 v2 : Value} {r : Int32} {w1 : va_W} (hM : jx_M (jx_l X) y_S_number b_S_number 3 (some .int) 0 G [.ref (jx_ad G 1), v1, v2] (jx_w G S) (some (.int r), w1)) (hd : decode cc pc = .ok (.invokevirtual 91, 3)) (hlv : 0 < lv) (hroom : (rest.map fun v => v.category).sum ≤ 8) (k : jx_At G X fin w1 (pc + 3) L (.int r :: rest)) : jx_At G X fin (jx_w G S) pc L (v2 :: v1 :: .ref (jx_ad G 1) :: rest) :=
  jx_callV hX (n := 2) (As := [v1, v2]) hM wm_294 wm_2 wm_395 wm_292 wm_293 (by decide) 1 rfl rfl rfl rfl (by decide) hd hlv hroom k
theorem cs_P_95 (hX : jx_Ok G X cc "PlaneCells" ret nL lv) {v1 : Value} {r : Int32} {w1 : va_W} (hM : jx_M (jx_l X) y_P_enterColumn b_P_enterColumn 2 (some .boolean) 5 G [.ref (jx_ad G 0), v1] (jx_w G S) (some (.int r), w1)) (hd : decode cc pc = .ok (.invokevirtual 95, 3)) (hlv : 5 < lv) (hroom : (rest.map fun v => v.category).sum ≤ 8) (k : jx_At G X fin w1 (pc + 3) L (.int r :: rest)) : jx_At G X fin (jx_w G S) pc L (v1 :: .ref (jx_ad G 0) :: rest) :=
  jx_callV hX (n := 1) (As := [v1]) hM wm_407 wm_1 wm_404 wm_406 ws_18 (by decide) 0 rfl rfl rfl rfl (by decide) hd hlv hroom k
theorem cs_P_101 (hX : jx_Ok G X cc "PlaneCells" ret nL lv) {v1 : Value} {r : Int32} {w1 : va_W} (hM : jx_M (jx_l X) y_P_hasCell b_P_hasCell 2 (some .boolean) 0 G [.ref (jx_ad G 0), v1] (jx_w G S) (some (.int r), w1)) (hd : decode cc pc = .ok (.invokevirtual 101, 3)) (hlv : 0 < lv) (hroom : (rest.map fun v => v.category).sum ≤ 8) (k : jx_At G X fin w1 (pc + 3) L (.int r :: rest)) : jx_At G X fin (jx_w G S) pc L (v1 :: .ref (jx_ad G 0) :: rest) :=
  jx_callV hX (n := 1) (As := [v1]) hM wm_419 wm_1 wm_416 wm_418 ws_20 (by decide) 0 rfl rfl rfl rfl (by decide) hd hlv hroom k
theorem cs_P_104 (hX : jx_Ok G X cc "PlaneCells" ret nL lv) {v1 v2 : Value} {r : Int32} {w1 : va_W} (hM : jx_M (jx_l X) y_Q_signIn b_Q_signIn 3 (some .int) 1 G [.ref (jx_ad G 3), v1, v2] (jx_w G S) (some (.int r), w1)) (hd : decode cc pc = .ok (.invokevirtual 104, 3)) (hlv : 1 < lv) (hroom : (rest.map fun v => v.category).sum ≤ 8) (k : jx_At G X fin w1 (pc + 3) L (.int r :: rest)) : jx_At G X fin (jx_w G S) pc L (v2 :: v1 :: .ref (jx_ad G 3) :: rest) :=
  jx_callV hX (n := 2) (As := [v1, v2]) hM wm_373 wm_4 wm_420 wm_371 wm_372 (by decide) 3 rfl rfl rfl rfl (by decide) hd hlv hroom k
theorem cs_P_107 (hX : jx_Ok G X cc "PlaneCells" ret nL lv) {v1 : Value} {r : Int32} {w1 : va_W} (hM : jx_M (jx_l X) y_Q_trueIn b_Q_trueIn 6 (some .boolean) 2 G [.ref (jx_ad G 3), v1] (jx_w G S) (some (.int r), w1)) (hd : decode cc pc = .ok (.invokevirtual 107, 3)) (hlv : 2 < lv) (hroom : (rest.map fun v => v.category).sum ≤ 8) (k : jx_At G X fin w1 (pc + 3) L (.int r :: rest)) : jx_At G X fin (jx_w G S) pc L (v1 :: .ref (jx_ad G 3) :: rest) :=
  jx_callV hX (n := 1) (As := [v1]) hM wm_369 wm_4 wm_425 wm_367 wm_368 (by decide) 3 rfl rfl rfl rfl (by decide) hd hlv hroom k
theorem cs_P_110 (hX : jx_Ok G X cc "PlaneCells" ret nL lv) {v1 : Value} {r : Int32} {w1 : va_W} (hM : jx_M (jx_l X) y_P_hasColumn b_P_hasColumn 2 (some .boolean) 0 G [.ref (jx_ad G 0), v1] (jx_w G S) (some (.int r), w1)) (hd : decode cc pc = .ok (.invokevirtual 110, 3)) (hlv : 0 < lv) (hroom : (rest.map fun v => v.category).sum ≤ 8) (k : jx_At G X fin w1 (pc + 3) L (.int r :: rest)) : jx_At G X fin (jx_w G S) pc L (v1 :: .ref (jx_ad G 0) :: rest) :=
  jx_callV hX (n := 1) (As := [v1]) hM wm_411 wm_1 wm_408 wm_410 ws_19 (by decide) 0 rfl rfl rfl rfl (by decide) hd hlv hroom k
theorem cs_P_117 (hX : jx_Ok G X cc "PlaneCells" ret nL lv) {v1 v2 v3 v4 : Value} {r : Int32} {w1 : va_W} (hM : jx_M (jx_l X) y_C_signAt b_C_signAt 18 (some .int) 1 G [.ref (jx_ad G 4), v1, v2, v3, v4] (jx_w G S) (some (.int r), w1)) (hd : decode cc pc = .ok (.invokevirtual 117, 3)) (hlv : 1 < lv) (hroom : (rest.map fun v => v.category).sum ≤ 8) (k : jx_At G X fin w1 (pc + 3) L (.int r :: rest)) : jx_At G X fin (jx_w G S) pc L (v4 :: v3 :: v2 :: v1 :: .ref (jx_ad G 4) :: rest) :=
  jx_callV hX (n := 4) (As := [v1, v2, v3, v4]) hM wm_353 wm_5 wm_438 wm_351 wm_352 (by decide) 4 rfl rfl rfl rfl (by decide) hd hlv hroom k
theorem cs_C_42 (hX : jx_Ok G X cc "PlaneCells$CriticalNumbers" ret nL lv) {v1 v2 v3 : Value} {w1 : va_W} (hM : jx_M (jx_l X) y_C_add b_C_add 6 none 3 G [.ref (jx_ad G 4), v1, v2, v3] (jx_w G S) (none, w1)) (hd : decode cc pc = .ok (.invokevirtual 42, 3)) (hlv : 3 < lv) (hroom : (rest.map fun v => v.category).sum ≤ 8) (k : jx_At G X fin w1 (pc + 3) L rest) : jx_At G X fin (jx_w G S) pc L (v3 :: v2 :: v1 :: .ref (jx_ad G 4) :: rest) :=
  jx_callV hX (n := 3) (As := [v1, v2, v3]) hM wm_305 wm_5 wm_302 wm_304 ws_13 (by decide) 4 rfl rfl rfl rfl (by decide) hd hlv hroom k
theorem cs_C_46 (hX : jx_Ok G X cc "PlaneCells$CriticalNumbers" ret nL lv) {v1 v2 v3 v4 : Value} {r : Int32} {w1 : va_W} (hM : jx_M (jx_l X) y_C_signOfDifference b_C_signOfDifference 11 (some .int) 2 G [.ref (jx_ad G 4), v1, v2, v3, v4] (jx_w G S) (some (.int r), w1)) (hd : decode cc pc = .ok (.invokevirtual 46, 3)) (hlv : 2 < lv) (hroom : (rest.map fun v => v.category).sum ≤ 8) (k : jx_At G X fin w1 (pc + 3) L (.int r :: rest)) : jx_At G X fin (jx_w G S) pc L (v4 :: v3 :: v2 :: v1 :: .ref (jx_ad G 4) :: rest) :=
  jx_callV hX (n := 4) (As := [v1, v2, v3, v4]) hM wm_309 wm_5 wm_306 wm_308 ws_14 (by decide) 4 rfl rfl rfl rfl (by decide) hd hlv hroom k
theorem cs_C_50 (hX : jx_Ok G X cc "PlaneCells$CriticalNumbers" ret nL lv) {v1 v2 v3 v4 : Value} {w1 : va_W} (hM : jx_M (jx_l X) y_C_insert b_C_insert 6 none 0 G [.ref (jx_ad G 4), v1, v2, v3, v4] (jx_w G S) (none, w1)) (hd : decode cc pc = .ok (.invokevirtual 50, 3)) (hlv : 0 < lv) (hroom : (rest.map fun v => v.category).sum ≤ 8) (k : jx_At G X fin w1 (pc + 3) L rest) : jx_At G X fin (jx_w G S) pc L (v4 :: v3 :: v2 :: v1 :: .ref (jx_ad G 4) :: rest) :=
  jx_callV hX (n := 4) (As := [v1, v2, v3, v4]) hM wm_323 wm_5 wm_320 wm_322 ws_15 (by decide) 4 rfl rfl rfl rfl (by decide) hd hlv hroom k
theorem cs_C_54 (hX : jx_Ok G X cc "PlaneCells$CriticalNumbers" ret nL lv) {v1 v2 v3 : Value} {r : Int32} {w1 : va_W} (hM : jx_M (jx_l X) y_C_signWithRoots b_C_signWithRoots 10 (some .int) 1 G [v1, v2, v3] (jx_w G S) (some (.int r), w1)) (hd : decode cc pc = .ok (.invokestatic 54, 3)) (hlv : 1 < lv) (hroom : (rest.map fun v => v.category).sum ≤ 8) (k : jx_At G X fin w1 (pc + 3) L (.int r :: rest)) : jx_At G X fin (jx_w G S) pc L (v3 :: v2 :: v1 :: rest) :=
  jx_callS hX (n := 3) (As := [v1, v2, v3]) hM wm_312 wm_5 wm_310 wm_311 (by decide) rfl rfl (by decide) hd hlv hroom k
theorem cs_C_69 (hX : jx_Ok G X cc "PlaneCells$CriticalNumbers" ret nL lv) {v1 : Value} {r : Int32} {w1 : va_W} (hM : jx_M (jx_l X) y_C_signBelowAll b_C_signBelowAll 1 (some .int) 1 G [v1] (jx_w G S) (some (.int r), w1)) (hd : decode cc pc = .ok (.invokestatic 69, 3)) (hlv : 1 < lv) (hroom : (rest.map fun v => v.category).sum ≤ 8) (k : jx_At G X fin w1 (pc + 3) L (.int r :: rest)) : jx_At G X fin (jx_w G S) pc L (v1 :: rest) :=
  jx_callS hX (n := 1) (As := [v1]) hM wm_346 wm_5 wm_344 wm_345 (by decide) rfl rfl (by decide) hd hlv hroom k
theorem cs_C_73 (hX : jx_Ok G X cc "PlaneCells$CriticalNumbers" ret nL lv) {v1 v2 v3 v4 : Value} {r : Int32} {w1 : va_W} (hM : jx_M (jx_l X) y_C_signAt b_C_signAt 18 (some .int) 1 G [.ref (jx_ad G 4), v1, v2, v3, v4] (jx_w G S) (some (.int r), w1)) (hd : decode cc pc = .ok (.invokevirtual 73, 3)) (hlv : 1 < lv) (hroom : (rest.map fun v => v.category).sum ≤ 8) (k : jx_At G X fin w1 (pc + 3) L (.int r :: rest)) : jx_At G X fin (jx_w G S) pc L (v4 :: v3 :: v2 :: v1 :: .ref (jx_ad G 4) :: rest) :=
  jx_callV hX (n := 4) (As := [v1, v2, v3, v4]) hM wm_353 wm_5 wm_350 wm_351 wm_352 (by decide) 4 rfl rfl rfl rfl (by decide) hd hlv hroom k
theorem cs_F_7 (hX : jx_Ok G X cc "PlaneCells$Form" ret nL lv) {v1 v2 : Value} {r : Int32} {w1 : va_W} (hM : jx_M (jx_l X) y_S_number b_S_number 3 (some .int) 0 G [.ref (jx_ad G 1), v1, v2] (jx_w G S) (some (.int r), w1)) (hd : decode cc pc = .ok (.invokevirtual 7, 3)) (hlv : 0 < lv) (hroom : (rest.map fun v => v.category).sum ≤ 8) (k : jx_At G X fin w1 (pc + 3) L (.int r :: rest)) : jx_At G X fin (jx_w G S) pc L (v2 :: v1 :: .ref (jx_ad G 1) :: rest) :=
  jx_callV hX (n := 2) (As := [v1, v2]) hM wm_294 wm_2 wm_291 wm_292 wm_293 (by decide) 1 rfl rfl rfl rfl (by decide) hd hlv hroom k
theorem cs_Q_39 (hX : jx_Ok G X cc "PlaneCells$Plane" ret nL lv) {w1 : va_W} (hM : jx_M (jx_l X) y_C_clear b_C_clear 1 none 0 G [.ref (jx_ad G 4)] (jx_w G S) (none, w1)) (hd : decode cc pc = .ok (.invokevirtual 39, 3)) (hlv : 0 < lv) (hroom : (rest.map fun v => v.category).sum ≤ 8) (k : jx_At G X fin w1 (pc + 3) L rest) : jx_At G X fin (jx_w G S) pc L (.ref (jx_ad G 4) :: rest) :=
  jx_callV hX (n := 0) (As := []) hM wm_286 wm_5 wm_283 wm_284 wm_285 (by decide) 4 rfl rfl rfl rfl (by decide) hd hlv hroom k
theorem cs_Q_48 (hX : jx_Ok G X cc "PlaneCells$Plane" ret nL lv) {v1 v2 : Value} {w1 : va_W} (hM : jx_M (jx_l X) y_F_setA b_F_setA 3 none 1 G [.ref (jx_ad G 5), v1, v2] (jx_w G S) (none, w1)) (hd : decode cc pc = .ok (.invokevirtual 48, 3)) (hlv : 1 < lv) (hroom : (rest.map fun v => v.category).sum ≤ 8) (k : jx_At G X fin w1 (pc + 3) L rest) : jx_At G X fin (jx_w G S) pc L (v2 :: v1 :: .ref (jx_ad G 5) :: rest) :=
  jx_callV hX (n := 2) (As := [v1, v2]) hM wm_290 wm_6 wm_287 wm_288 wm_289 (by decide) 5 rfl rfl rfl rfl (by decide) hd hlv hroom k
theorem cs_Q_52 (hX : jx_Ok G X cc "PlaneCells$Plane" ret nL lv) {v1 : Value} {w1 : va_W} (hM : jx_M (jx_l X) y_C_addZerosOf b_C_addZerosOf 4 none 4 G [.ref (jx_ad G 4), v1] (jx_w G S) (none, w1)) (hd : decode cc pc = .ok (.invokevirtual 52, 3)) (hlv : 4 < lv) (hroom : (rest.map fun v => v.category).sum ≤ 8) (k : jx_At G X fin w1 (pc + 3) L rest) : jx_At G X fin (jx_w G S) pc L (v1 :: .ref (jx_ad G 4) :: rest) :=
  jx_callV hX (n := 1) (As := [v1]) hM wm_298 wm_5 wm_295 wm_296 wm_297 (by decide) 4 rfl rfl rfl rfl (by decide) hd hlv hroom k
theorem cs_Q_56 (hX : jx_Ok G X cc "PlaneCells$Plane" ret nL lv) {v1 v2 : Value} {w1 : va_W} (hM : jx_M (jx_l X) y_F_setB b_F_setB 3 none 1 G [.ref (jx_ad G 5), v1, v2] (jx_w G S) (none, w1)) (hd : decode cc pc = .ok (.invokevirtual 56, 3)) (hlv : 1 < lv) (hroom : (rest.map fun v => v.category).sum ≤ 8) (k : jx_At G X fin w1 (pc + 3) L rest) : jx_At G X fin (jx_w G S) pc L (v2 :: v1 :: .ref (jx_ad G 5) :: rest) :=
  jx_callV hX (n := 2) (As := [v1, v2]) hM wm_327 wm_6 wm_324 wm_325 wm_326 (by decide) 5 rfl rfl rfl rfl (by decide) hd hlv hroom k
theorem cs_Q_59 (hX : jx_Ok G X cc "PlaneCells$Plane" ret nL lv) {v1 v2 v3 : Value} {w1 : va_W} (hM : jx_M (jx_l X) y_F_setPair b_F_setPair 4 none 1 G [.ref (jx_ad G 5), v1, v2, v3] (jx_w G S) (none, w1)) (hd : decode cc pc = .ok (.invokevirtual 59, 3)) (hlv : 1 < lv) (hroom : (rest.map fun v => v.category).sum ≤ 8) (k : jx_At G X fin w1 (pc + 3) L rest) : jx_At G X fin (jx_w G S) pc L (v3 :: v2 :: v1 :: .ref (jx_ad G 5) :: rest) :=
  jx_callV hX (n := 3) (As := [v1, v2, v3]) hM wm_331 wm_6 wm_328 wm_329 wm_330 (by decide) 5 rfl rfl rfl rfl (by decide) hd hlv hroom k
theorem cs_Q_69 (hX : jx_Ok G X cc "PlaneCells$Plane" ret nL lv) {v1 v2 : Value} {r : Int32} {w1 : va_W} (hM : jx_M (jx_l X) y_C_signInColumn b_C_signInColumn 6 (some .int) 2 G [.ref (jx_ad G 4), v1, v2] (jx_w G S) (some (.int r), w1)) (hd : decode cc pc = .ok (.invokevirtual 69, 3)) (hlv : 2 < lv) (hroom : (rest.map fun v => v.category).sum ≤ 8) (k : jx_At G X fin w1 (pc + 3) L (.int r :: rest)) : jx_At G X fin (jx_w G S) pc L (v2 :: v1 :: .ref (jx_ad G 4) :: rest) :=
  jx_callV hX (n := 2) (As := [v1, v2]) hM wm_343 wm_5 wm_340 wm_341 wm_342 (by decide) 4 rfl rfl rfl rfl (by decide) hd hlv hroom k
theorem cs_Q_73 (hX : jx_Ok G X cc "PlaneCells$Plane" ret nL lv) {v1 v2 : Value} {w1 : va_W} (hM : jx_M (jx_l X) y_Q_addZero b_Q_addZero 6 none 3 G [.ref (jx_ad G 3), v1, v2] (jx_w G S) (none, w1)) (hd : decode cc pc = .ok (.invokevirtual 73, 3)) (hlv : 3 < lv) (hroom : (rest.map fun v => v.category).sum ≤ 8) (k : jx_At G X fin w1 (pc + 3) L rest) : jx_At G X fin (jx_w G S) pc L (v2 :: v1 :: .ref (jx_ad G 3) :: rest) :=
  jx_callV hX (n := 2) (As := [v1, v2]) hM wm_358 wm_4 wm_355 wm_357 ws_16 (by decide) 3 rfl rfl rfl rfl (by decide) hd hlv hroom k
theorem cs_Q_95 (hX : jx_Ok G X cc "PlaneCells$Plane" ret nL lv) {v1 v2 : Value} {r : Int32} {w1 : va_W} (hM : jx_M (jx_l X) y_Q_signIn b_Q_signIn 3 (some .int) 1 G [.ref (jx_ad G 3), v1, v2] (jx_w G S) (some (.int r), w1)) (hd : decode cc pc = .ok (.invokevirtual 95, 3)) (hlv : 1 < lv) (hroom : (rest.map fun v => v.category).sum ≤ 8) (k : jx_At G X fin w1 (pc + 3) L (.int r :: rest)) : jx_At G X fin (jx_w G S) pc L (v2 :: v1 :: .ref (jx_ad G 3) :: rest) :=
  jx_callV hX (n := 2) (As := [v1, v2]) hM wm_373 wm_4 wm_370 wm_371 wm_372 (by decide) 3 rfl rfl rfl rfl (by decide) hd hlv hroom k
theorem cs_Q_98 (hX : jx_Ok G X cc "PlaneCells$Plane" ret nL lv) {v1 v2 : Value} {r : Int32} {w1 : va_W} (hM : jx_M (jx_l X) y_S_atomIsTrue b_S_atomIsTrue 3 (some .boolean) 0 G [.ref (jx_ad G 1), v1, v2] (jx_w G S) (some (.int r), w1)) (hd : decode cc pc = .ok (.invokevirtual 98, 3)) (hlv : 0 < lv) (hroom : (rest.map fun v => v.category).sum ≤ 8) (k : jx_At G X fin w1 (pc + 3) L (.int r :: rest)) : jx_At G X fin (jx_w G S) pc L (v2 :: v1 :: .ref (jx_ad G 1) :: rest) :=
  jx_callV hX (n := 2) (As := [v1, v2]) hM wm_378 wm_2 wm_375 wm_376 wm_377 (by decide) 1 rfl rfl rfl rfl (by decide) hd hlv hroom k
theorem cs_Q_102 (hX : jx_Ok G X cc "PlaneCells$Plane" ret nL lv) {v1 : Value} {r : Int32} {w1 : va_W} (hM : jx_M (jx_l X) y_Q_trueIn b_Q_trueIn 6 (some .boolean) 2 G [.ref (jx_ad G 3), v1] (jx_w G S) (some (.int r), w1)) (hd : decode cc pc = .ok (.invokevirtual 102, 3)) (hlv : 2 < lv) (hroom : (rest.map fun v => v.category).sum ≤ 8) (k : jx_At G X fin w1 (pc + 3) L (.int r :: rest)) : jx_At G X fin (jx_w G S) pc L (v1 :: .ref (jx_ad G 3) :: rest) :=
  jx_callV hX (n := 1) (As := [v1]) hM wm_369 wm_4 wm_366 wm_367 wm_368 (by decide) 3 rfl rfl rfl rfl (by decide) hd hlv hroom k
theorem cs_R_42 (hX : jx_Ok G X cc "PlaneCells$Reader" ret nL lv) {w1 : va_W} (hM : jx_M (jx_l X) y_S_clear b_S_clear 1 none 0 G [.ref (jx_ad G 1)] (jx_w G S) (none, w1)) (hd : decode cc pc = .ok (.invokevirtual 42, 3)) (hlv : 0 < lv) (hroom : (rest.map fun v => v.category).sum ≤ 8) (k : jx_At G X fin w1 (pc + 3) L rest) : jx_At G X fin (jx_w G S) pc L (.ref (jx_ad G 1) :: rest) :=
  jx_callV hX (n := 0) (As := []) hM wm_206 wm_2 wm_203 wm_204 wm_205 (by decide) 1 rfl rfl rfl rfl (by decide) hd hlv hroom k
theorem cs_R_47 (hX : jx_Ok G X cc "PlaneCells$Reader" ret nL lv) {r : Int32} {w1 : va_W} (hM : jx_M (jx_l X) y_R_takeHead b_R_takeHead 1 (some .boolean) 3 G [.ref (jx_ad G 2)] (jx_w G S) (some (.int r), w1)) (hd : decode cc pc = .ok (.invokevirtual 47, 3)) (hlv : 3 < lv) (hroom : (rest.map fun v => v.category).sum ≤ 8) (k : jx_At G X fin w1 (pc + 3) L (.int r :: rest)) : jx_At G X fin (jx_w G S) pc L (.ref (jx_ad G 2) :: rest) :=
  jx_callV hX (n := 0) (As := []) hM wm_210 wm_3 wm_207 wm_209 ws_1 (by decide) 2 rfl rfl rfl rfl (by decide) hd hlv hroom k
theorem cs_R_51 (hX : jx_Ok G X cc "PlaneCells$Reader" ret nL lv) {w1 : va_W} (hM : jx_M (jx_l X) y_R_takeOpenings b_R_takeOpenings 1 none 1 G [.ref (jx_ad G 2)] (jx_w G S) (none, w1)) (hd : decode cc pc = .ok (.invokevirtual 51, 3)) (hlv : 1 < lv) (hroom : (rest.map fun v => v.category).sum ≤ 8) (k : jx_At G X fin w1 (pc + 3) L rest) : jx_At G X fin (jx_w G S) pc L (.ref (jx_ad G 2) :: rest) :=
  jx_callV hX (n := 0) (As := []) hM wm_226 wm_3 wm_223 wm_225 ws_5 (by decide) 2 rfl rfl rfl rfl (by decide) hd hlv hroom k
theorem cs_R_54 (hX : jx_Ok G X cc "PlaneCells$Reader" ret nL lv) {r : Int32} {w1 : va_W} (hM : jx_M (jx_l X) y_R_takeAtom b_R_takeAtom 3 (some .boolean) 3 G [.ref (jx_ad G 2)] (jx_w G S) (some (.int r), w1)) (hd : decode cc pc = .ok (.invokevirtual 54, 3)) (hlv : 3 < lv) (hroom : (rest.map fun v => v.category).sum ≤ 8) (k : jx_At G X fin w1 (pc + 3) L (.int r :: rest)) : jx_At G X fin (jx_w G S) pc L (.ref (jx_ad G 2) :: rest) :=
  jx_callV hX (n := 0) (As := []) hM wm_234 wm_3 wm_231 wm_233 ws_7 (by decide) 2 rfl rfl rfl rfl (by decide) hd hlv hroom k
theorem cs_R_57 (hX : jx_Ok G X cc "PlaneCells$Reader" ret nL lv) {w1 : va_W} (hM : jx_M (jx_l X) y_R_takeClosings b_R_takeClosings 1 none 2 G [.ref (jx_ad G 2)] (jx_w G S) (none, w1)) (hd : decode cc pc = .ok (.invokevirtual 57, 3)) (hlv : 2 < lv) (hroom : (rest.map fun v => v.category).sum ≤ 8) (k : jx_At G X fin w1 (pc + 3) L rest) : jx_At G X fin (jx_w G S) pc L (.ref (jx_ad G 2) :: rest) :=
  jx_callV hX (n := 0) (As := []) hM wm_260 wm_3 wm_257 wm_259 ws_10 (by decide) 2 rfl rfl rfl rfl (by decide) hd hlv hroom k
theorem cs_R_60 (hX : jx_Ok G X cc "PlaneCells$Reader" ret nL lv) {r : Int32} {w1 : va_W} (hM : jx_M (jx_l X) y_R_takeJoint b_R_takeJoint 2 (some .boolean) 2 G [.ref (jx_ad G 2)] (jx_w G S) (some (.int r), w1)) (hd : decode cc pc = .ok (.invokevirtual 60, 3)) (hlv : 2 < lv) (hroom : (rest.map fun v => v.category).sum ≤ 8) (k : jx_At G X fin w1 (pc + 3) L (.int r :: rest)) : jx_At G X fin (jx_w G S) pc L (.ref (jx_ad G 2) :: rest) :=
  jx_callV hX (n := 0) (As := []) hM wm_269 wm_3 wm_266 wm_268 ws_12 (by decide) 2 rfl rfl rfl rfl (by decide) hd hlv hroom k
theorem cs_R_63 (hX : jx_Ok G X cc "PlaneCells$Reader" ret nL lv) {v1 : Value} {w1 : va_W} (hM : jx_M (jx_l X) y_R_release b_R_release 2 none 1 G [.ref (jx_ad G 2), v1] (jx_w G S) (none, w1)) (hd : decode cc pc = .ok (.invokevirtual 63, 3)) (hlv : 1 < lv) (hroom : (rest.map fun v => v.category).sum ≤ 8) (k : jx_At G X fin w1 (pc + 3) L rest) : jx_At G X fin (jx_w G S) pc L (v1 :: .ref (jx_ad G 2) :: rest) :=
  jx_callV hX (n := 1) (As := [v1]) hM wm_264 wm_3 wm_261 wm_263 ws_11 (by decide) 2 rfl rfl rfl rfl (by decide) hd hlv hroom k
theorem cs_R_67 (hX : jx_Ok G X cc "PlaneCells$Reader" ret nL lv) {r : Int32} {w1 : va_W} (hM : jx_M (jx_l X) y_R_peek b_R_peek 1 (some .char) 0 G [.ref (jx_ad G 2)] (jx_w G S) (some (.int r), w1)) (hd : decode cc pc = .ok (.invokevirtual 67, 3)) (hlv : 0 < lv) (hroom : (rest.map fun v => v.category).sum ≤ 8) (k : jx_At G X fin w1 (pc + 3) L (.int r :: rest)) : jx_At G X fin (jx_w G S) pc L (.ref (jx_ad G 2) :: rest) :=
  jx_callV hX (n := 0) (As := []) hM wm_214 wm_3 wm_211 wm_213 ws_2 (by decide) 2 rfl rfl rfl rfl (by decide) hd hlv hroom k
theorem cs_R_75 (hX : jx_Ok G X cc "PlaneCells$Reader" ret nL lv) {r : Int32} {w1 : va_W} (hM : jx_M (jx_l X) y_R_takeQuantifier b_R_takeQuantifier 1 (some .boolean) 2 G [.ref (jx_ad G 2)] (jx_w G S) (some (.int r), w1)) (hd : decode cc pc = .ok (.invokevirtual 75, 3)) (hlv : 2 < lv) (hroom : (rest.map fun v => v.category).sum ≤ 8) (k : jx_At G X fin w1 (pc + 3) L (.int r :: rest)) : jx_At G X fin (jx_w G S) pc L (.ref (jx_ad G 2) :: rest) :=
  jx_callV hX (n := 0) (As := []) hM wm_218 wm_3 wm_215 wm_217 ws_3 (by decide) 2 rfl rfl rfl rfl (by decide) hd hlv hroom k
theorem cs_R_78 (hX : jx_Ok G X cc "PlaneCells$Reader" ret nL lv) {v1 : Value} {r : Int32} {w1 : va_W} (hM : jx_M (jx_l X) y_R_take b_R_take 2 (some .boolean) 1 G [.ref (jx_ad G 2), v1] (jx_w G S) (some (.int r), w1)) (hd : decode cc pc = .ok (.invokevirtual 78, 3)) (hlv : 1 < lv) (hroom : (rest.map fun v => v.category).sum ≤ 8) (k : jx_At G X fin w1 (pc + 3) L (.int r :: rest)) : jx_At G X fin (jx_w G S) pc L (v1 :: .ref (jx_ad G 2) :: rest) :=
  jx_callV hX (n := 1) (As := [v1]) hM wm_222 wm_3 wm_219 wm_221 ws_4 (by decide) 2 rfl rfl rfl rfl (by decide) hd hlv hroom k
theorem cs_R_85 (hX : jx_Ok G X cc "PlaneCells$Reader" ret nL lv) {v1 : Value} {w1 : va_W} (hM : jx_M (jx_l X) y_R_hold b_R_hold 2 none 0 G [.ref (jx_ad G 2), v1] (jx_w G S) (none, w1)) (hd : decode cc pc = .ok (.invokevirtual 85, 3)) (hlv : 0 < lv) (hroom : (rest.map fun v => v.category).sum ≤ 8) (k : jx_At G X fin w1 (pc + 3) L rest) : jx_At G X fin (jx_w G S) pc L (v1 :: .ref (jx_ad G 2) :: rest) :=
  jx_callV hX (n := 1) (As := [v1]) hM wm_230 wm_3 wm_227 wm_229 ws_6 (by decide) 2 rfl rfl rfl rfl (by decide) hd hlv hroom k
theorem cs_R_88 (hX : jx_Ok G X cc "PlaneCells$Reader" ret nL lv) {v1 : Value} {w1 : va_W} (hM : jx_M (jx_l X) y_S_addStep b_S_addStep 2 none 0 G [.ref (jx_ad G 1), v1] (jx_w G S) (none, w1)) (hd : decode cc pc = .ok (.invokevirtual 88, 3)) (hlv : 0 < lv) (hroom : (rest.map fun v => v.category).sum ≤ 8) (k : jx_At G X fin w1 (pc + 3) L rest) : jx_At G X fin (jx_w G S) pc L (v1 :: .ref (jx_ad G 1) :: rest) :=
  jx_callV hX (n := 1) (As := [v1]) hM wm_256 wm_2 wm_265 wm_254 wm_255 (by decide) 1 rfl rfl rfl rfl (by decide) hd hlv hroom k
theorem cs_R_91 (hX : jx_Ok G X cc "PlaneCells$Reader" ret nL lv) {v1 : Value} {r : Int32} {w1 : va_W} (hM : jx_M (jx_l X) y_R_takeSum b_R_takeSum 4 (some .boolean) 2 G [.ref (jx_ad G 2), v1] (jx_w G S) (some (.int r), w1)) (hd : decode cc pc = .ok (.invokevirtual 91, 3)) (hlv : 2 < lv) (hroom : (rest.map fun v => v.category).sum ≤ 8) (k : jx_At G X fin w1 (pc + 3) L (.int r :: rest)) : jx_At G X fin (jx_w G S) pc L (v1 :: .ref (jx_ad G 2) :: rest) :=
  jx_callV hX (n := 1) (As := [v1]) hM wm_238 wm_3 wm_235 wm_237 ws_8 (by decide) 2 rfl rfl rfl rfl (by decide) hd hlv hroom k
theorem cs_R_95 (hX : jx_Ok G X cc "PlaneCells$Reader" ret nL lv) {v1 v2 : Value} {w1 : va_W} (hM : jx_M (jx_l X) y_S_addAtom b_S_addAtom 3 none 1 G [.ref (jx_ad G 1), v1, v2] (jx_w G S) (none, w1)) (hd : decode cc pc = .ok (.invokevirtual 95, 3)) (hlv : 1 < lv) (hroom : (rest.map fun v => v.category).sum ≤ 8) (k : jx_At G X fin w1 (pc + 3) L rest) : jx_At G X fin (jx_w G S) pc L (v2 :: v1 :: .ref (jx_ad G 1) :: rest) :=
  jx_callV hX (n := 2) (As := [v1, v2]) hM wm_249 wm_2 wm_246 wm_247 wm_248 (by decide) 1 rfl rfl rfl rfl (by decide) hd hlv hroom k
theorem cs_R_99 (hX : jx_Ok G X cc "PlaneCells$Reader" ret nL lv) {v1 : Value} {r : Int32} {w1 : va_W} (hM : jx_M (jx_l X) y_R_takeTerm b_R_takeTerm 8 (some .boolean) 1 G [.ref (jx_ad G 2), v1] (jx_w G S) (some (.int r), w1)) (hd : decode cc pc = .ok (.invokevirtual 99, 3)) (hlv : 1 < lv) (hroom : (rest.map fun v => v.category).sum ≤ 8) (k : jx_At G X fin w1 (pc + 3) L (.int r :: rest)) : jx_At G X fin (jx_w G S) pc L (v1 :: .ref (jx_ad G 2) :: rest) :=
  jx_callV hX (n := 1) (As := [v1]) hM wm_242 wm_3 wm_239 wm_241 ws_9 (by decide) 2 rfl rfl rfl rfl (by decide) hd hlv hroom k
theorem cs_R_102 (hX : jx_Ok G X cc "PlaneCells$Reader" ret nL lv) {v1 : Value} {r : Int32} {w1 : va_W} (hM : jx_M (jx_l X) y_R_numberOfLetter b_R_numberOfLetter 1 (some .int) 0 G [v1] (jx_w G S) (some (.int r), w1)) (hd : decode cc pc = .ok (.invokestatic 102, 3)) (hlv : 0 < lv) (hroom : (rest.map fun v => v.category).sum ≤ 8) (k : jx_At G X fin w1 (pc + 3) L (.int r :: rest)) : jx_At G X fin (jx_w G S) pc L (v1 :: rest) :=
  jx_callS hX (n := 1) (As := [v1]) hM wm_245 wm_3 wm_243 wm_244 (by decide) rfl rfl (by decide) hd hlv hroom k
theorem cs_S_35 (hX : jx_Ok G X cc "PlaneCells$Sentence" ret nL lv) {v1 : Value} {w1 : va_W} (hM : jx_M (jx_l X) y_S_addStep b_S_addStep 2 none 0 G [.ref (jx_ad G 1), v1] (jx_w G S) (none, w1)) (hd : decode cc pc = .ok (.invokevirtual 35, 3)) (hlv : 0 < lv) (hroom : (rest.map fun v => v.category).sum ≤ 8) (k : jx_At G X fin w1 (pc + 3) L rest) : jx_At G X fin (jx_w G S) pc L (v1 :: .ref (jx_ad G 1) :: rest) :=
  jx_callV hX (n := 1) (As := [v1]) hM wm_256 wm_2 wm_253 wm_254 wm_255 (by decide) 1 rfl rfl rfl rfl (by decide) hd hlv hroom k
end CR
end
section
abbrev b_JI : ByteArray := prog_9_method_56_code
def y_JI : MethodName := ⟨"java/lang/Integer", "signum", "(I)I"⟩
abbrev b_JL : ByteArray := prog_10_method_57_code
def y_JL : MethodName := ⟨"java/lang/Long", "signum", "(J)I"⟩
theorem d_JI_0 : decode b_JI 0 = .ok (.iload_n 0, 1) := by decide +kernel
theorem d_JI_1 : decode b_JI 1 = .ok (.bipush 31, 2) := by decide +kernel
theorem d_JI_3 : decode b_JI 3 = .ok (.ishr, 1) := by decide +kernel
theorem d_JI_4 : decode b_JI 4 = .ok (.iload_n 0, 1) := by decide +kernel
theorem d_JI_5 : decode b_JI 5 = .ok (.ineg, 1) := by decide +kernel
theorem d_JI_6 : decode b_JI 6 = .ok (.bipush 31, 2) := by decide +kernel
theorem d_JI_8 : decode b_JI 8 = .ok (.iushr, 1) := by decide +kernel
theorem d_JI_9 : decode b_JI 9 = .ok (.ior, 1) := by decide +kernel
theorem d_JI_10 : decode b_JI 10 = .ok (.ireturn, 1) := by decide +kernel
theorem d_JL_0 : decode b_JL 0 = .ok (.lload_n 0, 1) := by decide +kernel
theorem d_JL_1 : decode b_JL 1 = .ok (.bipush 63, 2) := by decide +kernel
theorem d_JL_3 : decode b_JL 3 = .ok (.lshr, 1) := by decide +kernel
theorem d_JL_4 : decode b_JL 4 = .ok (.lload_n 0, 1) := by decide +kernel
theorem d_JL_5 : decode b_JL 5 = .ok (.lneg, 1) := by decide +kernel
theorem d_JL_6 : decode b_JL 6 = .ok (.bipush 63, 2) := by decide +kernel
theorem d_JL_8 : decode b_JL 8 = .ok (.lushr, 1) := by decide +kernel
theorem d_JL_9 : decode b_JL 9 = .ok (.lor, 1) := by decide +kernel
theorem d_JL_10 : decode b_JL 10 = .ok (.l2i, 1) := by decide +kernel
theorem d_JL_11 : decode b_JL 11 = .ok (.ireturn, 1) := by decide +kernel
theorem c_JI (l : Launch) (G : jx_G) (w : va_W) (x : Int32) : jx_M l y_JI b_JI 1 (some .int) 0 G [.int x] w (some (.int (jx_si x)), w) := by
  refine jx_met (own := "java/lang/Integer") (by decide) rfl (Nat.le_of_ble_eq_true rfl) (fun X hX hl => ?_)
  refine jx_L (L2 := [(0, .int x)]) rfl ?_
  refine jx_iload_n hX d_JI_0 0 rfl rfl ?_
  refine jx_bipush (v := 31) hX d_JI_1 (by decide) ?_
  refine jx_ishr hX d_JI_3 ?_
  refine jx_iload_n hX d_JI_4 0 rfl rfl ?_
  refine jx_ineg hX d_JI_5 ?_
  refine jx_bipush (v := 31) hX d_JI_6 (by decide) ?_
  refine jx_iushr hX d_JI_8 rfl ?_
  refine jx_ior hX d_JI_9 ?_
  exact jx_iret hX d_JI_10
theorem c_JL (l : Launch) (G : jx_G) (w : va_W) (x : Int64) : jx_M l y_JL b_JL 2 (some .int) 0 G [.long x] w (some (.int (jx_sl x)), w) := by
  refine jx_met (own := "java/lang/Long") (by decide) rfl (Nat.le_of_ble_eq_true rfl) (fun X hX hl => ?_)
  refine jx_L (L2 := [(0, .long x)]) rfl ?_
  refine jx_lload_n hX d_JL_0 0 rfl rfl ?_
  refine jx_bipush (v := 63) hX d_JL_1 (by decide) ?_
  refine jx_lshr hX d_JL_3 rfl ?_
  refine jx_lload_n hX d_JL_4 0 rfl rfl ?_
  refine jx_lneg hX d_JL_5 ?_
  refine jx_bipush (v := 63) hX d_JL_6 (by decide) ?_
  refine jx_lushr hX d_JL_8 rfl ?_
  refine jx_lor hX d_JL_9 ?_
  refine jx_l2i hX d_JL_10 rfl ?_
  exact jx_iret hX d_JL_11
section JS
variable {G : jx_G} {X : jx_C} {cc : ByteArray} {own : String} {ret : Option FieldType} {nL lv : Nat} {fin : Option Value × va_W} {w : va_W} {pc : Nat} {L : List (Nat × Value)} {st : List Value} {S : jx_S}
theorem jx_si_r (hX : jx_Ok G X cc own ret nL lv) {index : Nat} {x : Int32} (hlink : Cond.methodLink own index y_JI ∈ jx_W) (hd : decode cc pc = .ok (.invokestatic index, 3)) (hr : (st.map fun v => v.category).sum ≤ 8) (hlv : 0 < lv) (k : jx_At G X fin w (pc + 3) L (.int (jx_si x) :: st)) : jx_At G X fin w pc L (.int x :: st) :=
  jx_callS hX (n := 1) (As := [.int x]) (c_JI (jx_l X) G w x) jw_JIC jw_JII hlink jw_JIS (by decide) rfl rfl (by decide) hd hlv hr k
theorem jx_sl_r (hX : jx_Ok G X cc own ret nL lv) {index : Nat} {x : Int64} (hlink : Cond.methodLink own index y_JL ∈ jx_W) (hd : decode cc pc = .ok (.invokestatic index, 3)) (hr : (st.map fun v => v.category).sum ≤ 8) (hlv : 0 < lv) (k : jx_At G X fin w (pc + 3) L (.int (jx_sl x) :: st)) : jx_At G X fin w pc L (.long x :: st) :=
  jx_callS hX (n := 1) (As := [.long x]) (c_JL (jx_l X) G w x) jw_JLC jw_JLI hlink jw_JLS (by decide) rfl rfl (by decide) hd hlv hr k
theorem jx_copy (hX : jx_Ok G X cc own ret nL lv) {index : Nat} (hlink : Cond.methodLink own index arraycopyName ∈ jx_W) (q0 q1 : Nat) {a0 a1 n0 n1 : Nat} {f g : Nat → Int32} (h0 : w[q0]? = some (a0, .inl (jx_ca G 0, n0, .inl f))) (h1 : w[q1]? = some (a1, .inl (jx_ca G 0, n1, .inl g))) {sp dp n : Int32} (hg : jx_ck sp dp n n0 n1 = true) (hr : (st.map fun v => v.category).sum ≤ 8) (hlv : 0 < lv) {w2 : va_W} (hw : w.set q1 (a1, .inl (jx_ca G 0, n1, .inl (va_cpy f g sp.toNatClampNeg dp.toNatClampNeg n.toNatClampNeg))) = w2) (hd : decode cc pc = .ok (.invokestatic index, 3)) (k : jx_At G X fin w2 (pc + 3) L st) : jx_At G X fin w pc L (.int n :: .int dp :: .ref a1 :: .int sp :: .ref a0 :: st) :=
  fun H locs ls hP hD hS hl => by
    have hg := of_decide_eq_true hg
    refine va_copyi hX.1 hX.2.1 hl.1.symm hX.2.2.2.1 (hX.2.2.2.2.1 _ hlink) (hX.2.2.2.2.1 _ jw_acN) (hX.2.2.2.2.1 _ jw_acS) (hX.2.2.2.2.1 _ jw_acI) hX.2.2.2.2.2.1 hP hD hS q0 q1 0 0 h0 h1 rfl rfl rfl hg.1 hg.2.1 hg.2.2.1 hg.2.2.2.1 hg.2.2.2.2 (fun _ _ => rfl) (by rw [hX.2.2.2.2.2.2.2.2.2.2]; exact hlv) ?_ hd (fun H1 locs1 hP hD hS => k H1 locs1 ls (by rw [hw] at hP; exact hP) (by rw [hw] at hD; exact hD) hS hl)
    rw [hX.2.2.2.2.2.2.2.2.2.2]
    have e : nativeFrameWords "java/lang/System" "arraycopy" 5 + 11 ≤ 40 := by decide
    simp only [jx_rm]
    omega
theorem ac_5_0 (hX : jx_Ok G X cc "PlaneCells$Sentence" ret nL lv) {sp dp n : Int32} (hd : decode cc pc = .ok (.invokestatic 29, 3)) (hg : jx_ck sp dp n 4 32 = true) (hr : (st.map fun v => v.category).sum ≤ 8) (hlv : 0 < lv) (k : jx_At G X fin (jx_w G (jx_g S 0 (va_cpy (S.2.1 5) (S.2.1 0) sp.toNatClampNeg dp.toNatClampNeg n.toNatClampNeg))) (pc + 3) L st) : jx_At G X fin (jx_w G S) pc L (.int n :: .int dp :: .ref (jx_ad G 6) :: .int sp :: .ref (jx_ad G 11) :: st) :=
  jx_copy hX jw_acL 11 6 rfl rfl hg hr hlv (w2 := jx_w G (jx_g S 0 (va_cpy (S.2.1 5) (S.2.1 0) sp.toNatClampNeg dp.toNatClampNeg n.toNatClampNeg))) rfl hd k
end JS
end
section
theorem d_C_clear_0 : decode b_C_clear 0 = .ok (.aload_n 0, 1) := by decide +kernel
theorem d_C_clear_1 : decode b_C_clear 1 = .ok (.iconst 0, 1) := by decide +kernel
theorem d_C_clear_2 : decode b_C_clear 2 = .ok (.putfield 21, 3) := by decide +kernel
theorem d_C_clear_5 : decode b_C_clear 5 = .ok (.return_, 1) := by decide +kernel
theorem d_C_signWithRoots_0 : decode b_C_signWithRoots 0 = .ok (.lload_n 0, 1) := by decide +kernel
theorem d_C_signWithRoots_1 : decode b_C_signWithRoots 1 = .ok (.invokestatic 58, 3) := by decide +kernel
theorem d_C_signWithRoots_4 : decode b_C_signWithRoots 4 = .ok (.istore 6, 2) := by decide +kernel
theorem d_C_signWithRoots_6 : decode b_C_signWithRoots 6 = .ok (.lload_n 2, 1) := by decide +kernel
theorem d_C_signWithRoots_7 : decode b_C_signWithRoots 7 = .ok (.lload 4, 2) := by decide +kernel
theorem d_C_signWithRoots_9 : decode b_C_signWithRoots 9 = .ok (.ladd, 1) := by decide +kernel
theorem d_C_signWithRoots_10 : decode b_C_signWithRoots 10 = .ok (.invokestatic 58, 3) := by decide +kernel
theorem d_C_signWithRoots_13 : decode b_C_signWithRoots 13 = .ok (.istore 7, 2) := by decide +kernel
theorem d_C_signWithRoots_15 : decode b_C_signWithRoots 15 = .ok (.iload 6, 2) := by decide +kernel
theorem d_C_signWithRoots_17 : decode b_C_signWithRoots 17 = .ok (.iload 7, 2) := by decide +kernel
theorem d_C_signWithRoots_19 : decode b_C_signWithRoots 19 = .ok (.imul, 1) := by decide +kernel
theorem d_C_signWithRoots_20 : decode b_C_signWithRoots 20 = .ok (.ifCond .lt 16, 3) := by decide +kernel
theorem d_C_signWithRoots_23 : decode b_C_signWithRoots 23 = .ok (.iload 6, 2) := by decide +kernel
theorem d_C_signWithRoots_25 : decode b_C_signWithRoots 25 = .ok (.ifCond .eq 8, 3) := by decide +kernel
theorem d_C_signWithRoots_28 : decode b_C_signWithRoots 28 = .ok (.iload 6, 2) := by decide +kernel
theorem d_C_signWithRoots_30 : decode b_C_signWithRoots 30 = .ok (.goto 5, 3) := by decide +kernel
theorem d_C_signWithRoots_33 : decode b_C_signWithRoots 33 = .ok (.iload 7, 2) := by decide +kernel
theorem d_C_signWithRoots_35 : decode b_C_signWithRoots 35 = .ok (.ireturn, 1) := by decide +kernel
theorem d_C_signWithRoots_36 : decode b_C_signWithRoots 36 = .ok (.lload_n 0, 1) := by decide +kernel
theorem d_C_signWithRoots_37 : decode b_C_signWithRoots 37 = .ok (.lload_n 0, 1) := by decide +kernel
theorem d_C_signWithRoots_38 : decode b_C_signWithRoots 38 = .ok (.lmul, 1) := by decide +kernel
theorem d_C_signWithRoots_39 : decode b_C_signWithRoots 39 = .ok (.lload_n 2, 1) := by decide +kernel
theorem d_C_signWithRoots_40 : decode b_C_signWithRoots 40 = .ok (.invokestatic 64, 3) := by decide +kernel
theorem d_C_signWithRoots_43 : decode b_C_signWithRoots 43 = .ok (.lsub, 1) := by decide +kernel
theorem d_C_signWithRoots_44 : decode b_C_signWithRoots 44 = .ok (.lload 4, 2) := by decide +kernel
theorem d_C_signWithRoots_46 : decode b_C_signWithRoots 46 = .ok (.invokestatic 64, 3) := by decide +kernel
theorem d_C_signWithRoots_49 : decode b_C_signWithRoots 49 = .ok (.lsub, 1) := by decide +kernel
theorem d_C_signWithRoots_50 : decode b_C_signWithRoots 50 = .ok (.lstore 8, 2) := by decide +kernel
theorem d_C_signWithRoots_52 : decode b_C_signWithRoots 52 = .ok (.iload 6, 2) := by decide +kernel
theorem d_C_signWithRoots_54 : decode b_C_signWithRoots 54 = .ok (.lload 8, 2) := by decide +kernel
theorem d_C_signWithRoots_56 : decode b_C_signWithRoots 56 = .ok (.lload 8, 2) := by decide +kernel
theorem d_C_signWithRoots_58 : decode b_C_signWithRoots 58 = .ok (.invokestatic 64, 3) := by decide +kernel
theorem d_C_signWithRoots_61 : decode b_C_signWithRoots 61 = .ok (.lmul, 1) := by decide +kernel
theorem d_C_signWithRoots_62 : decode b_C_signWithRoots 62 = .ok (.ldc2_w 67, 3) := by decide +kernel
theorem d_C_signWithRoots_65 : decode b_C_signWithRoots 65 = .ok (.lload_n 2, 1) := by decide +kernel
theorem d_C_signWithRoots_66 : decode b_C_signWithRoots 66 = .ok (.lmul, 1) := by decide +kernel
theorem d_C_signWithRoots_67 : decode b_C_signWithRoots 67 = .ok (.lload 4, 2) := by decide +kernel
theorem d_C_signWithRoots_69 : decode b_C_signWithRoots 69 = .ok (.lmul, 1) := by decide +kernel
theorem d_C_signWithRoots_70 : decode b_C_signWithRoots 70 = .ok (.lsub, 1) := by decide +kernel
theorem d_C_signWithRoots_71 : decode b_C_signWithRoots 71 = .ok (.invokestatic 58, 3) := by decide +kernel
theorem d_C_signWithRoots_74 : decode b_C_signWithRoots 74 = .ok (.imul, 1) := by decide +kernel
theorem d_C_signWithRoots_75 : decode b_C_signWithRoots 75 = .ok (.ireturn, 1) := by decide +kernel
theorem d_C_signOfDifference_0 : decode b_C_signOfDifference 0 = .ok (.aload_n 0, 1) := by decide +kernel
theorem d_C_signOfDifference_1 : decode b_C_signOfDifference 1 = .ok (.getfield 9, 3) := by decide +kernel
theorem d_C_signOfDifference_4 : decode b_C_signOfDifference 4 = .ok (.iload_n 1, 1) := by decide +kernel
theorem d_C_signOfDifference_5 : decode b_C_signOfDifference 5 = .ok (.iaload, 1) := by decide +kernel
theorem d_C_signOfDifference_6 : decode b_C_signOfDifference 6 = .ok (.i2l, 1) := by decide +kernel
theorem d_C_signOfDifference_7 : decode b_C_signOfDifference 7 = .ok (.iload 4, 2) := by decide +kernel
theorem d_C_signOfDifference_9 : decode b_C_signOfDifference 9 = .ok (.i2l, 1) := by decide +kernel
theorem d_C_signOfDifference_10 : decode b_C_signOfDifference 10 = .ok (.lmul, 1) := by decide +kernel
theorem d_C_signOfDifference_11 : decode b_C_signOfDifference 11 = .ok (.iload_n 2, 1) := by decide +kernel
theorem d_C_signOfDifference_12 : decode b_C_signOfDifference 12 = .ok (.i2l, 1) := by decide +kernel
theorem d_C_signOfDifference_13 : decode b_C_signOfDifference 13 = .ok (.aload_n 0, 1) := by decide +kernel
theorem d_C_signOfDifference_14 : decode b_C_signOfDifference 14 = .ok (.getfield 18, 3) := by decide +kernel
theorem d_C_signOfDifference_17 : decode b_C_signOfDifference 17 = .ok (.iload_n 1, 1) := by decide +kernel
theorem d_C_signOfDifference_18 : decode b_C_signOfDifference 18 = .ok (.iaload, 1) := by decide +kernel
theorem d_C_signOfDifference_19 : decode b_C_signOfDifference 19 = .ok (.i2l, 1) := by decide +kernel
theorem d_C_signOfDifference_20 : decode b_C_signOfDifference 20 = .ok (.lmul, 1) := by decide +kernel
theorem d_C_signOfDifference_21 : decode b_C_signOfDifference 21 = .ok (.lsub, 1) := by decide +kernel
theorem d_C_signOfDifference_22 : decode b_C_signOfDifference 22 = .ok (.lstore 5, 2) := by decide +kernel
theorem d_C_signOfDifference_24 : decode b_C_signOfDifference 24 = .ok (.aload_n 0, 1) := by decide +kernel
theorem d_C_signOfDifference_25 : decode b_C_signOfDifference 25 = .ok (.getfield 15, 3) := by decide +kernel
theorem d_C_signOfDifference_28 : decode b_C_signOfDifference 28 = .ok (.iload_n 1, 1) := by decide +kernel
theorem d_C_signOfDifference_29 : decode b_C_signOfDifference 29 = .ok (.iaload, 1) := by decide +kernel
theorem d_C_signOfDifference_30 : decode b_C_signOfDifference 30 = .ok (.i2l, 1) := by decide +kernel
theorem d_C_signOfDifference_31 : decode b_C_signOfDifference 31 = .ok (.iload 4, 2) := by decide +kernel
theorem d_C_signOfDifference_33 : decode b_C_signOfDifference 33 = .ok (.i2l, 1) := by decide +kernel
theorem d_C_signOfDifference_34 : decode b_C_signOfDifference 34 = .ok (.lmul, 1) := by decide +kernel
theorem d_C_signOfDifference_35 : decode b_C_signOfDifference 35 = .ok (.iload 4, 2) := by decide +kernel
theorem d_C_signOfDifference_37 : decode b_C_signOfDifference 37 = .ok (.i2l, 1) := by decide +kernel
theorem d_C_signOfDifference_38 : decode b_C_signOfDifference 38 = .ok (.lmul, 1) := by decide +kernel
theorem d_C_signOfDifference_39 : decode b_C_signOfDifference 39 = .ok (.lstore 7, 2) := by decide +kernel
theorem d_C_signOfDifference_41 : decode b_C_signOfDifference 41 = .ok (.iload_n 3, 1) := by decide +kernel
theorem d_C_signOfDifference_42 : decode b_C_signOfDifference 42 = .ok (.i2l, 1) := by decide +kernel
theorem d_C_signOfDifference_43 : decode b_C_signOfDifference 43 = .ok (.aload_n 0, 1) := by decide +kernel
theorem d_C_signOfDifference_44 : decode b_C_signOfDifference 44 = .ok (.getfield 18, 3) := by decide +kernel
theorem d_C_signOfDifference_47 : decode b_C_signOfDifference 47 = .ok (.iload_n 1, 1) := by decide +kernel
theorem d_C_signOfDifference_48 : decode b_C_signOfDifference 48 = .ok (.iaload, 1) := by decide +kernel
theorem d_C_signOfDifference_49 : decode b_C_signOfDifference 49 = .ok (.i2l, 1) := by decide +kernel
theorem d_C_signOfDifference_50 : decode b_C_signOfDifference 50 = .ok (.lmul, 1) := by decide +kernel
theorem d_C_signOfDifference_51 : decode b_C_signOfDifference 51 = .ok (.aload_n 0, 1) := by decide +kernel
theorem d_C_signOfDifference_52 : decode b_C_signOfDifference 52 = .ok (.getfield 18, 3) := by decide +kernel
theorem d_C_signOfDifference_55 : decode b_C_signOfDifference 55 = .ok (.iload_n 1, 1) := by decide +kernel
theorem d_C_signOfDifference_56 : decode b_C_signOfDifference 56 = .ok (.iaload, 1) := by decide +kernel
theorem d_C_signOfDifference_57 : decode b_C_signOfDifference 57 = .ok (.i2l, 1) := by decide +kernel
theorem d_C_signOfDifference_58 : decode b_C_signOfDifference 58 = .ok (.lmul, 1) := by decide +kernel
theorem d_C_signOfDifference_59 : decode b_C_signOfDifference 59 = .ok (.lstore 9, 2) := by decide +kernel
theorem d_C_signOfDifference_61 : decode b_C_signOfDifference 61 = .ok (.lload 5, 2) := by decide +kernel
theorem d_C_signOfDifference_63 : decode b_C_signOfDifference 63 = .ok (.lload 7, 2) := by decide +kernel
theorem d_C_signOfDifference_65 : decode b_C_signOfDifference 65 = .ok (.lload 9, 2) := by decide +kernel
theorem d_C_signOfDifference_67 : decode b_C_signOfDifference 67 = .ok (.lneg, 1) := by decide +kernel
theorem d_C_signOfDifference_68 : decode b_C_signOfDifference 68 = .ok (.invokestatic 54, 3) := by decide +kernel
theorem d_C_signOfDifference_71 : decode b_C_signOfDifference 71 = .ok (.ireturn, 1) := by decide +kernel
theorem d_C_insert_0 : decode b_C_insert 0 = .ok (.aload_n 0, 1) := by decide +kernel
theorem d_C_insert_1 : decode b_C_insert 1 = .ok (.getfield 21, 3) := by decide +kernel
theorem d_C_insert_4 : decode b_C_insert 4 = .ok (.bipush 72, 2) := by decide +kernel
theorem d_C_insert_6 : decode b_C_insert 6 = .ok (.if_icmp .lt 4, 3) := by decide +kernel
theorem d_C_insert_9 : decode b_C_insert 9 = .ok (.return_, 1) := by decide +kernel
theorem d_C_insert_10 : decode b_C_insert 10 = .ok (.aload_n 0, 1) := by decide +kernel
theorem d_C_insert_11 : decode b_C_insert 11 = .ok (.getfield 21, 3) := by decide +kernel
theorem d_C_insert_14 : decode b_C_insert 14 = .ok (.istore 5, 2) := by decide +kernel
theorem d_C_insert_16 : decode b_C_insert 16 = .ok (.iload 5, 2) := by decide +kernel
theorem d_C_insert_18 : decode b_C_insert 18 = .ok (.iload_n 1, 1) := by decide +kernel
theorem d_C_insert_19 : decode b_C_insert 19 = .ok (.if_icmp .le 57, 3) := by decide +kernel
theorem d_C_insert_22 : decode b_C_insert 22 = .ok (.aload_n 0, 1) := by decide +kernel
theorem d_C_insert_23 : decode b_C_insert 23 = .ok (.getfield 9, 3) := by decide +kernel
theorem d_C_insert_26 : decode b_C_insert 26 = .ok (.iload 5, 2) := by decide +kernel
theorem d_C_insert_28 : decode b_C_insert 28 = .ok (.aload_n 0, 1) := by decide +kernel
theorem d_C_insert_29 : decode b_C_insert 29 = .ok (.getfield 9, 3) := by decide +kernel
theorem d_C_insert_32 : decode b_C_insert 32 = .ok (.iload 5, 2) := by decide +kernel
theorem d_C_insert_34 : decode b_C_insert 34 = .ok (.iconst 1, 1) := by decide +kernel
theorem d_C_insert_35 : decode b_C_insert 35 = .ok (.isub, 1) := by decide +kernel
theorem d_C_insert_36 : decode b_C_insert 36 = .ok (.iaload, 1) := by decide +kernel
theorem d_C_insert_37 : decode b_C_insert 37 = .ok (.iastore, 1) := by decide +kernel
theorem d_C_insert_38 : decode b_C_insert 38 = .ok (.aload_n 0, 1) := by decide +kernel
theorem d_C_insert_39 : decode b_C_insert 39 = .ok (.getfield 15, 3) := by decide +kernel
theorem d_C_insert_42 : decode b_C_insert 42 = .ok (.iload 5, 2) := by decide +kernel
theorem d_C_insert_44 : decode b_C_insert 44 = .ok (.aload_n 0, 1) := by decide +kernel
theorem d_C_insert_45 : decode b_C_insert 45 = .ok (.getfield 15, 3) := by decide +kernel
theorem d_C_insert_48 : decode b_C_insert 48 = .ok (.iload 5, 2) := by decide +kernel
theorem d_C_insert_50 : decode b_C_insert 50 = .ok (.iconst 1, 1) := by decide +kernel
theorem d_C_insert_51 : decode b_C_insert 51 = .ok (.isub, 1) := by decide +kernel
theorem d_C_insert_52 : decode b_C_insert 52 = .ok (.iaload, 1) := by decide +kernel
theorem d_C_insert_53 : decode b_C_insert 53 = .ok (.iastore, 1) := by decide +kernel
theorem d_C_insert_54 : decode b_C_insert 54 = .ok (.aload_n 0, 1) := by decide +kernel
theorem d_C_insert_55 : decode b_C_insert 55 = .ok (.getfield 18, 3) := by decide +kernel
theorem d_C_insert_58 : decode b_C_insert 58 = .ok (.iload 5, 2) := by decide +kernel
theorem d_C_insert_60 : decode b_C_insert 60 = .ok (.aload_n 0, 1) := by decide +kernel
theorem d_C_insert_61 : decode b_C_insert 61 = .ok (.getfield 18, 3) := by decide +kernel
theorem d_C_insert_64 : decode b_C_insert 64 = .ok (.iload 5, 2) := by decide +kernel
theorem d_C_insert_66 : decode b_C_insert 66 = .ok (.iconst 1, 1) := by decide +kernel
theorem d_C_insert_67 : decode b_C_insert 67 = .ok (.isub, 1) := by decide +kernel
theorem d_C_insert_68 : decode b_C_insert 68 = .ok (.iaload, 1) := by decide +kernel
theorem d_C_insert_69 : decode b_C_insert 69 = .ok (.iastore, 1) := by decide +kernel
theorem d_C_insert_70 : decode b_C_insert 70 = .ok (.iinc 5 (-1), 3) := by decide +kernel
theorem d_C_insert_73 : decode b_C_insert 73 = .ok (.goto (-57), 3) := by decide +kernel
theorem d_C_insert_76 : decode b_C_insert 76 = .ok (.aload_n 0, 1) := by decide +kernel
theorem d_C_insert_77 : decode b_C_insert 77 = .ok (.getfield 9, 3) := by decide +kernel
theorem d_C_insert_80 : decode b_C_insert 80 = .ok (.iload_n 1, 1) := by decide +kernel
theorem d_C_insert_81 : decode b_C_insert 81 = .ok (.iload_n 2, 1) := by decide +kernel
theorem d_C_insert_82 : decode b_C_insert 82 = .ok (.iastore, 1) := by decide +kernel
theorem d_C_insert_83 : decode b_C_insert 83 = .ok (.aload_n 0, 1) := by decide +kernel
theorem d_C_insert_84 : decode b_C_insert 84 = .ok (.getfield 15, 3) := by decide +kernel
theorem d_C_insert_87 : decode b_C_insert 87 = .ok (.iload_n 1, 1) := by decide +kernel
theorem d_C_insert_88 : decode b_C_insert 88 = .ok (.iload_n 3, 1) := by decide +kernel
theorem d_C_insert_89 : decode b_C_insert 89 = .ok (.iastore, 1) := by decide +kernel
theorem d_C_insert_90 : decode b_C_insert 90 = .ok (.aload_n 0, 1) := by decide +kernel
theorem d_C_insert_91 : decode b_C_insert 91 = .ok (.getfield 18, 3) := by decide +kernel
theorem d_C_insert_94 : decode b_C_insert 94 = .ok (.iload_n 1, 1) := by decide +kernel
theorem d_C_insert_95 : decode b_C_insert 95 = .ok (.iload 4, 2) := by decide +kernel
theorem d_C_insert_97 : decode b_C_insert 97 = .ok (.iastore, 1) := by decide +kernel
theorem d_C_insert_98 : decode b_C_insert 98 = .ok (.aload_n 0, 1) := by decide +kernel
theorem d_C_insert_99 : decode b_C_insert 99 = .ok (.dup, 1) := by decide +kernel
theorem d_C_insert_100 : decode b_C_insert 100 = .ok (.getfield 21, 3) := by decide +kernel
theorem d_C_insert_103 : decode b_C_insert 103 = .ok (.iconst 1, 1) := by decide +kernel
theorem d_C_insert_104 : decode b_C_insert 104 = .ok (.iadd, 1) := by decide +kernel
theorem d_C_insert_105 : decode b_C_insert 105 = .ok (.putfield 21, 3) := by decide +kernel
theorem d_C_insert_108 : decode b_C_insert 108 = .ok (.return_, 1) := by decide +kernel
theorem d_C_add_0 : decode b_C_add 0 = .ok (.iconst 0, 1) := by decide +kernel
theorem d_C_add_1 : decode b_C_add 1 = .ok (.istore 4, 2) := by decide +kernel
theorem d_C_add_3 : decode b_C_add 3 = .ok (.iload 4, 2) := by decide +kernel
theorem d_C_add_5 : decode b_C_add 5 = .ok (.aload_n 0, 1) := by decide +kernel
theorem d_C_add_6 : decode b_C_add 6 = .ok (.getfield 21, 3) := by decide +kernel
theorem d_C_add_9 : decode b_C_add 9 = .ok (.if_icmp .ge 34, 3) := by decide +kernel
theorem d_C_add_12 : decode b_C_add 12 = .ok (.aload_n 0, 1) := by decide +kernel
theorem d_C_add_13 : decode b_C_add 13 = .ok (.iload 4, 2) := by decide +kernel
theorem d_C_add_15 : decode b_C_add 15 = .ok (.iload_n 1, 1) := by decide +kernel
theorem d_C_add_16 : decode b_C_add 16 = .ok (.iload_n 2, 1) := by decide +kernel
theorem d_C_add_17 : decode b_C_add 17 = .ok (.iload_n 3, 1) := by decide +kernel
theorem d_C_add_18 : decode b_C_add 18 = .ok (.invokevirtual 46, 3) := by decide +kernel
theorem d_C_add_21 : decode b_C_add 21 = .ok (.istore 5, 2) := by decide +kernel
theorem d_C_add_23 : decode b_C_add 23 = .ok (.iload 5, 2) := by decide +kernel
theorem d_C_add_25 : decode b_C_add 25 = .ok (.ifCond .ne 4, 3) := by decide +kernel
theorem d_C_add_28 : decode b_C_add 28 = .ok (.return_, 1) := by decide +kernel
theorem d_C_add_29 : decode b_C_add 29 = .ok (.iload 5, 2) := by decide +kernel
theorem d_C_add_31 : decode b_C_add 31 = .ok (.ifCond .le 6, 3) := by decide +kernel
theorem d_C_add_34 : decode b_C_add 34 = .ok (.goto 9, 3) := by decide +kernel
theorem d_C_add_37 : decode b_C_add 37 = .ok (.iinc 4 1, 3) := by decide +kernel
theorem d_C_add_40 : decode b_C_add 40 = .ok (.goto (-37), 3) := by decide +kernel
theorem d_C_add_43 : decode b_C_add 43 = .ok (.aload_n 0, 1) := by decide +kernel
theorem d_C_add_44 : decode b_C_add 44 = .ok (.iload 4, 2) := by decide +kernel
theorem d_C_add_46 : decode b_C_add 46 = .ok (.iload_n 1, 1) := by decide +kernel
theorem d_C_add_47 : decode b_C_add 47 = .ok (.iload_n 2, 1) := by decide +kernel
theorem d_C_add_48 : decode b_C_add 48 = .ok (.iload_n 3, 1) := by decide +kernel
theorem d_C_add_49 : decode b_C_add 49 = .ok (.invokevirtual 50, 3) := by decide +kernel
theorem d_C_add_52 : decode b_C_add 52 = .ok (.return_, 1) := by decide +kernel
theorem d_C_addZerosOf_0 : decode b_C_addZerosOf 0 = .ok (.aload_n 1, 1) := by decide +kernel
theorem d_C_addZerosOf_1 : decode b_C_addZerosOf 1 = .ok (.getfield 25, 3) := by decide +kernel
theorem d_C_addZerosOf_4 : decode b_C_addZerosOf 4 = .ok (.ifCond .eq 83, 3) := by decide +kernel
theorem d_C_addZerosOf_7 : decode b_C_addZerosOf 7 = .ok (.aload_n 1, 1) := by decide +kernel
theorem d_C_addZerosOf_8 : decode b_C_addZerosOf 8 = .ok (.getfield 30, 3) := by decide +kernel
theorem d_C_addZerosOf_11 : decode b_C_addZerosOf 11 = .ok (.aload_n 1, 1) := by decide +kernel
theorem d_C_addZerosOf_12 : decode b_C_addZerosOf 12 = .ok (.getfield 30, 3) := by decide +kernel
theorem d_C_addZerosOf_15 : decode b_C_addZerosOf 15 = .ok (.imul, 1) := by decide +kernel
theorem d_C_addZerosOf_16 : decode b_C_addZerosOf 16 = .ok (.iconst 4, 1) := by decide +kernel
theorem d_C_addZerosOf_17 : decode b_C_addZerosOf 17 = .ok (.aload_n 1, 1) := by decide +kernel
theorem d_C_addZerosOf_18 : decode b_C_addZerosOf 18 = .ok (.getfield 25, 3) := by decide +kernel
theorem d_C_addZerosOf_21 : decode b_C_addZerosOf 21 = .ok (.imul, 1) := by decide +kernel
theorem d_C_addZerosOf_22 : decode b_C_addZerosOf 22 = .ok (.aload_n 1, 1) := by decide +kernel
theorem d_C_addZerosOf_23 : decode b_C_addZerosOf 23 = .ok (.getfield 33, 3) := by decide +kernel
theorem d_C_addZerosOf_26 : decode b_C_addZerosOf 26 = .ok (.imul, 1) := by decide +kernel
theorem d_C_addZerosOf_27 : decode b_C_addZerosOf 27 = .ok (.isub, 1) := by decide +kernel
theorem d_C_addZerosOf_28 : decode b_C_addZerosOf 28 = .ok (.istore_n 2, 1) := by decide +kernel
theorem d_C_addZerosOf_29 : decode b_C_addZerosOf 29 = .ok (.aload_n 1, 1) := by decide +kernel
theorem d_C_addZerosOf_30 : decode b_C_addZerosOf 30 = .ok (.getfield 25, 3) := by decide +kernel
theorem d_C_addZerosOf_33 : decode b_C_addZerosOf 33 = .ok (.ifCond .le 11, 3) := by decide +kernel
theorem d_C_addZerosOf_36 : decode b_C_addZerosOf 36 = .ok (.aload_n 1, 1) := by decide +kernel
theorem d_C_addZerosOf_37 : decode b_C_addZerosOf 37 = .ok (.getfield 30, 3) := by decide +kernel
theorem d_C_addZerosOf_40 : decode b_C_addZerosOf 40 = .ok (.ineg, 1) := by decide +kernel
theorem d_C_addZerosOf_41 : decode b_C_addZerosOf 41 = .ok (.goto 7, 3) := by decide +kernel
theorem d_C_addZerosOf_44 : decode b_C_addZerosOf 44 = .ok (.aload_n 1, 1) := by decide +kernel
theorem d_C_addZerosOf_45 : decode b_C_addZerosOf 45 = .ok (.getfield 30, 3) := by decide +kernel
theorem d_C_addZerosOf_48 : decode b_C_addZerosOf 48 = .ok (.istore_n 3, 1) := by decide +kernel
theorem d_C_addZerosOf_49 : decode b_C_addZerosOf 49 = .ok (.iload_n 2, 1) := by decide +kernel
theorem d_C_addZerosOf_50 : decode b_C_addZerosOf 50 = .ok (.ifCond .lt 34, 3) := by decide +kernel
theorem d_C_addZerosOf_53 : decode b_C_addZerosOf 53 = .ok (.aload_n 0, 1) := by decide +kernel
theorem d_C_addZerosOf_54 : decode b_C_addZerosOf 54 = .ok (.iload_n 3, 1) := by decide +kernel
theorem d_C_addZerosOf_55 : decode b_C_addZerosOf 55 = .ok (.iload_n 2, 1) := by decide +kernel
theorem d_C_addZerosOf_56 : decode b_C_addZerosOf 56 = .ok (.ineg, 1) := by decide +kernel
theorem d_C_addZerosOf_57 : decode b_C_addZerosOf 57 = .ok (.iconst 2, 1) := by decide +kernel
theorem d_C_addZerosOf_58 : decode b_C_addZerosOf 58 = .ok (.aload_n 1, 1) := by decide +kernel
theorem d_C_addZerosOf_59 : decode b_C_addZerosOf 59 = .ok (.getfield 25, 3) := by decide +kernel
theorem d_C_addZerosOf_62 : decode b_C_addZerosOf 62 = .ok (.invokestatic 36, 3) := by decide +kernel
theorem d_C_addZerosOf_65 : decode b_C_addZerosOf 65 = .ok (.imul, 1) := by decide +kernel
theorem d_C_addZerosOf_66 : decode b_C_addZerosOf 66 = .ok (.invokevirtual 42, 3) := by decide +kernel
theorem d_C_addZerosOf_69 : decode b_C_addZerosOf 69 = .ok (.aload_n 0, 1) := by decide +kernel
theorem d_C_addZerosOf_70 : decode b_C_addZerosOf 70 = .ok (.iload_n 3, 1) := by decide +kernel
theorem d_C_addZerosOf_71 : decode b_C_addZerosOf 71 = .ok (.iload_n 2, 1) := by decide +kernel
theorem d_C_addZerosOf_72 : decode b_C_addZerosOf 72 = .ok (.iconst 2, 1) := by decide +kernel
theorem d_C_addZerosOf_73 : decode b_C_addZerosOf 73 = .ok (.aload_n 1, 1) := by decide +kernel
theorem d_C_addZerosOf_74 : decode b_C_addZerosOf 74 = .ok (.getfield 25, 3) := by decide +kernel
theorem d_C_addZerosOf_77 : decode b_C_addZerosOf 77 = .ok (.invokestatic 36, 3) := by decide +kernel
theorem d_C_addZerosOf_80 : decode b_C_addZerosOf 80 = .ok (.imul, 1) := by decide +kernel
theorem d_C_addZerosOf_81 : decode b_C_addZerosOf 81 = .ok (.invokevirtual 42, 3) := by decide +kernel
theorem d_C_addZerosOf_84 : decode b_C_addZerosOf 84 = .ok (.goto 41, 3) := by decide +kernel
theorem d_C_addZerosOf_87 : decode b_C_addZerosOf 87 = .ok (.aload_n 1, 1) := by decide +kernel
theorem d_C_addZerosOf_88 : decode b_C_addZerosOf 88 = .ok (.getfield 30, 3) := by decide +kernel
theorem d_C_addZerosOf_91 : decode b_C_addZerosOf 91 = .ok (.ifCond .eq 34, 3) := by decide +kernel
theorem d_C_addZerosOf_94 : decode b_C_addZerosOf 94 = .ok (.aload_n 0, 1) := by decide +kernel
theorem d_C_addZerosOf_95 : decode b_C_addZerosOf 95 = .ok (.aload_n 1, 1) := by decide +kernel
theorem d_C_addZerosOf_96 : decode b_C_addZerosOf 96 = .ok (.getfield 30, 3) := by decide +kernel
theorem d_C_addZerosOf_99 : decode b_C_addZerosOf 99 = .ok (.ifCond .le 11, 3) := by decide +kernel
theorem d_C_addZerosOf_102 : decode b_C_addZerosOf 102 = .ok (.aload_n 1, 1) := by decide +kernel
theorem d_C_addZerosOf_103 : decode b_C_addZerosOf 103 = .ok (.getfield 33, 3) := by decide +kernel
theorem d_C_addZerosOf_106 : decode b_C_addZerosOf 106 = .ok (.ineg, 1) := by decide +kernel
theorem d_C_addZerosOf_107 : decode b_C_addZerosOf 107 = .ok (.goto 7, 3) := by decide +kernel
theorem d_C_addZerosOf_110 : decode b_C_addZerosOf 110 = .ok (.aload_n 1, 1) := by decide +kernel
theorem d_C_addZerosOf_111 : decode b_C_addZerosOf 111 = .ok (.getfield 33, 3) := by decide +kernel
theorem d_C_addZerosOf_114 : decode b_C_addZerosOf 114 = .ok (.iconst 0, 1) := by decide +kernel
theorem d_C_addZerosOf_115 : decode b_C_addZerosOf 115 = .ok (.aload_n 1, 1) := by decide +kernel
theorem d_C_addZerosOf_116 : decode b_C_addZerosOf 116 = .ok (.getfield 30, 3) := by decide +kernel
theorem d_C_addZerosOf_119 : decode b_C_addZerosOf 119 = .ok (.invokestatic 36, 3) := by decide +kernel
theorem d_C_addZerosOf_122 : decode b_C_addZerosOf 122 = .ok (.invokevirtual 42, 3) := by decide +kernel
theorem d_C_addZerosOf_125 : decode b_C_addZerosOf 125 = .ok (.return_, 1) := by decide +kernel
theorem d_C_signBelowAll_0 : decode b_C_signBelowAll 0 = .ok (.aload_n 0, 1) := by decide +kernel
theorem d_C_signBelowAll_1 : decode b_C_signBelowAll 1 = .ok (.getfield 25, 3) := by decide +kernel
theorem d_C_signBelowAll_4 : decode b_C_signBelowAll 4 = .ok (.ifCond .eq 11, 3) := by decide +kernel
theorem d_C_signBelowAll_7 : decode b_C_signBelowAll 7 = .ok (.aload_n 0, 1) := by decide +kernel
theorem d_C_signBelowAll_8 : decode b_C_signBelowAll 8 = .ok (.getfield 25, 3) := by decide +kernel
theorem d_C_signBelowAll_11 : decode b_C_signBelowAll 11 = .ok (.invokestatic 77, 3) := by decide +kernel
theorem d_C_signBelowAll_14 : decode b_C_signBelowAll 14 = .ok (.ireturn, 1) := by decide +kernel
theorem d_C_signBelowAll_15 : decode b_C_signBelowAll 15 = .ok (.aload_n 0, 1) := by decide +kernel
theorem d_C_signBelowAll_16 : decode b_C_signBelowAll 16 = .ok (.getfield 30, 3) := by decide +kernel
theorem d_C_signBelowAll_19 : decode b_C_signBelowAll 19 = .ok (.ifCond .eq 14, 3) := by decide +kernel
theorem d_C_signBelowAll_22 : decode b_C_signBelowAll 22 = .ok (.aload_n 0, 1) := by decide +kernel
theorem d_C_signBelowAll_23 : decode b_C_signBelowAll 23 = .ok (.getfield 30, 3) := by decide +kernel
theorem d_C_signBelowAll_26 : decode b_C_signBelowAll 26 = .ok (.invokestatic 77, 3) := by decide +kernel
theorem d_C_signBelowAll_29 : decode b_C_signBelowAll 29 = .ok (.ineg, 1) := by decide +kernel
theorem d_C_signBelowAll_30 : decode b_C_signBelowAll 30 = .ok (.goto 10, 3) := by decide +kernel
theorem d_C_signBelowAll_33 : decode b_C_signBelowAll 33 = .ok (.aload_n 0, 1) := by decide +kernel
theorem d_C_signBelowAll_34 : decode b_C_signBelowAll 34 = .ok (.getfield 33, 3) := by decide +kernel
theorem d_C_signBelowAll_37 : decode b_C_signBelowAll 37 = .ok (.invokestatic 77, 3) := by decide +kernel
theorem d_C_signBelowAll_40 : decode b_C_signBelowAll 40 = .ok (.ireturn, 1) := by decide +kernel
theorem d_C_signAt_0 : decode b_C_signAt 0 = .ok (.aload_n 0, 1) := by decide +kernel
theorem d_C_signAt_1 : decode b_C_signAt 1 = .ok (.getfield 9, 3) := by decide +kernel
theorem d_C_signAt_4 : decode b_C_signAt 4 = .ok (.iload_n 1, 1) := by decide +kernel
theorem d_C_signAt_5 : decode b_C_signAt 5 = .ok (.iaload, 1) := by decide +kernel
theorem d_C_signAt_6 : decode b_C_signAt 6 = .ok (.i2l, 1) := by decide +kernel
theorem d_C_signAt_7 : decode b_C_signAt 7 = .ok (.lstore 8, 2) := by decide +kernel
theorem d_C_signAt_9 : decode b_C_signAt 9 = .ok (.aload_n 0, 1) := by decide +kernel
theorem d_C_signAt_10 : decode b_C_signAt 10 = .ok (.getfield 18, 3) := by decide +kernel
theorem d_C_signAt_13 : decode b_C_signAt 13 = .ok (.iload_n 1, 1) := by decide +kernel
theorem d_C_signAt_14 : decode b_C_signAt 14 = .ok (.iaload, 1) := by decide +kernel
theorem d_C_signAt_15 : decode b_C_signAt 15 = .ok (.i2l, 1) := by decide +kernel
theorem d_C_signAt_16 : decode b_C_signAt 16 = .ok (.lstore 10, 2) := by decide +kernel
theorem d_C_signAt_18 : decode b_C_signAt 18 = .ok (.aload_n 0, 1) := by decide +kernel
theorem d_C_signAt_19 : decode b_C_signAt 19 = .ok (.getfield 15, 3) := by decide +kernel
theorem d_C_signAt_22 : decode b_C_signAt 22 = .ok (.iload_n 1, 1) := by decide +kernel
theorem d_C_signAt_23 : decode b_C_signAt 23 = .ok (.iaload, 1) := by decide +kernel
theorem d_C_signAt_24 : decode b_C_signAt 24 = .ok (.i2l, 1) := by decide +kernel
theorem d_C_signAt_25 : decode b_C_signAt 25 = .ok (.lstore 12, 2) := by decide +kernel
theorem d_C_signAt_27 : decode b_C_signAt 27 = .ok (.lload_n 2, 1) := by decide +kernel
theorem d_C_signAt_28 : decode b_C_signAt 28 = .ok (.lload 10, 2) := by decide +kernel
theorem d_C_signAt_30 : decode b_C_signAt 30 = .ok (.lmul, 1) := by decide +kernel
theorem d_C_signAt_31 : decode b_C_signAt 31 = .ok (.lload 10, 2) := by decide +kernel
theorem d_C_signAt_33 : decode b_C_signAt 33 = .ok (.lmul, 1) := by decide +kernel
theorem d_C_signAt_34 : decode b_C_signAt 34 = .ok (.lload 4, 2) := by decide +kernel
theorem d_C_signAt_36 : decode b_C_signAt 36 = .ok (.lload 8, 2) := by decide +kernel
theorem d_C_signAt_38 : decode b_C_signAt 38 = .ok (.lmul, 1) := by decide +kernel
theorem d_C_signAt_39 : decode b_C_signAt 39 = .ok (.lload 10, 2) := by decide +kernel
theorem d_C_signAt_41 : decode b_C_signAt 41 = .ok (.lmul, 1) := by decide +kernel
theorem d_C_signAt_42 : decode b_C_signAt 42 = .ok (.ladd, 1) := by decide +kernel
theorem d_C_signAt_43 : decode b_C_signAt 43 = .ok (.lload 6, 2) := by decide +kernel
theorem d_C_signAt_45 : decode b_C_signAt 45 = .ok (.lload 8, 2) := by decide +kernel
theorem d_C_signAt_47 : decode b_C_signAt 47 = .ok (.lload 8, 2) := by decide +kernel
theorem d_C_signAt_49 : decode b_C_signAt 49 = .ok (.lmul, 1) := by decide +kernel
theorem d_C_signAt_50 : decode b_C_signAt 50 = .ok (.lload 12, 2) := by decide +kernel
theorem d_C_signAt_52 : decode b_C_signAt 52 = .ok (.invokestatic 64, 3) := by decide +kernel
theorem d_C_signAt_55 : decode b_C_signAt 55 = .ok (.ladd, 1) := by decide +kernel
theorem d_C_signAt_56 : decode b_C_signAt 56 = .ok (.lmul, 1) := by decide +kernel
theorem d_C_signAt_57 : decode b_C_signAt 57 = .ok (.ladd, 1) := by decide +kernel
theorem d_C_signAt_58 : decode b_C_signAt 58 = .ok (.lstore 14, 2) := by decide +kernel
theorem d_C_signAt_60 : decode b_C_signAt 60 = .ok (.lload 4, 2) := by decide +kernel
theorem d_C_signAt_62 : decode b_C_signAt 62 = .ok (.lload 10, 2) := by decide +kernel
theorem d_C_signAt_64 : decode b_C_signAt 64 = .ok (.lmul, 1) := by decide +kernel
theorem d_C_signAt_65 : decode b_C_signAt 65 = .ok (.ldc2_w 81, 3) := by decide +kernel
theorem d_C_signAt_68 : decode b_C_signAt 68 = .ok (.lload 6, 2) := by decide +kernel
theorem d_C_signAt_70 : decode b_C_signAt 70 = .ok (.lmul, 1) := by decide +kernel
theorem d_C_signAt_71 : decode b_C_signAt 71 = .ok (.lload 8, 2) := by decide +kernel
theorem d_C_signAt_73 : decode b_C_signAt 73 = .ok (.lmul, 1) := by decide +kernel
theorem d_C_signAt_74 : decode b_C_signAt 74 = .ok (.ladd, 1) := by decide +kernel
theorem d_C_signAt_75 : decode b_C_signAt 75 = .ok (.lstore 16, 2) := by decide +kernel
theorem d_C_signAt_77 : decode b_C_signAt 77 = .ok (.lload 14, 2) := by decide +kernel
theorem d_C_signAt_79 : decode b_C_signAt 79 = .ok (.lload 14, 2) := by decide +kernel
theorem d_C_signAt_81 : decode b_C_signAt 81 = .ok (.invokestatic 64, 3) := by decide +kernel
theorem d_C_signAt_84 : decode b_C_signAt 84 = .ok (.lmul, 1) := by decide +kernel
theorem d_C_signAt_85 : decode b_C_signAt 85 = .ok (.lload 16, 2) := by decide +kernel
theorem d_C_signAt_87 : decode b_C_signAt 87 = .ok (.lload 16, 2) := by decide +kernel
theorem d_C_signAt_89 : decode b_C_signAt 89 = .ok (.invokestatic 64, 3) := by decide +kernel
theorem d_C_signAt_92 : decode b_C_signAt 92 = .ok (.lmul, 1) := by decide +kernel
theorem d_C_signAt_93 : decode b_C_signAt 93 = .ok (.lload 12, 2) := by decide +kernel
theorem d_C_signAt_95 : decode b_C_signAt 95 = .ok (.lmul, 1) := by decide +kernel
theorem d_C_signAt_96 : decode b_C_signAt 96 = .ok (.ladd, 1) := by decide +kernel
theorem d_C_signAt_97 : decode b_C_signAt 97 = .ok (.invokestatic 58, 3) := by decide +kernel
theorem d_C_signAt_100 : decode b_C_signAt 100 = .ok (.ireturn, 1) := by decide +kernel
theorem d_C_signInColumn_0 : decode b_C_signInColumn 0 = .ok (.iload_n 1, 1) := by decide +kernel
theorem d_C_signInColumn_1 : decode b_C_signInColumn 1 = .ok (.ifCond .ne 8, 3) := by decide +kernel
theorem d_C_signInColumn_4 : decode b_C_signInColumn 4 = .ok (.aload_n 2, 1) := by decide +kernel
theorem d_C_signInColumn_5 : decode b_C_signInColumn 5 = .ok (.invokestatic 69, 3) := by decide +kernel
theorem d_C_signInColumn_8 : decode b_C_signInColumn 8 = .ok (.ireturn, 1) := by decide +kernel
theorem d_C_signInColumn_9 : decode b_C_signInColumn 9 = .ok (.iload_n 1, 1) := by decide +kernel
theorem d_C_signInColumn_10 : decode b_C_signInColumn 10 = .ok (.iconst 1, 1) := by decide +kernel
theorem d_C_signInColumn_11 : decode b_C_signInColumn 11 = .ok (.isub, 1) := by decide +kernel
theorem d_C_signInColumn_12 : decode b_C_signInColumn 12 = .ok (.iconst 1, 1) := by decide +kernel
theorem d_C_signInColumn_13 : decode b_C_signInColumn 13 = .ok (.ishr, 1) := by decide +kernel
theorem d_C_signInColumn_14 : decode b_C_signInColumn 14 = .ok (.istore_n 3, 1) := by decide +kernel
theorem d_C_signInColumn_15 : decode b_C_signInColumn 15 = .ok (.aload_n 0, 1) := by decide +kernel
theorem d_C_signInColumn_16 : decode b_C_signInColumn 16 = .ok (.iload_n 3, 1) := by decide +kernel
theorem d_C_signInColumn_17 : decode b_C_signInColumn 17 = .ok (.aload_n 2, 1) := by decide +kernel
theorem d_C_signInColumn_18 : decode b_C_signInColumn 18 = .ok (.getfield 33, 3) := by decide +kernel
theorem d_C_signInColumn_21 : decode b_C_signInColumn 21 = .ok (.i2l, 1) := by decide +kernel
theorem d_C_signInColumn_22 : decode b_C_signInColumn 22 = .ok (.aload_n 2, 1) := by decide +kernel
theorem d_C_signInColumn_23 : decode b_C_signInColumn 23 = .ok (.getfield 30, 3) := by decide +kernel
theorem d_C_signInColumn_26 : decode b_C_signInColumn 26 = .ok (.i2l, 1) := by decide +kernel
theorem d_C_signInColumn_27 : decode b_C_signInColumn 27 = .ok (.aload_n 2, 1) := by decide +kernel
theorem d_C_signInColumn_28 : decode b_C_signInColumn 28 = .ok (.getfield 25, 3) := by decide +kernel
theorem d_C_signInColumn_31 : decode b_C_signInColumn 31 = .ok (.i2l, 1) := by decide +kernel
theorem d_C_signInColumn_32 : decode b_C_signInColumn 32 = .ok (.invokevirtual 73, 3) := by decide +kernel
theorem d_C_signInColumn_35 : decode b_C_signInColumn 35 = .ok (.istore 4, 2) := by decide +kernel
theorem d_C_signInColumn_37 : decode b_C_signInColumn 37 = .ok (.iload 4, 2) := by decide +kernel
theorem d_C_signInColumn_39 : decode b_C_signInColumn 39 = .ok (.ifCond .ne 10, 3) := by decide +kernel
theorem d_C_signInColumn_42 : decode b_C_signInColumn 42 = .ok (.iload_n 1, 1) := by decide +kernel
theorem d_C_signInColumn_43 : decode b_C_signInColumn 43 = .ok (.iconst 1, 1) := by decide +kernel
theorem d_C_signInColumn_44 : decode b_C_signInColumn 44 = .ok (.iand, 1) := by decide +kernel
theorem d_C_signInColumn_45 : decode b_C_signInColumn 45 = .ok (.iconst 1, 1) := by decide +kernel
theorem d_C_signInColumn_46 : decode b_C_signInColumn 46 = .ok (.if_icmp .ne 6, 3) := by decide +kernel
theorem d_C_signInColumn_49 : decode b_C_signInColumn 49 = .ok (.iload 4, 2) := by decide +kernel
theorem d_C_signInColumn_51 : decode b_C_signInColumn 51 = .ok (.ireturn, 1) := by decide +kernel
theorem d_C_signInColumn_52 : decode b_C_signInColumn 52 = .ok (.aload_n 0, 1) := by decide +kernel
theorem d_C_signInColumn_53 : decode b_C_signInColumn 53 = .ok (.iload_n 3, 1) := by decide +kernel
theorem d_C_signInColumn_54 : decode b_C_signInColumn 54 = .ok (.aload_n 2, 1) := by decide +kernel
theorem d_C_signInColumn_55 : decode b_C_signInColumn 55 = .ok (.getfield 30, 3) := by decide +kernel
theorem d_C_signInColumn_58 : decode b_C_signInColumn 58 = .ok (.i2l, 1) := by decide +kernel
theorem d_C_signInColumn_59 : decode b_C_signInColumn 59 = .ok (.iconst 2, 1) := by decide +kernel
theorem d_C_signInColumn_60 : decode b_C_signInColumn 60 = .ok (.aload_n 2, 1) := by decide +kernel
theorem d_C_signInColumn_61 : decode b_C_signInColumn 61 = .ok (.getfield 25, 3) := by decide +kernel
theorem d_C_signInColumn_64 : decode b_C_signInColumn 64 = .ok (.imul, 1) := by decide +kernel
theorem d_C_signInColumn_65 : decode b_C_signInColumn 65 = .ok (.i2l, 1) := by decide +kernel
theorem d_C_signInColumn_66 : decode b_C_signInColumn 66 = .ok (.lconst 0, 1) := by decide +kernel
theorem d_C_signInColumn_67 : decode b_C_signInColumn 67 = .ok (.invokevirtual 73, 3) := by decide +kernel
theorem d_C_signInColumn_70 : decode b_C_signInColumn 70 = .ok (.istore 5, 2) := by decide +kernel
theorem d_C_signInColumn_72 : decode b_C_signInColumn 72 = .ok (.iload 5, 2) := by decide +kernel
theorem d_C_signInColumn_74 : decode b_C_signInColumn 74 = .ok (.ifCond .eq 8, 3) := by decide +kernel
theorem d_C_signInColumn_77 : decode b_C_signInColumn 77 = .ok (.iload 5, 2) := by decide +kernel
theorem d_C_signInColumn_79 : decode b_C_signInColumn 79 = .ok (.goto 10, 3) := by decide +kernel
theorem d_C_signInColumn_82 : decode b_C_signInColumn 82 = .ok (.aload_n 2, 1) := by decide +kernel
theorem d_C_signInColumn_83 : decode b_C_signInColumn 83 = .ok (.getfield 25, 3) := by decide +kernel
theorem d_C_signInColumn_86 : decode b_C_signInColumn 86 = .ok (.invokestatic 77, 3) := by decide +kernel
theorem d_C_signInColumn_89 : decode b_C_signInColumn 89 = .ok (.ireturn, 1) := by decide +kernel
theorem d_S_number_0 : decode b_S_number 0 = .ok (.aload_n 0, 1) := by decide +kernel
theorem d_S_number_1 : decode b_S_number 1 = .ok (.getfield 9, 3) := by decide +kernel
theorem d_S_number_4 : decode b_S_number 4 = .ok (.iload_n 1, 1) := by decide +kernel
theorem d_S_number_5 : decode b_S_number 5 = .ok (.iconst 4, 1) := by decide +kernel
theorem d_S_number_6 : decode b_S_number 6 = .ok (.imul, 1) := by decide +kernel
theorem d_S_number_7 : decode b_S_number 7 = .ok (.iload_n 2, 1) := by decide +kernel
theorem d_S_number_8 : decode b_S_number 8 = .ok (.iadd, 1) := by decide +kernel
theorem d_S_number_9 : decode b_S_number 9 = .ok (.iaload, 1) := by decide +kernel
theorem d_S_number_10 : decode b_S_number 10 = .ok (.ireturn, 1) := by decide +kernel
theorem d_F_setA_0 : decode b_F_setA 0 = .ok (.aload_n 0, 1) := by decide +kernel
theorem d_F_setA_1 : decode b_F_setA 1 = .ok (.aload_n 1, 1) := by decide +kernel
theorem d_F_setA_2 : decode b_F_setA 2 = .ok (.iload_n 2, 1) := by decide +kernel
theorem d_F_setA_3 : decode b_F_setA 3 = .ok (.iconst 2, 1) := by decide +kernel
theorem d_F_setA_4 : decode b_F_setA 4 = .ok (.invokevirtual 7, 3) := by decide +kernel
theorem d_F_setA_7 : decode b_F_setA 7 = .ok (.putfield 13, 3) := by decide +kernel
theorem d_F_setA_10 : decode b_F_setA 10 = .ok (.aload_n 0, 1) := by decide +kernel
theorem d_F_setA_11 : decode b_F_setA 11 = .ok (.aload_n 1, 1) := by decide +kernel
theorem d_F_setA_12 : decode b_F_setA 12 = .ok (.iload_n 2, 1) := by decide +kernel
theorem d_F_setA_13 : decode b_F_setA 13 = .ok (.iconst 3, 1) := by decide +kernel
theorem d_F_setA_14 : decode b_F_setA 14 = .ok (.invokevirtual 7, 3) := by decide +kernel
theorem d_F_setA_17 : decode b_F_setA 17 = .ok (.putfield 19, 3) := by decide +kernel
theorem d_F_setA_20 : decode b_F_setA 20 = .ok (.aload_n 0, 1) := by decide +kernel
theorem d_F_setA_21 : decode b_F_setA 21 = .ok (.iconst 0, 1) := by decide +kernel
theorem d_F_setA_22 : decode b_F_setA 22 = .ok (.putfield 22, 3) := by decide +kernel
theorem d_F_setA_25 : decode b_F_setA 25 = .ok (.return_, 1) := by decide +kernel
theorem d_F_setB_0 : decode b_F_setB 0 = .ok (.aload_n 0, 1) := by decide +kernel
theorem d_F_setB_1 : decode b_F_setB 1 = .ok (.aload_n 1, 1) := by decide +kernel
theorem d_F_setB_2 : decode b_F_setB 2 = .ok (.iload_n 2, 1) := by decide +kernel
theorem d_F_setB_3 : decode b_F_setB 3 = .ok (.iconst 0, 1) := by decide +kernel
theorem d_F_setB_4 : decode b_F_setB 4 = .ok (.invokevirtual 7, 3) := by decide +kernel
theorem d_F_setB_7 : decode b_F_setB 7 = .ok (.putfield 13, 3) := by decide +kernel
theorem d_F_setB_10 : decode b_F_setB 10 = .ok (.aload_n 0, 1) := by decide +kernel
theorem d_F_setB_11 : decode b_F_setB 11 = .ok (.aload_n 1, 1) := by decide +kernel
theorem d_F_setB_12 : decode b_F_setB 12 = .ok (.iload_n 2, 1) := by decide +kernel
theorem d_F_setB_13 : decode b_F_setB 13 = .ok (.iconst 1, 1) := by decide +kernel
theorem d_F_setB_14 : decode b_F_setB 14 = .ok (.invokevirtual 7, 3) := by decide +kernel
theorem d_F_setB_17 : decode b_F_setB 17 = .ok (.putfield 19, 3) := by decide +kernel
theorem d_F_setB_20 : decode b_F_setB 20 = .ok (.aload_n 0, 1) := by decide +kernel
theorem d_F_setB_21 : decode b_F_setB 21 = .ok (.iconst 0, 1) := by decide +kernel
theorem d_F_setB_22 : decode b_F_setB 22 = .ok (.putfield 22, 3) := by decide +kernel
theorem d_F_setB_25 : decode b_F_setB 25 = .ok (.return_, 1) := by decide +kernel
theorem d_F_setPair_0 : decode b_F_setPair 0 = .ok (.aload_n 0, 1) := by decide +kernel
theorem d_F_setPair_1 : decode b_F_setPair 1 = .ok (.aload_n 1, 1) := by decide +kernel
theorem d_F_setPair_2 : decode b_F_setPair 2 = .ok (.iload_n 2, 1) := by decide +kernel
theorem d_F_setPair_3 : decode b_F_setPair 3 = .ok (.iconst 2, 1) := by decide +kernel
theorem d_F_setPair_4 : decode b_F_setPair 4 = .ok (.invokevirtual 7, 3) := by decide +kernel
theorem d_F_setPair_7 : decode b_F_setPair 7 = .ok (.aload_n 1, 1) := by decide +kernel
theorem d_F_setPair_8 : decode b_F_setPair 8 = .ok (.iload_n 3, 1) := by decide +kernel
theorem d_F_setPair_9 : decode b_F_setPair 9 = .ok (.iconst 0, 1) := by decide +kernel
theorem d_F_setPair_10 : decode b_F_setPair 10 = .ok (.invokevirtual 7, 3) := by decide +kernel
theorem d_F_setPair_13 : decode b_F_setPair 13 = .ok (.imul, 1) := by decide +kernel
theorem d_F_setPair_14 : decode b_F_setPair 14 = .ok (.aload_n 1, 1) := by decide +kernel
theorem d_F_setPair_15 : decode b_F_setPair 15 = .ok (.iload_n 3, 1) := by decide +kernel
theorem d_F_setPair_16 : decode b_F_setPair 16 = .ok (.iconst 2, 1) := by decide +kernel
theorem d_F_setPair_17 : decode b_F_setPair 17 = .ok (.invokevirtual 7, 3) := by decide +kernel
theorem d_F_setPair_20 : decode b_F_setPair 20 = .ok (.aload_n 1, 1) := by decide +kernel
theorem d_F_setPair_21 : decode b_F_setPair 21 = .ok (.iload_n 2, 1) := by decide +kernel
end
section
theorem d_F_setPair_22 : decode b_F_setPair 22 = .ok (.iconst 0, 1) := by decide +kernel
theorem d_F_setPair_23 : decode b_F_setPair 23 = .ok (.invokevirtual 7, 3) := by decide +kernel
theorem d_F_setPair_26 : decode b_F_setPair 26 = .ok (.imul, 1) := by decide +kernel
theorem d_F_setPair_27 : decode b_F_setPair 27 = .ok (.isub, 1) := by decide +kernel
theorem d_F_setPair_28 : decode b_F_setPair 28 = .ok (.putfield 13, 3) := by decide +kernel
theorem d_F_setPair_31 : decode b_F_setPair 31 = .ok (.aload_n 0, 1) := by decide +kernel
theorem d_F_setPair_32 : decode b_F_setPair 32 = .ok (.aload_n 1, 1) := by decide +kernel
theorem d_F_setPair_33 : decode b_F_setPair 33 = .ok (.iload_n 2, 1) := by decide +kernel
theorem d_F_setPair_34 : decode b_F_setPair 34 = .ok (.iconst 2, 1) := by decide +kernel
theorem d_F_setPair_35 : decode b_F_setPair 35 = .ok (.invokevirtual 7, 3) := by decide +kernel
theorem d_F_setPair_38 : decode b_F_setPair 38 = .ok (.aload_n 1, 1) := by decide +kernel
theorem d_F_setPair_39 : decode b_F_setPair 39 = .ok (.iload_n 3, 1) := by decide +kernel
theorem d_F_setPair_40 : decode b_F_setPair 40 = .ok (.iconst 1, 1) := by decide +kernel
theorem d_F_setPair_41 : decode b_F_setPair 41 = .ok (.invokevirtual 7, 3) := by decide +kernel
theorem d_F_setPair_44 : decode b_F_setPair 44 = .ok (.imul, 1) := by decide +kernel
theorem d_F_setPair_45 : decode b_F_setPair 45 = .ok (.aload_n 1, 1) := by decide +kernel
theorem d_F_setPair_46 : decode b_F_setPair 46 = .ok (.iload_n 2, 1) := by decide +kernel
theorem d_F_setPair_47 : decode b_F_setPair 47 = .ok (.iconst 3, 1) := by decide +kernel
theorem d_F_setPair_48 : decode b_F_setPair 48 = .ok (.invokevirtual 7, 3) := by decide +kernel
theorem d_F_setPair_51 : decode b_F_setPair 51 = .ok (.aload_n 1, 1) := by decide +kernel
theorem d_F_setPair_52 : decode b_F_setPair 52 = .ok (.iload_n 3, 1) := by decide +kernel
theorem d_F_setPair_53 : decode b_F_setPair 53 = .ok (.iconst 0, 1) := by decide +kernel
theorem d_F_setPair_54 : decode b_F_setPair 54 = .ok (.invokevirtual 7, 3) := by decide +kernel
theorem d_F_setPair_57 : decode b_F_setPair 57 = .ok (.imul, 1) := by decide +kernel
theorem d_F_setPair_58 : decode b_F_setPair 58 = .ok (.iadd, 1) := by decide +kernel
theorem d_F_setPair_59 : decode b_F_setPair 59 = .ok (.aload_n 1, 1) := by decide +kernel
theorem d_F_setPair_60 : decode b_F_setPair 60 = .ok (.iload_n 3, 1) := by decide +kernel
theorem d_F_setPair_61 : decode b_F_setPair 61 = .ok (.iconst 2, 1) := by decide +kernel
theorem d_F_setPair_62 : decode b_F_setPair 62 = .ok (.invokevirtual 7, 3) := by decide +kernel
theorem d_F_setPair_65 : decode b_F_setPair 65 = .ok (.aload_n 1, 1) := by decide +kernel
theorem d_F_setPair_66 : decode b_F_setPair 66 = .ok (.iload_n 2, 1) := by decide +kernel
theorem d_F_setPair_67 : decode b_F_setPair 67 = .ok (.iconst 1, 1) := by decide +kernel
theorem d_F_setPair_68 : decode b_F_setPair 68 = .ok (.invokevirtual 7, 3) := by decide +kernel
theorem d_F_setPair_71 : decode b_F_setPair 71 = .ok (.imul, 1) := by decide +kernel
theorem d_F_setPair_72 : decode b_F_setPair 72 = .ok (.isub, 1) := by decide +kernel
theorem d_F_setPair_73 : decode b_F_setPair 73 = .ok (.aload_n 1, 1) := by decide +kernel
theorem d_F_setPair_74 : decode b_F_setPair 74 = .ok (.iload_n 3, 1) := by decide +kernel
theorem d_F_setPair_75 : decode b_F_setPair 75 = .ok (.iconst 3, 1) := by decide +kernel
theorem d_F_setPair_76 : decode b_F_setPair 76 = .ok (.invokevirtual 7, 3) := by decide +kernel
theorem d_F_setPair_79 : decode b_F_setPair 79 = .ok (.aload_n 1, 1) := by decide +kernel
theorem d_F_setPair_80 : decode b_F_setPair 80 = .ok (.iload_n 2, 1) := by decide +kernel
theorem d_F_setPair_81 : decode b_F_setPair 81 = .ok (.iconst 0, 1) := by decide +kernel
theorem d_F_setPair_82 : decode b_F_setPair 82 = .ok (.invokevirtual 7, 3) := by decide +kernel
theorem d_F_setPair_85 : decode b_F_setPair 85 = .ok (.imul, 1) := by decide +kernel
theorem d_F_setPair_86 : decode b_F_setPair 86 = .ok (.isub, 1) := by decide +kernel
theorem d_F_setPair_87 : decode b_F_setPair 87 = .ok (.putfield 19, 3) := by decide +kernel
theorem d_F_setPair_90 : decode b_F_setPair 90 = .ok (.aload_n 0, 1) := by decide +kernel
theorem d_F_setPair_91 : decode b_F_setPair 91 = .ok (.aload_n 1, 1) := by decide +kernel
theorem d_F_setPair_92 : decode b_F_setPair 92 = .ok (.iload_n 2, 1) := by decide +kernel
theorem d_F_setPair_93 : decode b_F_setPair 93 = .ok (.iconst 3, 1) := by decide +kernel
theorem d_F_setPair_94 : decode b_F_setPair 94 = .ok (.invokevirtual 7, 3) := by decide +kernel
theorem d_F_setPair_97 : decode b_F_setPair 97 = .ok (.aload_n 1, 1) := by decide +kernel
theorem d_F_setPair_98 : decode b_F_setPair 98 = .ok (.iload_n 3, 1) := by decide +kernel
theorem d_F_setPair_99 : decode b_F_setPair 99 = .ok (.iconst 1, 1) := by decide +kernel
theorem d_F_setPair_100 : decode b_F_setPair 100 = .ok (.invokevirtual 7, 3) := by decide +kernel
theorem d_F_setPair_103 : decode b_F_setPair 103 = .ok (.imul, 1) := by decide +kernel
theorem d_F_setPair_104 : decode b_F_setPair 104 = .ok (.aload_n 1, 1) := by decide +kernel
theorem d_F_setPair_105 : decode b_F_setPair 105 = .ok (.iload_n 3, 1) := by decide +kernel
theorem d_F_setPair_106 : decode b_F_setPair 106 = .ok (.iconst 3, 1) := by decide +kernel
theorem d_F_setPair_107 : decode b_F_setPair 107 = .ok (.invokevirtual 7, 3) := by decide +kernel
theorem d_F_setPair_110 : decode b_F_setPair 110 = .ok (.aload_n 1, 1) := by decide +kernel
theorem d_F_setPair_111 : decode b_F_setPair 111 = .ok (.iload_n 2, 1) := by decide +kernel
theorem d_F_setPair_112 : decode b_F_setPair 112 = .ok (.iconst 1, 1) := by decide +kernel
theorem d_F_setPair_113 : decode b_F_setPair 113 = .ok (.invokevirtual 7, 3) := by decide +kernel
theorem d_F_setPair_116 : decode b_F_setPair 116 = .ok (.imul, 1) := by decide +kernel
theorem d_F_setPair_117 : decode b_F_setPair 117 = .ok (.isub, 1) := by decide +kernel
theorem d_F_setPair_118 : decode b_F_setPair 118 = .ok (.putfield 22, 3) := by decide +kernel
theorem d_F_setPair_121 : decode b_F_setPair 121 = .ok (.return_, 1) := by decide +kernel
theorem d_Q_cut_0 : decode b_Q_cut 0 = .ok (.aload_n 0, 1) := by decide +kernel
theorem d_Q_cut_1 : decode b_Q_cut 1 = .ok (.getfield 12, 3) := by decide +kernel
theorem d_Q_cut_4 : decode b_Q_cut 4 = .ok (.invokevirtual 39, 3) := by decide +kernel
theorem d_Q_cut_7 : decode b_Q_cut 7 = .ok (.iconst 0, 1) := by decide +kernel
theorem d_Q_cut_8 : decode b_Q_cut 8 = .ok (.istore_n 1, 1) := by decide +kernel
theorem d_Q_cut_9 : decode b_Q_cut 9 = .ok (.iload_n 1, 1) := by decide +kernel
theorem d_Q_cut_10 : decode b_Q_cut 10 = .ok (.aload_n 0, 1) := by decide +kernel
theorem d_Q_cut_11 : decode b_Q_cut 11 = .ok (.getfield 35, 3) := by decide +kernel
theorem d_Q_cut_14 : decode b_Q_cut 14 = .ok (.getfield 42, 3) := by decide +kernel
theorem d_Q_cut_17 : decode b_Q_cut 17 = .ok (.if_icmp .ge 92, 3) := by decide +kernel
theorem d_Q_cut_20 : decode b_Q_cut 20 = .ok (.aload_n 0, 1) := by decide +kernel
theorem d_Q_cut_21 : decode b_Q_cut 21 = .ok (.getfield 21, 3) := by decide +kernel
theorem d_Q_cut_24 : decode b_Q_cut 24 = .ok (.aload_n 0, 1) := by decide +kernel
theorem d_Q_cut_25 : decode b_Q_cut 25 = .ok (.getfield 35, 3) := by decide +kernel
theorem d_Q_cut_28 : decode b_Q_cut 28 = .ok (.iload_n 1, 1) := by decide +kernel
theorem d_Q_cut_29 : decode b_Q_cut 29 = .ok (.invokevirtual 48, 3) := by decide +kernel
theorem d_Q_cut_32 : decode b_Q_cut 32 = .ok (.aload_n 0, 1) := by decide +kernel
theorem d_Q_cut_33 : decode b_Q_cut 33 = .ok (.getfield 12, 3) := by decide +kernel
theorem d_Q_cut_36 : decode b_Q_cut 36 = .ok (.aload_n 0, 1) := by decide +kernel
theorem d_Q_cut_37 : decode b_Q_cut 37 = .ok (.getfield 21, 3) := by decide +kernel
theorem d_Q_cut_40 : decode b_Q_cut 40 = .ok (.invokevirtual 52, 3) := by decide +kernel
theorem d_Q_cut_43 : decode b_Q_cut 43 = .ok (.aload_n 0, 1) := by decide +kernel
theorem d_Q_cut_44 : decode b_Q_cut 44 = .ok (.getfield 21, 3) := by decide +kernel
theorem d_Q_cut_47 : decode b_Q_cut 47 = .ok (.aload_n 0, 1) := by decide +kernel
theorem d_Q_cut_48 : decode b_Q_cut 48 = .ok (.getfield 35, 3) := by decide +kernel
theorem d_Q_cut_51 : decode b_Q_cut 51 = .ok (.iload_n 1, 1) := by decide +kernel
theorem d_Q_cut_52 : decode b_Q_cut 52 = .ok (.invokevirtual 56, 3) := by decide +kernel
theorem d_Q_cut_55 : decode b_Q_cut 55 = .ok (.aload_n 0, 1) := by decide +kernel
theorem d_Q_cut_56 : decode b_Q_cut 56 = .ok (.getfield 12, 3) := by decide +kernel
theorem d_Q_cut_59 : decode b_Q_cut 59 = .ok (.aload_n 0, 1) := by decide +kernel
theorem d_Q_cut_60 : decode b_Q_cut 60 = .ok (.getfield 21, 3) := by decide +kernel
theorem d_Q_cut_63 : decode b_Q_cut 63 = .ok (.invokevirtual 52, 3) := by decide +kernel
theorem d_Q_cut_66 : decode b_Q_cut 66 = .ok (.iconst 0, 1) := by decide +kernel
theorem d_Q_cut_67 : decode b_Q_cut 67 = .ok (.istore_n 2, 1) := by decide +kernel
theorem d_Q_cut_68 : decode b_Q_cut 68 = .ok (.iload_n 2, 1) := by decide +kernel
theorem d_Q_cut_69 : decode b_Q_cut 69 = .ok (.iload_n 1, 1) := by decide +kernel
theorem d_Q_cut_70 : decode b_Q_cut 70 = .ok (.if_icmp .ge 33, 3) := by decide +kernel
theorem d_Q_cut_73 : decode b_Q_cut 73 = .ok (.aload_n 0, 1) := by decide +kernel
theorem d_Q_cut_74 : decode b_Q_cut 74 = .ok (.getfield 21, 3) := by decide +kernel
theorem d_Q_cut_77 : decode b_Q_cut 77 = .ok (.aload_n 0, 1) := by decide +kernel
theorem d_Q_cut_78 : decode b_Q_cut 78 = .ok (.getfield 35, 3) := by decide +kernel
theorem d_Q_cut_81 : decode b_Q_cut 81 = .ok (.iload_n 1, 1) := by decide +kernel
theorem d_Q_cut_82 : decode b_Q_cut 82 = .ok (.iload_n 2, 1) := by decide +kernel
theorem d_Q_cut_83 : decode b_Q_cut 83 = .ok (.invokevirtual 59, 3) := by decide +kernel
theorem d_Q_cut_86 : decode b_Q_cut 86 = .ok (.aload_n 0, 1) := by decide +kernel
theorem d_Q_cut_87 : decode b_Q_cut 87 = .ok (.getfield 12, 3) := by decide +kernel
theorem d_Q_cut_90 : decode b_Q_cut 90 = .ok (.aload_n 0, 1) := by decide +kernel
theorem d_Q_cut_91 : decode b_Q_cut 91 = .ok (.getfield 21, 3) := by decide +kernel
theorem d_Q_cut_94 : decode b_Q_cut 94 = .ok (.invokevirtual 52, 3) := by decide +kernel
theorem d_Q_cut_97 : decode b_Q_cut 97 = .ok (.iinc 2 1, 3) := by decide +kernel
theorem d_Q_cut_100 : decode b_Q_cut 100 = .ok (.goto (-32), 3) := by decide +kernel
theorem d_Q_cut_103 : decode b_Q_cut 103 = .ok (.iinc 1 1, 3) := by decide +kernel
theorem d_Q_cut_106 : decode b_Q_cut 106 = .ok (.goto (-97), 3) := by decide +kernel
theorem d_Q_cut_109 : decode b_Q_cut 109 = .ok (.return_, 1) := by decide +kernel
theorem d_Q_countColumns_0 : decode b_Q_countColumns 0 = .ok (.iconst 2, 1) := by decide +kernel
theorem d_Q_countColumns_1 : decode b_Q_countColumns 1 = .ok (.aload_n 0, 1) := by decide +kernel
theorem d_Q_countColumns_2 : decode b_Q_countColumns 2 = .ok (.getfield 12, 3) := by decide +kernel
theorem d_Q_countColumns_5 : decode b_Q_countColumns 5 = .ok (.getfield 63, 3) := by decide +kernel
theorem d_Q_countColumns_8 : decode b_Q_countColumns 8 = .ok (.imul, 1) := by decide +kernel
theorem d_Q_countColumns_9 : decode b_Q_countColumns 9 = .ok (.iconst 1, 1) := by decide +kernel
theorem d_Q_countColumns_10 : decode b_Q_countColumns 10 = .ok (.iadd, 1) := by decide +kernel
theorem d_Q_countColumns_11 : decode b_Q_countColumns 11 = .ok (.ireturn, 1) := by decide +kernel
theorem d_Q_addZero_0 : decode b_Q_addZero 0 = .ok (.iconst 1, 1) := by decide +kernel
theorem d_Q_addZero_1 : decode b_Q_addZero 1 = .ok (.istore_n 3, 1) := by decide +kernel
theorem d_Q_addZero_2 : decode b_Q_addZero 2 = .ok (.iconst 0, 1) := by decide +kernel
theorem d_Q_addZero_3 : decode b_Q_addZero 3 = .ok (.istore 4, 2) := by decide +kernel
theorem d_Q_addZero_5 : decode b_Q_addZero 5 = .ok (.iload 4, 2) := by decide +kernel
theorem d_Q_addZero_7 : decode b_Q_addZero 7 = .ok (.iload_n 2, 1) := by decide +kernel
theorem d_Q_addZero_8 : decode b_Q_addZero 8 = .ok (.if_icmp .ge 103, 3) := by decide +kernel
theorem d_Q_addZero_11 : decode b_Q_addZero 11 = .ok (.aload_n 0, 1) := by decide +kernel
theorem d_Q_addZero_12 : decode b_Q_addZero 12 = .ok (.getfield 25, 3) := by decide +kernel
theorem d_Q_addZero_15 : decode b_Q_addZero 15 = .ok (.iload 4, 2) := by decide +kernel
theorem d_Q_addZero_17 : decode b_Q_addZero 17 = .ok (.iaload, 1) := by decide +kernel
theorem d_Q_addZero_18 : decode b_Q_addZero 18 = .ok (.ifCond .ne 6, 3) := by decide +kernel
theorem d_Q_addZero_21 : decode b_Q_addZero 21 = .ok (.goto 84, 3) := by decide +kernel
theorem d_Q_addZero_24 : decode b_Q_addZero 24 = .ok (.aload_n 0, 1) := by decide +kernel
theorem d_Q_addZero_25 : decode b_Q_addZero 25 = .ok (.getfield 21, 3) := by decide +kernel
theorem d_Q_addZero_28 : decode b_Q_addZero 28 = .ok (.aload_n 0, 1) := by decide +kernel
theorem d_Q_addZero_29 : decode b_Q_addZero 29 = .ok (.getfield 35, 3) := by decide +kernel
theorem d_Q_addZero_32 : decode b_Q_addZero 32 = .ok (.iload_n 2, 1) := by decide +kernel
theorem d_Q_addZero_33 : decode b_Q_addZero 33 = .ok (.iload 4, 2) := by decide +kernel
theorem d_Q_addZero_35 : decode b_Q_addZero 35 = .ok (.invokevirtual 59, 3) := by decide +kernel
theorem d_Q_addZero_38 : decode b_Q_addZero 38 = .ok (.aload_n 0, 1) := by decide +kernel
theorem d_Q_addZero_39 : decode b_Q_addZero 39 = .ok (.getfield 12, 3) := by decide +kernel
theorem d_Q_addZero_42 : decode b_Q_addZero 42 = .ok (.iload_n 1, 1) := by decide +kernel
theorem d_Q_addZero_43 : decode b_Q_addZero 43 = .ok (.aload_n 0, 1) := by decide +kernel
theorem d_Q_addZero_44 : decode b_Q_addZero 44 = .ok (.getfield 21, 3) := by decide +kernel
theorem d_Q_addZero_47 : decode b_Q_addZero 47 = .ok (.invokevirtual 69, 3) := by decide +kernel
theorem d_Q_addZero_50 : decode b_Q_addZero 50 = .ok (.aload_n 0, 1) := by decide +kernel
theorem d_Q_addZero_51 : decode b_Q_addZero 51 = .ok (.getfield 25, 3) := by decide +kernel
theorem d_Q_addZero_54 : decode b_Q_addZero 54 = .ok (.iload_n 2, 1) := by decide +kernel
theorem d_Q_addZero_55 : decode b_Q_addZero 55 = .ok (.iaload, 1) := by decide +kernel
theorem d_Q_addZero_56 : decode b_Q_addZero 56 = .ok (.imul, 1) := by decide +kernel
theorem d_Q_addZero_57 : decode b_Q_addZero 57 = .ok (.aload_n 0, 1) := by decide +kernel
theorem d_Q_addZero_58 : decode b_Q_addZero 58 = .ok (.getfield 25, 3) := by decide +kernel
theorem d_Q_addZero_61 : decode b_Q_addZero 61 = .ok (.iload 4, 2) := by decide +kernel
theorem d_Q_addZero_63 : decode b_Q_addZero 63 = .ok (.iaload, 1) := by decide +kernel
theorem d_Q_addZero_64 : decode b_Q_addZero 64 = .ok (.imul, 1) := by decide +kernel
theorem d_Q_addZero_65 : decode b_Q_addZero 65 = .ok (.istore 5, 2) := by decide +kernel
theorem d_Q_addZero_67 : decode b_Q_addZero 67 = .ok (.iload 5, 2) := by decide +kernel
theorem d_Q_addZero_69 : decode b_Q_addZero 69 = .ok (.ifCond .ne 17, 3) := by decide +kernel
theorem d_Q_addZero_72 : decode b_Q_addZero 72 = .ok (.aload_n 0, 1) := by decide +kernel
theorem d_Q_addZero_73 : decode b_Q_addZero 73 = .ok (.getfield 32, 3) := by decide +kernel
theorem d_Q_addZero_76 : decode b_Q_addZero 76 = .ok (.iload_n 2, 1) := by decide +kernel
theorem d_Q_addZero_77 : decode b_Q_addZero 77 = .ok (.aload_n 0, 1) := by decide +kernel
theorem d_Q_addZero_78 : decode b_Q_addZero 78 = .ok (.getfield 32, 3) := by decide +kernel
theorem d_Q_addZero_81 : decode b_Q_addZero 81 = .ok (.iload 4, 2) := by decide +kernel
theorem d_Q_addZero_83 : decode b_Q_addZero 83 = .ok (.iaload, 1) := by decide +kernel
theorem d_Q_addZero_84 : decode b_Q_addZero 84 = .ok (.iastore, 1) := by decide +kernel
theorem d_Q_addZero_85 : decode b_Q_addZero 85 = .ok (.return_, 1) := by decide +kernel
theorem d_Q_addZero_86 : decode b_Q_addZero 86 = .ok (.iload 5, 2) := by decide +kernel
theorem d_Q_addZero_88 : decode b_Q_addZero 88 = .ok (.ifCond .le 17, 3) := by decide +kernel
theorem d_Q_addZero_91 : decode b_Q_addZero 91 = .ok (.iload_n 3, 1) := by decide +kernel
theorem d_Q_addZero_92 : decode b_Q_addZero 92 = .ok (.aload_n 0, 1) := by decide +kernel
theorem d_Q_addZero_93 : decode b_Q_addZero 93 = .ok (.getfield 32, 3) := by decide +kernel
theorem d_Q_addZero_96 : decode b_Q_addZero 96 = .ok (.iload 4, 2) := by decide +kernel
theorem d_Q_addZero_98 : decode b_Q_addZero 98 = .ok (.iaload, 1) := by decide +kernel
theorem d_Q_addZero_99 : decode b_Q_addZero 99 = .ok (.iconst 2, 1) := by decide +kernel
theorem d_Q_addZero_100 : decode b_Q_addZero 100 = .ok (.iadd, 1) := by decide +kernel
theorem d_Q_addZero_101 : decode b_Q_addZero 101 = .ok (.invokestatic 77, 3) := by decide +kernel
theorem d_Q_addZero_104 : decode b_Q_addZero 104 = .ok (.istore_n 3, 1) := by decide +kernel
theorem d_Q_addZero_105 : decode b_Q_addZero 105 = .ok (.iinc 4 1, 3) := by decide +kernel
theorem d_Q_addZero_108 : decode b_Q_addZero 108 = .ok (.goto (-103), 3) := by decide +kernel
theorem d_Q_addZero_111 : decode b_Q_addZero 111 = .ok (.iconst 0, 1) := by decide +kernel
theorem d_Q_addZero_112 : decode b_Q_addZero 112 = .ok (.istore 4, 2) := by decide +kernel
theorem d_Q_addZero_114 : decode b_Q_addZero 114 = .ok (.iload 4, 2) := by decide +kernel
theorem d_Q_addZero_116 : decode b_Q_addZero 116 = .ok (.iload_n 2, 1) := by decide +kernel
theorem d_Q_addZero_117 : decode b_Q_addZero 117 = .ok (.if_icmp .ge 31, 3) := by decide +kernel
theorem d_Q_addZero_120 : decode b_Q_addZero 120 = .ok (.aload_n 0, 1) := by decide +kernel
theorem d_Q_addZero_121 : decode b_Q_addZero 121 = .ok (.getfield 32, 3) := by decide +kernel
theorem d_Q_addZero_124 : decode b_Q_addZero 124 = .ok (.iload 4, 2) := by decide +kernel
theorem d_Q_addZero_126 : decode b_Q_addZero 126 = .ok (.iaload, 1) := by decide +kernel
theorem d_Q_addZero_127 : decode b_Q_addZero 127 = .ok (.iload_n 3, 1) := by decide +kernel
theorem d_Q_addZero_128 : decode b_Q_addZero 128 = .ok (.if_icmp .lt 14, 3) := by decide +kernel
theorem d_Q_addZero_131 : decode b_Q_addZero 131 = .ok (.aload_n 0, 1) := by decide +kernel
theorem d_Q_addZero_132 : decode b_Q_addZero 132 = .ok (.getfield 32, 3) := by decide +kernel
theorem d_Q_addZero_135 : decode b_Q_addZero 135 = .ok (.iload 4, 2) := by decide +kernel
theorem d_Q_addZero_137 : decode b_Q_addZero 137 = .ok (.dup2, 1) := by decide +kernel
theorem d_Q_addZero_138 : decode b_Q_addZero 138 = .ok (.iaload, 1) := by decide +kernel
theorem d_Q_addZero_139 : decode b_Q_addZero 139 = .ok (.iconst 2, 1) := by decide +kernel
theorem d_Q_addZero_140 : decode b_Q_addZero 140 = .ok (.iadd, 1) := by decide +kernel
theorem d_Q_addZero_141 : decode b_Q_addZero 141 = .ok (.iastore, 1) := by decide +kernel
theorem d_Q_addZero_142 : decode b_Q_addZero 142 = .ok (.iinc 4 1, 3) := by decide +kernel
theorem d_Q_addZero_145 : decode b_Q_addZero 145 = .ok (.goto (-31), 3) := by decide +kernel
theorem d_Q_addZero_148 : decode b_Q_addZero 148 = .ok (.aload_n 0, 1) := by decide +kernel
theorem d_Q_addZero_149 : decode b_Q_addZero 149 = .ok (.getfield 32, 3) := by decide +kernel
theorem d_Q_addZero_152 : decode b_Q_addZero 152 = .ok (.iload_n 2, 1) := by decide +kernel
theorem d_Q_addZero_153 : decode b_Q_addZero 153 = .ok (.iload_n 3, 1) := by decide +kernel
theorem d_Q_addZero_154 : decode b_Q_addZero 154 = .ok (.iastore, 1) := by decide +kernel
theorem d_Q_addZero_155 : decode b_Q_addZero 155 = .ok (.aload_n 0, 1) := by decide +kernel
theorem d_Q_addZero_156 : decode b_Q_addZero 156 = .ok (.dup, 1) := by decide +kernel
theorem d_Q_addZero_157 : decode b_Q_addZero 157 = .ok (.getfield 66, 3) := by decide +kernel
theorem d_Q_addZero_160 : decode b_Q_addZero 160 = .ok (.iconst 2, 1) := by decide +kernel
theorem d_Q_addZero_161 : decode b_Q_addZero 161 = .ok (.iadd, 1) := by decide +kernel
theorem d_Q_addZero_162 : decode b_Q_addZero 162 = .ok (.putfield 66, 3) := by decide +kernel
theorem d_Q_addZero_165 : decode b_Q_addZero 165 = .ok (.return_, 1) := by decide +kernel
theorem d_Q_enter_0 : decode b_Q_enter 0 = .ok (.aload_n 0, 1) := by decide +kernel
theorem d_Q_enter_1 : decode b_Q_enter 1 = .ok (.iconst 1, 1) := by decide +kernel
theorem d_Q_enter_2 : decode b_Q_enter 2 = .ok (.putfield 66, 3) := by decide +kernel
theorem d_Q_enter_5 : decode b_Q_enter 5 = .ok (.iconst 0, 1) := by decide +kernel
theorem d_Q_enter_6 : decode b_Q_enter 6 = .ok (.istore_n 2, 1) := by decide +kernel
theorem d_Q_enter_7 : decode b_Q_enter 7 = .ok (.iload_n 2, 1) := by decide +kernel
theorem d_Q_enter_8 : decode b_Q_enter 8 = .ok (.aload_n 0, 1) := by decide +kernel
theorem d_Q_enter_9 : decode b_Q_enter 9 = .ok (.getfield 35, 3) := by decide +kernel
theorem d_Q_enter_12 : decode b_Q_enter 12 = .ok (.getfield 42, 3) := by decide +kernel
theorem d_Q_enter_15 : decode b_Q_enter 15 = .ok (.if_icmp .ge 91, 3) := by decide +kernel
theorem d_Q_enter_18 : decode b_Q_enter 18 = .ok (.aload_n 0, 1) := by decide +kernel
theorem d_Q_enter_19 : decode b_Q_enter 19 = .ok (.getfield 21, 3) := by decide +kernel
theorem d_Q_enter_22 : decode b_Q_enter 22 = .ok (.aload_n 0, 1) := by decide +kernel
theorem d_Q_enter_23 : decode b_Q_enter 23 = .ok (.getfield 35, 3) := by decide +kernel
theorem d_Q_enter_26 : decode b_Q_enter 26 = .ok (.iload_n 2, 1) := by decide +kernel
theorem d_Q_enter_27 : decode b_Q_enter 27 = .ok (.invokevirtual 48, 3) := by decide +kernel
theorem d_Q_enter_30 : decode b_Q_enter 30 = .ok (.aload_n 0, 1) := by decide +kernel
theorem d_Q_enter_31 : decode b_Q_enter 31 = .ok (.getfield 25, 3) := by decide +kernel
theorem d_Q_enter_34 : decode b_Q_enter 34 = .ok (.iload_n 2, 1) := by decide +kernel
theorem d_Q_enter_35 : decode b_Q_enter 35 = .ok (.aload_n 0, 1) := by decide +kernel
theorem d_Q_enter_36 : decode b_Q_enter 36 = .ok (.getfield 12, 3) := by decide +kernel
theorem d_Q_enter_39 : decode b_Q_enter 39 = .ok (.iload_n 1, 1) := by decide +kernel
theorem d_Q_enter_40 : decode b_Q_enter 40 = .ok (.aload_n 0, 1) := by decide +kernel
theorem d_Q_enter_41 : decode b_Q_enter 41 = .ok (.getfield 21, 3) := by decide +kernel
theorem d_Q_enter_44 : decode b_Q_enter 44 = .ok (.invokevirtual 69, 3) := by decide +kernel
theorem d_Q_enter_47 : decode b_Q_enter 47 = .ok (.iastore, 1) := by decide +kernel
theorem d_Q_enter_48 : decode b_Q_enter 48 = .ok (.aload_n 0, 1) := by decide +kernel
theorem d_Q_enter_49 : decode b_Q_enter 49 = .ok (.getfield 21, 3) := by decide +kernel
theorem d_Q_enter_52 : decode b_Q_enter 52 = .ok (.aload_n 0, 1) := by decide +kernel
theorem d_Q_enter_53 : decode b_Q_enter 53 = .ok (.getfield 35, 3) := by decide +kernel
theorem d_Q_enter_56 : decode b_Q_enter 56 = .ok (.iload_n 2, 1) := by decide +kernel
theorem d_Q_enter_57 : decode b_Q_enter 57 = .ok (.invokevirtual 56, 3) := by decide +kernel
theorem d_Q_enter_60 : decode b_Q_enter 60 = .ok (.aload_n 0, 1) := by decide +kernel
theorem d_Q_enter_61 : decode b_Q_enter 61 = .ok (.getfield 29, 3) := by decide +kernel
theorem d_Q_enter_64 : decode b_Q_enter 64 = .ok (.iload_n 2, 1) := by decide +kernel
theorem d_Q_enter_65 : decode b_Q_enter 65 = .ok (.aload_n 0, 1) := by decide +kernel
theorem d_Q_enter_66 : decode b_Q_enter 66 = .ok (.getfield 12, 3) := by decide +kernel
theorem d_Q_enter_69 : decode b_Q_enter 69 = .ok (.iload_n 1, 1) := by decide +kernel
theorem d_Q_enter_70 : decode b_Q_enter 70 = .ok (.aload_n 0, 1) := by decide +kernel
theorem d_Q_enter_71 : decode b_Q_enter 71 = .ok (.getfield 21, 3) := by decide +kernel
theorem d_Q_enter_74 : decode b_Q_enter 74 = .ok (.invokevirtual 69, 3) := by decide +kernel
theorem d_Q_enter_77 : decode b_Q_enter 77 = .ok (.iastore, 1) := by decide +kernel
theorem d_Q_enter_78 : decode b_Q_enter 78 = .ok (.aload_n 0, 1) := by decide +kernel
theorem d_Q_enter_79 : decode b_Q_enter 79 = .ok (.getfield 32, 3) := by decide +kernel
theorem d_Q_enter_82 : decode b_Q_enter 82 = .ok (.iload_n 2, 1) := by decide +kernel
theorem d_Q_enter_83 : decode b_Q_enter 83 = .ok (.iconst 0, 1) := by decide +kernel
theorem d_Q_enter_84 : decode b_Q_enter 84 = .ok (.iastore, 1) := by decide +kernel
theorem d_Q_enter_85 : decode b_Q_enter 85 = .ok (.aload_n 0, 1) := by decide +kernel
theorem d_Q_enter_86 : decode b_Q_enter 86 = .ok (.getfield 25, 3) := by decide +kernel
theorem d_Q_enter_89 : decode b_Q_enter 89 = .ok (.iload_n 2, 1) := by decide +kernel
theorem d_Q_enter_90 : decode b_Q_enter 90 = .ok (.iaload, 1) := by decide +kernel
theorem d_Q_enter_91 : decode b_Q_enter 91 = .ok (.ifCond .eq 9, 3) := by decide +kernel
theorem d_Q_enter_94 : decode b_Q_enter 94 = .ok (.aload_n 0, 1) := by decide +kernel
theorem d_Q_enter_95 : decode b_Q_enter 95 = .ok (.iload_n 1, 1) := by decide +kernel
theorem d_Q_enter_96 : decode b_Q_enter 96 = .ok (.iload_n 2, 1) := by decide +kernel
theorem d_Q_enter_97 : decode b_Q_enter 97 = .ok (.invokevirtual 73, 3) := by decide +kernel
theorem d_Q_enter_100 : decode b_Q_enter 100 = .ok (.iinc 2 1, 3) := by decide +kernel
theorem d_Q_enter_103 : decode b_Q_enter 103 = .ok (.goto (-96), 3) := by decide +kernel
theorem d_Q_enter_106 : decode b_Q_enter 106 = .ok (.return_, 1) := by decide +kernel
theorem d_Q_signIn_0 : decode b_Q_signIn 0 = .ok (.aload_n 0, 1) := by decide +kernel
theorem d_Q_signIn_1 : decode b_Q_signIn 1 = .ok (.getfield 25, 3) := by decide +kernel
theorem d_Q_signIn_4 : decode b_Q_signIn 4 = .ok (.iload_n 2, 1) := by decide +kernel
theorem d_Q_signIn_5 : decode b_Q_signIn 5 = .ok (.iaload, 1) := by decide +kernel
theorem d_Q_signIn_6 : decode b_Q_signIn 6 = .ok (.ifCond .ne 12, 3) := by decide +kernel
theorem d_Q_signIn_9 : decode b_Q_signIn 9 = .ok (.aload_n 0, 1) := by decide +kernel
theorem d_Q_signIn_10 : decode b_Q_signIn 10 = .ok (.getfield 29, 3) := by decide +kernel
theorem d_Q_signIn_13 : decode b_Q_signIn 13 = .ok (.iload_n 2, 1) := by decide +kernel
theorem d_Q_signIn_14 : decode b_Q_signIn 14 = .ok (.iaload, 1) := by decide +kernel
theorem d_Q_signIn_15 : decode b_Q_signIn 15 = .ok (.goto 21, 3) := by decide +kernel
theorem d_Q_signIn_18 : decode b_Q_signIn 18 = .ok (.aload_n 0, 1) := by decide +kernel
theorem d_Q_signIn_19 : decode b_Q_signIn 19 = .ok (.getfield 25, 3) := by decide +kernel
theorem d_Q_signIn_22 : decode b_Q_signIn 22 = .ok (.iload_n 2, 1) := by decide +kernel
theorem d_Q_signIn_23 : decode b_Q_signIn 23 = .ok (.iaload, 1) := by decide +kernel
theorem d_Q_signIn_24 : decode b_Q_signIn 24 = .ok (.iload_n 1, 1) := by decide +kernel
theorem d_Q_signIn_25 : decode b_Q_signIn 25 = .ok (.aload_n 0, 1) := by decide +kernel
theorem d_Q_signIn_26 : decode b_Q_signIn 26 = .ok (.getfield 32, 3) := by decide +kernel
theorem d_Q_signIn_29 : decode b_Q_signIn 29 = .ok (.iload_n 2, 1) := by decide +kernel
theorem d_Q_signIn_30 : decode b_Q_signIn 30 = .ok (.iaload, 1) := by decide +kernel
theorem d_Q_signIn_31 : decode b_Q_signIn 31 = .ok (.isub, 1) := by decide +kernel
theorem d_Q_signIn_32 : decode b_Q_signIn 32 = .ok (.invokestatic 83, 3) := by decide +kernel
theorem d_Q_signIn_35 : decode b_Q_signIn 35 = .ok (.imul, 1) := by decide +kernel
theorem d_Q_signIn_36 : decode b_Q_signIn 36 = .ok (.ireturn, 1) := by decide +kernel
theorem d_S_atomIsTrue_0 : decode b_S_atomIsTrue 0 = .ok (.aload_n 0, 1) := by decide +kernel
theorem d_S_atomIsTrue_1 : decode b_S_atomIsTrue 1 = .ok (.getfield 15, 3) := by decide +kernel
theorem d_S_atomIsTrue_4 : decode b_S_atomIsTrue 4 = .ok (.iload_n 1, 1) := by decide +kernel
theorem d_S_atomIsTrue_5 : decode b_S_atomIsTrue 5 = .ok (.caload, 1) := by decide +kernel
theorem d_S_atomIsTrue_6 : decode b_S_atomIsTrue 6 = .ok (.bipush 61, 2) := by decide +kernel
theorem d_S_atomIsTrue_8 : decode b_S_atomIsTrue 8 = .ok (.if_icmp .ne 13, 3) := by decide +kernel
theorem d_S_atomIsTrue_11 : decode b_S_atomIsTrue 11 = .ok (.iload_n 2, 1) := by decide +kernel
theorem d_S_atomIsTrue_12 : decode b_S_atomIsTrue 12 = .ok (.ifCond .ne 7, 3) := by decide +kernel
theorem d_S_atomIsTrue_15 : decode b_S_atomIsTrue 15 = .ok (.iconst 1, 1) := by decide +kernel
theorem d_S_atomIsTrue_16 : decode b_S_atomIsTrue 16 = .ok (.goto 4, 3) := by decide +kernel
theorem d_S_atomIsTrue_19 : decode b_S_atomIsTrue 19 = .ok (.iconst 0, 1) := by decide +kernel
theorem d_S_atomIsTrue_20 : decode b_S_atomIsTrue 20 = .ok (.ireturn, 1) := by decide +kernel
theorem d_S_atomIsTrue_21 : decode b_S_atomIsTrue 21 = .ok (.iload_n 2, 1) := by decide +kernel
theorem d_S_atomIsTrue_22 : decode b_S_atomIsTrue 22 = .ok (.aload_n 0, 1) := by decide +kernel
theorem d_S_atomIsTrue_23 : decode b_S_atomIsTrue 23 = .ok (.getfield 15, 3) := by decide +kernel
theorem d_S_atomIsTrue_26 : decode b_S_atomIsTrue 26 = .ok (.iload_n 1, 1) := by decide +kernel
theorem d_S_atomIsTrue_27 : decode b_S_atomIsTrue 27 = .ok (.caload, 1) := by decide +kernel
theorem d_S_atomIsTrue_28 : decode b_S_atomIsTrue 28 = .ok (.bipush 60, 2) := by decide +kernel
theorem d_S_atomIsTrue_30 : decode b_S_atomIsTrue 30 = .ok (.if_icmp .ne 7, 3) := by decide +kernel
theorem d_S_atomIsTrue_33 : decode b_S_atomIsTrue 33 = .ok (.iconst (-1), 1) := by decide +kernel
theorem d_S_atomIsTrue_34 : decode b_S_atomIsTrue 34 = .ok (.goto 4, 3) := by decide +kernel
theorem d_S_atomIsTrue_37 : decode b_S_atomIsTrue 37 = .ok (.iconst 1, 1) := by decide +kernel
theorem d_S_atomIsTrue_38 : decode b_S_atomIsTrue 38 = .ok (.if_icmp .ne 7, 3) := by decide +kernel
theorem d_S_atomIsTrue_41 : decode b_S_atomIsTrue 41 = .ok (.iconst 1, 1) := by decide +kernel
theorem d_S_atomIsTrue_42 : decode b_S_atomIsTrue 42 = .ok (.goto 4, 3) := by decide +kernel
theorem d_S_atomIsTrue_45 : decode b_S_atomIsTrue 45 = .ok (.iconst 0, 1) := by decide +kernel
theorem d_S_atomIsTrue_46 : decode b_S_atomIsTrue 46 = .ok (.ireturn, 1) := by decide +kernel
theorem d_Q_trueIn_0 : decode b_Q_trueIn 0 = .ok (.iconst 0, 1) := by decide +kernel
theorem d_Q_trueIn_1 : decode b_Q_trueIn 1 = .ok (.istore_n 2, 1) := by decide +kernel
theorem d_Q_trueIn_2 : decode b_Q_trueIn 2 = .ok (.iconst 0, 1) := by decide +kernel
theorem d_Q_trueIn_3 : decode b_Q_trueIn 3 = .ok (.istore_n 3, 1) := by decide +kernel
theorem d_Q_trueIn_4 : decode b_Q_trueIn 4 = .ok (.iload_n 3, 1) := by decide +kernel
theorem d_Q_trueIn_5 : decode b_Q_trueIn 5 = .ok (.aload_n 0, 1) := by decide +kernel
theorem d_Q_trueIn_6 : decode b_Q_trueIn 6 = .ok (.getfield 35, 3) := by decide +kernel
theorem d_Q_trueIn_9 : decode b_Q_trueIn 9 = .ok (.getfield 89, 3) := by decide +kernel
theorem d_Q_trueIn_12 : decode b_Q_trueIn 12 = .ok (.if_icmp .ge 103, 3) := by decide +kernel
theorem d_Q_trueIn_15 : decode b_Q_trueIn 15 = .ok (.aload_n 0, 1) := by decide +kernel
theorem d_Q_trueIn_16 : decode b_Q_trueIn 16 = .ok (.getfield 35, 3) := by decide +kernel
theorem d_Q_trueIn_19 : decode b_Q_trueIn 19 = .ok (.getfield 92, 3) := by decide +kernel
theorem d_Q_trueIn_22 : decode b_Q_trueIn 22 = .ok (.iload_n 3, 1) := by decide +kernel
theorem d_Q_trueIn_23 : decode b_Q_trueIn 23 = .ok (.iaload, 1) := by decide +kernel
theorem d_Q_trueIn_24 : decode b_Q_trueIn 24 = .ok (.istore 4, 2) := by decide +kernel
theorem d_Q_trueIn_26 : decode b_Q_trueIn 26 = .ok (.iload 4, 2) := by decide +kernel
theorem d_Q_trueIn_28 : decode b_Q_trueIn 28 = .ok (.iconst 4, 1) := by decide +kernel
theorem d_Q_trueIn_29 : decode b_Q_trueIn 29 = .ok (.if_icmp .lt 41, 3) := by decide +kernel
theorem d_Q_trueIn_32 : decode b_Q_trueIn 32 = .ok (.iload 4, 2) := by decide +kernel
theorem d_Q_trueIn_34 : decode b_Q_trueIn 34 = .ok (.iconst 4, 1) := by decide +kernel
theorem d_Q_trueIn_35 : decode b_Q_trueIn 35 = .ok (.isub, 1) := by decide +kernel
theorem d_Q_trueIn_36 : decode b_Q_trueIn 36 = .ok (.istore 5, 2) := by decide +kernel
theorem d_Q_trueIn_38 : decode b_Q_trueIn 38 = .ok (.iload_n 2, 1) := by decide +kernel
theorem d_Q_trueIn_39 : decode b_Q_trueIn 39 = .ok (.iconst 1, 1) := by decide +kernel
theorem d_Q_trueIn_40 : decode b_Q_trueIn 40 = .ok (.ishl, 1) := by decide +kernel
theorem d_Q_trueIn_41 : decode b_Q_trueIn 41 = .ok (.aload_n 0, 1) := by decide +kernel
theorem d_Q_trueIn_42 : decode b_Q_trueIn 42 = .ok (.getfield 35, 3) := by decide +kernel
theorem d_Q_trueIn_45 : decode b_Q_trueIn 45 = .ok (.iload 5, 2) := by decide +kernel
theorem d_Q_trueIn_47 : decode b_Q_trueIn 47 = .ok (.aload_n 0, 1) := by decide +kernel
theorem d_Q_trueIn_48 : decode b_Q_trueIn 48 = .ok (.iload_n 1, 1) := by decide +kernel
theorem d_Q_trueIn_49 : decode b_Q_trueIn 49 = .ok (.iload 5, 2) := by decide +kernel
theorem d_Q_trueIn_51 : decode b_Q_trueIn 51 = .ok (.invokevirtual 95, 3) := by decide +kernel
theorem d_Q_trueIn_54 : decode b_Q_trueIn 54 = .ok (.invokevirtual 98, 3) := by decide +kernel
theorem d_Q_trueIn_57 : decode b_Q_trueIn 57 = .ok (.ifCond .eq 7, 3) := by decide +kernel
theorem d_Q_trueIn_60 : decode b_Q_trueIn 60 = .ok (.iconst 1, 1) := by decide +kernel
theorem d_Q_trueIn_61 : decode b_Q_trueIn 61 = .ok (.goto 4, 3) := by decide +kernel
theorem d_Q_trueIn_64 : decode b_Q_trueIn 64 = .ok (.iconst 0, 1) := by decide +kernel
theorem d_Q_trueIn_65 : decode b_Q_trueIn 65 = .ok (.ior, 1) := by decide +kernel
theorem d_Q_trueIn_66 : decode b_Q_trueIn 66 = .ok (.istore_n 2, 1) := by decide +kernel
theorem d_Q_trueIn_67 : decode b_Q_trueIn 67 = .ok (.goto 42, 3) := by decide +kernel
theorem d_Q_trueIn_70 : decode b_Q_trueIn 70 = .ok (.iload 4, 2) := by decide +kernel
theorem d_Q_trueIn_72 : decode b_Q_trueIn 72 = .ok (.iconst 3, 1) := by decide +kernel
theorem d_Q_trueIn_73 : decode b_Q_trueIn 73 = .ok (.if_icmp .ne 10, 3) := by decide +kernel
theorem d_Q_trueIn_76 : decode b_Q_trueIn 76 = .ok (.iload_n 2, 1) := by decide +kernel
theorem d_Q_trueIn_77 : decode b_Q_trueIn 77 = .ok (.iconst 1, 1) := by decide +kernel
theorem d_Q_trueIn_78 : decode b_Q_trueIn 78 = .ok (.ixor, 1) := by decide +kernel
theorem d_Q_trueIn_79 : decode b_Q_trueIn 79 = .ok (.istore_n 2, 1) := by decide +kernel
theorem d_Q_trueIn_80 : decode b_Q_trueIn 80 = .ok (.goto 29, 3) := by decide +kernel
theorem d_Q_trueIn_83 : decode b_Q_trueIn 83 = .ok (.iload 4, 2) := by decide +kernel
theorem d_Q_trueIn_85 : decode b_Q_trueIn 85 = .ok (.iconst 2, 1) := by decide +kernel
theorem d_Q_trueIn_86 : decode b_Q_trueIn 86 = .ok (.if_icmp .ne 15, 3) := by decide +kernel
theorem d_Q_trueIn_89 : decode b_Q_trueIn 89 = .ok (.iload_n 2, 1) := by decide +kernel
theorem d_Q_trueIn_90 : decode b_Q_trueIn 90 = .ok (.iconst 1, 1) := by decide +kernel
theorem d_Q_trueIn_91 : decode b_Q_trueIn 91 = .ok (.ishr, 1) := by decide +kernel
theorem d_Q_trueIn_92 : decode b_Q_trueIn 92 = .ok (.iload_n 2, 1) := by decide +kernel
theorem d_Q_trueIn_93 : decode b_Q_trueIn 93 = .ok (.bipush (-2), 2) := by decide +kernel
theorem d_Q_trueIn_95 : decode b_Q_trueIn 95 = .ok (.ior, 1) := by decide +kernel
theorem d_Q_trueIn_96 : decode b_Q_trueIn 96 = .ok (.iand, 1) := by decide +kernel
theorem d_Q_trueIn_97 : decode b_Q_trueIn 97 = .ok (.istore_n 2, 1) := by decide +kernel
theorem d_Q_trueIn_98 : decode b_Q_trueIn 98 = .ok (.goto 11, 3) := by decide +kernel
theorem d_Q_trueIn_101 : decode b_Q_trueIn 101 = .ok (.iload_n 2, 1) := by decide +kernel
theorem d_Q_trueIn_102 : decode b_Q_trueIn 102 = .ok (.iconst 1, 1) := by decide +kernel
theorem d_Q_trueIn_103 : decode b_Q_trueIn 103 = .ok (.ishr, 1) := by decide +kernel
theorem d_Q_trueIn_104 : decode b_Q_trueIn 104 = .ok (.iload_n 2, 1) := by decide +kernel
theorem d_Q_trueIn_105 : decode b_Q_trueIn 105 = .ok (.iconst 1, 1) := by decide +kernel
theorem d_Q_trueIn_106 : decode b_Q_trueIn 106 = .ok (.iand, 1) := by decide +kernel
theorem d_Q_trueIn_107 : decode b_Q_trueIn 107 = .ok (.ior, 1) := by decide +kernel
theorem d_Q_trueIn_108 : decode b_Q_trueIn 108 = .ok (.istore_n 2, 1) := by decide +kernel
theorem d_Q_trueIn_109 : decode b_Q_trueIn 109 = .ok (.iinc 3 1, 3) := by decide +kernel
theorem d_Q_trueIn_112 : decode b_Q_trueIn 112 = .ok (.goto (-108), 3) := by decide +kernel
theorem d_Q_trueIn_115 : decode b_Q_trueIn 115 = .ok (.iload_n 2, 1) := by decide +kernel
theorem d_Q_trueIn_116 : decode b_Q_trueIn 116 = .ok (.iconst 1, 1) := by decide +kernel
theorem d_Q_trueIn_117 : decode b_Q_trueIn 117 = .ok (.iand, 1) := by decide +kernel
theorem d_Q_trueIn_118 : decode b_Q_trueIn 118 = .ok (.iconst 1, 1) := by decide +kernel
theorem d_Q_trueIn_119 : decode b_Q_trueIn 119 = .ok (.if_icmp .ne 7, 3) := by decide +kernel
theorem d_Q_trueIn_122 : decode b_Q_trueIn 122 = .ok (.iconst 1, 1) := by decide +kernel
theorem d_Q_trueIn_123 : decode b_Q_trueIn 123 = .ok (.goto 4, 3) := by decide +kernel
theorem d_Q_trueIn_126 : decode b_Q_trueIn 126 = .ok (.iconst 0, 1) := by decide +kernel
theorem d_Q_trueIn_127 : decode b_Q_trueIn 127 = .ok (.ireturn, 1) := by decide +kernel
theorem d_Q_columnHolds_0 : decode b_Q_columnHolds 0 = .ok (.iconst 0, 1) := by decide +kernel
theorem d_Q_columnHolds_1 : decode b_Q_columnHolds 1 = .ok (.istore_n 1, 1) := by decide +kernel
theorem d_Q_columnHolds_2 : decode b_Q_columnHolds 2 = .ok (.iload_n 1, 1) := by decide +kernel
theorem d_Q_columnHolds_3 : decode b_Q_columnHolds 3 = .ok (.aload_n 0, 1) := by decide +kernel
theorem d_Q_columnHolds_4 : decode b_Q_columnHolds 4 = .ok (.getfield 66, 3) := by decide +kernel
theorem d_Q_columnHolds_7 : decode b_Q_columnHolds 7 = .ok (.if_icmp .ge 40, 3) := by decide +kernel
theorem d_Q_columnHolds_10 : decode b_Q_columnHolds 10 = .ok (.aload_n 0, 1) := by decide +kernel
theorem d_Q_columnHolds_11 : decode b_Q_columnHolds 11 = .ok (.iload_n 1, 1) := by decide +kernel
theorem d_Q_columnHolds_12 : decode b_Q_columnHolds 12 = .ok (.invokevirtual 102, 3) := by decide +kernel
theorem d_Q_columnHolds_15 : decode b_Q_columnHolds 15 = .ok (.aload_n 0, 1) := by decide +kernel
theorem d_Q_columnHolds_16 : decode b_Q_columnHolds 16 = .ok (.getfield 35, 3) := by decide +kernel
theorem d_Q_columnHolds_19 : decode b_Q_columnHolds 19 = .ok (.getfield 106, 3) := by decide +kernel
theorem d_Q_columnHolds_22 : decode b_Q_columnHolds 22 = .ok (.if_icmp .eq 19, 3) := by decide +kernel
theorem d_Q_columnHolds_25 : decode b_Q_columnHolds 25 = .ok (.aload_n 0, 1) := by decide +kernel
theorem d_Q_columnHolds_26 : decode b_Q_columnHolds 26 = .ok (.getfield 35, 3) := by decide +kernel
theorem d_Q_columnHolds_29 : decode b_Q_columnHolds 29 = .ok (.getfield 106, 3) := by decide +kernel
theorem d_Q_columnHolds_32 : decode b_Q_columnHolds 32 = .ok (.ifCond .ne 7, 3) := by decide +kernel
theorem d_Q_columnHolds_35 : decode b_Q_columnHolds 35 = .ok (.iconst 1, 1) := by decide +kernel
theorem d_Q_columnHolds_36 : decode b_Q_columnHolds 36 = .ok (.goto 4, 3) := by decide +kernel
theorem d_Q_columnHolds_39 : decode b_Q_columnHolds 39 = .ok (.iconst 0, 1) := by decide +kernel
theorem d_Q_columnHolds_40 : decode b_Q_columnHolds 40 = .ok (.ireturn, 1) := by decide +kernel
theorem d_Q_columnHolds_41 : decode b_Q_columnHolds 41 = .ok (.iinc 1 1, 3) := by decide +kernel
theorem d_Q_columnHolds_44 : decode b_Q_columnHolds 44 = .ok (.goto (-42), 3) := by decide +kernel
theorem d_Q_columnHolds_47 : decode b_Q_columnHolds 47 = .ok (.aload_n 0, 1) := by decide +kernel
theorem d_Q_columnHolds_48 : decode b_Q_columnHolds 48 = .ok (.getfield 35, 3) := by decide +kernel
theorem d_Q_columnHolds_51 : decode b_Q_columnHolds 51 = .ok (.getfield 106, 3) := by decide +kernel
theorem d_Q_columnHolds_54 : decode b_Q_columnHolds 54 = .ok (.ireturn, 1) := by decide +kernel
theorem d_R_clear_0 : decode b_R_clear 0 = .ok (.aload_n 0, 1) := by decide +kernel
theorem d_R_clear_1 : decode b_R_clear 1 = .ok (.iconst 0, 1) := by decide +kernel
theorem d_R_clear_2 : decode b_R_clear 2 = .ok (.putfield 26, 3) := by decide +kernel
theorem d_R_clear_5 : decode b_R_clear 5 = .ok (.aload_n 0, 1) := by decide +kernel
theorem d_R_clear_6 : decode b_R_clear 6 = .ok (.iconst 0, 1) := by decide +kernel
theorem d_R_clear_7 : decode b_R_clear 7 = .ok (.putfield 30, 3) := by decide +kernel
theorem d_R_clear_10 : decode b_R_clear 10 = .ok (.return_, 1) := by decide +kernel
theorem d_R_append_0 : decode b_R_append 0 = .ok (.iload_n 1, 1) := by decide +kernel
theorem d_R_append_1 : decode b_R_append 1 = .ok (.bipush 32, 2) := by decide +kernel
theorem d_R_append_3 : decode b_R_append 3 = .ok (.if_icmp .lt 18, 3) := by decide +kernel
theorem d_R_append_6 : decode b_R_append 6 = .ok (.iload_n 1, 1) := by decide +kernel
end
section
theorem d_R_append_7 : decode b_R_append 7 = .ok (.bipush 126, 2) := by decide +kernel
theorem d_R_append_9 : decode b_R_append 9 = .ok (.if_icmp .gt 12, 3) := by decide +kernel
theorem d_R_append_12 : decode b_R_append 12 = .ok (.aload_n 0, 1) := by decide +kernel
theorem d_R_append_13 : decode b_R_append 13 = .ok (.getfield 26, 3) := by decide +kernel
theorem d_R_append_16 : decode b_R_append 16 = .ok (.bipush 80, 2) := by decide +kernel
theorem d_R_append_18 : decode b_R_append 18 = .ok (.if_icmp .lt 5, 3) := by decide +kernel
theorem d_R_append_21 : decode b_R_append 21 = .ok (.iconst 0, 1) := by decide +kernel
theorem d_R_append_22 : decode b_R_append 22 = .ok (.ireturn, 1) := by decide +kernel
theorem d_R_append_23 : decode b_R_append 23 = .ok (.aload_n 0, 1) := by decide +kernel
theorem d_R_append_24 : decode b_R_append 24 = .ok (.dup, 1) := by decide +kernel
theorem d_R_append_25 : decode b_R_append 25 = .ok (.getfield 26, 3) := by decide +kernel
theorem d_R_append_28 : decode b_R_append 28 = .ok (.iconst 1, 1) := by decide +kernel
theorem d_R_append_29 : decode b_R_append 29 = .ok (.iadd, 1) := by decide +kernel
theorem d_R_append_30 : decode b_R_append 30 = .ok (.putfield 26, 3) := by decide +kernel
theorem d_R_append_33 : decode b_R_append 33 = .ok (.iload_n 1, 1) := by decide +kernel
theorem d_R_append_34 : decode b_R_append 34 = .ok (.bipush 32, 2) := by decide +kernel
theorem d_R_append_36 : decode b_R_append 36 = .ok (.if_icmp .eq 23, 3) := by decide +kernel
theorem d_R_append_39 : decode b_R_append 39 = .ok (.aload_n 0, 1) := by decide +kernel
theorem d_R_append_40 : decode b_R_append 40 = .ok (.getfield 9, 3) := by decide +kernel
theorem d_R_append_43 : decode b_R_append 43 = .ok (.aload_n 0, 1) := by decide +kernel
theorem d_R_append_44 : decode b_R_append 44 = .ok (.getfield 30, 3) := by decide +kernel
theorem d_R_append_47 : decode b_R_append 47 = .ok (.iload_n 1, 1) := by decide +kernel
theorem d_R_append_48 : decode b_R_append 48 = .ok (.castore, 1) := by decide +kernel
theorem d_R_append_49 : decode b_R_append 49 = .ok (.aload_n 0, 1) := by decide +kernel
theorem d_R_append_50 : decode b_R_append 50 = .ok (.dup, 1) := by decide +kernel
theorem d_R_append_51 : decode b_R_append 51 = .ok (.getfield 30, 3) := by decide +kernel
theorem d_R_append_54 : decode b_R_append 54 = .ok (.iconst 1, 1) := by decide +kernel
theorem d_R_append_55 : decode b_R_append 55 = .ok (.iadd, 1) := by decide +kernel
theorem d_R_append_56 : decode b_R_append 56 = .ok (.putfield 30, 3) := by decide +kernel
theorem d_R_append_59 : decode b_R_append 59 = .ok (.iconst 1, 1) := by decide +kernel
theorem d_R_append_60 : decode b_R_append 60 = .ok (.ireturn, 1) := by decide +kernel
theorem d_R_countOpenings_0 : decode b_R_countOpenings 0 = .ok (.iconst 0, 1) := by decide +kernel
theorem d_R_countOpenings_1 : decode b_R_countOpenings 1 = .ok (.istore_n 1, 1) := by decide +kernel
theorem d_R_countOpenings_2 : decode b_R_countOpenings 2 = .ok (.iconst 0, 1) := by decide +kernel
theorem d_R_countOpenings_3 : decode b_R_countOpenings 3 = .ok (.istore_n 2, 1) := by decide +kernel
theorem d_R_countOpenings_4 : decode b_R_countOpenings 4 = .ok (.iload_n 2, 1) := by decide +kernel
theorem d_R_countOpenings_5 : decode b_R_countOpenings 5 = .ok (.aload_n 0, 1) := by decide +kernel
theorem d_R_countOpenings_6 : decode b_R_countOpenings 6 = .ok (.getfield 30, 3) := by decide +kernel
theorem d_R_countOpenings_9 : decode b_R_countOpenings 9 = .ok (.if_icmp .ge 23, 3) := by decide +kernel
theorem d_R_countOpenings_12 : decode b_R_countOpenings 12 = .ok (.aload_n 0, 1) := by decide +kernel
theorem d_R_countOpenings_13 : decode b_R_countOpenings 13 = .ok (.getfield 9, 3) := by decide +kernel
theorem d_R_countOpenings_16 : decode b_R_countOpenings 16 = .ok (.iload_n 2, 1) := by decide +kernel
theorem d_R_countOpenings_17 : decode b_R_countOpenings 17 = .ok (.caload, 1) := by decide +kernel
theorem d_R_countOpenings_18 : decode b_R_countOpenings 18 = .ok (.bipush 40, 2) := by decide +kernel
theorem d_R_countOpenings_20 : decode b_R_countOpenings 20 = .ok (.if_icmp .ne 6, 3) := by decide +kernel
theorem d_R_countOpenings_23 : decode b_R_countOpenings 23 = .ok (.iinc 1 1, 3) := by decide +kernel
theorem d_R_countOpenings_26 : decode b_R_countOpenings 26 = .ok (.iinc 2 1, 3) := by decide +kernel
theorem d_R_countOpenings_29 : decode b_R_countOpenings 29 = .ok (.goto (-25), 3) := by decide +kernel
theorem d_R_countOpenings_32 : decode b_R_countOpenings 32 = .ok (.iload_n 1, 1) := by decide +kernel
theorem d_R_countOpenings_33 : decode b_R_countOpenings 33 = .ok (.ireturn, 1) := by decide +kernel
theorem d_S_clear_0 : decode b_S_clear 0 = .ok (.aload_n 0, 1) := by decide +kernel
theorem d_S_clear_1 : decode b_S_clear 1 = .ok (.iconst 0, 1) := by decide +kernel
theorem d_S_clear_2 : decode b_S_clear 2 = .ok (.putfield 22, 3) := by decide +kernel
theorem d_S_clear_5 : decode b_S_clear 5 = .ok (.aload_n 0, 1) := by decide +kernel
theorem d_S_clear_6 : decode b_S_clear 6 = .ok (.iconst 0, 1) := by decide +kernel
theorem d_S_clear_7 : decode b_S_clear 7 = .ok (.putfield 26, 3) := by decide +kernel
theorem d_S_clear_10 : decode b_S_clear 10 = .ok (.return_, 1) := by decide +kernel
theorem d_R_peek_0 : decode b_R_peek 0 = .ok (.aload_n 0, 1) := by decide +kernel
theorem d_R_peek_1 : decode b_R_peek 1 = .ok (.getfield 33, 3) := by decide +kernel
theorem d_R_peek_4 : decode b_R_peek 4 = .ok (.aload_n 0, 1) := by decide +kernel
theorem d_R_peek_5 : decode b_R_peek 5 = .ok (.getfield 30, 3) := by decide +kernel
theorem d_R_peek_8 : decode b_R_peek 8 = .ok (.if_icmp .ge 15, 3) := by decide +kernel
theorem d_R_peek_11 : decode b_R_peek 11 = .ok (.aload_n 0, 1) := by decide +kernel
theorem d_R_peek_12 : decode b_R_peek 12 = .ok (.getfield 9, 3) := by decide +kernel
theorem d_R_peek_15 : decode b_R_peek 15 = .ok (.aload_n 0, 1) := by decide +kernel
theorem d_R_peek_16 : decode b_R_peek 16 = .ok (.getfield 33, 3) := by decide +kernel
theorem d_R_peek_19 : decode b_R_peek 19 = .ok (.caload, 1) := by decide +kernel
theorem d_R_peek_20 : decode b_R_peek 20 = .ok (.goto 4, 3) := by decide +kernel
theorem d_R_peek_23 : decode b_R_peek 23 = .ok (.iconst 0, 1) := by decide +kernel
theorem d_R_peek_24 : decode b_R_peek 24 = .ok (.ireturn, 1) := by decide +kernel
theorem d_R_take_0 : decode b_R_take 0 = .ok (.aload_n 0, 1) := by decide +kernel
theorem d_R_take_1 : decode b_R_take 1 = .ok (.invokevirtual 67, 3) := by decide +kernel
theorem d_R_take_4 : decode b_R_take 4 = .ok (.iload_n 1, 1) := by decide +kernel
theorem d_R_take_5 : decode b_R_take 5 = .ok (.if_icmp .eq 5, 3) := by decide +kernel
theorem d_R_take_8 : decode b_R_take 8 = .ok (.iconst 0, 1) := by decide +kernel
theorem d_R_take_9 : decode b_R_take 9 = .ok (.ireturn, 1) := by decide +kernel
theorem d_R_take_10 : decode b_R_take 10 = .ok (.aload_n 0, 1) := by decide +kernel
theorem d_R_take_11 : decode b_R_take 11 = .ok (.dup, 1) := by decide +kernel
theorem d_R_take_12 : decode b_R_take 12 = .ok (.getfield 33, 3) := by decide +kernel
theorem d_R_take_15 : decode b_R_take 15 = .ok (.iconst 1, 1) := by decide +kernel
theorem d_R_take_16 : decode b_R_take 16 = .ok (.iadd, 1) := by decide +kernel
theorem d_R_take_17 : decode b_R_take 17 = .ok (.putfield 33, 3) := by decide +kernel
theorem d_R_take_20 : decode b_R_take 20 = .ok (.iconst 1, 1) := by decide +kernel
theorem d_R_take_21 : decode b_R_take 21 = .ok (.ireturn, 1) := by decide +kernel
theorem d_R_takeQuantifier_0 : decode b_R_takeQuantifier 0 = .ok (.aload_n 0, 1) := by decide +kernel
theorem d_R_takeQuantifier_1 : decode b_R_takeQuantifier 1 = .ok (.bipush 65, 2) := by decide +kernel
theorem d_R_takeQuantifier_3 : decode b_R_takeQuantifier 3 = .ok (.invokevirtual 78, 3) := by decide +kernel
theorem d_R_takeQuantifier_6 : decode b_R_takeQuantifier 6 = .ok (.ifCond .ne 12, 3) := by decide +kernel
theorem d_R_takeQuantifier_9 : decode b_R_takeQuantifier 9 = .ok (.aload_n 0, 1) := by decide +kernel
theorem d_R_takeQuantifier_10 : decode b_R_takeQuantifier 10 = .ok (.bipush 69, 2) := by decide +kernel
theorem d_R_takeQuantifier_12 : decode b_R_takeQuantifier 12 = .ok (.invokevirtual 78, 3) := by decide +kernel
theorem d_R_takeQuantifier_15 : decode b_R_takeQuantifier 15 = .ok (.ifCond .eq 7, 3) := by decide +kernel
theorem d_R_takeQuantifier_18 : decode b_R_takeQuantifier 18 = .ok (.iconst 1, 1) := by decide +kernel
theorem d_R_takeQuantifier_19 : decode b_R_takeQuantifier 19 = .ok (.goto 4, 3) := by decide +kernel
theorem d_R_takeQuantifier_22 : decode b_R_takeQuantifier 22 = .ok (.iconst 0, 1) := by decide +kernel
theorem d_R_takeQuantifier_23 : decode b_R_takeQuantifier 23 = .ok (.ireturn, 1) := by decide +kernel
theorem d_R_takeHead_0 : decode b_R_takeHead 0 = .ok (.aload_n 0, 1) := by decide +kernel
theorem d_R_takeHead_1 : decode b_R_takeHead 1 = .ok (.getfield 22, 3) := by decide +kernel
theorem d_R_takeHead_4 : decode b_R_takeHead 4 = .ok (.aload_n 0, 1) := by decide +kernel
theorem d_R_takeHead_5 : decode b_R_takeHead 5 = .ok (.invokevirtual 67, 3) := by decide +kernel
theorem d_R_takeHead_8 : decode b_R_takeHead 8 = .ok (.bipush 65, 2) := by decide +kernel
theorem d_R_takeHead_10 : decode b_R_takeHead 10 = .ok (.if_icmp .ne 7, 3) := by decide +kernel
theorem d_R_takeHead_13 : decode b_R_takeHead 13 = .ok (.iconst 1, 1) := by decide +kernel
theorem d_R_takeHead_14 : decode b_R_takeHead 14 = .ok (.goto 4, 3) := by decide +kernel
theorem d_R_takeHead_17 : decode b_R_takeHead 17 = .ok (.iconst 0, 1) := by decide +kernel
theorem d_R_takeHead_18 : decode b_R_takeHead 18 = .ok (.putfield 71, 3) := by decide +kernel
theorem d_R_takeHead_21 : decode b_R_takeHead 21 = .ok (.aload_n 0, 1) := by decide +kernel
theorem d_R_takeHead_22 : decode b_R_takeHead 22 = .ok (.invokevirtual 75, 3) := by decide +kernel
theorem d_R_takeHead_25 : decode b_R_takeHead 25 = .ok (.ifCond .eq 12, 3) := by decide +kernel
theorem d_R_takeHead_28 : decode b_R_takeHead 28 = .ok (.aload_n 0, 1) := by decide +kernel
theorem d_R_takeHead_29 : decode b_R_takeHead 29 = .ok (.bipush 120, 2) := by decide +kernel
theorem d_R_takeHead_31 : decode b_R_takeHead 31 = .ok (.invokevirtual 78, 3) := by decide +kernel
theorem d_R_takeHead_34 : decode b_R_takeHead 34 = .ok (.ifCond .ne 5, 3) := by decide +kernel
theorem d_R_takeHead_37 : decode b_R_takeHead 37 = .ok (.iconst 0, 1) := by decide +kernel
theorem d_R_takeHead_38 : decode b_R_takeHead 38 = .ok (.ireturn, 1) := by decide +kernel
theorem d_R_takeHead_39 : decode b_R_takeHead 39 = .ok (.aload_n 0, 1) := by decide +kernel
theorem d_R_takeHead_40 : decode b_R_takeHead 40 = .ok (.getfield 22, 3) := by decide +kernel
theorem d_R_takeHead_43 : decode b_R_takeHead 43 = .ok (.aload_n 0, 1) := by decide +kernel
theorem d_R_takeHead_44 : decode b_R_takeHead 44 = .ok (.invokevirtual 67, 3) := by decide +kernel
theorem d_R_takeHead_47 : decode b_R_takeHead 47 = .ok (.bipush 65, 2) := by decide +kernel
theorem d_R_takeHead_49 : decode b_R_takeHead 49 = .ok (.if_icmp .ne 7, 3) := by decide +kernel
theorem d_R_takeHead_52 : decode b_R_takeHead 52 = .ok (.iconst 1, 1) := by decide +kernel
theorem d_R_takeHead_53 : decode b_R_takeHead 53 = .ok (.goto 4, 3) := by decide +kernel
theorem d_R_takeHead_56 : decode b_R_takeHead 56 = .ok (.iconst 0, 1) := by decide +kernel
theorem d_R_takeHead_57 : decode b_R_takeHead 57 = .ok (.putfield 82, 3) := by decide +kernel
theorem d_R_takeHead_60 : decode b_R_takeHead 60 = .ok (.aload_n 0, 1) := by decide +kernel
theorem d_R_takeHead_61 : decode b_R_takeHead 61 = .ok (.invokevirtual 75, 3) := by decide +kernel
theorem d_R_takeHead_64 : decode b_R_takeHead 64 = .ok (.ifCond .eq 25, 3) := by decide +kernel
theorem d_R_takeHead_67 : decode b_R_takeHead 67 = .ok (.aload_n 0, 1) := by decide +kernel
theorem d_R_takeHead_68 : decode b_R_takeHead 68 = .ok (.bipush 121, 2) := by decide +kernel
theorem d_R_takeHead_70 : decode b_R_takeHead 70 = .ok (.invokevirtual 78, 3) := by decide +kernel
theorem d_R_takeHead_73 : decode b_R_takeHead 73 = .ok (.ifCond .eq 16, 3) := by decide +kernel
theorem d_R_takeHead_76 : decode b_R_takeHead 76 = .ok (.aload_n 0, 1) := by decide +kernel
theorem d_R_takeHead_77 : decode b_R_takeHead 77 = .ok (.bipush 58, 2) := by decide +kernel
theorem d_R_takeHead_79 : decode b_R_takeHead 79 = .ok (.invokevirtual 78, 3) := by decide +kernel
theorem d_R_takeHead_82 : decode b_R_takeHead 82 = .ok (.ifCond .eq 7, 3) := by decide +kernel
theorem d_R_takeHead_85 : decode b_R_takeHead 85 = .ok (.iconst 1, 1) := by decide +kernel
theorem d_R_takeHead_86 : decode b_R_takeHead 86 = .ok (.goto 4, 3) := by decide +kernel
theorem d_R_takeHead_89 : decode b_R_takeHead 89 = .ok (.iconst 0, 1) := by decide +kernel
theorem d_R_takeHead_90 : decode b_R_takeHead 90 = .ok (.ireturn, 1) := by decide +kernel
theorem d_R_hold_0 : decode b_R_hold 0 = .ok (.aload_n 0, 1) := by decide +kernel
theorem d_R_hold_1 : decode b_R_hold 1 = .ok (.getfield 36, 3) := by decide +kernel
theorem d_R_hold_4 : decode b_R_hold 4 = .ok (.bipush 80, 2) := by decide +kernel
theorem d_R_hold_6 : decode b_R_hold 6 = .ok (.if_icmp .ge 23, 3) := by decide +kernel
theorem d_R_hold_9 : decode b_R_hold 9 = .ok (.aload_n 0, 1) := by decide +kernel
theorem d_R_hold_10 : decode b_R_hold 10 = .ok (.getfield 15, 3) := by decide +kernel
theorem d_R_hold_13 : decode b_R_hold 13 = .ok (.aload_n 0, 1) := by decide +kernel
theorem d_R_hold_14 : decode b_R_hold 14 = .ok (.getfield 36, 3) := by decide +kernel
theorem d_R_hold_17 : decode b_R_hold 17 = .ok (.iload_n 1, 1) := by decide +kernel
theorem d_R_hold_18 : decode b_R_hold 18 = .ok (.iastore, 1) := by decide +kernel
theorem d_R_hold_19 : decode b_R_hold 19 = .ok (.aload_n 0, 1) := by decide +kernel
theorem d_R_hold_20 : decode b_R_hold 20 = .ok (.dup, 1) := by decide +kernel
theorem d_R_hold_21 : decode b_R_hold 21 = .ok (.getfield 36, 3) := by decide +kernel
theorem d_R_hold_24 : decode b_R_hold 24 = .ok (.iconst 1, 1) := by decide +kernel
theorem d_R_hold_25 : decode b_R_hold 25 = .ok (.iadd, 1) := by decide +kernel
theorem d_R_hold_26 : decode b_R_hold 26 = .ok (.putfield 36, 3) := by decide +kernel
theorem d_R_hold_29 : decode b_R_hold 29 = .ok (.return_, 1) := by decide +kernel
theorem d_R_takeOpenings_0 : decode b_R_takeOpenings 0 = .ok (.aload_n 0, 1) := by decide +kernel
theorem d_R_takeOpenings_1 : decode b_R_takeOpenings 1 = .ok (.getfield 33, 3) := by decide +kernel
theorem d_R_takeOpenings_4 : decode b_R_takeOpenings 4 = .ok (.aload_n 0, 1) := by decide +kernel
theorem d_R_takeOpenings_5 : decode b_R_takeOpenings 5 = .ok (.getfield 30, 3) := by decide +kernel
theorem d_R_takeOpenings_8 : decode b_R_takeOpenings 8 = .ok (.if_icmp .ge 81, 3) := by decide +kernel
theorem d_R_takeOpenings_11 : decode b_R_takeOpenings 11 = .ok (.aload_n 0, 1) := by decide +kernel
theorem d_R_takeOpenings_12 : decode b_R_takeOpenings 12 = .ok (.getfield 9, 3) := by decide +kernel
theorem d_R_takeOpenings_15 : decode b_R_takeOpenings 15 = .ok (.aload_n 0, 1) := by decide +kernel
theorem d_R_takeOpenings_16 : decode b_R_takeOpenings 16 = .ok (.getfield 33, 3) := by decide +kernel
theorem d_R_takeOpenings_19 : decode b_R_takeOpenings 19 = .ok (.caload, 1) := by decide +kernel
theorem d_R_takeOpenings_20 : decode b_R_takeOpenings 20 = .ok (.bipush 126, 2) := by decide +kernel
theorem d_R_takeOpenings_22 : decode b_R_takeOpenings 22 = .ok (.if_icmp .eq 17, 3) := by decide +kernel
theorem d_R_takeOpenings_25 : decode b_R_takeOpenings 25 = .ok (.aload_n 0, 1) := by decide +kernel
theorem d_R_takeOpenings_26 : decode b_R_takeOpenings 26 = .ok (.getfield 9, 3) := by decide +kernel
theorem d_R_takeOpenings_29 : decode b_R_takeOpenings 29 = .ok (.aload_n 0, 1) := by decide +kernel
theorem d_R_takeOpenings_30 : decode b_R_takeOpenings 30 = .ok (.getfield 33, 3) := by decide +kernel
theorem d_R_takeOpenings_33 : decode b_R_takeOpenings 33 = .ok (.caload, 1) := by decide +kernel
theorem d_R_takeOpenings_34 : decode b_R_takeOpenings 34 = .ok (.bipush 40, 2) := by decide +kernel
theorem d_R_takeOpenings_36 : decode b_R_takeOpenings 36 = .ok (.if_icmp .ne 53, 3) := by decide +kernel
theorem d_R_takeOpenings_39 : decode b_R_takeOpenings 39 = .ok (.aload_n 0, 1) := by decide +kernel
theorem d_R_takeOpenings_40 : decode b_R_takeOpenings 40 = .ok (.getfield 9, 3) := by decide +kernel
theorem d_R_takeOpenings_43 : decode b_R_takeOpenings 43 = .ok (.aload_n 0, 1) := by decide +kernel
theorem d_R_takeOpenings_44 : decode b_R_takeOpenings 44 = .ok (.getfield 33, 3) := by decide +kernel
theorem d_R_takeOpenings_47 : decode b_R_takeOpenings 47 = .ok (.caload, 1) := by decide +kernel
theorem d_R_takeOpenings_48 : decode b_R_takeOpenings 48 = .ok (.bipush 40, 2) := by decide +kernel
theorem d_R_takeOpenings_50 : decode b_R_takeOpenings 50 = .ok (.if_icmp .ne 21, 3) := by decide +kernel
theorem d_R_takeOpenings_53 : decode b_R_takeOpenings 53 = .ok (.aload_n 0, 1) := by decide +kernel
theorem d_R_takeOpenings_54 : decode b_R_takeOpenings 54 = .ok (.dup, 1) := by decide +kernel
theorem d_R_takeOpenings_55 : decode b_R_takeOpenings 55 = .ok (.getfield 39, 3) := by decide +kernel
theorem d_R_takeOpenings_58 : decode b_R_takeOpenings 58 = .ok (.iconst 1, 1) := by decide +kernel
theorem d_R_takeOpenings_59 : decode b_R_takeOpenings 59 = .ok (.iadd, 1) := by decide +kernel
theorem d_R_takeOpenings_60 : decode b_R_takeOpenings 60 = .ok (.putfield 39, 3) := by decide +kernel
theorem d_R_takeOpenings_63 : decode b_R_takeOpenings 63 = .ok (.aload_n 0, 1) := by decide +kernel
theorem d_R_takeOpenings_64 : decode b_R_takeOpenings 64 = .ok (.iconst 0, 1) := by decide +kernel
theorem d_R_takeOpenings_65 : decode b_R_takeOpenings 65 = .ok (.invokevirtual 85, 3) := by decide +kernel
theorem d_R_takeOpenings_68 : decode b_R_takeOpenings 68 = .ok (.goto 8, 3) := by decide +kernel
theorem d_R_takeOpenings_71 : decode b_R_takeOpenings 71 = .ok (.aload_n 0, 1) := by decide +kernel
theorem d_R_takeOpenings_72 : decode b_R_takeOpenings 72 = .ok (.iconst 3, 1) := by decide +kernel
theorem d_R_takeOpenings_73 : decode b_R_takeOpenings 73 = .ok (.invokevirtual 85, 3) := by decide +kernel
theorem d_R_takeOpenings_76 : decode b_R_takeOpenings 76 = .ok (.aload_n 0, 1) := by decide +kernel
theorem d_R_takeOpenings_77 : decode b_R_takeOpenings 77 = .ok (.dup, 1) := by decide +kernel
theorem d_R_takeOpenings_78 : decode b_R_takeOpenings 78 = .ok (.getfield 33, 3) := by decide +kernel
theorem d_R_takeOpenings_81 : decode b_R_takeOpenings 81 = .ok (.iconst 1, 1) := by decide +kernel
theorem d_R_takeOpenings_82 : decode b_R_takeOpenings 82 = .ok (.iadd, 1) := by decide +kernel
theorem d_R_takeOpenings_83 : decode b_R_takeOpenings 83 = .ok (.putfield 33, 3) := by decide +kernel
theorem d_R_takeOpenings_86 : decode b_R_takeOpenings 86 = .ok (.goto (-86), 3) := by decide +kernel
theorem d_R_takeOpenings_89 : decode b_R_takeOpenings 89 = .ok (.return_, 1) := by decide +kernel
theorem d_R_numberOfLetter_0 : decode b_R_numberOfLetter 0 = .ok (.iload_n 0, 1) := by decide +kernel
theorem d_R_numberOfLetter_1 : decode b_R_numberOfLetter 1 = .ok (.bipush 120, 2) := by decide +kernel
theorem d_R_numberOfLetter_3 : decode b_R_numberOfLetter 3 = .ok (.if_icmp .ne 7, 3) := by decide +kernel
theorem d_R_numberOfLetter_6 : decode b_R_numberOfLetter 6 = .ok (.iconst 1, 1) := by decide +kernel
theorem d_R_numberOfLetter_7 : decode b_R_numberOfLetter 7 = .ok (.goto 14, 3) := by decide +kernel
theorem d_R_numberOfLetter_10 : decode b_R_numberOfLetter 10 = .ok (.iload_n 0, 1) := by decide +kernel
theorem d_R_numberOfLetter_11 : decode b_R_numberOfLetter 11 = .ok (.bipush 121, 2) := by decide +kernel
theorem d_R_numberOfLetter_13 : decode b_R_numberOfLetter 13 = .ok (.if_icmp .ne 7, 3) := by decide +kernel
theorem d_R_numberOfLetter_16 : decode b_R_numberOfLetter 16 = .ok (.iconst 2, 1) := by decide +kernel
theorem d_R_numberOfLetter_17 : decode b_R_numberOfLetter 17 = .ok (.goto 4, 3) := by decide +kernel
theorem d_R_numberOfLetter_20 : decode b_R_numberOfLetter 20 = .ok (.iconst 0, 1) := by decide +kernel
theorem d_R_numberOfLetter_21 : decode b_R_numberOfLetter 21 = .ok (.ireturn, 1) := by decide +kernel
theorem d_R_takeTerm_0 : decode b_R_takeTerm 0 = .ok (.aload_n 0, 1) := by decide +kernel
theorem d_R_takeTerm_1 : decode b_R_takeTerm 1 = .ok (.getfield 33, 3) := by decide +kernel
theorem d_R_takeTerm_4 : decode b_R_takeTerm 4 = .ok (.istore_n 2, 1) := by decide +kernel
theorem d_R_takeTerm_5 : decode b_R_takeTerm 5 = .ok (.iload_n 1, 1) := by decide +kernel
theorem d_R_takeTerm_6 : decode b_R_takeTerm 6 = .ok (.istore_n 3, 1) := by decide +kernel
theorem d_R_takeTerm_7 : decode b_R_takeTerm 7 = .ok (.aload_n 0, 1) := by decide +kernel
theorem d_R_takeTerm_8 : decode b_R_takeTerm 8 = .ok (.invokevirtual 67, 3) := by decide +kernel
theorem d_R_takeTerm_11 : decode b_R_takeTerm 11 = .ok (.istore 4, 2) := by decide +kernel
theorem d_R_takeTerm_13 : decode b_R_takeTerm 13 = .ok (.iload 4, 2) := by decide +kernel
theorem d_R_takeTerm_15 : decode b_R_takeTerm 15 = .ok (.bipush 48, 2) := by decide +kernel
theorem d_R_takeTerm_17 : decode b_R_takeTerm 17 = .ok (.if_icmp .lt 28, 3) := by decide +kernel
theorem d_R_takeTerm_20 : decode b_R_takeTerm 20 = .ok (.iload 4, 2) := by decide +kernel
theorem d_R_takeTerm_22 : decode b_R_takeTerm 22 = .ok (.bipush 57, 2) := by decide +kernel
theorem d_R_takeTerm_24 : decode b_R_takeTerm 24 = .ok (.if_icmp .gt 21, 3) := by decide +kernel
theorem d_R_takeTerm_27 : decode b_R_takeTerm 27 = .ok (.iload_n 1, 1) := by decide +kernel
theorem d_R_takeTerm_28 : decode b_R_takeTerm 28 = .ok (.iload 4, 2) := by decide +kernel
theorem d_R_takeTerm_30 : decode b_R_takeTerm 30 = .ok (.bipush 48, 2) := by decide +kernel
theorem d_R_takeTerm_32 : decode b_R_takeTerm 32 = .ok (.isub, 1) := by decide +kernel
theorem d_R_takeTerm_33 : decode b_R_takeTerm 33 = .ok (.imul, 1) := by decide +kernel
theorem d_R_takeTerm_34 : decode b_R_takeTerm 34 = .ok (.istore_n 3, 1) := by decide +kernel
theorem d_R_takeTerm_35 : decode b_R_takeTerm 35 = .ok (.aload_n 0, 1) := by decide +kernel
theorem d_R_takeTerm_36 : decode b_R_takeTerm 36 = .ok (.dup, 1) := by decide +kernel
theorem d_R_takeTerm_37 : decode b_R_takeTerm 37 = .ok (.getfield 33, 3) := by decide +kernel
theorem d_R_takeTerm_40 : decode b_R_takeTerm 40 = .ok (.iconst 1, 1) := by decide +kernel
theorem d_R_takeTerm_41 : decode b_R_takeTerm 41 = .ok (.iadd, 1) := by decide +kernel
theorem d_R_takeTerm_42 : decode b_R_takeTerm 42 = .ok (.putfield 33, 3) := by decide +kernel
theorem d_R_takeTerm_45 : decode b_R_takeTerm 45 = .ok (.iconst 0, 1) := by decide +kernel
theorem d_R_takeTerm_46 : decode b_R_takeTerm 46 = .ok (.istore 5, 2) := by decide +kernel
theorem d_R_takeTerm_48 : decode b_R_takeTerm 48 = .ok (.iconst 0, 1) := by decide +kernel
theorem d_R_takeTerm_49 : decode b_R_takeTerm 49 = .ok (.istore 6, 2) := by decide +kernel
theorem d_R_takeTerm_51 : decode b_R_takeTerm 51 = .ok (.iload 6, 2) := by decide +kernel
theorem d_R_takeTerm_53 : decode b_R_takeTerm 53 = .ok (.iconst 2, 1) := by decide +kernel
theorem d_R_takeTerm_54 : decode b_R_takeTerm 54 = .ok (.if_icmp .ge 48, 3) := by decide +kernel
theorem d_R_takeTerm_57 : decode b_R_takeTerm 57 = .ok (.aload_n 0, 1) := by decide +kernel
theorem d_R_takeTerm_58 : decode b_R_takeTerm 58 = .ok (.invokevirtual 67, 3) := by decide +kernel
theorem d_R_takeTerm_61 : decode b_R_takeTerm 61 = .ok (.invokestatic 102, 3) := by decide +kernel
theorem d_R_takeTerm_64 : decode b_R_takeTerm 64 = .ok (.istore 7, 2) := by decide +kernel
theorem d_R_takeTerm_66 : decode b_R_takeTerm 66 = .ok (.iload 5, 2) := by decide +kernel
theorem d_R_takeTerm_68 : decode b_R_takeTerm 68 = .ok (.iload 7, 2) := by decide +kernel
theorem d_R_takeTerm_70 : decode b_R_takeTerm 70 = .ok (.iand, 1) := by decide +kernel
theorem d_R_takeTerm_71 : decode b_R_takeTerm 71 = .ok (.iload 7, 2) := by decide +kernel
theorem d_R_takeTerm_73 : decode b_R_takeTerm 73 = .ok (.if_icmp .ne 6, 3) := by decide +kernel
theorem d_R_takeTerm_76 : decode b_R_takeTerm 76 = .ok (.goto 26, 3) := by decide +kernel
theorem d_R_takeTerm_79 : decode b_R_takeTerm 79 = .ok (.iload 5, 2) := by decide +kernel
theorem d_R_takeTerm_81 : decode b_R_takeTerm 81 = .ok (.iload 7, 2) := by decide +kernel
theorem d_R_takeTerm_83 : decode b_R_takeTerm 83 = .ok (.iadd, 1) := by decide +kernel
theorem d_R_takeTerm_84 : decode b_R_takeTerm 84 = .ok (.istore 5, 2) := by decide +kernel
theorem d_R_takeTerm_86 : decode b_R_takeTerm 86 = .ok (.aload_n 0, 1) := by decide +kernel
theorem d_R_takeTerm_87 : decode b_R_takeTerm 87 = .ok (.dup, 1) := by decide +kernel
theorem d_R_takeTerm_88 : decode b_R_takeTerm 88 = .ok (.getfield 33, 3) := by decide +kernel
theorem d_R_takeTerm_91 : decode b_R_takeTerm 91 = .ok (.iconst 1, 1) := by decide +kernel
theorem d_R_takeTerm_92 : decode b_R_takeTerm 92 = .ok (.iadd, 1) := by decide +kernel
theorem d_R_takeTerm_93 : decode b_R_takeTerm 93 = .ok (.putfield 33, 3) := by decide +kernel
theorem d_R_takeTerm_96 : decode b_R_takeTerm 96 = .ok (.iinc 6 1, 3) := by decide +kernel
theorem d_R_takeTerm_99 : decode b_R_takeTerm 99 = .ok (.goto (-48), 3) := by decide +kernel
theorem d_R_takeTerm_102 : decode b_R_takeTerm 102 = .ok (.aload_n 0, 1) := by decide +kernel
theorem d_R_takeTerm_103 : decode b_R_takeTerm 103 = .ok (.getfield 33, 3) := by decide +kernel
theorem d_R_takeTerm_106 : decode b_R_takeTerm 106 = .ok (.iload_n 2, 1) := by decide +kernel
theorem d_R_takeTerm_107 : decode b_R_takeTerm 107 = .ok (.if_icmp .ne 5, 3) := by decide +kernel
theorem d_R_takeTerm_110 : decode b_R_takeTerm 110 = .ok (.iconst 0, 1) := by decide +kernel
theorem d_R_takeTerm_111 : decode b_R_takeTerm 111 = .ok (.ireturn, 1) := by decide +kernel
theorem d_R_takeTerm_112 : decode b_R_takeTerm 112 = .ok (.aload_n 0, 1) := by decide +kernel
theorem d_R_takeTerm_113 : decode b_R_takeTerm 113 = .ok (.getfield 19, 3) := by decide +kernel
theorem d_R_takeTerm_116 : decode b_R_takeTerm 116 = .ok (.iload 5, 2) := by decide +kernel
theorem d_R_takeTerm_118 : decode b_R_takeTerm 118 = .ok (.dup2, 1) := by decide +kernel
theorem d_R_takeTerm_119 : decode b_R_takeTerm 119 = .ok (.iaload, 1) := by decide +kernel
theorem d_R_takeTerm_120 : decode b_R_takeTerm 120 = .ok (.iload_n 3, 1) := by decide +kernel
theorem d_R_takeTerm_121 : decode b_R_takeTerm 121 = .ok (.iadd, 1) := by decide +kernel
theorem d_R_takeTerm_122 : decode b_R_takeTerm 122 = .ok (.iastore, 1) := by decide +kernel
theorem d_R_takeTerm_123 : decode b_R_takeTerm 123 = .ok (.iconst 1, 1) := by decide +kernel
theorem d_R_takeTerm_124 : decode b_R_takeTerm 124 = .ok (.ireturn, 1) := by decide +kernel
theorem d_R_takeSum_0 : decode b_R_takeSum 0 = .ok (.aload_n 0, 1) := by decide +kernel
theorem d_R_takeSum_1 : decode b_R_takeSum 1 = .ok (.bipush 45, 2) := by decide +kernel
theorem d_R_takeSum_3 : decode b_R_takeSum 3 = .ok (.invokevirtual 78, 3) := by decide +kernel
theorem d_R_takeSum_6 : decode b_R_takeSum 6 = .ok (.ifCond .eq 8, 3) := by decide +kernel
theorem d_R_takeSum_9 : decode b_R_takeSum 9 = .ok (.iload_n 1, 1) := by decide +kernel
theorem d_R_takeSum_10 : decode b_R_takeSum 10 = .ok (.ineg, 1) := by decide +kernel
theorem d_R_takeSum_11 : decode b_R_takeSum 11 = .ok (.goto 4, 3) := by decide +kernel
theorem d_R_takeSum_14 : decode b_R_takeSum 14 = .ok (.iload_n 1, 1) := by decide +kernel
theorem d_R_takeSum_15 : decode b_R_takeSum 15 = .ok (.istore_n 2, 1) := by decide +kernel
theorem d_R_takeSum_16 : decode b_R_takeSum 16 = .ok (.iconst 0, 1) := by decide +kernel
theorem d_R_takeSum_17 : decode b_R_takeSum 17 = .ok (.istore_n 3, 1) := by decide +kernel
theorem d_R_takeSum_18 : decode b_R_takeSum 18 = .ok (.iload_n 3, 1) := by decide +kernel
theorem d_R_takeSum_19 : decode b_R_takeSum 19 = .ok (.aload_n 0, 1) := by decide +kernel
theorem d_R_takeSum_20 : decode b_R_takeSum 20 = .ok (.getfield 30, 3) := by decide +kernel
theorem d_R_takeSum_23 : decode b_R_takeSum 23 = .ok (.if_icmp .ge 50, 3) := by decide +kernel
theorem d_R_takeSum_26 : decode b_R_takeSum 26 = .ok (.aload_n 0, 1) := by decide +kernel
theorem d_R_takeSum_27 : decode b_R_takeSum 27 = .ok (.iload_n 2, 1) := by decide +kernel
theorem d_R_takeSum_28 : decode b_R_takeSum 28 = .ok (.invokevirtual 99, 3) := by decide +kernel
theorem d_R_takeSum_31 : decode b_R_takeSum 31 = .ok (.ifCond .ne 5, 3) := by decide +kernel
theorem d_R_takeSum_34 : decode b_R_takeSum 34 = .ok (.iconst 0, 1) := by decide +kernel
theorem d_R_takeSum_35 : decode b_R_takeSum 35 = .ok (.ireturn, 1) := by decide +kernel
theorem d_R_takeSum_36 : decode b_R_takeSum 36 = .ok (.aload_n 0, 1) := by decide +kernel
theorem d_R_takeSum_37 : decode b_R_takeSum 37 = .ok (.bipush 45, 2) := by decide +kernel
theorem d_R_takeSum_39 : decode b_R_takeSum 39 = .ok (.invokevirtual 78, 3) := by decide +kernel
theorem d_R_takeSum_42 : decode b_R_takeSum 42 = .ok (.ifCond .eq 9, 3) := by decide +kernel
theorem d_R_takeSum_45 : decode b_R_takeSum 45 = .ok (.iload_n 1, 1) := by decide +kernel
theorem d_R_takeSum_46 : decode b_R_takeSum 46 = .ok (.ineg, 1) := by decide +kernel
theorem d_R_takeSum_47 : decode b_R_takeSum 47 = .ok (.istore_n 2, 1) := by decide +kernel
theorem d_R_takeSum_48 : decode b_R_takeSum 48 = .ok (.goto 19, 3) := by decide +kernel
theorem d_R_takeSum_51 : decode b_R_takeSum 51 = .ok (.aload_n 0, 1) := by decide +kernel
theorem d_R_takeSum_52 : decode b_R_takeSum 52 = .ok (.bipush 43, 2) := by decide +kernel
theorem d_R_takeSum_54 : decode b_R_takeSum 54 = .ok (.invokevirtual 78, 3) := by decide +kernel
theorem d_R_takeSum_57 : decode b_R_takeSum 57 = .ok (.ifCond .eq 8, 3) := by decide +kernel
theorem d_R_takeSum_60 : decode b_R_takeSum 60 = .ok (.iload_n 1, 1) := by decide +kernel
theorem d_R_takeSum_61 : decode b_R_takeSum 61 = .ok (.istore_n 2, 1) := by decide +kernel
theorem d_R_takeSum_62 : decode b_R_takeSum 62 = .ok (.goto 5, 3) := by decide +kernel
theorem d_R_takeSum_65 : decode b_R_takeSum 65 = .ok (.iconst 1, 1) := by decide +kernel
theorem d_R_takeSum_66 : decode b_R_takeSum 66 = .ok (.ireturn, 1) := by decide +kernel
theorem d_R_takeSum_67 : decode b_R_takeSum 67 = .ok (.iinc 3 1, 3) := by decide +kernel
theorem d_R_takeSum_70 : decode b_R_takeSum 70 = .ok (.goto (-52), 3) := by decide +kernel
theorem d_R_takeSum_73 : decode b_R_takeSum 73 = .ok (.iconst 0, 1) := by decide +kernel
theorem d_R_takeSum_74 : decode b_R_takeSum 74 = .ok (.ireturn, 1) := by decide +kernel
theorem d_S_addStep_0 : decode b_S_addStep 0 = .ok (.aload_n 0, 1) := by decide +kernel
theorem d_S_addStep_1 : decode b_S_addStep 1 = .ok (.getfield 22, 3) := by decide +kernel
theorem d_S_addStep_4 : decode b_S_addStep 4 = .ok (.bipush 80, 2) := by decide +kernel
theorem d_S_addStep_6 : decode b_S_addStep 6 = .ok (.if_icmp .ge 23, 3) := by decide +kernel
theorem d_S_addStep_9 : decode b_S_addStep 9 = .ok (.aload_n 0, 1) := by decide +kernel
theorem d_S_addStep_10 : decode b_S_addStep 10 = .ok (.getfield 19, 3) := by decide +kernel
theorem d_S_addStep_13 : decode b_S_addStep 13 = .ok (.aload_n 0, 1) := by decide +kernel
theorem d_S_addStep_14 : decode b_S_addStep 14 = .ok (.getfield 22, 3) := by decide +kernel
theorem d_S_addStep_17 : decode b_S_addStep 17 = .ok (.iload_n 1, 1) := by decide +kernel
theorem d_S_addStep_18 : decode b_S_addStep 18 = .ok (.iastore, 1) := by decide +kernel
theorem d_S_addStep_19 : decode b_S_addStep 19 = .ok (.aload_n 0, 1) := by decide +kernel
theorem d_S_addStep_20 : decode b_S_addStep 20 = .ok (.dup, 1) := by decide +kernel
theorem d_S_addStep_21 : decode b_S_addStep 21 = .ok (.getfield 22, 3) := by decide +kernel
theorem d_S_addStep_24 : decode b_S_addStep 24 = .ok (.iconst 1, 1) := by decide +kernel
theorem d_S_addStep_25 : decode b_S_addStep 25 = .ok (.iadd, 1) := by decide +kernel
theorem d_S_addStep_26 : decode b_S_addStep 26 = .ok (.putfield 22, 3) := by decide +kernel
theorem d_S_addStep_29 : decode b_S_addStep 29 = .ok (.return_, 1) := by decide +kernel
theorem d_S_addAtom_0 : decode b_S_addAtom 0 = .ok (.aload_n 0, 1) := by decide +kernel
theorem d_S_addAtom_1 : decode b_S_addAtom 1 = .ok (.getfield 26, 3) := by decide +kernel
theorem d_S_addAtom_4 : decode b_S_addAtom 4 = .ok (.bipush 8, 2) := by decide +kernel
theorem d_S_addAtom_6 : decode b_S_addAtom 6 = .ok (.if_icmp .ge 29, 3) := by decide +kernel
theorem d_S_addAtom_9 : decode b_S_addAtom 9 = .ok (.aload_n 1, 1) := by decide +kernel
theorem d_S_addAtom_10 : decode b_S_addAtom 10 = .ok (.iconst 0, 1) := by decide +kernel
theorem d_S_addAtom_11 : decode b_S_addAtom 11 = .ok (.aload_n 0, 1) := by decide +kernel
theorem d_S_addAtom_12 : decode b_S_addAtom 12 = .ok (.getfield 9, 3) := by decide +kernel
theorem d_S_addAtom_15 : decode b_S_addAtom 15 = .ok (.aload_n 0, 1) := by decide +kernel
theorem d_S_addAtom_16 : decode b_S_addAtom 16 = .ok (.getfield 26, 3) := by decide +kernel
theorem d_S_addAtom_19 : decode b_S_addAtom 19 = .ok (.iconst 4, 1) := by decide +kernel
theorem d_S_addAtom_20 : decode b_S_addAtom 20 = .ok (.imul, 1) := by decide +kernel
theorem d_S_addAtom_21 : decode b_S_addAtom 21 = .ok (.iconst 4, 1) := by decide +kernel
theorem d_S_addAtom_22 : decode b_S_addAtom 22 = .ok (.invokestatic 29, 3) := by decide +kernel
theorem d_S_addAtom_25 : decode b_S_addAtom 25 = .ok (.aload_n 0, 1) := by decide +kernel
theorem d_S_addAtom_26 : decode b_S_addAtom 26 = .ok (.getfield 15, 3) := by decide +kernel
theorem d_S_addAtom_29 : decode b_S_addAtom 29 = .ok (.aload_n 0, 1) := by decide +kernel
theorem d_S_addAtom_30 : decode b_S_addAtom 30 = .ok (.getfield 26, 3) := by decide +kernel
theorem d_S_addAtom_33 : decode b_S_addAtom 33 = .ok (.iload_n 2, 1) := by decide +kernel
theorem d_S_addAtom_34 : decode b_S_addAtom 34 = .ok (.castore, 1) := by decide +kernel
theorem d_S_addAtom_35 : decode b_S_addAtom 35 = .ok (.aload_n 0, 1) := by decide +kernel
theorem d_S_addAtom_36 : decode b_S_addAtom 36 = .ok (.iconst 4, 1) := by decide +kernel
theorem d_S_addAtom_37 : decode b_S_addAtom 37 = .ok (.aload_n 0, 1) := by decide +kernel
theorem d_S_addAtom_38 : decode b_S_addAtom 38 = .ok (.getfield 26, 3) := by decide +kernel
theorem d_S_addAtom_41 : decode b_S_addAtom 41 = .ok (.iadd, 1) := by decide +kernel
theorem d_S_addAtom_42 : decode b_S_addAtom 42 = .ok (.invokevirtual 35, 3) := by decide +kernel
theorem d_S_addAtom_45 : decode b_S_addAtom 45 = .ok (.aload_n 0, 1) := by decide +kernel
theorem d_S_addAtom_46 : decode b_S_addAtom 46 = .ok (.dup, 1) := by decide +kernel
theorem d_S_addAtom_47 : decode b_S_addAtom 47 = .ok (.getfield 26, 3) := by decide +kernel
theorem d_S_addAtom_50 : decode b_S_addAtom 50 = .ok (.iconst 1, 1) := by decide +kernel
theorem d_S_addAtom_51 : decode b_S_addAtom 51 = .ok (.iadd, 1) := by decide +kernel
theorem d_S_addAtom_52 : decode b_S_addAtom 52 = .ok (.putfield 26, 3) := by decide +kernel
theorem d_S_addAtom_55 : decode b_S_addAtom 55 = .ok (.return_, 1) := by decide +kernel
theorem d_R_takeAtom_0 : decode b_R_takeAtom 0 = .ok (.iconst 0, 1) := by decide +kernel
theorem d_R_takeAtom_1 : decode b_R_takeAtom 1 = .ok (.istore_n 1, 1) := by decide +kernel
theorem d_R_takeAtom_2 : decode b_R_takeAtom 2 = .ok (.iload_n 1, 1) := by decide +kernel
theorem d_R_takeAtom_3 : decode b_R_takeAtom 3 = .ok (.iconst 4, 1) := by decide +kernel
theorem d_R_takeAtom_4 : decode b_R_takeAtom 4 = .ok (.if_icmp .ge 16, 3) := by decide +kernel
theorem d_R_takeAtom_7 : decode b_R_takeAtom 7 = .ok (.aload_n 0, 1) := by decide +kernel
theorem d_R_takeAtom_8 : decode b_R_takeAtom 8 = .ok (.getfield 19, 3) := by decide +kernel
theorem d_R_takeAtom_11 : decode b_R_takeAtom 11 = .ok (.iload_n 1, 1) := by decide +kernel
theorem d_R_takeAtom_12 : decode b_R_takeAtom 12 = .ok (.iconst 0, 1) := by decide +kernel
theorem d_R_takeAtom_13 : decode b_R_takeAtom 13 = .ok (.iastore, 1) := by decide +kernel
theorem d_R_takeAtom_14 : decode b_R_takeAtom 14 = .ok (.iinc 1 1, 3) := by decide +kernel
theorem d_R_takeAtom_17 : decode b_R_takeAtom 17 = .ok (.goto (-15), 3) := by decide +kernel
theorem d_R_takeAtom_20 : decode b_R_takeAtom 20 = .ok (.aload_n 0, 1) := by decide +kernel
theorem d_R_takeAtom_21 : decode b_R_takeAtom 21 = .ok (.iconst 1, 1) := by decide +kernel
theorem d_R_takeAtom_22 : decode b_R_takeAtom 22 = .ok (.invokevirtual 91, 3) := by decide +kernel
theorem d_R_takeAtom_25 : decode b_R_takeAtom 25 = .ok (.ifCond .ne 5, 3) := by decide +kernel
theorem d_R_takeAtom_28 : decode b_R_takeAtom 28 = .ok (.iconst 0, 1) := by decide +kernel
theorem d_R_takeAtom_29 : decode b_R_takeAtom 29 = .ok (.ireturn, 1) := by decide +kernel
theorem d_R_takeAtom_30 : decode b_R_takeAtom 30 = .ok (.aload_n 0, 1) := by decide +kernel
theorem d_R_takeAtom_31 : decode b_R_takeAtom 31 = .ok (.invokevirtual 67, 3) := by decide +kernel
theorem d_R_takeAtom_34 : decode b_R_takeAtom 34 = .ok (.istore_n 1, 1) := by decide +kernel
theorem d_R_takeAtom_35 : decode b_R_takeAtom 35 = .ok (.aload_n 0, 1) := by decide +kernel
theorem d_R_takeAtom_36 : decode b_R_takeAtom 36 = .ok (.bipush 60, 2) := by decide +kernel
theorem d_R_takeAtom_38 : decode b_R_takeAtom 38 = .ok (.invokevirtual 78, 3) := by decide +kernel
theorem d_R_takeAtom_41 : decode b_R_takeAtom 41 = .ok (.ifCond .ne 21, 3) := by decide +kernel
theorem d_R_takeAtom_44 : decode b_R_takeAtom 44 = .ok (.aload_n 0, 1) := by decide +kernel
theorem d_R_takeAtom_45 : decode b_R_takeAtom 45 = .ok (.bipush 61, 2) := by decide +kernel
theorem d_R_takeAtom_47 : decode b_R_takeAtom 47 = .ok (.invokevirtual 78, 3) := by decide +kernel
theorem d_R_takeAtom_50 : decode b_R_takeAtom 50 = .ok (.ifCond .ne 12, 3) := by decide +kernel
theorem d_R_takeAtom_53 : decode b_R_takeAtom 53 = .ok (.aload_n 0, 1) := by decide +kernel
theorem d_R_takeAtom_54 : decode b_R_takeAtom 54 = .ok (.bipush 62, 2) := by decide +kernel
theorem d_R_takeAtom_56 : decode b_R_takeAtom 56 = .ok (.invokevirtual 78, 3) := by decide +kernel
theorem d_R_takeAtom_59 : decode b_R_takeAtom 59 = .ok (.ifCond .eq 7, 3) := by decide +kernel
theorem d_R_takeAtom_62 : decode b_R_takeAtom 62 = .ok (.iconst 1, 1) := by decide +kernel
theorem d_R_takeAtom_63 : decode b_R_takeAtom 63 = .ok (.goto 4, 3) := by decide +kernel
theorem d_R_takeAtom_66 : decode b_R_takeAtom 66 = .ok (.iconst 0, 1) := by decide +kernel
theorem d_R_takeAtom_67 : decode b_R_takeAtom 67 = .ok (.istore_n 2, 1) := by decide +kernel
theorem d_R_takeAtom_68 : decode b_R_takeAtom 68 = .ok (.iload_n 2, 1) := by decide +kernel
theorem d_R_takeAtom_69 : decode b_R_takeAtom 69 = .ok (.ifCond .eq 11, 3) := by decide +kernel
theorem d_R_takeAtom_72 : decode b_R_takeAtom 72 = .ok (.aload_n 0, 1) := by decide +kernel
theorem d_R_takeAtom_73 : decode b_R_takeAtom 73 = .ok (.iconst (-1), 1) := by decide +kernel
theorem d_R_takeAtom_74 : decode b_R_takeAtom 74 = .ok (.invokevirtual 91, 3) := by decide +kernel
theorem d_R_takeAtom_77 : decode b_R_takeAtom 77 = .ok (.ifCond .ne 5, 3) := by decide +kernel
theorem d_R_takeAtom_80 : decode b_R_takeAtom 80 = .ok (.iconst 0, 1) := by decide +kernel
theorem d_R_takeAtom_81 : decode b_R_takeAtom 81 = .ok (.ireturn, 1) := by decide +kernel
theorem d_R_takeAtom_82 : decode b_R_takeAtom 82 = .ok (.aload_n 0, 1) := by decide +kernel
theorem d_R_takeAtom_83 : decode b_R_takeAtom 83 = .ok (.getfield 22, 3) := by decide +kernel
theorem d_R_takeAtom_86 : decode b_R_takeAtom 86 = .ok (.aload_n 0, 1) := by decide +kernel
theorem d_R_takeAtom_87 : decode b_R_takeAtom 87 = .ok (.getfield 19, 3) := by decide +kernel
theorem d_R_takeAtom_90 : decode b_R_takeAtom 90 = .ok (.iload_n 1, 1) := by decide +kernel
theorem d_R_takeAtom_91 : decode b_R_takeAtom 91 = .ok (.invokevirtual 95, 3) := by decide +kernel
theorem d_R_takeAtom_94 : decode b_R_takeAtom 94 = .ok (.iconst 1, 1) := by decide +kernel
theorem d_R_takeAtom_95 : decode b_R_takeAtom 95 = .ok (.ireturn, 1) := by decide +kernel
theorem d_R_release_0 : decode b_R_release 0 = .ok (.aload_n 0, 1) := by decide +kernel
theorem d_R_release_1 : decode b_R_release 1 = .ok (.getfield 36, 3) := by decide +kernel
theorem d_R_release_4 : decode b_R_release 4 = .ok (.ifCond .le 49, 3) := by decide +kernel
theorem d_R_release_7 : decode b_R_release 7 = .ok (.aload_n 0, 1) := by decide +kernel
theorem d_R_release_8 : decode b_R_release 8 = .ok (.getfield 15, 3) := by decide +kernel
theorem d_R_release_11 : decode b_R_release 11 = .ok (.aload_n 0, 1) := by decide +kernel
theorem d_R_release_12 : decode b_R_release 12 = .ok (.getfield 36, 3) := by decide +kernel
theorem d_R_release_15 : decode b_R_release 15 = .ok (.iconst 1, 1) := by decide +kernel
theorem d_R_release_16 : decode b_R_release 16 = .ok (.isub, 1) := by decide +kernel
theorem d_R_release_17 : decode b_R_release 17 = .ok (.iaload, 1) := by decide +kernel
theorem d_R_release_18 : decode b_R_release 18 = .ok (.iload_n 1, 1) := by decide +kernel
theorem d_R_release_19 : decode b_R_release 19 = .ok (.if_icmp .lt 34, 3) := by decide +kernel
theorem d_R_release_22 : decode b_R_release 22 = .ok (.aload_n 0, 1) := by decide +kernel
theorem d_R_release_23 : decode b_R_release 23 = .ok (.getfield 22, 3) := by decide +kernel
theorem d_R_release_26 : decode b_R_release 26 = .ok (.aload_n 0, 1) := by decide +kernel
theorem d_R_release_27 : decode b_R_release 27 = .ok (.getfield 15, 3) := by decide +kernel
theorem d_R_release_30 : decode b_R_release 30 = .ok (.aload_n 0, 1) := by decide +kernel
theorem d_R_release_31 : decode b_R_release 31 = .ok (.getfield 36, 3) := by decide +kernel
end
section
theorem d_R_release_34 : decode b_R_release 34 = .ok (.iconst 1, 1) := by decide +kernel
theorem d_R_release_35 : decode b_R_release 35 = .ok (.isub, 1) := by decide +kernel
theorem d_R_release_36 : decode b_R_release 36 = .ok (.iaload, 1) := by decide +kernel
theorem d_R_release_37 : decode b_R_release 37 = .ok (.invokevirtual 88, 3) := by decide +kernel
theorem d_R_release_40 : decode b_R_release 40 = .ok (.aload_n 0, 1) := by decide +kernel
theorem d_R_release_41 : decode b_R_release 41 = .ok (.dup, 1) := by decide +kernel
theorem d_R_release_42 : decode b_R_release 42 = .ok (.getfield 36, 3) := by decide +kernel
theorem d_R_release_45 : decode b_R_release 45 = .ok (.iconst 1, 1) := by decide +kernel
theorem d_R_release_46 : decode b_R_release 46 = .ok (.isub, 1) := by decide +kernel
theorem d_R_release_47 : decode b_R_release 47 = .ok (.putfield 36, 3) := by decide +kernel
theorem d_R_release_50 : decode b_R_release 50 = .ok (.goto (-50), 3) := by decide +kernel
theorem d_R_release_53 : decode b_R_release 53 = .ok (.return_, 1) := by decide +kernel
theorem d_R_takeClosings_0 : decode b_R_takeClosings 0 = .ok (.aload_n 0, 1) := by decide +kernel
theorem d_R_takeClosings_1 : decode b_R_takeClosings 1 = .ok (.getfield 39, 3) := by decide +kernel
theorem d_R_takeClosings_4 : decode b_R_takeClosings 4 = .ok (.ifCond .le 50, 3) := by decide +kernel
theorem d_R_takeClosings_7 : decode b_R_takeClosings 7 = .ok (.aload_n 0, 1) := by decide +kernel
theorem d_R_takeClosings_8 : decode b_R_takeClosings 8 = .ok (.invokevirtual 67, 3) := by decide +kernel
theorem d_R_takeClosings_11 : decode b_R_takeClosings 11 = .ok (.bipush 41, 2) := by decide +kernel
theorem d_R_takeClosings_13 : decode b_R_takeClosings 13 = .ok (.if_icmp .ne 41, 3) := by decide +kernel
theorem d_R_takeClosings_16 : decode b_R_takeClosings 16 = .ok (.aload_n 0, 1) := by decide +kernel
theorem d_R_takeClosings_17 : decode b_R_takeClosings 17 = .ok (.iconst 1, 1) := by decide +kernel
theorem d_R_takeClosings_18 : decode b_R_takeClosings 18 = .ok (.invokevirtual 63, 3) := by decide +kernel
theorem d_R_takeClosings_21 : decode b_R_takeClosings 21 = .ok (.aload_n 0, 1) := by decide +kernel
theorem d_R_takeClosings_22 : decode b_R_takeClosings 22 = .ok (.dup, 1) := by decide +kernel
theorem d_R_takeClosings_23 : decode b_R_takeClosings 23 = .ok (.getfield 36, 3) := by decide +kernel
theorem d_R_takeClosings_26 : decode b_R_takeClosings 26 = .ok (.iconst 1, 1) := by decide +kernel
theorem d_R_takeClosings_27 : decode b_R_takeClosings 27 = .ok (.isub, 1) := by decide +kernel
theorem d_R_takeClosings_28 : decode b_R_takeClosings 28 = .ok (.putfield 36, 3) := by decide +kernel
theorem d_R_takeClosings_31 : decode b_R_takeClosings 31 = .ok (.aload_n 0, 1) := by decide +kernel
theorem d_R_takeClosings_32 : decode b_R_takeClosings 32 = .ok (.dup, 1) := by decide +kernel
theorem d_R_takeClosings_33 : decode b_R_takeClosings 33 = .ok (.getfield 39, 3) := by decide +kernel
theorem d_R_takeClosings_36 : decode b_R_takeClosings 36 = .ok (.iconst 1, 1) := by decide +kernel
theorem d_R_takeClosings_37 : decode b_R_takeClosings 37 = .ok (.isub, 1) := by decide +kernel
theorem d_R_takeClosings_38 : decode b_R_takeClosings 38 = .ok (.putfield 39, 3) := by decide +kernel
theorem d_R_takeClosings_41 : decode b_R_takeClosings 41 = .ok (.aload_n 0, 1) := by decide +kernel
theorem d_R_takeClosings_42 : decode b_R_takeClosings 42 = .ok (.dup, 1) := by decide +kernel
theorem d_R_takeClosings_43 : decode b_R_takeClosings 43 = .ok (.getfield 33, 3) := by decide +kernel
theorem d_R_takeClosings_46 : decode b_R_takeClosings 46 = .ok (.iconst 1, 1) := by decide +kernel
theorem d_R_takeClosings_47 : decode b_R_takeClosings 47 = .ok (.iadd, 1) := by decide +kernel
theorem d_R_takeClosings_48 : decode b_R_takeClosings 48 = .ok (.putfield 33, 3) := by decide +kernel
theorem d_R_takeClosings_51 : decode b_R_takeClosings 51 = .ok (.goto (-51), 3) := by decide +kernel
theorem d_R_takeClosings_54 : decode b_R_takeClosings 54 = .ok (.return_, 1) := by decide +kernel
theorem d_R_takeJoint_0 : decode b_R_takeJoint 0 = .ok (.aload_n 0, 1) := by decide +kernel
theorem d_R_takeJoint_1 : decode b_R_takeJoint 1 = .ok (.invokevirtual 67, 3) := by decide +kernel
theorem d_R_takeJoint_4 : decode b_R_takeJoint 4 = .ok (.bipush 38, 2) := by decide +kernel
theorem d_R_takeJoint_6 : decode b_R_takeJoint 6 = .ok (.if_icmp .ne 7, 3) := by decide +kernel
theorem d_R_takeJoint_9 : decode b_R_takeJoint 9 = .ok (.iconst 2, 1) := by decide +kernel
theorem d_R_takeJoint_10 : decode b_R_takeJoint 10 = .ok (.goto 4, 3) := by decide +kernel
theorem d_R_takeJoint_13 : decode b_R_takeJoint 13 = .ok (.iconst 1, 1) := by decide +kernel
theorem d_R_takeJoint_14 : decode b_R_takeJoint 14 = .ok (.istore_n 1, 1) := by decide +kernel
theorem d_R_takeJoint_15 : decode b_R_takeJoint 15 = .ok (.aload_n 0, 1) := by decide +kernel
theorem d_R_takeJoint_16 : decode b_R_takeJoint 16 = .ok (.bipush 38, 2) := by decide +kernel
theorem d_R_takeJoint_18 : decode b_R_takeJoint 18 = .ok (.invokevirtual 78, 3) := by decide +kernel
theorem d_R_takeJoint_21 : decode b_R_takeJoint 21 = .ok (.ifCond .ne 14, 3) := by decide +kernel
theorem d_R_takeJoint_24 : decode b_R_takeJoint 24 = .ok (.aload_n 0, 1) := by decide +kernel
theorem d_R_takeJoint_25 : decode b_R_takeJoint 25 = .ok (.bipush 124, 2) := by decide +kernel
theorem d_R_takeJoint_27 : decode b_R_takeJoint 27 = .ok (.invokevirtual 78, 3) := by decide +kernel
theorem d_R_takeJoint_30 : decode b_R_takeJoint 30 = .ok (.ifCond .ne 5, 3) := by decide +kernel
theorem d_R_takeJoint_33 : decode b_R_takeJoint 33 = .ok (.iconst 0, 1) := by decide +kernel
theorem d_R_takeJoint_34 : decode b_R_takeJoint 34 = .ok (.ireturn, 1) := by decide +kernel
theorem d_R_takeJoint_35 : decode b_R_takeJoint 35 = .ok (.aload_n 0, 1) := by decide +kernel
theorem d_R_takeJoint_36 : decode b_R_takeJoint 36 = .ok (.iload_n 1, 1) := by decide +kernel
theorem d_R_takeJoint_37 : decode b_R_takeJoint 37 = .ok (.invokevirtual 63, 3) := by decide +kernel
theorem d_R_takeJoint_40 : decode b_R_takeJoint 40 = .ok (.aload_n 0, 1) := by decide +kernel
theorem d_R_takeJoint_41 : decode b_R_takeJoint 41 = .ok (.iload_n 1, 1) := by decide +kernel
theorem d_R_takeJoint_42 : decode b_R_takeJoint 42 = .ok (.invokevirtual 85, 3) := by decide +kernel
theorem d_R_takeJoint_45 : decode b_R_takeJoint 45 = .ok (.iconst 1, 1) := by decide +kernel
theorem d_R_takeJoint_46 : decode b_R_takeJoint 46 = .ok (.ireturn, 1) := by decide +kernel
theorem d_R_readSentence_0 : decode b_R_readSentence 0 = .ok (.aload_n 0, 1) := by decide +kernel
theorem d_R_readSentence_1 : decode b_R_readSentence 1 = .ok (.iconst 0, 1) := by decide +kernel
theorem d_R_readSentence_2 : decode b_R_readSentence 2 = .ok (.putfield 33, 3) := by decide +kernel
theorem d_R_readSentence_5 : decode b_R_readSentence 5 = .ok (.aload_n 0, 1) := by decide +kernel
theorem d_R_readSentence_6 : decode b_R_readSentence 6 = .ok (.iconst 0, 1) := by decide +kernel
theorem d_R_readSentence_7 : decode b_R_readSentence 7 = .ok (.putfield 36, 3) := by decide +kernel
theorem d_R_readSentence_10 : decode b_R_readSentence 10 = .ok (.aload_n 0, 1) := by decide +kernel
theorem d_R_readSentence_11 : decode b_R_readSentence 11 = .ok (.iconst 0, 1) := by decide +kernel
theorem d_R_readSentence_12 : decode b_R_readSentence 12 = .ok (.putfield 39, 3) := by decide +kernel
theorem d_R_readSentence_15 : decode b_R_readSentence 15 = .ok (.aload_n 0, 1) := by decide +kernel
theorem d_R_readSentence_16 : decode b_R_readSentence 16 = .ok (.getfield 22, 3) := by decide +kernel
theorem d_R_readSentence_19 : decode b_R_readSentence 19 = .ok (.invokevirtual 42, 3) := by decide +kernel
theorem d_R_readSentence_22 : decode b_R_readSentence 22 = .ok (.aload_n 0, 1) := by decide +kernel
theorem d_R_readSentence_23 : decode b_R_readSentence 23 = .ok (.invokevirtual 47, 3) := by decide +kernel
theorem d_R_readSentence_26 : decode b_R_readSentence 26 = .ok (.ifCond .ne 5, 3) := by decide +kernel
theorem d_R_readSentence_29 : decode b_R_readSentence 29 = .ok (.iconst 0, 1) := by decide +kernel
theorem d_R_readSentence_30 : decode b_R_readSentence 30 = .ok (.ireturn, 1) := by decide +kernel
theorem d_R_readSentence_31 : decode b_R_readSentence 31 = .ok (.iconst 0, 1) := by decide +kernel
theorem d_R_readSentence_32 : decode b_R_readSentence 32 = .ok (.istore_n 1, 1) := by decide +kernel
theorem d_R_readSentence_33 : decode b_R_readSentence 33 = .ok (.iload_n 1, 1) := by decide +kernel
theorem d_R_readSentence_34 : decode b_R_readSentence 34 = .ok (.aload_n 0, 1) := by decide +kernel
theorem d_R_readSentence_35 : decode b_R_readSentence 35 = .ok (.getfield 30, 3) := by decide +kernel
theorem d_R_readSentence_38 : decode b_R_readSentence 38 = .ok (.if_icmp .ge 62, 3) := by decide +kernel
theorem d_R_readSentence_41 : decode b_R_readSentence 41 = .ok (.aload_n 0, 1) := by decide +kernel
theorem d_R_readSentence_42 : decode b_R_readSentence 42 = .ok (.invokevirtual 51, 3) := by decide +kernel
theorem d_R_readSentence_45 : decode b_R_readSentence 45 = .ok (.aload_n 0, 1) := by decide +kernel
theorem d_R_readSentence_46 : decode b_R_readSentence 46 = .ok (.invokevirtual 54, 3) := by decide +kernel
theorem d_R_readSentence_49 : decode b_R_readSentence 49 = .ok (.ifCond .ne 5, 3) := by decide +kernel
theorem d_R_readSentence_52 : decode b_R_readSentence 52 = .ok (.iconst 0, 1) := by decide +kernel
theorem d_R_readSentence_53 : decode b_R_readSentence 53 = .ok (.ireturn, 1) := by decide +kernel
theorem d_R_readSentence_54 : decode b_R_readSentence 54 = .ok (.aload_n 0, 1) := by decide +kernel
theorem d_R_readSentence_55 : decode b_R_readSentence 55 = .ok (.invokevirtual 57, 3) := by decide +kernel
theorem d_R_readSentence_58 : decode b_R_readSentence 58 = .ok (.aload_n 0, 1) := by decide +kernel
theorem d_R_readSentence_59 : decode b_R_readSentence 59 = .ok (.invokevirtual 60, 3) := by decide +kernel
theorem d_R_readSentence_62 : decode b_R_readSentence 62 = .ok (.ifCond .ne 32, 3) := by decide +kernel
theorem d_R_readSentence_65 : decode b_R_readSentence 65 = .ok (.aload_n 0, 1) := by decide +kernel
theorem d_R_readSentence_66 : decode b_R_readSentence 66 = .ok (.iconst 1, 1) := by decide +kernel
theorem d_R_readSentence_67 : decode b_R_readSentence 67 = .ok (.invokevirtual 63, 3) := by decide +kernel
theorem d_R_readSentence_70 : decode b_R_readSentence 70 = .ok (.aload_n 0, 1) := by decide +kernel
theorem d_R_readSentence_71 : decode b_R_readSentence 71 = .ok (.getfield 33, 3) := by decide +kernel
theorem d_R_readSentence_74 : decode b_R_readSentence 74 = .ok (.aload_n 0, 1) := by decide +kernel
theorem d_R_readSentence_75 : decode b_R_readSentence 75 = .ok (.getfield 30, 3) := by decide +kernel
theorem d_R_readSentence_78 : decode b_R_readSentence 78 = .ok (.if_icmp .ne 14, 3) := by decide +kernel
theorem d_R_readSentence_81 : decode b_R_readSentence 81 = .ok (.aload_n 0, 1) := by decide +kernel
theorem d_R_readSentence_82 : decode b_R_readSentence 82 = .ok (.getfield 39, 3) := by decide +kernel
theorem d_R_readSentence_85 : decode b_R_readSentence 85 = .ok (.ifCond .ne 7, 3) := by decide +kernel
theorem d_R_readSentence_88 : decode b_R_readSentence 88 = .ok (.iconst 1, 1) := by decide +kernel
theorem d_R_readSentence_89 : decode b_R_readSentence 89 = .ok (.goto 4, 3) := by decide +kernel
theorem d_R_readSentence_92 : decode b_R_readSentence 92 = .ok (.iconst 0, 1) := by decide +kernel
theorem d_R_readSentence_93 : decode b_R_readSentence 93 = .ok (.ireturn, 1) := by decide +kernel
theorem d_R_readSentence_94 : decode b_R_readSentence 94 = .ok (.iinc 1 1, 3) := by decide +kernel
theorem d_R_readSentence_97 : decode b_R_readSentence 97 = .ok (.goto (-64), 3) := by decide +kernel
theorem d_R_readSentence_100 : decode b_R_readSentence 100 = .ok (.iconst 0, 1) := by decide +kernel
theorem d_R_readSentence_101 : decode b_R_readSentence 101 = .ok (.ireturn, 1) := by decide +kernel
theorem d_S_fits_0 : decode b_S_fits 0 = .ok (.aload_n 0, 1) := by decide +kernel
theorem d_S_fits_1 : decode b_S_fits 1 = .ok (.getfield 26, 3) := by decide +kernel
theorem d_S_fits_4 : decode b_S_fits 4 = .ok (.bipush 8, 2) := by decide +kernel
theorem d_S_fits_6 : decode b_S_fits 6 = .ok (.if_icmp .le 5, 3) := by decide +kernel
theorem d_S_fits_9 : decode b_S_fits 9 = .ok (.iconst 0, 1) := by decide +kernel
theorem d_S_fits_10 : decode b_S_fits 10 = .ok (.ireturn, 1) := by decide +kernel
theorem d_S_fits_11 : decode b_S_fits 11 = .ok (.iconst 0, 1) := by decide +kernel
theorem d_S_fits_12 : decode b_S_fits 12 = .ok (.istore_n 1, 1) := by decide +kernel
theorem d_S_fits_13 : decode b_S_fits 13 = .ok (.iload_n 1, 1) := by decide +kernel
theorem d_S_fits_14 : decode b_S_fits 14 = .ok (.aload_n 0, 1) := by decide +kernel
theorem d_S_fits_15 : decode b_S_fits 15 = .ok (.getfield 26, 3) := by decide +kernel
theorem d_S_fits_18 : decode b_S_fits 18 = .ok (.iconst 4, 1) := by decide +kernel
theorem d_S_fits_19 : decode b_S_fits 19 = .ok (.imul, 1) := by decide +kernel
theorem d_S_fits_20 : decode b_S_fits 20 = .ok (.if_icmp .ge 32, 3) := by decide +kernel
theorem d_S_fits_23 : decode b_S_fits 23 = .ok (.aload_n 0, 1) := by decide +kernel
theorem d_S_fits_24 : decode b_S_fits 24 = .ok (.getfield 9, 3) := by decide +kernel
theorem d_S_fits_27 : decode b_S_fits 27 = .ok (.iload_n 1, 1) := by decide +kernel
theorem d_S_fits_28 : decode b_S_fits 28 = .ok (.iaload, 1) := by decide +kernel
theorem d_S_fits_29 : decode b_S_fits 29 = .ok (.bipush (-5), 2) := by decide +kernel
theorem d_S_fits_31 : decode b_S_fits 31 = .ok (.if_icmp .lt 13, 3) := by decide +kernel
theorem d_S_fits_34 : decode b_S_fits 34 = .ok (.aload_n 0, 1) := by decide +kernel
theorem d_S_fits_35 : decode b_S_fits 35 = .ok (.getfield 9, 3) := by decide +kernel
theorem d_S_fits_38 : decode b_S_fits 38 = .ok (.iload_n 1, 1) := by decide +kernel
theorem d_S_fits_39 : decode b_S_fits 39 = .ok (.iaload, 1) := by decide +kernel
theorem d_S_fits_40 : decode b_S_fits 40 = .ok (.iconst 5, 1) := by decide +kernel
theorem d_S_fits_41 : decode b_S_fits 41 = .ok (.if_icmp .le 5, 3) := by decide +kernel
theorem d_S_fits_44 : decode b_S_fits 44 = .ok (.iconst 0, 1) := by decide +kernel
theorem d_S_fits_45 : decode b_S_fits 45 = .ok (.ireturn, 1) := by decide +kernel
theorem d_S_fits_46 : decode b_S_fits 46 = .ok (.iinc 1 1, 3) := by decide +kernel
theorem d_S_fits_49 : decode b_S_fits 49 = .ok (.goto (-36), 3) := by decide +kernel
theorem d_S_fits_52 : decode b_S_fits 52 = .ok (.iconst 1, 1) := by decide +kernel
theorem d_S_fits_53 : decode b_S_fits 53 = .ok (.ireturn, 1) := by decide +kernel
theorem d_P_write_0 : decode b_P_write 0 = .ok (.aload_n 0, 1) := by decide +kernel
theorem d_P_write_1 : decode b_P_write 1 = .ok (.getfield 21, 3) := by decide +kernel
theorem d_P_write_4 : decode b_P_write 4 = .ok (.iload_n 1, 1) := by decide +kernel
theorem d_P_write_5 : decode b_P_write 5 = .ok (.invokevirtual 42, 3) := by decide +kernel
theorem d_P_write_8 : decode b_P_write 8 = .ok (.ireturn, 1) := by decide +kernel
theorem d_P_readText_0 : decode b_P_readText 0 = .ok (.aload_n 0, 1) := by decide +kernel
theorem d_P_readText_1 : decode b_P_readText 1 = .ok (.iconst (-1), 1) := by decide +kernel
theorem d_P_readText_2 : decode b_P_readText 2 = .ok (.putfield 32, 3) := by decide +kernel
theorem d_P_readText_5 : decode b_P_readText 5 = .ok (.aload_n 0, 1) := by decide +kernel
theorem d_P_readText_6 : decode b_P_readText 6 = .ok (.getfield 21, 3) := by decide +kernel
theorem d_P_readText_9 : decode b_P_readText 9 = .ok (.invokevirtual 72, 3) := by decide +kernel
theorem d_P_readText_12 : decode b_P_readText 12 = .ok (.bipush 8, 2) := by decide +kernel
theorem d_P_readText_14 : decode b_P_readText 14 = .ok (.if_icmp .le 6, 3) := by decide +kernel
theorem d_P_readText_17 : decode b_P_readText 17 = .ok (.bipush (-2), 2) := by decide +kernel
theorem d_P_readText_19 : decode b_P_readText 19 = .ok (.ireturn, 1) := by decide +kernel
theorem d_P_readText_20 : decode b_P_readText 20 = .ok (.aload_n 0, 1) := by decide +kernel
theorem d_P_readText_21 : decode b_P_readText 21 = .ok (.getfield 21, 3) := by decide +kernel
theorem d_P_readText_24 : decode b_P_readText 24 = .ok (.invokevirtual 75, 3) := by decide +kernel
theorem d_P_readText_27 : decode b_P_readText 27 = .ok (.ifCond .ne 16, 3) := by decide +kernel
theorem d_P_readText_30 : decode b_P_readText 30 = .ok (.aload_n 0, 1) := by decide +kernel
theorem d_P_readText_31 : decode b_P_readText 31 = .ok (.aload_n 0, 1) := by decide +kernel
theorem d_P_readText_32 : decode b_P_readText 32 = .ok (.getfield 21, 3) := by decide +kernel
theorem d_P_readText_35 : decode b_P_readText 35 = .ok (.getfield 78, 3) := by decide +kernel
theorem d_P_readText_38 : decode b_P_readText 38 = .ok (.putfield 32, 3) := by decide +kernel
theorem d_P_readText_41 : decode b_P_readText 41 = .ok (.iconst (-1), 1) := by decide +kernel
theorem d_P_readText_42 : decode b_P_readText 42 = .ok (.ireturn, 1) := by decide +kernel
theorem d_P_readText_43 : decode b_P_readText 43 = .ok (.aload_n 0, 1) := by decide +kernel
theorem d_P_readText_44 : decode b_P_readText 44 = .ok (.getfield 12, 3) := by decide +kernel
theorem d_P_readText_47 : decode b_P_readText 47 = .ok (.invokevirtual 81, 3) := by decide +kernel
theorem d_P_readText_50 : decode b_P_readText 50 = .ok (.ifCond .eq 7, 3) := by decide +kernel
theorem d_P_readText_53 : decode b_P_readText 53 = .ok (.iconst 0, 1) := by decide +kernel
theorem d_P_readText_54 : decode b_P_readText 54 = .ok (.goto 5, 3) := by decide +kernel
theorem d_P_readText_57 : decode b_P_readText 57 = .ok (.bipush (-2), 2) := by decide +kernel
theorem d_P_readText_59 : decode b_P_readText 59 = .ok (.ireturn, 1) := by decide +kernel
theorem d_P_decide_0 : decode b_P_decide 0 = .ok (.aload_n 0, 1) := by decide +kernel
theorem d_P_decide_1 : decode b_P_decide 1 = .ok (.invokevirtual 46, 3) := by decide +kernel
theorem d_P_decide_4 : decode b_P_decide 4 = .ok (.istore_n 1, 1) := by decide +kernel
theorem d_P_decide_5 : decode b_P_decide 5 = .ok (.aload_n 0, 1) := by decide +kernel
theorem d_P_decide_6 : decode b_P_decide 6 = .ok (.getfield 21, 3) := by decide +kernel
theorem d_P_decide_9 : decode b_P_decide 9 = .ok (.invokevirtual 50, 3) := by decide +kernel
theorem d_P_decide_12 : decode b_P_decide 12 = .ok (.aload_n 0, 1) := by decide +kernel
theorem d_P_decide_13 : decode b_P_decide 13 = .ok (.iconst 0, 1) := by decide +kernel
theorem d_P_decide_14 : decode b_P_decide 14 = .ok (.putfield 36, 3) := by decide +kernel
theorem d_P_decide_17 : decode b_P_decide 17 = .ok (.aload_n 0, 1) := by decide +kernel
theorem d_P_decide_18 : decode b_P_decide 18 = .ok (.iconst (-1), 1) := by decide +kernel
theorem d_P_decide_19 : decode b_P_decide 19 = .ok (.putfield 39, 3) := by decide +kernel
theorem d_P_decide_22 : decode b_P_decide 22 = .ok (.iload_n 1, 1) := by decide +kernel
theorem d_P_decide_23 : decode b_P_decide 23 = .ok (.ifCond .ge 12, 3) := by decide +kernel
theorem d_P_decide_26 : decode b_P_decide 26 = .ok (.aload_n 0, 1) := by decide +kernel
theorem d_P_decide_27 : decode b_P_decide 27 = .ok (.getfield 12, 3) := by decide +kernel
theorem d_P_decide_30 : decode b_P_decide 30 = .ok (.invokevirtual 53, 3) := by decide +kernel
theorem d_P_decide_33 : decode b_P_decide 33 = .ok (.iload_n 1, 1) := by decide +kernel
theorem d_P_decide_34 : decode b_P_decide 34 = .ok (.ireturn, 1) := by decide +kernel
theorem d_P_decide_35 : decode b_P_decide 35 = .ok (.aload_n 0, 1) := by decide +kernel
theorem d_P_decide_36 : decode b_P_decide 36 = .ok (.getfield 28, 3) := by decide +kernel
theorem d_P_decide_39 : decode b_P_decide 39 = .ok (.invokevirtual 54, 3) := by decide +kernel
theorem d_P_decide_42 : decode b_P_decide 42 = .ok (.aload_n 0, 1) := by decide +kernel
theorem d_P_decide_43 : decode b_P_decide 43 = .ok (.aload_n 0, 1) := by decide +kernel
theorem d_P_decide_44 : decode b_P_decide 44 = .ok (.getfield 28, 3) := by decide +kernel
theorem d_P_decide_47 : decode b_P_decide 47 = .ok (.invokevirtual 57, 3) := by decide +kernel
theorem d_P_decide_50 : decode b_P_decide 50 = .ok (.putfield 36, 3) := by decide +kernel
theorem d_P_decide_53 : decode b_P_decide 53 = .ok (.iconst 0, 1) := by decide +kernel
theorem d_P_decide_54 : decode b_P_decide 54 = .ok (.istore_n 2, 1) := by decide +kernel
theorem d_P_decide_55 : decode b_P_decide 55 = .ok (.iload_n 2, 1) := by decide +kernel
theorem d_P_decide_56 : decode b_P_decide 56 = .ok (.aload_n 0, 1) := by decide +kernel
theorem d_P_decide_57 : decode b_P_decide 57 = .ok (.getfield 36, 3) := by decide +kernel
theorem d_P_decide_60 : decode b_P_decide 60 = .ok (.if_icmp .ge 46, 3) := by decide +kernel
theorem d_P_decide_63 : decode b_P_decide 63 = .ok (.aload_n 0, 1) := by decide +kernel
theorem d_P_decide_64 : decode b_P_decide 64 = .ok (.getfield 39, 3) := by decide +kernel
theorem d_P_decide_67 : decode b_P_decide 67 = .ok (.ifCond .ge 39, 3) := by decide +kernel
theorem d_P_decide_70 : decode b_P_decide 70 = .ok (.aload_n 0, 1) := by decide +kernel
theorem d_P_decide_71 : decode b_P_decide 71 = .ok (.getfield 28, 3) := by decide +kernel
theorem d_P_decide_74 : decode b_P_decide 74 = .ok (.iload_n 2, 1) := by decide +kernel
theorem d_P_decide_75 : decode b_P_decide 75 = .ok (.invokevirtual 60, 3) := by decide +kernel
theorem d_P_decide_78 : decode b_P_decide 78 = .ok (.aload_n 0, 1) := by decide +kernel
theorem d_P_decide_79 : decode b_P_decide 79 = .ok (.getfield 28, 3) := by decide +kernel
theorem d_P_decide_82 : decode b_P_decide 82 = .ok (.invokevirtual 64, 3) := by decide +kernel
theorem d_P_decide_85 : decode b_P_decide 85 = .ok (.aload_n 0, 1) := by decide +kernel
theorem d_P_decide_86 : decode b_P_decide 86 = .ok (.getfield 12, 3) := by decide +kernel
theorem d_P_decide_89 : decode b_P_decide 89 = .ok (.getfield 68, 3) := by decide +kernel
theorem d_P_decide_92 : decode b_P_decide 92 = .ok (.if_icmp .eq 8, 3) := by decide +kernel
theorem d_P_decide_95 : decode b_P_decide 95 = .ok (.aload_n 0, 1) := by decide +kernel
theorem d_P_decide_96 : decode b_P_decide 96 = .ok (.iload_n 2, 1) := by decide +kernel
theorem d_P_decide_97 : decode b_P_decide 97 = .ok (.putfield 39, 3) := by decide +kernel
theorem d_P_decide_100 : decode b_P_decide 100 = .ok (.iinc 2 1, 3) := by decide +kernel
theorem d_P_decide_103 : decode b_P_decide 103 = .ok (.goto (-48), 3) := by decide +kernel
theorem d_P_decide_106 : decode b_P_decide 106 = .ok (.aload_n 0, 1) := by decide +kernel
theorem d_P_decide_107 : decode b_P_decide 107 = .ok (.getfield 12, 3) := by decide +kernel
theorem d_P_decide_110 : decode b_P_decide 110 = .ok (.getfield 68, 3) := by decide +kernel
theorem d_P_decide_113 : decode b_P_decide 113 = .ok (.aload_n 0, 1) := by decide +kernel
theorem d_P_decide_114 : decode b_P_decide 114 = .ok (.getfield 39, 3) := by decide +kernel
theorem d_P_decide_117 : decode b_P_decide 117 = .ok (.ifCond .ge 7, 3) := by decide +kernel
theorem d_P_decide_120 : decode b_P_decide 120 = .ok (.iconst 1, 1) := by decide +kernel
theorem d_P_decide_121 : decode b_P_decide 121 = .ok (.goto 4, 3) := by decide +kernel
theorem d_P_decide_124 : decode b_P_decide 124 = .ok (.iconst 0, 1) := by decide +kernel
theorem d_P_decide_125 : decode b_P_decide 125 = .ok (.if_icmp .ne 7, 3) := by decide +kernel
theorem d_P_decide_128 : decode b_P_decide 128 = .ok (.iconst 1, 1) := by decide +kernel
theorem d_P_decide_129 : decode b_P_decide 129 = .ok (.goto 4, 3) := by decide +kernel
theorem d_P_decide_132 : decode b_P_decide 132 = .ok (.iconst 0, 1) := by decide +kernel
theorem d_P_decide_133 : decode b_P_decide 133 = .ok (.ireturn, 1) := by decide +kernel
theorem d_P_place_0 : decode b_P_place 0 = .ok (.aload_n 0, 1) := by decide +kernel
theorem d_P_place_1 : decode b_P_place 1 = .ok (.getfield 32, 3) := by decide +kernel
theorem d_P_place_4 : decode b_P_place 4 = .ok (.ireturn, 1) := by decide +kernel
theorem d_P_polynomials_0 : decode b_P_polynomials 0 = .ok (.aload_n 0, 1) := by decide +kernel
theorem d_P_polynomials_1 : decode b_P_polynomials 1 = .ok (.getfield 12, 3) := by decide +kernel
theorem d_P_polynomials_4 : decode b_P_polynomials 4 = .ok (.getfield 84, 3) := by decide +kernel
theorem d_P_polynomials_7 : decode b_P_polynomials 7 = .ok (.ireturn, 1) := by decide +kernel
theorem d_P_hasPolynomial_0 : decode b_P_hasPolynomial 0 = .ok (.iload_n 1, 1) := by decide +kernel
theorem d_P_hasPolynomial_1 : decode b_P_hasPolynomial 1 = .ok (.ifCond .lt 18, 3) := by decide +kernel
theorem d_P_hasPolynomial_4 : decode b_P_hasPolynomial 4 = .ok (.iload_n 1, 1) := by decide +kernel
theorem d_P_hasPolynomial_5 : decode b_P_hasPolynomial 5 = .ok (.aload_n 0, 1) := by decide +kernel
theorem d_P_hasPolynomial_6 : decode b_P_hasPolynomial 6 = .ok (.getfield 12, 3) := by decide +kernel
theorem d_P_hasPolynomial_9 : decode b_P_hasPolynomial 9 = .ok (.getfield 84, 3) := by decide +kernel
theorem d_P_hasPolynomial_12 : decode b_P_hasPolynomial 12 = .ok (.if_icmp .ge 7, 3) := by decide +kernel
theorem d_P_hasPolynomial_15 : decode b_P_hasPolynomial 15 = .ok (.iconst 1, 1) := by decide +kernel
theorem d_P_hasPolynomial_16 : decode b_P_hasPolynomial 16 = .ok (.goto 4, 3) := by decide +kernel
theorem d_P_hasPolynomial_19 : decode b_P_hasPolynomial 19 = .ok (.iconst 0, 1) := by decide +kernel
theorem d_P_hasPolynomial_20 : decode b_P_hasPolynomial 20 = .ok (.ireturn, 1) := by decide +kernel
theorem d_P_coefficient_0 : decode b_P_coefficient 0 = .ok (.aload_n 0, 1) := by decide +kernel
theorem d_P_coefficient_1 : decode b_P_coefficient 1 = .ok (.iload_n 1, 1) := by decide +kernel
theorem d_P_coefficient_2 : decode b_P_coefficient 2 = .ok (.invokevirtual 87, 3) := by decide +kernel
theorem d_P_coefficient_5 : decode b_P_coefficient 5 = .ok (.ifCond .eq 12, 3) := by decide +kernel
theorem d_P_coefficient_8 : decode b_P_coefficient 8 = .ok (.iload_n 2, 1) := by decide +kernel
theorem d_P_coefficient_9 : decode b_P_coefficient 9 = .ok (.ifCond .lt 8, 3) := by decide +kernel
theorem d_P_coefficient_12 : decode b_P_coefficient 12 = .ok (.iload_n 2, 1) := by decide +kernel
theorem d_P_coefficient_13 : decode b_P_coefficient 13 = .ok (.iconst 4, 1) := by decide +kernel
theorem d_P_coefficient_14 : decode b_P_coefficient 14 = .ok (.if_icmp .lt 6, 3) := by decide +kernel
theorem d_P_coefficient_17 : decode b_P_coefficient 17 = .ok (.bipush 9, 2) := by decide +kernel
theorem d_P_coefficient_19 : decode b_P_coefficient 19 = .ok (.ireturn, 1) := by decide +kernel
theorem d_P_coefficient_20 : decode b_P_coefficient 20 = .ok (.aload_n 0, 1) := by decide +kernel
theorem d_P_coefficient_21 : decode b_P_coefficient 21 = .ok (.getfield 12, 3) := by decide +kernel
theorem d_P_coefficient_24 : decode b_P_coefficient 24 = .ok (.iload_n 1, 1) := by decide +kernel
theorem d_P_coefficient_25 : decode b_P_coefficient 25 = .ok (.iload_n 2, 1) := by decide +kernel
theorem d_P_coefficient_26 : decode b_P_coefficient 26 = .ok (.invokevirtual 91, 3) := by decide +kernel
theorem d_P_coefficient_29 : decode b_P_coefficient 29 = .ok (.ireturn, 1) := by decide +kernel
theorem d_P_columns_0 : decode b_P_columns 0 = .ok (.aload_n 0, 1) := by decide +kernel
theorem d_P_columns_1 : decode b_P_columns 1 = .ok (.getfield 36, 3) := by decide +kernel
theorem d_P_columns_4 : decode b_P_columns 4 = .ok (.ireturn, 1) := by decide +kernel
theorem d_P_hasColumn_0 : decode b_P_hasColumn 0 = .ok (.iload_n 1, 1) := by decide +kernel
theorem d_P_hasColumn_1 : decode b_P_hasColumn 1 = .ok (.ifCond .lt 15, 3) := by decide +kernel
theorem d_P_hasColumn_4 : decode b_P_hasColumn 4 = .ok (.iload_n 1, 1) := by decide +kernel
theorem d_P_hasColumn_5 : decode b_P_hasColumn 5 = .ok (.aload_n 0, 1) := by decide +kernel
theorem d_P_hasColumn_6 : decode b_P_hasColumn 6 = .ok (.getfield 36, 3) := by decide +kernel
theorem d_P_hasColumn_9 : decode b_P_hasColumn 9 = .ok (.if_icmp .ge 7, 3) := by decide +kernel
theorem d_P_hasColumn_12 : decode b_P_hasColumn 12 = .ok (.iconst 1, 1) := by decide +kernel
theorem d_P_hasColumn_13 : decode b_P_hasColumn 13 = .ok (.goto 4, 3) := by decide +kernel
theorem d_P_hasColumn_16 : decode b_P_hasColumn 16 = .ok (.iconst 0, 1) := by decide +kernel
theorem d_P_hasColumn_17 : decode b_P_hasColumn 17 = .ok (.ireturn, 1) := by decide +kernel
theorem d_P_enterColumn_0 : decode b_P_enterColumn 0 = .ok (.aload_n 0, 1) := by decide +kernel
theorem d_P_enterColumn_1 : decode b_P_enterColumn 1 = .ok (.iload_n 1, 1) := by decide +kernel
theorem d_P_enterColumn_2 : decode b_P_enterColumn 2 = .ok (.invokevirtual 110, 3) := by decide +kernel
theorem d_P_enterColumn_5 : decode b_P_enterColumn 5 = .ok (.ifCond .ne 5, 3) := by decide +kernel
theorem d_P_enterColumn_8 : decode b_P_enterColumn 8 = .ok (.iconst 0, 1) := by decide +kernel
theorem d_P_enterColumn_9 : decode b_P_enterColumn 9 = .ok (.ireturn, 1) := by decide +kernel
theorem d_P_enterColumn_10 : decode b_P_enterColumn 10 = .ok (.aload_n 0, 1) := by decide +kernel
theorem d_P_enterColumn_11 : decode b_P_enterColumn 11 = .ok (.getfield 28, 3) := by decide +kernel
theorem d_P_enterColumn_14 : decode b_P_enterColumn 14 = .ok (.iload_n 1, 1) := by decide +kernel
theorem d_P_enterColumn_15 : decode b_P_enterColumn 15 = .ok (.invokevirtual 60, 3) := by decide +kernel
theorem d_P_enterColumn_18 : decode b_P_enterColumn 18 = .ok (.iconst 1, 1) := by decide +kernel
theorem d_P_enterColumn_19 : decode b_P_enterColumn 19 = .ok (.ireturn, 1) := by decide +kernel
theorem d_P_cells_0 : decode b_P_cells 0 = .ok (.aload_n 0, 1) := by decide +kernel
theorem d_P_cells_1 : decode b_P_cells 1 = .ok (.iload_n 1, 1) := by decide +kernel
theorem d_P_cells_2 : decode b_P_cells 2 = .ok (.invokevirtual 95, 3) := by decide +kernel
theorem d_P_cells_5 : decode b_P_cells 5 = .ok (.ifCond .eq 13, 3) := by decide +kernel
theorem d_P_cells_8 : decode b_P_cells 8 = .ok (.aload_n 0, 1) := by decide +kernel
theorem d_P_cells_9 : decode b_P_cells 9 = .ok (.getfield 28, 3) := by decide +kernel
theorem d_P_cells_12 : decode b_P_cells 12 = .ok (.getfield 98, 3) := by decide +kernel
theorem d_P_cells_15 : decode b_P_cells 15 = .ok (.goto 4, 3) := by decide +kernel
theorem d_P_cells_18 : decode b_P_cells 18 = .ok (.iconst 0, 1) := by decide +kernel
theorem d_P_cells_19 : decode b_P_cells 19 = .ok (.ireturn, 1) := by decide +kernel
theorem d_P_hasCell_0 : decode b_P_hasCell 0 = .ok (.iload_n 1, 1) := by decide +kernel
theorem d_P_hasCell_1 : decode b_P_hasCell 1 = .ok (.ifCond .lt 18, 3) := by decide +kernel
theorem d_P_hasCell_4 : decode b_P_hasCell 4 = .ok (.iload_n 1, 1) := by decide +kernel
theorem d_P_hasCell_5 : decode b_P_hasCell 5 = .ok (.aload_n 0, 1) := by decide +kernel
theorem d_P_hasCell_6 : decode b_P_hasCell 6 = .ok (.getfield 28, 3) := by decide +kernel
theorem d_P_hasCell_9 : decode b_P_hasCell 9 = .ok (.getfield 98, 3) := by decide +kernel
theorem d_P_hasCell_12 : decode b_P_hasCell 12 = .ok (.if_icmp .ge 7, 3) := by decide +kernel
theorem d_P_hasCell_15 : decode b_P_hasCell 15 = .ok (.iconst 1, 1) := by decide +kernel
theorem d_P_hasCell_16 : decode b_P_hasCell 16 = .ok (.goto 4, 3) := by decide +kernel
theorem d_P_hasCell_19 : decode b_P_hasCell 19 = .ok (.iconst 0, 1) := by decide +kernel
theorem d_P_hasCell_20 : decode b_P_hasCell 20 = .ok (.ireturn, 1) := by decide +kernel
theorem d_P_sign_0 : decode b_P_sign 0 = .ok (.aload_n 0, 1) := by decide +kernel
theorem d_P_sign_1 : decode b_P_sign 1 = .ok (.iload_n 3, 1) := by decide +kernel
theorem d_P_sign_2 : decode b_P_sign 2 = .ok (.invokevirtual 87, 3) := by decide +kernel
theorem d_P_sign_5 : decode b_P_sign 5 = .ok (.ifCond .eq 19, 3) := by decide +kernel
theorem d_P_sign_8 : decode b_P_sign 8 = .ok (.aload_n 0, 1) := by decide +kernel
theorem d_P_sign_9 : decode b_P_sign 9 = .ok (.iload_n 1, 1) := by decide +kernel
theorem d_P_sign_10 : decode b_P_sign 10 = .ok (.invokevirtual 95, 3) := by decide +kernel
theorem d_P_sign_13 : decode b_P_sign 13 = .ok (.ifCond .eq 11, 3) := by decide +kernel
theorem d_P_sign_16 : decode b_P_sign 16 = .ok (.aload_n 0, 1) := by decide +kernel
theorem d_P_sign_17 : decode b_P_sign 17 = .ok (.iload_n 2, 1) := by decide +kernel
theorem d_P_sign_18 : decode b_P_sign 18 = .ok (.invokevirtual 101, 3) := by decide +kernel
theorem d_P_sign_21 : decode b_P_sign 21 = .ok (.ifCond .ne 6, 3) := by decide +kernel
theorem d_P_sign_24 : decode b_P_sign 24 = .ok (.bipush 9, 2) := by decide +kernel
theorem d_P_sign_26 : decode b_P_sign 26 = .ok (.ireturn, 1) := by decide +kernel
theorem d_P_sign_27 : decode b_P_sign 27 = .ok (.aload_n 0, 1) := by decide +kernel
theorem d_P_sign_28 : decode b_P_sign 28 = .ok (.getfield 28, 3) := by decide +kernel
theorem d_P_sign_31 : decode b_P_sign 31 = .ok (.iload_n 2, 1) := by decide +kernel
theorem d_P_sign_32 : decode b_P_sign 32 = .ok (.iload_n 3, 1) := by decide +kernel
theorem d_P_sign_33 : decode b_P_sign 33 = .ok (.invokevirtual 104, 3) := by decide +kernel
theorem d_P_sign_36 : decode b_P_sign 36 = .ok (.ireturn, 1) := by decide +kernel
theorem d_P_truth_0 : decode b_P_truth 0 = .ok (.aload_n 0, 1) := by decide +kernel
theorem d_P_truth_1 : decode b_P_truth 1 = .ok (.iload_n 1, 1) := by decide +kernel
theorem d_P_truth_2 : decode b_P_truth 2 = .ok (.invokevirtual 95, 3) := by decide +kernel
theorem d_P_truth_5 : decode b_P_truth 5 = .ok (.ifCond .eq 11, 3) := by decide +kernel
theorem d_P_truth_8 : decode b_P_truth 8 = .ok (.aload_n 0, 1) := by decide +kernel
theorem d_P_truth_9 : decode b_P_truth 9 = .ok (.iload_n 2, 1) := by decide +kernel
theorem d_P_truth_10 : decode b_P_truth 10 = .ok (.invokevirtual 101, 3) := by decide +kernel
theorem d_P_truth_13 : decode b_P_truth 13 = .ok (.ifCond .ne 6, 3) := by decide +kernel
theorem d_P_truth_16 : decode b_P_truth 16 = .ok (.bipush 9, 2) := by decide +kernel
theorem d_P_truth_18 : decode b_P_truth 18 = .ok (.ireturn, 1) := by decide +kernel
theorem d_P_truth_19 : decode b_P_truth 19 = .ok (.aload_n 0, 1) := by decide +kernel
theorem d_P_truth_20 : decode b_P_truth 20 = .ok (.getfield 28, 3) := by decide +kernel
theorem d_P_truth_23 : decode b_P_truth 23 = .ok (.iload_n 2, 1) := by decide +kernel
theorem d_P_truth_24 : decode b_P_truth 24 = .ok (.invokevirtual 107, 3) := by decide +kernel
theorem d_P_truth_27 : decode b_P_truth 27 = .ok (.ifCond .eq 7, 3) := by decide +kernel
theorem d_P_truth_30 : decode b_P_truth 30 = .ok (.iconst 1, 1) := by decide +kernel
theorem d_P_truth_31 : decode b_P_truth 31 = .ok (.goto 4, 3) := by decide +kernel
theorem d_P_truth_34 : decode b_P_truth 34 = .ok (.iconst 0, 1) := by decide +kernel
theorem d_P_truth_35 : decode b_P_truth 35 = .ok (.ireturn, 1) := by decide +kernel
theorem d_P_holds_0 : decode b_P_holds 0 = .ok (.aload_n 0, 1) := by decide +kernel
theorem d_P_holds_1 : decode b_P_holds 1 = .ok (.iload_n 1, 1) := by decide +kernel
theorem d_P_holds_2 : decode b_P_holds 2 = .ok (.invokevirtual 95, 3) := by decide +kernel
theorem d_P_holds_5 : decode b_P_holds 5 = .ok (.ifCond .ne 6, 3) := by decide +kernel
theorem d_P_holds_8 : decode b_P_holds 8 = .ok (.bipush 9, 2) := by decide +kernel
theorem d_P_holds_10 : decode b_P_holds 10 = .ok (.ireturn, 1) := by decide +kernel
theorem d_P_holds_11 : decode b_P_holds 11 = .ok (.aload_n 0, 1) := by decide +kernel
theorem d_P_holds_12 : decode b_P_holds 12 = .ok (.getfield 28, 3) := by decide +kernel
theorem d_P_holds_15 : decode b_P_holds 15 = .ok (.invokevirtual 64, 3) := by decide +kernel
theorem d_P_holds_18 : decode b_P_holds 18 = .ok (.ifCond .eq 7, 3) := by decide +kernel
theorem d_P_holds_21 : decode b_P_holds 21 = .ok (.iconst 1, 1) := by decide +kernel
theorem d_P_holds_22 : decode b_P_holds 22 = .ok (.goto 4, 3) := by decide +kernel
theorem d_P_holds_25 : decode b_P_holds 25 = .ok (.iconst 0, 1) := by decide +kernel
theorem d_P_holds_26 : decode b_P_holds 26 = .ok (.ireturn, 1) := by decide +kernel
theorem d_P_witness_0 : decode b_P_witness 0 = .ok (.aload_n 0, 1) := by decide +kernel
theorem d_P_witness_1 : decode b_P_witness 1 = .ok (.getfield 39, 3) := by decide +kernel
theorem d_P_witness_4 : decode b_P_witness 4 = .ok (.ireturn, 1) := by decide +kernel
theorem d_P_compare_0 : decode b_P_compare 0 = .ok (.iload_n 2, 1) := by decide +kernel
theorem d_P_compare_1 : decode b_P_compare 1 = .ok (.sipush (-1000), 3) := by decide +kernel
theorem d_P_compare_4 : decode b_P_compare 4 = .ok (.if_icmp .lt 25, 3) := by decide +kernel
theorem d_P_compare_7 : decode b_P_compare 7 = .ok (.iload_n 2, 1) := by decide +kernel
theorem d_P_compare_8 : decode b_P_compare 8 = .ok (.sipush 1000, 3) := by decide +kernel
theorem d_P_compare_11 : decode b_P_compare 11 = .ok (.if_icmp .gt 18, 3) := by decide +kernel
theorem d_P_compare_14 : decode b_P_compare 14 = .ok (.iload_n 3, 1) := by decide +kernel
theorem d_P_compare_15 : decode b_P_compare 15 = .ok (.iconst 1, 1) := by decide +kernel
theorem d_P_compare_16 : decode b_P_compare 16 = .ok (.if_icmp .lt 13, 3) := by decide +kernel
theorem d_P_compare_19 : decode b_P_compare 19 = .ok (.iload_n 3, 1) := by decide +kernel
theorem d_P_compare_20 : decode b_P_compare 20 = .ok (.bipush 100, 2) := by decide +kernel
theorem d_P_compare_22 : decode b_P_compare 22 = .ok (.if_icmp .gt 7, 3) := by decide +kernel
theorem d_P_compare_25 : decode b_P_compare 25 = .ok (.iconst 1, 1) := by decide +kernel
theorem d_P_compare_26 : decode b_P_compare 26 = .ok (.goto 4, 3) := by decide +kernel
theorem d_P_compare_29 : decode b_P_compare 29 = .ok (.iconst 0, 1) := by decide +kernel
theorem d_P_compare_30 : decode b_P_compare 30 = .ok (.istore 4, 2) := by decide +kernel
theorem d_P_compare_32 : decode b_P_compare 32 = .ok (.iload 4, 2) := by decide +kernel
theorem d_P_compare_34 : decode b_P_compare 34 = .ok (.ifCond .eq 17, 3) := by decide +kernel
theorem d_P_compare_37 : decode b_P_compare 37 = .ok (.aload_n 0, 1) := by decide +kernel
theorem d_P_compare_38 : decode b_P_compare 38 = .ok (.iload_n 1, 1) := by decide +kernel
theorem d_P_compare_39 : decode b_P_compare 39 = .ok (.invokevirtual 110, 3) := by decide +kernel
theorem d_P_compare_42 : decode b_P_compare 42 = .ok (.ifCond .eq 9, 3) := by decide +kernel
theorem d_P_compare_45 : decode b_P_compare 45 = .ok (.iload_n 1, 1) := by decide +kernel
theorem d_P_compare_46 : decode b_P_compare 46 = .ok (.iconst 1, 1) := by decide +kernel
theorem d_P_compare_47 : decode b_P_compare 47 = .ok (.iand, 1) := by decide +kernel
theorem d_P_compare_48 : decode b_P_compare 48 = .ok (.ifCond .ne 6, 3) := by decide +kernel
theorem d_P_compare_51 : decode b_P_compare 51 = .ok (.bipush 9, 2) := by decide +kernel
theorem d_P_compare_53 : decode b_P_compare 53 = .ok (.ireturn, 1) := by decide +kernel
theorem d_P_compare_54 : decode b_P_compare 54 = .ok (.aload_n 0, 1) := by decide +kernel
theorem d_P_compare_55 : decode b_P_compare 55 = .ok (.getfield 28, 3) := by decide +kernel
theorem d_P_compare_58 : decode b_P_compare 58 = .ok (.getfield 113, 3) := by decide +kernel
theorem d_P_compare_61 : decode b_P_compare 61 = .ok (.iload_n 1, 1) := by decide +kernel
theorem d_P_compare_62 : decode b_P_compare 62 = .ok (.iconst 1, 1) := by decide +kernel
theorem d_P_compare_63 : decode b_P_compare 63 = .ok (.ishr, 1) := by decide +kernel
theorem d_P_compare_64 : decode b_P_compare 64 = .ok (.iload_n 2, 1) := by decide +kernel
theorem d_P_compare_65 : decode b_P_compare 65 = .ok (.ineg, 1) := by decide +kernel
theorem d_P_compare_66 : decode b_P_compare 66 = .ok (.i2l, 1) := by decide +kernel
theorem d_P_compare_67 : decode b_P_compare 67 = .ok (.iload_n 3, 1) := by decide +kernel
theorem d_P_compare_68 : decode b_P_compare 68 = .ok (.i2l, 1) := by decide +kernel
theorem d_P_compare_69 : decode b_P_compare 69 = .ok (.lconst 0, 1) := by decide +kernel
theorem d_P_compare_70 : decode b_P_compare 70 = .ok (.invokevirtual 117, 3) := by decide +kernel
theorem d_P_compare_73 : decode b_P_compare 73 = .ok (.ireturn, 1) := by decide +kernel
end
section
def f_C_clear (S : jx_S)  : Option (jx_S) :=
  some (jx_f S 13 0)
set_option maxHeartbeats 4000000 in
set_option maxRecDepth 100000 in
theorem c_C_clear (l : Launch) (G : jx_G) (S : jx_S)  (fin : jx_S) (h : f_C_clear S = some fin) : jx_M l y_C_clear b_C_clear 1 none 0 G [.ref (jx_ad G 4)] (jx_w G S) (none, jx_w G fin) := by
  refine jx_met (own := "PlaneCells$CriticalNumbers") (by decide) rfl (Nat.le_of_ble_eq_true rfl) (fun X hX hl => ?_)
  subst hl
  refine jx_L (L2 := [(0, .ref (jx_ad G 4))]) rfl ?_
  unfold f_C_clear at h
  refine jx_aload_n hX d_C_clear_0 0 rfl rfl ?_
  refine jx_iconst (v := 0) hX d_C_clear_1 (by decide) ?_
  refine pf_C_21 hX d_C_clear_2 ?_
  obtain rfl := Option.some.inj h
  exact jx_vret hX d_C_clear_5

def f_C_signWithRoots (a1 : Int64) (a2 : Int64) (a3 : Int64) : Option (Int32) :=
  if ((jx_sl a1) * (jx_sl (a2 + a3))) < 0 then
    some ((jx_sl a1) * (jx_sl (((((a1 * a1) - (jx_al a2)) - (jx_al a3)) * (jx_al (((a1 * a1) - (jx_al a2)) - (jx_al a3)))) - ((4 * a2) * a3))))
  else
    some (if (jx_sl a1) = 0 then (jx_sl (a2 + a3)) else (jx_sl a1) : Int32)
set_option maxHeartbeats 4000000 in
set_option maxRecDepth 100000 in
theorem c_C_signWithRoots (l : Launch) (G : jx_G) (S : jx_S) (a1 : Int64) (a2 : Int64) (a3 : Int64) (fin : Int32) (h : f_C_signWithRoots a1 a2 a3 = some fin) : jx_M l y_C_signWithRoots b_C_signWithRoots 10 (some .int) 1 G [.long a1, .long a2, .long a3] (jx_w G S) (some (.int fin), jx_w G S) := by
  refine jx_met (own := "PlaneCells$CriticalNumbers") (by decide) rfl (Nat.le_of_ble_eq_true rfl) (fun X hX hl => ?_)
  subst hl
  refine jx_L (L2 := [(0, .long a1), (2, .long a2), (4, .long a3)]) rfl ?_
  unfold f_C_signWithRoots at h
  refine jx_lload_n hX d_C_signWithRoots_0 0 rfl rfl ?_
  refine jx_sl_r hX wm_313 d_C_signWithRoots_1 (Nat.le_of_ble_eq_true rfl) (by decide) ?_
  refine jx_istore hX d_C_signWithRoots_4 (by decide) (L2 := [(6, .int (jx_sl a1)), (0, .long a1), (2, .long a2), (4, .long a3)]) rfl ?_
  refine jx_lload_n hX d_C_signWithRoots_6 2 rfl rfl ?_
  refine jx_lload hX d_C_signWithRoots_7 3 rfl ?_
  refine jx_ladd hX d_C_signWithRoots_9 ?_
  refine jx_sl_r hX wm_313 d_C_signWithRoots_10 (Nat.le_of_ble_eq_true rfl) (by decide) ?_
  refine jx_istore hX d_C_signWithRoots_13 (by decide) (L2 := [(7, .int (jx_sl (a2 + a3))), (6, .int (jx_sl a1)), (0, .long a1), (2, .long a2), (4, .long a3)]) rfl ?_
  refine jx_iload hX d_C_signWithRoots_15 1 rfl ?_
  refine jx_iload hX d_C_signWithRoots_17 0 rfl ?_
  refine jx_imul hX d_C_signWithRoots_19 ?_
  refine jx_if_lt hX d_C_signWithRoots_20 rfl (fun hc => ?_) (fun hc => ?_)
  · have h := jx_ip hc h
    refine jx_lload_n hX d_C_signWithRoots_36 2 rfl rfl ?_
    refine jx_lload_n hX d_C_signWithRoots_37 2 rfl rfl ?_
    refine jx_lmul hX d_C_signWithRoots_38 ?_
    refine jx_lload_n hX d_C_signWithRoots_39 3 rfl rfl ?_
    refine jx_al_r hX wm_316 d_C_signWithRoots_40 (Nat.le_of_ble_eq_true rfl) (by decide) ?_
    refine jx_lsub hX d_C_signWithRoots_43 ?_
    refine jx_lload hX d_C_signWithRoots_44 4 rfl ?_
    refine jx_al_r hX wm_316 d_C_signWithRoots_46 (Nat.le_of_ble_eq_true rfl) (by decide) ?_
    refine jx_lsub hX d_C_signWithRoots_49 ?_
    refine jx_lstore hX d_C_signWithRoots_50 (by decide) (L2 := [(8, .long (((a1 * a1) - (jx_al a2)) - (jx_al a3))), (7, .int (jx_sl (a2 + a3))), (6, .int (jx_sl a1)), (0, .long a1), (2, .long a2), (4, .long a3)]) rfl ?_
    refine jx_iload hX d_C_signWithRoots_52 2 rfl ?_
    refine jx_lload hX d_C_signWithRoots_54 0 rfl ?_
    refine jx_lload hX d_C_signWithRoots_56 0 rfl ?_
    refine jx_al_r hX wm_316 d_C_signWithRoots_58 (Nat.le_of_ble_eq_true rfl) (by decide) ?_
    refine jx_lmul hX d_C_signWithRoots_61 ?_
    refine jx_ldc2 (v := 4) hX (wm_319) d_C_signWithRoots_62 ?_
    refine jx_lload_n hX d_C_signWithRoots_65 4 rfl rfl ?_
    refine jx_lmul hX d_C_signWithRoots_66 ?_
    refine jx_lload hX d_C_signWithRoots_67 5 rfl ?_
    refine jx_lmul hX d_C_signWithRoots_69 ?_
    refine jx_lsub hX d_C_signWithRoots_70 ?_
    refine jx_sl_r hX wm_313 d_C_signWithRoots_71 (Nat.le_of_ble_eq_true rfl) (by decide) ?_
    refine jx_imul hX d_C_signWithRoots_74 ?_
    obtain rfl := Option.some.inj h
    exact jx_iret hX d_C_signWithRoots_75
  · have h := jx_in_ hc h
    refine jx_iload hX d_C_signWithRoots_23 1 rfl ?_
    have hj : jx_At G X (some (.int fin), jx_w G S) (jx_w G S) 35 [(7, .int (jx_sl (a2 + a3))), (6, .int (jx_sl a1)), (0, .long a1), (2, .long a2), (4, .long a3)] [.int (if (jx_sl a1) = 0 then (jx_sl (a2 + a3)) else (jx_sl a1) : Int32)] := by
      obtain rfl := Option.some.inj h
      exact jx_iret hX d_C_signWithRoots_35
    refine jx_if_eq hX d_C_signWithRoots_25 rfl (fun hc1 => ?_) (fun hc1 => ?_)
    · refine jx_iload hX d_C_signWithRoots_33 0 rfl ?_
      have hj2 := hj
      rw [if_pos hc1] at hj2
      exact hj2
    · refine jx_iload hX d_C_signWithRoots_28 1 rfl ?_
      refine jx_goto hX d_C_signWithRoots_30 rfl ?_
      have hj2 := hj
      rw [if_neg hc1] at hj2
      exact hj2

def f_C_signOfDifference (S : jx_S) (a1 : Int32) (a2 : Int32) (a3 : Int32) (a4 : Int32) : Option (Int32) :=
  if jx_in a1 72 = true then
    (f_C_signWithRoots (((((S.2.1 6) (a1).toNatClampNeg)).toInt64 * (a4).toInt64) - ((a2).toInt64 * (((S.2.1 8) (a1).toNatClampNeg)).toInt64)) (((((S.2.1 7) (a1).toNatClampNeg)).toInt64 * (a4).toInt64) * (a4).toInt64) (-(((a3).toInt64 * (((S.2.1 8) (a1).toNatClampNeg)).toInt64) * (((S.2.1 8) (a1).toNatClampNeg)).toInt64))).bind fun q68_2 =>
      some q68_2
  else none
set_option maxHeartbeats 4000000 in
set_option maxRecDepth 100000 in
theorem c_C_signOfDifference (l : Launch) (G : jx_G) (S : jx_S) (a1 : Int32) (a2 : Int32) (a3 : Int32) (a4 : Int32) (fin : Int32) (h : f_C_signOfDifference S a1 a2 a3 a4 = some fin) : jx_M l y_C_signOfDifference b_C_signOfDifference 11 (some .int) 2 G [.ref (jx_ad G 4), .int a1, .int a2, .int a3, .int a4] (jx_w G S) (some (.int fin), jx_w G S) := by
  refine jx_met (own := "PlaneCells$CriticalNumbers") (by decide) rfl (Nat.le_of_ble_eq_true rfl) (fun X hX hl => ?_)
  subst hl
  refine jx_L (L2 := [(0, .ref (jx_ad G 4)), (1, .int a1), (2, .int a2), (3, .int a3), (4, .int a4)]) rfl ?_
  unfold f_C_signOfDifference at h
  refine jx_aload_n hX d_C_signOfDifference_0 0 rfl rfl ?_
  refine gf_C_9 hX d_C_signOfDifference_1 ?_
  refine jx_iload_n hX d_C_signOfDifference_4 1 rfl rfl ?_
  obtain ⟨hg1, h⟩ := jx_gd h
  refine al_6 hX d_C_signOfDifference_5 rfl hg1 ?_
  refine jx_i2l hX d_C_signOfDifference_6 rfl ?_
  refine jx_iload hX d_C_signOfDifference_7 4 rfl ?_
  refine jx_i2l hX d_C_signOfDifference_9 rfl ?_
  refine jx_lmul hX d_C_signOfDifference_10 ?_
  refine jx_iload_n hX d_C_signOfDifference_11 2 rfl rfl ?_
  refine jx_i2l hX d_C_signOfDifference_12 rfl ?_
  refine jx_aload_n hX d_C_signOfDifference_13 0 rfl rfl ?_
  refine gf_C_18 hX d_C_signOfDifference_14 ?_
  refine jx_iload_n hX d_C_signOfDifference_17 1 rfl rfl ?_
  refine al_8 hX d_C_signOfDifference_18 rfl hg1 ?_
  refine jx_i2l hX d_C_signOfDifference_19 rfl ?_
  refine jx_lmul hX d_C_signOfDifference_20 ?_
  refine jx_lsub hX d_C_signOfDifference_21 ?_
  refine jx_lstore hX d_C_signOfDifference_22 (by decide) (L2 := [(5, .long (((((S.2.1 6) (a1).toNatClampNeg)).toInt64 * (a4).toInt64) - ((a2).toInt64 * (((S.2.1 8) (a1).toNatClampNeg)).toInt64))), (0, .ref (jx_ad G 4)), (1, .int a1), (2, .int a2), (3, .int a3), (4, .int a4)]) rfl ?_
  refine jx_aload_n hX d_C_signOfDifference_24 1 rfl rfl ?_
  refine gf_C_15 hX d_C_signOfDifference_25 ?_
  refine jx_iload_n hX d_C_signOfDifference_28 2 rfl rfl ?_
  refine al_7 hX d_C_signOfDifference_29 rfl hg1 ?_
  refine jx_i2l hX d_C_signOfDifference_30 rfl ?_
  refine jx_iload hX d_C_signOfDifference_31 5 rfl ?_
  refine jx_i2l hX d_C_signOfDifference_33 rfl ?_
  refine jx_lmul hX d_C_signOfDifference_34 ?_
  refine jx_iload hX d_C_signOfDifference_35 5 rfl ?_
  refine jx_i2l hX d_C_signOfDifference_37 rfl ?_
  refine jx_lmul hX d_C_signOfDifference_38 ?_
  refine jx_lstore hX d_C_signOfDifference_39 (by decide) (L2 := [(7, .long (((((S.2.1 7) (a1).toNatClampNeg)).toInt64 * (a4).toInt64) * (a4).toInt64)), (5, .long (((((S.2.1 6) (a1).toNatClampNeg)).toInt64 * (a4).toInt64) - ((a2).toInt64 * (((S.2.1 8) (a1).toNatClampNeg)).toInt64))), (0, .ref (jx_ad G 4)), (1, .int a1), (2, .int a2), (3, .int a3), (4, .int a4)]) rfl ?_
  refine jx_iload_n hX d_C_signOfDifference_41 5 rfl rfl ?_
  refine jx_i2l hX d_C_signOfDifference_42 rfl ?_
  refine jx_aload_n hX d_C_signOfDifference_43 2 rfl rfl ?_
  refine gf_C_18 hX d_C_signOfDifference_44 ?_
  refine jx_iload_n hX d_C_signOfDifference_47 3 rfl rfl ?_
  refine al_8 hX d_C_signOfDifference_48 rfl hg1 ?_
  refine jx_i2l hX d_C_signOfDifference_49 rfl ?_
  refine jx_lmul hX d_C_signOfDifference_50 ?_
  refine jx_aload_n hX d_C_signOfDifference_51 2 rfl rfl ?_
  refine gf_C_18 hX d_C_signOfDifference_52 ?_
  refine jx_iload_n hX d_C_signOfDifference_55 3 rfl rfl ?_
  refine al_8 hX d_C_signOfDifference_56 rfl hg1 ?_
  refine jx_i2l hX d_C_signOfDifference_57 rfl ?_
  refine jx_lmul hX d_C_signOfDifference_58 ?_
  refine jx_lstore hX d_C_signOfDifference_59 (by decide) (L2 := [(9, .long (((a3).toInt64 * (((S.2.1 8) (a1).toNatClampNeg)).toInt64) * (((S.2.1 8) (a1).toNatClampNeg)).toInt64)), (7, .long (((((S.2.1 7) (a1).toNatClampNeg)).toInt64 * (a4).toInt64) * (a4).toInt64)), (5, .long (((((S.2.1 6) (a1).toNatClampNeg)).toInt64 * (a4).toInt64) - ((a2).toInt64 * (((S.2.1 8) (a1).toNatClampNeg)).toInt64))), (0, .ref (jx_ad G 4)), (1, .int a1), (2, .int a2), (3, .int a3), (4, .int a4)]) rfl ?_
  refine jx_lload hX d_C_signOfDifference_61 2 rfl ?_
  refine jx_lload hX d_C_signOfDifference_63 1 rfl ?_
  refine jx_lload hX d_C_signOfDifference_65 0 rfl ?_
  refine jx_lneg hX d_C_signOfDifference_67 ?_
  obtain ⟨q68_2, hq68_2, h⟩ := jx_bd h
  refine cs_C_54 hX (c_C_signWithRoots (jx_l X) G S (((((S.2.1 6) (a1).toNatClampNeg)).toInt64 * (a4).toInt64) - ((a2).toInt64 * (((S.2.1 8) (a1).toNatClampNeg)).toInt64)) (((((S.2.1 7) (a1).toNatClampNeg)).toInt64 * (a4).toInt64) * (a4).toInt64) (-(((a3).toInt64 * (((S.2.1 8) (a1).toNatClampNeg)).toInt64) * (((S.2.1 8) (a1).toNatClampNeg)).toInt64)) q68_2 hq68_2) d_C_signOfDifference_68 (by decide) (Nat.le_of_ble_eq_true rfl) ?_
  obtain rfl := Option.some.inj h
  exact jx_iret hX d_C_signOfDifference_71

def b_C_insert_16 (x1 : Int32) (x2 : Int32) (x3 : Int32) (x4 : Int32) (z : jx_S × Int32) : Option ((jx_S × Int32) ⊕ (jx_S)) :=
  if z.2 ≤ x1 then
    some (.inr z.1)
  else
    if jx_in (z.2 - 1) 72 = true then
      if jx_in z.2 72 = true then
        some (.inl ((jx_g (jx_g (jx_g z.1 6 (upd (z.1.2.1 6) (z.2).toNatClampNeg ((z.1.2.1 6) ((z.2 - 1)).toNatClampNeg))) 7 (upd (z.1.2.1 7) (z.2).toNatClampNeg ((z.1.2.1 7) ((z.2 - 1)).toNatClampNeg))) 8 (upd (z.1.2.1 8) (z.2).toNatClampNeg ((z.1.2.1 8) ((z.2 - 1)).toNatClampNeg))), (z.2 + (-1))))
      else none
    else none

def f_C_insert (S : jx_S) (a1 : Int32) (a2 : Int32) (a3 : Int32) (a4 : Int32) : Option (jx_S) :=
  if (S.1 13) < 72 then
    (jx_lp (b_C_insert_16 a1 a2 a3 a4) jx_N (S, (S.1 13))).bind fun z16_3 =>
      if jx_in a1 72 = true then
        some (jx_f (jx_g (jx_g (jx_g z16_3 6 (upd (z16_3.2.1 6) (a1).toNatClampNeg a2)) 7 (upd (z16_3.2.1 7) (a1).toNatClampNeg a3)) 8 (upd (z16_3.2.1 8) (a1).toNatClampNeg a4)) 13 ((z16_3.1 13) + 1))
      else none
  else
    some S
set_option maxHeartbeats 4000000 in
set_option maxRecDepth 100000 in
theorem lt_C_insert_16 {G : jx_G} {X : jx_C} (hX : jx_Ok G X b_C_insert "PlaneCells$CriticalNumbers" none 6 0) (fin : jx_S) (x1 : Int32) (x2 : Int32) (x3 : Int32) (x4 : Int32) {n : Nat} {z : jx_S × Int32} {r : jx_S} (hz : jx_lp (b_C_insert_16 x1 x2 x3 x4) n z = some r) (hk : jx_At G X (none, jx_w G fin) (jx_w G r) 76 [(0, .ref (jx_ad G 4)), (1, .int x1), (2, .int x2), (3, .int x3), (4, .int x4)] []) : jx_At G X (none, jx_w G fin) (jx_w G z.1) 16 [(0, .ref (jx_ad G 4)), (1, .int x1), (2, .int x2), (3, .int x3), (4, .int x4), (5, .int z.2)] [] := by
  refine jx_loop1 (b_C_insert_16 x1 x2 x3 x4) (fun z => jx_At G X (none, jx_w G fin) (jx_w G z.1) 16 [(0, .ref (jx_ad G 4)), (1, .int x1), (2, .int x2), (3, .int x3), (4, .int x4), (5, .int z.2)] []) (fun z => jx_At G X (none, jx_w G fin) (jx_w G z) 76 [(0, .ref (jx_ad G 4)), (1, .int x1), (2, .int x2), (3, .int x3), (4, .int x4)] []) ?_ n z r hz hk
  intro z o h hi hx
  unfold b_C_insert_16 at h
  refine jx_iload hX d_C_insert_16 5 rfl ?_
  refine jx_iload_n hX d_C_insert_18 1 rfl rfl ?_
  refine jx_icmp_le hX d_C_insert_19 rfl (fun hc => ?_) (fun hc => ?_)
  · have h := jx_ip hc h
    refine jx_sub (L2 := [(0, .ref (jx_ad G 4)), (1, .int x1), (2, .int x2), (3, .int x3), (4, .int x4)]) [0, 1, 2, 3, 4] rfl ?_
    obtain rfl := Option.some.inj h
    exact hx _ rfl
  · have h := jx_in_ hc h
    refine jx_aload_n hX d_C_insert_22 0 rfl rfl ?_
    refine gf_C_9 hX d_C_insert_23 ?_
    refine jx_iload hX d_C_insert_26 5 rfl ?_
    refine jx_aload_n hX d_C_insert_28 0 rfl rfl ?_
    refine gf_C_9 hX d_C_insert_29 ?_
    refine jx_iload hX d_C_insert_32 5 rfl ?_
    refine jx_iconst (v := 1) hX d_C_insert_34 (by decide) ?_
    refine jx_isub hX d_C_insert_35 ?_
    obtain ⟨hg1, h⟩ := jx_gd h
    refine al_6 hX d_C_insert_36 rfl hg1 ?_
    obtain ⟨hg2, h⟩ := jx_gd h
    refine as_6 hX d_C_insert_37 rfl hg2 ?_
    refine jx_aload_n hX d_C_insert_38 0 rfl rfl ?_
    refine gf_C_15 hX d_C_insert_39 ?_
    refine jx_iload hX d_C_insert_42 5 rfl ?_
    refine jx_aload_n hX d_C_insert_44 0 rfl rfl ?_
    refine gf_C_15 hX d_C_insert_45 ?_
    refine jx_iload hX d_C_insert_48 5 rfl ?_
    refine jx_iconst (v := 1) hX d_C_insert_50 (by decide) ?_
    refine jx_isub hX d_C_insert_51 ?_
    refine al_7 hX d_C_insert_52 (f := (z.1.2.1 7)) rfl hg1 ?_
    refine as_7 hX d_C_insert_53 (f := (z.1.2.1 7)) rfl hg2 ?_
    refine jx_aload_n hX d_C_insert_54 0 rfl rfl ?_
    refine gf_C_18 hX d_C_insert_55 ?_
    refine jx_iload hX d_C_insert_58 5 rfl ?_
    refine jx_aload_n hX d_C_insert_60 0 rfl rfl ?_
    refine gf_C_18 hX d_C_insert_61 ?_
    refine jx_iload hX d_C_insert_64 5 rfl ?_
    refine jx_iconst (v := 1) hX d_C_insert_66 (by decide) ?_
    refine jx_isub hX d_C_insert_67 ?_
    refine al_8 hX d_C_insert_68 (f := (z.1.2.1 8)) rfl hg1 ?_
    refine as_8 hX d_C_insert_69 (f := (z.1.2.1 8)) rfl hg2 ?_
    refine jx_iinc (v := (z.2 + (-1))) hX d_C_insert_70 5 rfl (by first | rfl | decide) (by decide) (L2 := [(5, .int (z.2 + (-1))), (0, .ref (jx_ad G 4)), (1, .int x1), (2, .int x2), (3, .int x3), (4, .int x4)]) rfl ?_
    refine jx_goto hX d_C_insert_73 rfl ?_
    refine jx_sub (L2 := [(0, .ref (jx_ad G 4)), (1, .int x1), (2, .int x2), (3, .int x3), (4, .int x4), (5, .int (z.2 + (-1)))]) [1, 2, 3, 4, 5, 0] rfl ?_
    obtain rfl := Option.some.inj h
    exact hi _ rfl

set_option maxHeartbeats 4000000 in
set_option maxRecDepth 100000 in
theorem c_C_insert (l : Launch) (G : jx_G) (S : jx_S) (a1 : Int32) (a2 : Int32) (a3 : Int32) (a4 : Int32) (fin : jx_S) (h : f_C_insert S a1 a2 a3 a4 = some fin) : jx_M l y_C_insert b_C_insert 6 none 0 G [.ref (jx_ad G 4), .int a1, .int a2, .int a3, .int a4] (jx_w G S) (none, jx_w G fin) := by
  refine jx_met (own := "PlaneCells$CriticalNumbers") (by decide) rfl (Nat.le_of_ble_eq_true rfl) (fun X hX hl => ?_)
  subst hl
  refine jx_L (L2 := [(0, .ref (jx_ad G 4)), (1, .int a1), (2, .int a2), (3, .int a3), (4, .int a4)]) rfl ?_
  unfold f_C_insert at h
  refine jx_aload_n hX d_C_insert_0 0 rfl rfl ?_
  refine gf_C_21 hX d_C_insert_1 rfl ?_
  refine jx_bipush (v := 72) hX d_C_insert_4 (by decide) ?_
  refine jx_icmp_lt hX d_C_insert_6 rfl (fun hc => ?_) (fun hc => ?_)
  · have h := jx_ip hc h
    refine jx_aload_n hX d_C_insert_10 0 rfl rfl ?_
    refine gf_C_21 hX d_C_insert_11 rfl ?_
    refine jx_istore hX d_C_insert_14 (by decide) (L2 := [(5, .int (S.1 13)), (0, .ref (jx_ad G 4)), (1, .int a1), (2, .int a2), (3, .int a3), (4, .int a4)]) rfl ?_
    refine jx_sub (L2 := [(0, .ref (jx_ad G 4)), (1, .int a1), (2, .int a2), (3, .int a3), (4, .int a4), (5, .int (S.1 13))]) [1, 2, 3, 4, 5, 0] rfl ?_
    obtain ⟨z16_3, hz, h⟩ := jx_bd h
    refine lt_C_insert_16 hX fin a1 a2 a3 a4 hz ?_
    refine jx_aload_n hX d_C_insert_76 0 rfl rfl ?_
    refine gf_C_9 hX d_C_insert_77 ?_
    refine jx_iload_n hX d_C_insert_80 1 rfl rfl ?_
    refine jx_iload_n hX d_C_insert_81 2 rfl rfl ?_
    obtain ⟨hg4, h⟩ := jx_gd h
    refine as_6 hX d_C_insert_82 rfl hg4 ?_
    refine jx_aload_n hX d_C_insert_83 0 rfl rfl ?_
    refine gf_C_15 hX d_C_insert_84 ?_
    refine jx_iload_n hX d_C_insert_87 1 rfl rfl ?_
    refine jx_iload_n hX d_C_insert_88 3 rfl rfl ?_
    refine as_7 hX d_C_insert_89 (f := (z16_3.2.1 7)) rfl hg4 ?_
    refine jx_aload_n hX d_C_insert_90 0 rfl rfl ?_
    refine gf_C_18 hX d_C_insert_91 ?_
    refine jx_iload_n hX d_C_insert_94 1 rfl rfl ?_
    refine jx_iload hX d_C_insert_95 4 rfl ?_
    refine as_8 hX d_C_insert_97 (f := (z16_3.2.1 8)) rfl hg4 ?_
    refine jx_aload_n hX d_C_insert_98 0 rfl rfl ?_
    refine jx_dup hX d_C_insert_99 rfl ?_
    refine gf_C_21 hX d_C_insert_100 (x := (z16_3.1 13)) rfl ?_
    refine jx_iconst (v := 1) hX d_C_insert_103 (by decide) ?_
    refine jx_iadd hX d_C_insert_104 ?_
    refine pf_C_21 hX d_C_insert_105 ?_
    obtain rfl := Option.some.inj h
    exact jx_vret hX d_C_insert_108
  · have h := jx_in_ hc h
    obtain rfl := Option.some.inj h
    exact jx_vret hX d_C_insert_9

def b_C_add_3 (S : jx_S) (x1 : Int32) (x2 : Int32) (x3 : Int32) (z : Int32) : Option ((Int32) ⊕ ((Int32) ⊕ jx_S)) :=
  if (S.1 13) ≤ z then
    some (.inr (.inl z))
  else
    (f_C_signOfDifference S z x1 x2 x3).bind fun q18_1 =>
      if q18_1 = 0 then
        some (.inr (.inr S))
      else
        if q18_1 ≤ 0 then
          some (.inl (z + 1))
        else
          some (.inr (.inl z))

def f_C_add (S : jx_S) (a1 : Int32) (a2 : Int32) (a3 : Int32) : Option (jx_S) :=
  (jx_lp (b_C_add_3 S a1 a2 a3) jx_N 0).bind (Sum.elim (fun z3_2 =>
    (f_C_insert S z3_2 a1 a2 a3).bind fun q49_3 =>
      some q49_3)
    (fun y => some y))
set_option maxHeartbeats 4000000 in
set_option maxRecDepth 100000 in
theorem lt_C_add_3 {G : jx_G} {X : jx_C} (hX : jx_Ok G X b_C_add "PlaneCells$CriticalNumbers" none 6 3) (fin : jx_S) (S : jx_S) (x1 : Int32) (x2 : Int32) (x3 : Int32) {n : Nat} {z : Int32} {r : (Int32) ⊕ jx_S} (hz : jx_lp (b_C_add_3 S x1 x2 x3) n z = some r) (hk : ∀ u, r = .inl u → jx_At G X (none, jx_w G fin) (jx_w G S) 43 [(0, .ref (jx_ad G 4)), (1, .int x1), (2, .int x2), (3, .int x3), (4, .int u)] []) (hy : ∀ y, r = .inr y → y = fin) : jx_At G X (none, jx_w G fin) (jx_w G S) 3 [(0, .ref (jx_ad G 4)), (1, .int x1), (2, .int x2), (3, .int x3), (4, .int z)] [] := by
  refine jx_loop2 (b_C_add_3 S x1 x2 x3) (fun z => jx_At G X (none, jx_w G fin) (jx_w G S) 3 [(0, .ref (jx_ad G 4)), (1, .int x1), (2, .int x2), (3, .int x3), (4, .int z)] []) (fun z => jx_At G X (none, jx_w G fin) (jx_w G S) 43 [(0, .ref (jx_ad G 4)), (1, .int x1), (2, .int x2), (3, .int x3), (4, .int z)] []) fin ?_ n z r hz hk hy
  intro z o h hi hx hr
  unfold b_C_add_3 at h
  refine jx_iload hX d_C_add_3 4 rfl ?_
  refine jx_aload_n hX d_C_add_5 0 rfl rfl ?_
  refine gf_C_21 hX d_C_add_6 rfl ?_
  refine jx_icmp_ge hX d_C_add_9 rfl (fun hc => ?_) (fun hc => ?_)
  · have h := jx_ip hc h
    obtain rfl := Option.some.inj h
    exact hx _ rfl
  · have h := jx_in_ hc h
    refine jx_aload_n hX d_C_add_12 0 rfl rfl ?_
    refine jx_iload hX d_C_add_13 4 rfl ?_
    refine jx_iload_n hX d_C_add_15 1 rfl rfl ?_
    refine jx_iload_n hX d_C_add_16 2 rfl rfl ?_
    refine jx_iload_n hX d_C_add_17 3 rfl rfl ?_
    obtain ⟨q18_1, hq18_1, h⟩ := jx_bd h
    refine cs_C_46 hX (c_C_signOfDifference (jx_l X) G S z x1 x2 x3 q18_1 hq18_1) d_C_add_18 (by decide) (Nat.le_of_ble_eq_true rfl) ?_
    refine jx_istore hX d_C_add_21 (by decide) (L2 := [(5, .int q18_1), (0, .ref (jx_ad G 4)), (1, .int x1), (2, .int x2), (3, .int x3), (4, .int z)]) rfl ?_
    refine jx_iload hX d_C_add_23 0 rfl ?_
    refine jx_if_ne hX d_C_add_25 rfl (fun hc => ?_) (fun hc => ?_)
    · have h := jx_in_ hc h
      refine jx_iload hX d_C_add_29 0 rfl ?_
      refine jx_if_le hX d_C_add_31 rfl (fun hc => ?_) (fun hc => ?_)
      · have h := jx_ip hc h
        refine jx_iinc (v := (z + 1)) hX d_C_add_37 5 rfl (by first | rfl | decide) (by decide) (L2 := [(4, .int (z + 1)), (5, .int q18_1), (0, .ref (jx_ad G 4)), (1, .int x1), (2, .int x2), (3, .int x3)]) rfl ?_
        refine jx_goto hX d_C_add_40 rfl ?_
        refine jx_sub (L2 := [(0, .ref (jx_ad G 4)), (1, .int x1), (2, .int x2), (3, .int x3), (4, .int (z + 1))]) [2, 3, 4, 5, 0] rfl ?_
        obtain rfl := Option.some.inj h
        exact hi _ rfl
      · have h := jx_in_ hc h
        refine jx_goto hX d_C_add_34 rfl ?_
        refine jx_sub (L2 := [(0, .ref (jx_ad G 4)), (1, .int x1), (2, .int x2), (3, .int x3), (4, .int z)]) [1, 2, 3, 4, 5] rfl ?_
        obtain rfl := Option.some.inj h
        exact hx _ rfl
    · have h := jx_ip hc h
      obtain rfl := Option.some.inj h
      obtain rfl := hr _ rfl
      exact jx_vret hX d_C_add_28

set_option maxHeartbeats 4000000 in
set_option maxRecDepth 100000 in
theorem c_C_add (l : Launch) (G : jx_G) (S : jx_S) (a1 : Int32) (a2 : Int32) (a3 : Int32) (fin : jx_S) (h : f_C_add S a1 a2 a3 = some fin) : jx_M l y_C_add b_C_add 6 none 3 G [.ref (jx_ad G 4), .int a1, .int a2, .int a3] (jx_w G S) (none, jx_w G fin) := by
  refine jx_met (own := "PlaneCells$CriticalNumbers") (by decide) rfl (Nat.le_of_ble_eq_true rfl) (fun X hX hl => ?_)
  subst hl
  refine jx_L (L2 := [(0, .ref (jx_ad G 4)), (1, .int a1), (2, .int a2), (3, .int a3)]) rfl ?_
  unfold f_C_add at h
  refine jx_iconst (v := 0) hX d_C_add_0 (by decide) ?_
  refine jx_istore hX d_C_add_1 (by decide) (L2 := [(4, .int 0), (0, .ref (jx_ad G 4)), (1, .int a1), (2, .int a2), (3, .int a3)]) rfl ?_
  refine jx_sub (L2 := [(0, .ref (jx_ad G 4)), (1, .int a1), (2, .int a2), (3, .int a3), (4, .int 0)]) [1, 2, 3, 4, 0] rfl ?_
  obtain ⟨r, hz, h⟩ := jx_bd h
  refine lt_C_add_3 hX fin S a1 a2 a3 hz (fun z3_2 e => ?_) (fun y e => ?_)
  · subst e
    have h := jx_el h
    refine jx_aload_n hX d_C_add_43 0 rfl rfl ?_
    refine jx_iload hX d_C_add_44 4 rfl ?_
    refine jx_iload_n hX d_C_add_46 1 rfl rfl ?_
    refine jx_iload_n hX d_C_add_47 2 rfl rfl ?_
    refine jx_iload_n hX d_C_add_48 3 rfl rfl ?_
    obtain ⟨q49_3, hq49_3, h⟩ := jx_bd h
    refine cs_C_50 hX (c_C_insert (jx_l X) G S z3_2 a1 a2 a3 q49_3 hq49_3) d_C_add_49 (by decide) (Nat.le_of_ble_eq_true rfl) ?_
    obtain rfl := Option.some.inj h
    exact jx_vret hX d_C_add_52
  · subst e
    have h := jx_er h
    exact Option.some.inj h

def f_C_addZerosOf (S : jx_S)  : Option (jx_S) :=
  if (S.1 16) = 0 then
    if (S.1 15) = 0 then
      some S
    else
      (f_C_add S (if (S.1 15) ≤ 0 then (S.1 14) else (-(S.1 14)) : Int32) 0 (jx_ai (S.1 15))).bind fun q122_1 =>
        some q122_1
  else
    if (((S.1 15) * (S.1 15)) - ((4 * (S.1 16)) * (S.1 14))) < 0 then
      some S
    else
      (f_C_add S (if (S.1 16) ≤ 0 then (S.1 15) else (-(S.1 15)) : Int32) (-(((S.1 15) * (S.1 15)) - ((4 * (S.1 16)) * (S.1 14)))) (2 * (jx_ai (S.1 16)))).bind fun q66_3 =>
        (f_C_add q66_3 (if (S.1 16) ≤ 0 then (S.1 15) else (-(S.1 15)) : Int32) (((S.1 15) * (S.1 15)) - ((4 * (S.1 16)) * (S.1 14))) (2 * (jx_ai (q66_3.1 16)))).bind fun q81_4 =>
          some q81_4
set_option maxHeartbeats 4000000 in
set_option maxRecDepth 100000 in
theorem c_C_addZerosOf (l : Launch) (G : jx_G) (S : jx_S)  (fin : jx_S) (h : f_C_addZerosOf S = some fin) : jx_M l y_C_addZerosOf b_C_addZerosOf 4 none 4 G [.ref (jx_ad G 4), .ref (jx_ad G 5)] (jx_w G S) (none, jx_w G fin) := by
  refine jx_met (own := "PlaneCells$CriticalNumbers") (by decide) rfl (Nat.le_of_ble_eq_true rfl) (fun X hX hl => ?_)
  subst hl
  refine jx_L (L2 := [(0, .ref (jx_ad G 4)), (1, .ref (jx_ad G 5))]) rfl ?_
  unfold f_C_addZerosOf at h
  refine jx_aload_n hX d_C_addZerosOf_0 1 rfl rfl ?_
  refine gf_C_25 hX d_C_addZerosOf_1 rfl ?_
  refine jx_if_eq hX d_C_addZerosOf_4 rfl (fun hc => ?_) (fun hc => ?_)
  · have h := jx_ip hc h
    refine jx_aload_n hX d_C_addZerosOf_87 1 rfl rfl ?_
    refine gf_C_30 hX d_C_addZerosOf_88 rfl ?_
    refine jx_if_eq hX d_C_addZerosOf_91 rfl (fun hc => ?_) (fun hc => ?_)
    · have h := jx_ip hc h
      obtain rfl := Option.some.inj h
      exact jx_vret hX d_C_addZerosOf_125
    · have h := jx_in_ hc h
      refine jx_aload_n hX d_C_addZerosOf_94 0 rfl rfl ?_
      refine jx_aload_n hX d_C_addZerosOf_95 1 rfl rfl ?_
      refine gf_C_30 hX d_C_addZerosOf_96 rfl ?_
      have hj : jx_At G X (none, jx_w G fin) (jx_w G S) 114 [(0, .ref (jx_ad G 4)), (1, .ref (jx_ad G 5))] [.int (if (S.1 15) ≤ 0 then (S.1 14) else (-(S.1 14)) : Int32), .ref (jx_ad G 4)] := by
        refine jx_iconst (v := 0) hX d_C_addZerosOf_114 (by decide) ?_
        refine jx_aload_n hX d_C_addZerosOf_115 1 rfl rfl ?_
        refine gf_C_30 hX d_C_addZerosOf_116 rfl ?_
        refine jx_ai_r hX wm_299 d_C_addZerosOf_119 (Nat.le_of_ble_eq_true rfl) (by decide) ?_
        obtain ⟨q122_1, hq122_1, h⟩ := jx_bd h
        refine cs_C_42 hX (c_C_add (jx_l X) G S (if (S.1 15) ≤ 0 then (S.1 14) else (-(S.1 14)) : Int32) 0 (jx_ai (S.1 15)) q122_1 hq122_1) d_C_addZerosOf_122 (by decide) (Nat.le_of_ble_eq_true rfl) ?_
        obtain rfl := Option.some.inj h
        exact jx_vret hX d_C_addZerosOf_125
      refine jx_if_le hX d_C_addZerosOf_99 rfl (fun hc2 => ?_) (fun hc2 => ?_)
      · refine jx_aload_n hX d_C_addZerosOf_110 1 rfl rfl ?_
        refine gf_C_33 hX d_C_addZerosOf_111 rfl ?_
        have hj2 := hj
        rw [if_pos hc2] at hj2
        exact hj2
      · refine jx_aload_n hX d_C_addZerosOf_102 1 rfl rfl ?_
        refine gf_C_33 hX d_C_addZerosOf_103 rfl ?_
        refine jx_ineg hX d_C_addZerosOf_106 ?_
        refine jx_goto hX d_C_addZerosOf_107 rfl ?_
        have hj2 := hj
        rw [if_neg hc2] at hj2
        exact hj2
  · have h := jx_in_ hc h
    refine jx_aload_n hX d_C_addZerosOf_7 1 rfl rfl ?_
    refine gf_C_30 hX d_C_addZerosOf_8 rfl ?_
    refine jx_aload_n hX d_C_addZerosOf_11 1 rfl rfl ?_
    refine gf_C_30 hX d_C_addZerosOf_12 rfl ?_
    refine jx_imul hX d_C_addZerosOf_15 ?_
    refine jx_iconst (v := 4) hX d_C_addZerosOf_16 (by decide) ?_
    refine jx_aload_n hX d_C_addZerosOf_17 1 rfl rfl ?_
    refine gf_C_25 hX d_C_addZerosOf_18 rfl ?_
    refine jx_imul hX d_C_addZerosOf_21 ?_
    refine jx_aload_n hX d_C_addZerosOf_22 1 rfl rfl ?_
    refine gf_C_33 hX d_C_addZerosOf_23 rfl ?_
    refine jx_imul hX d_C_addZerosOf_26 ?_
    refine jx_isub hX d_C_addZerosOf_27 ?_
    refine jx_istore_n hX d_C_addZerosOf_28 rfl (by decide) (L2 := [(2, .int (((S.1 15) * (S.1 15)) - ((4 * (S.1 16)) * (S.1 14)))), (0, .ref (jx_ad G 4)), (1, .ref (jx_ad G 5))]) rfl ?_
    refine jx_aload_n hX d_C_addZerosOf_29 2 rfl rfl ?_
    refine gf_C_25 hX d_C_addZerosOf_30 rfl ?_
    have hj : jx_At G X (none, jx_w G fin) (jx_w G S) 48 [(2, .int (((S.1 15) * (S.1 15)) - ((4 * (S.1 16)) * (S.1 14)))), (0, .ref (jx_ad G 4)), (1, .ref (jx_ad G 5))] [.int (if (S.1 16) ≤ 0 then (S.1 15) else (-(S.1 15)) : Int32)] := by
      refine jx_istore_n hX d_C_addZerosOf_48 rfl (by decide) (L2 := [(3, .int (if (S.1 16) ≤ 0 then (S.1 15) else (-(S.1 15)) : Int32)), (2, .int (((S.1 15) * (S.1 15)) - ((4 * (S.1 16)) * (S.1 14)))), (0, .ref (jx_ad G 4)), (1, .ref (jx_ad G 5))]) rfl ?_
      refine jx_iload_n hX d_C_addZerosOf_49 1 rfl rfl ?_
      refine jx_if_lt hX d_C_addZerosOf_50 rfl (fun hc => ?_) (fun hc => ?_)
      · have h := jx_ip hc h
        refine jx_goto hX d_C_addZerosOf_84 rfl ?_
        obtain rfl := Option.some.inj h
        exact jx_vret hX d_C_addZerosOf_125
      · have h := jx_in_ hc h
        refine jx_aload_n hX d_C_addZerosOf_53 2 rfl rfl ?_
        refine jx_iload_n hX d_C_addZerosOf_54 0 rfl rfl ?_
        refine jx_iload_n hX d_C_addZerosOf_55 1 rfl rfl ?_
        refine jx_ineg hX d_C_addZerosOf_56 ?_
        refine jx_iconst (v := 2) hX d_C_addZerosOf_57 (by decide) ?_
        refine jx_aload_n hX d_C_addZerosOf_58 3 rfl rfl ?_
        refine gf_C_25 hX d_C_addZerosOf_59 rfl ?_
        refine jx_ai_r hX wm_299 d_C_addZerosOf_62 (Nat.le_of_ble_eq_true rfl) (by decide) ?_
        refine jx_imul hX d_C_addZerosOf_65 ?_
        obtain ⟨q66_3, hq66_3, h⟩ := jx_bd h
        refine cs_C_42 hX (c_C_add (jx_l X) G S (if (S.1 16) ≤ 0 then (S.1 15) else (-(S.1 15)) : Int32) (-(((S.1 15) * (S.1 15)) - ((4 * (S.1 16)) * (S.1 14)))) (2 * (jx_ai (S.1 16))) q66_3 hq66_3) d_C_addZerosOf_66 (by decide) (Nat.le_of_ble_eq_true rfl) ?_
        refine jx_aload_n hX d_C_addZerosOf_69 2 rfl rfl ?_
        refine jx_iload_n hX d_C_addZerosOf_70 0 rfl rfl ?_
        refine jx_iload_n hX d_C_addZerosOf_71 1 rfl rfl ?_
        refine jx_iconst (v := 2) hX d_C_addZerosOf_72 (by decide) ?_
        refine jx_aload_n hX d_C_addZerosOf_73 3 rfl rfl ?_
        refine gf_C_25 hX d_C_addZerosOf_74 rfl ?_
        refine jx_ai_r hX wm_299 d_C_addZerosOf_77 (Nat.le_of_ble_eq_true rfl) (by decide) ?_
        refine jx_imul hX d_C_addZerosOf_80 ?_
        obtain ⟨q81_4, hq81_4, h⟩ := jx_bd h
        refine cs_C_42 hX (c_C_add (jx_l X) G q66_3 (if (S.1 16) ≤ 0 then (S.1 15) else (-(S.1 15)) : Int32) (((S.1 15) * (S.1 15)) - ((4 * (S.1 16)) * (S.1 14))) (2 * (jx_ai (q66_3.1 16))) q81_4 hq81_4) d_C_addZerosOf_81 (by decide) (Nat.le_of_ble_eq_true rfl) ?_
        refine jx_goto hX d_C_addZerosOf_84 rfl ?_
        obtain rfl := Option.some.inj h
        exact jx_vret hX d_C_addZerosOf_125
    refine jx_if_le hX d_C_addZerosOf_33 rfl (fun hc5 => ?_) (fun hc5 => ?_)
    · refine jx_aload_n hX d_C_addZerosOf_44 2 rfl rfl ?_
      refine gf_C_30 hX d_C_addZerosOf_45 rfl ?_
      have hj2 := hj
      rw [if_pos hc5] at hj2
      exact hj2
    · refine jx_aload_n hX d_C_addZerosOf_36 2 rfl rfl ?_
      refine gf_C_30 hX d_C_addZerosOf_37 rfl ?_
      refine jx_ineg hX d_C_addZerosOf_40 ?_
      refine jx_goto hX d_C_addZerosOf_41 rfl ?_
      have hj2 := hj
      rw [if_neg hc5] at hj2
      exact hj2

def f_C_signBelowAll (S : jx_S)  : Option (Int32) :=
  if (S.1 16) = 0 then
    if (S.1 15) = 0 then
      some (jx_si (S.1 14))
    else
      some (-(jx_si (S.1 15)))
  else
    some (jx_si (S.1 16))
set_option maxHeartbeats 4000000 in
set_option maxRecDepth 100000 in
theorem c_C_signBelowAll (l : Launch) (G : jx_G) (S : jx_S)  (fin : Int32) (h : f_C_signBelowAll S = some fin) : jx_M l y_C_signBelowAll b_C_signBelowAll 1 (some .int) 1 G [.ref (jx_ad G 5)] (jx_w G S) (some (.int fin), jx_w G S) := by
  refine jx_met (own := "PlaneCells$CriticalNumbers") (by decide) rfl (Nat.le_of_ble_eq_true rfl) (fun X hX hl => ?_)
  subst hl
  refine jx_L (L2 := [(0, .ref (jx_ad G 5))]) rfl ?_
  unfold f_C_signBelowAll at h
  refine jx_aload_n hX d_C_signBelowAll_0 0 rfl rfl ?_
  refine gf_C_25 hX d_C_signBelowAll_1 rfl ?_
  refine jx_if_eq hX d_C_signBelowAll_4 rfl (fun hc => ?_) (fun hc => ?_)
  · have h := jx_ip hc h
    refine jx_aload_n hX d_C_signBelowAll_15 0 rfl rfl ?_
    refine gf_C_30 hX d_C_signBelowAll_16 rfl ?_
    refine jx_if_eq hX d_C_signBelowAll_19 rfl (fun hc => ?_) (fun hc => ?_)
    · have h := jx_ip hc h
      refine jx_aload_n hX d_C_signBelowAll_33 0 rfl rfl ?_
      refine gf_C_33 hX d_C_signBelowAll_34 rfl ?_
      refine jx_si_r hX wm_347 d_C_signBelowAll_37 (Nat.le_of_ble_eq_true rfl) (by decide) ?_
      obtain rfl := Option.some.inj h
      exact jx_iret hX d_C_signBelowAll_40
    · have h := jx_in_ hc h
      refine jx_aload_n hX d_C_signBelowAll_22 0 rfl rfl ?_
      refine gf_C_30 hX d_C_signBelowAll_23 rfl ?_
      refine jx_si_r hX wm_347 d_C_signBelowAll_26 (Nat.le_of_ble_eq_true rfl) (by decide) ?_
      refine jx_ineg hX d_C_signBelowAll_29 ?_
      refine jx_goto hX d_C_signBelowAll_30 rfl ?_
      obtain rfl := Option.some.inj h
      exact jx_iret hX d_C_signBelowAll_40
  · have h := jx_in_ hc h
    refine jx_aload_n hX d_C_signBelowAll_7 0 rfl rfl ?_
    refine gf_C_25 hX d_C_signBelowAll_8 rfl ?_
    refine jx_si_r hX wm_347 d_C_signBelowAll_11 (Nat.le_of_ble_eq_true rfl) (by decide) ?_
    obtain rfl := Option.some.inj h
    exact jx_iret hX d_C_signBelowAll_14

def f_C_signAt (S : jx_S) (a1 : Int32) (a2 : Int64) (a3 : Int64) (a4 : Int64) : Option (Int32) :=
  if jx_in a1 72 = true then
    some (jx_sl ((((((a2 * (((S.2.1 8) (a1).toNatClampNeg)).toInt64) * (((S.2.1 8) (a1).toNatClampNeg)).toInt64) + ((a3 * (((S.2.1 6) (a1).toNatClampNeg)).toInt64) * (((S.2.1 8) (a1).toNatClampNeg)).toInt64)) + (a4 * (((((S.2.1 6) (a1).toNatClampNeg)).toInt64 * (((S.2.1 6) (a1).toNatClampNeg)).toInt64) + (jx_al ((((S.2.1 7) (a1).toNatClampNeg)).toInt64))))) * (jx_al ((((a2 * (((S.2.1 8) (a1).toNatClampNeg)).toInt64) * (((S.2.1 8) (a1).toNatClampNeg)).toInt64) + ((a3 * (((S.2.1 6) (a1).toNatClampNeg)).toInt64) * (((S.2.1 8) (a1).toNatClampNeg)).toInt64)) + (a4 * (((((S.2.1 6) (a1).toNatClampNeg)).toInt64 * (((S.2.1 6) (a1).toNatClampNeg)).toInt64) + (jx_al ((((S.2.1 7) (a1).toNatClampNeg)).toInt64))))))) + ((((a3 * (((S.2.1 8) (a1).toNatClampNeg)).toInt64) + ((2 * a4) * (((S.2.1 6) (a1).toNatClampNeg)).toInt64)) * (jx_al ((a3 * (((S.2.1 8) (a1).toNatClampNeg)).toInt64) + ((2 * a4) * (((S.2.1 6) (a1).toNatClampNeg)).toInt64)))) * (((S.2.1 7) (a1).toNatClampNeg)).toInt64)))
  else none
set_option maxHeartbeats 4000000 in
set_option maxRecDepth 100000 in
theorem c_C_signAt (l : Launch) (G : jx_G) (S : jx_S) (a1 : Int32) (a2 : Int64) (a3 : Int64) (a4 : Int64) (fin : Int32) (h : f_C_signAt S a1 a2 a3 a4 = some fin) : jx_M l y_C_signAt b_C_signAt 18 (some .int) 1 G [.ref (jx_ad G 4), .int a1, .long a2, .long a3, .long a4] (jx_w G S) (some (.int fin), jx_w G S) := by
  refine jx_met (own := "PlaneCells$CriticalNumbers") (by decide) rfl (Nat.le_of_ble_eq_true rfl) (fun X hX hl => ?_)
  subst hl
  refine jx_L (L2 := [(0, .ref (jx_ad G 4)), (1, .int a1), (2, .long a2), (4, .long a3), (6, .long a4)]) rfl ?_
  unfold f_C_signAt at h
  refine jx_aload_n hX d_C_signAt_0 0 rfl rfl ?_
  refine gf_C_9 hX d_C_signAt_1 ?_
  refine jx_iload_n hX d_C_signAt_4 1 rfl rfl ?_
  obtain ⟨hg1, h⟩ := jx_gd h
  refine al_6 hX d_C_signAt_5 rfl hg1 ?_
  refine jx_i2l hX d_C_signAt_6 rfl ?_
  refine jx_lstore hX d_C_signAt_7 (by decide) (L2 := [(8, .long ((((S.2.1 6) (a1).toNatClampNeg)).toInt64)), (0, .ref (jx_ad G 4)), (1, .int a1), (2, .long a2), (4, .long a3), (6, .long a4)]) rfl ?_
  refine jx_aload_n hX d_C_signAt_9 1 rfl rfl ?_
  refine gf_C_18 hX d_C_signAt_10 ?_
  refine jx_iload_n hX d_C_signAt_13 2 rfl rfl ?_
  refine al_8 hX d_C_signAt_14 rfl hg1 ?_
  refine jx_i2l hX d_C_signAt_15 rfl ?_
  refine jx_lstore hX d_C_signAt_16 (by decide) (L2 := [(10, .long ((((S.2.1 8) (a1).toNatClampNeg)).toInt64)), (8, .long ((((S.2.1 6) (a1).toNatClampNeg)).toInt64)), (0, .ref (jx_ad G 4)), (1, .int a1), (2, .long a2), (4, .long a3), (6, .long a4)]) rfl ?_
  refine jx_aload_n hX d_C_signAt_18 2 rfl rfl ?_
  refine gf_C_15 hX d_C_signAt_19 ?_
  refine jx_iload_n hX d_C_signAt_22 3 rfl rfl ?_
  refine al_7 hX d_C_signAt_23 rfl hg1 ?_
  refine jx_i2l hX d_C_signAt_24 rfl ?_
  refine jx_lstore hX d_C_signAt_25 (by decide) (L2 := [(12, .long ((((S.2.1 7) (a1).toNatClampNeg)).toInt64)), (10, .long ((((S.2.1 8) (a1).toNatClampNeg)).toInt64)), (8, .long ((((S.2.1 6) (a1).toNatClampNeg)).toInt64)), (0, .ref (jx_ad G 4)), (1, .int a1), (2, .long a2), (4, .long a3), (6, .long a4)]) rfl ?_
  refine jx_lload_n hX d_C_signAt_27 5 rfl rfl ?_
  refine jx_lload hX d_C_signAt_28 1 rfl ?_
  refine jx_lmul hX d_C_signAt_30 ?_
  refine jx_lload hX d_C_signAt_31 1 rfl ?_
  refine jx_lmul hX d_C_signAt_33 ?_
  refine jx_lload hX d_C_signAt_34 6 rfl ?_
  refine jx_lload hX d_C_signAt_36 2 rfl ?_
  refine jx_lmul hX d_C_signAt_38 ?_
  refine jx_lload hX d_C_signAt_39 1 rfl ?_
  refine jx_lmul hX d_C_signAt_41 ?_
  refine jx_ladd hX d_C_signAt_42 ?_
  refine jx_lload hX d_C_signAt_43 7 rfl ?_
  refine jx_lload hX d_C_signAt_45 2 rfl ?_
  refine jx_lload hX d_C_signAt_47 2 rfl ?_
  refine jx_lmul hX d_C_signAt_49 ?_
  refine jx_lload hX d_C_signAt_50 0 rfl ?_
  refine jx_al_r hX wm_316 d_C_signAt_52 (Nat.le_of_ble_eq_true rfl) (by decide) ?_
  refine jx_ladd hX d_C_signAt_55 ?_
  refine jx_lmul hX d_C_signAt_56 ?_
  refine jx_ladd hX d_C_signAt_57 ?_
  refine jx_lstore hX d_C_signAt_58 (by decide) (L2 := [(14, .long ((((a2 * (((S.2.1 8) (a1).toNatClampNeg)).toInt64) * (((S.2.1 8) (a1).toNatClampNeg)).toInt64) + ((a3 * (((S.2.1 6) (a1).toNatClampNeg)).toInt64) * (((S.2.1 8) (a1).toNatClampNeg)).toInt64)) + (a4 * (((((S.2.1 6) (a1).toNatClampNeg)).toInt64 * (((S.2.1 6) (a1).toNatClampNeg)).toInt64) + (jx_al ((((S.2.1 7) (a1).toNatClampNeg)).toInt64)))))), (12, .long ((((S.2.1 7) (a1).toNatClampNeg)).toInt64)), (10, .long ((((S.2.1 8) (a1).toNatClampNeg)).toInt64)), (8, .long ((((S.2.1 6) (a1).toNatClampNeg)).toInt64)), (0, .ref (jx_ad G 4)), (1, .int a1), (2, .long a2), (4, .long a3), (6, .long a4)]) rfl ?_
  refine jx_lload hX d_C_signAt_60 7 rfl ?_
  refine jx_lload hX d_C_signAt_62 2 rfl ?_
  refine jx_lmul hX d_C_signAt_64 ?_
  refine jx_ldc2 (v := 2) hX (wm_354) d_C_signAt_65 ?_
  refine jx_lload hX d_C_signAt_68 8 rfl ?_
  refine jx_lmul hX d_C_signAt_70 ?_
  refine jx_lload hX d_C_signAt_71 3 rfl ?_
  refine jx_lmul hX d_C_signAt_73 ?_
  refine jx_ladd hX d_C_signAt_74 ?_
  refine jx_lstore hX d_C_signAt_75 (by decide) (L2 := [(16, .long ((a3 * (((S.2.1 8) (a1).toNatClampNeg)).toInt64) + ((2 * a4) * (((S.2.1 6) (a1).toNatClampNeg)).toInt64))), (14, .long ((((a2 * (((S.2.1 8) (a1).toNatClampNeg)).toInt64) * (((S.2.1 8) (a1).toNatClampNeg)).toInt64) + ((a3 * (((S.2.1 6) (a1).toNatClampNeg)).toInt64) * (((S.2.1 8) (a1).toNatClampNeg)).toInt64)) + (a4 * (((((S.2.1 6) (a1).toNatClampNeg)).toInt64 * (((S.2.1 6) (a1).toNatClampNeg)).toInt64) + (jx_al ((((S.2.1 7) (a1).toNatClampNeg)).toInt64)))))), (12, .long ((((S.2.1 7) (a1).toNatClampNeg)).toInt64)), (10, .long ((((S.2.1 8) (a1).toNatClampNeg)).toInt64)), (8, .long ((((S.2.1 6) (a1).toNatClampNeg)).toInt64)), (0, .ref (jx_ad G 4)), (1, .int a1), (2, .long a2), (4, .long a3), (6, .long a4)]) rfl ?_
  refine jx_lload hX d_C_signAt_77 1 rfl ?_
  refine jx_lload hX d_C_signAt_79 1 rfl ?_
  refine jx_al_r hX wm_316 d_C_signAt_81 (Nat.le_of_ble_eq_true rfl) (by decide) ?_
  refine jx_lmul hX d_C_signAt_84 ?_
  refine jx_lload hX d_C_signAt_85 0 rfl ?_
  refine jx_lload hX d_C_signAt_87 0 rfl ?_
  refine jx_al_r hX wm_316 d_C_signAt_89 (Nat.le_of_ble_eq_true rfl) (by decide) ?_
  refine jx_lmul hX d_C_signAt_92 ?_
  refine jx_lload hX d_C_signAt_93 2 rfl ?_
  refine jx_lmul hX d_C_signAt_95 ?_
  refine jx_ladd hX d_C_signAt_96 ?_
  refine jx_sl_r hX wm_313 d_C_signAt_97 (Nat.le_of_ble_eq_true rfl) (by decide) ?_
  obtain rfl := Option.some.inj h
  exact jx_iret hX d_C_signAt_100

def f_C_signInColumn (S : jx_S) (a1 : Int32) : Option (Int32) :=
  if a1 = 0 then
    (f_C_signBelowAll S).bind fun q5_3 =>
      some q5_3
  else
    (f_C_signAt S ((a1 - 1) >>> (1 &&& 31)) (((S.1 14)).toInt64) (((S.1 15)).toInt64) (((S.1 16)).toInt64)).bind fun q32_1 =>
      if q32_1 = 0 then
        if (a1 &&& 1) = 1 then
          some q32_1
        else
          (f_C_signAt S ((a1 - 1) >>> (1 &&& 31)) (((S.1 15)).toInt64) (((2 * (S.1 16))).toInt64) 0).bind fun q67_2 =>
            if q67_2 = 0 then
              some (jx_si (S.1 16))
            else
              some q67_2
      else
        some q32_1
set_option maxHeartbeats 4000000 in
set_option maxRecDepth 100000 in
theorem c_C_signInColumn (l : Launch) (G : jx_G) (S : jx_S) (a1 : Int32) (fin : Int32) (h : f_C_signInColumn S a1 = some fin) : jx_M l y_C_signInColumn b_C_signInColumn 6 (some .int) 2 G [.ref (jx_ad G 4), .int a1, .ref (jx_ad G 5)] (jx_w G S) (some (.int fin), jx_w G S) := by
  refine jx_met (own := "PlaneCells$CriticalNumbers") (by decide) rfl (Nat.le_of_ble_eq_true rfl) (fun X hX hl => ?_)
  subst hl
  refine jx_L (L2 := [(0, .ref (jx_ad G 4)), (1, .int a1), (2, .ref (jx_ad G 5))]) rfl ?_
  unfold f_C_signInColumn at h
  refine jx_iload_n hX d_C_signInColumn_0 1 rfl rfl ?_
  refine jx_if_ne hX d_C_signInColumn_1 rfl (fun hc => ?_) (fun hc => ?_)
  · have h := jx_in_ hc h
    refine jx_iload_n hX d_C_signInColumn_9 1 rfl rfl ?_
    refine jx_iconst (v := 1) hX d_C_signInColumn_10 (by decide) ?_
    refine jx_isub hX d_C_signInColumn_11 ?_
    refine jx_iconst (v := 1) hX d_C_signInColumn_12 (by decide) ?_
    refine jx_ishr hX d_C_signInColumn_13 ?_
    refine jx_istore_n hX d_C_signInColumn_14 rfl (by decide) (L2 := [(3, .int ((a1 - 1) >>> (1 &&& 31))), (0, .ref (jx_ad G 4)), (1, .int a1), (2, .ref (jx_ad G 5))]) rfl ?_
    refine jx_aload_n hX d_C_signInColumn_15 1 rfl rfl ?_
    refine jx_iload_n hX d_C_signInColumn_16 0 rfl rfl ?_
    refine jx_aload_n hX d_C_signInColumn_17 3 rfl rfl ?_
    refine gf_C_33 hX d_C_signInColumn_18 rfl ?_
    refine jx_i2l hX d_C_signInColumn_21 rfl ?_
    refine jx_aload_n hX d_C_signInColumn_22 3 rfl rfl ?_
    refine gf_C_30 hX d_C_signInColumn_23 rfl ?_
    refine jx_i2l hX d_C_signInColumn_26 rfl ?_
    refine jx_aload_n hX d_C_signInColumn_27 3 rfl rfl ?_
    refine gf_C_25 hX d_C_signInColumn_28 rfl ?_
    refine jx_i2l hX d_C_signInColumn_31 rfl ?_
    obtain ⟨q32_1, hq32_1, h⟩ := jx_bd h
    refine cs_C_73 hX (c_C_signAt (jx_l X) G S ((a1 - 1) >>> (1 &&& 31)) (((S.1 14)).toInt64) (((S.1 15)).toInt64) (((S.1 16)).toInt64) q32_1 hq32_1) d_C_signInColumn_32 (by decide) (Nat.le_of_ble_eq_true rfl) ?_
    refine jx_istore hX d_C_signInColumn_35 (by decide) (L2 := [(4, .int q32_1), (3, .int ((a1 - 1) >>> (1 &&& 31))), (0, .ref (jx_ad G 4)), (1, .int a1), (2, .ref (jx_ad G 5))]) rfl ?_
    refine jx_iload hX d_C_signInColumn_37 0 rfl ?_
    refine jx_if_ne hX d_C_signInColumn_39 rfl (fun hc => ?_) (fun hc => ?_)
    · have h := jx_in_ hc h
      refine jx_iload hX d_C_signInColumn_49 0 rfl ?_
      obtain rfl := Option.some.inj h
      exact jx_iret hX d_C_signInColumn_51
    · have h := jx_ip hc h
      refine jx_iload_n hX d_C_signInColumn_42 3 rfl rfl ?_
      refine jx_iconst (v := 1) hX d_C_signInColumn_43 (by decide) ?_
      refine jx_iand hX d_C_signInColumn_44 ?_
      refine jx_iconst (v := 1) hX d_C_signInColumn_45 (by decide) ?_
      refine jx_icmp_ne hX d_C_signInColumn_46 rfl (fun hc => ?_) (fun hc => ?_)
      · have h := jx_in_ hc h
        refine jx_aload_n hX d_C_signInColumn_52 2 rfl rfl ?_
        refine jx_iload_n hX d_C_signInColumn_53 1 rfl rfl ?_
        refine jx_aload_n hX d_C_signInColumn_54 4 rfl rfl ?_
        refine gf_C_30 hX d_C_signInColumn_55 rfl ?_
        refine jx_i2l hX d_C_signInColumn_58 rfl ?_
        refine jx_iconst (v := 2) hX d_C_signInColumn_59 (by decide) ?_
        refine jx_aload_n hX d_C_signInColumn_60 4 rfl rfl ?_
        refine gf_C_25 hX d_C_signInColumn_61 rfl ?_
        refine jx_imul hX d_C_signInColumn_64 ?_
        refine jx_i2l hX d_C_signInColumn_65 rfl ?_
        refine jx_lconst (v := 0) hX d_C_signInColumn_66 (by decide) ?_
        obtain ⟨q67_2, hq67_2, h⟩ := jx_bd h
        refine cs_C_73 hX (c_C_signAt (jx_l X) G S ((a1 - 1) >>> (1 &&& 31)) (((S.1 15)).toInt64) (((2 * (S.1 16))).toInt64) 0 q67_2 hq67_2) d_C_signInColumn_67 (by decide) (Nat.le_of_ble_eq_true rfl) ?_
        refine jx_istore hX d_C_signInColumn_70 (by decide) (L2 := [(5, .int q67_2), (4, .int q32_1), (3, .int ((a1 - 1) >>> (1 &&& 31))), (0, .ref (jx_ad G 4)), (1, .int a1), (2, .ref (jx_ad G 5))]) rfl ?_
        refine jx_iload hX d_C_signInColumn_72 0 rfl ?_
        refine jx_if_eq hX d_C_signInColumn_74 rfl (fun hc => ?_) (fun hc => ?_)
        · have h := jx_ip hc h
          refine jx_aload_n hX d_C_signInColumn_82 5 rfl rfl ?_
          refine gf_C_25 hX d_C_signInColumn_83 rfl ?_
          refine jx_si_r hX wm_347 d_C_signInColumn_86 (Nat.le_of_ble_eq_true rfl) (by decide) ?_
          obtain rfl := Option.some.inj h
          exact jx_iret hX d_C_signInColumn_89
        · have h := jx_in_ hc h
          refine jx_iload hX d_C_signInColumn_77 0 rfl ?_
          refine jx_goto hX d_C_signInColumn_79 rfl ?_
          obtain rfl := Option.some.inj h
          exact jx_iret hX d_C_signInColumn_89
      · have h := jx_ip hc h
        refine jx_iload hX d_C_signInColumn_49 0 rfl ?_
        obtain rfl := Option.some.inj h
        exact jx_iret hX d_C_signInColumn_51
  · have h := jx_ip hc h
    refine jx_aload_n hX d_C_signInColumn_4 2 rfl rfl ?_
    obtain ⟨q5_3, hq5_3, h⟩ := jx_bd h
    refine cs_C_69 hX (c_C_signBelowAll (jx_l X) G S q5_3 hq5_3) d_C_signInColumn_5 (by decide) (Nat.le_of_ble_eq_true rfl) ?_
    obtain rfl := Option.some.inj h
    exact jx_iret hX d_C_signInColumn_8

def f_S_number (S : jx_S) (a1 : Int32) (a2 : Int32) : Option (Int32) :=
  if jx_in ((a1 * 4) + a2) 32 = true then
    some ((S.2.1 0) (((a1 * 4) + a2)).toNatClampNeg)
  else none
set_option maxHeartbeats 4000000 in
set_option maxRecDepth 100000 in
theorem c_S_number (l : Launch) (G : jx_G) (S : jx_S) (a1 : Int32) (a2 : Int32) (fin : Int32) (h : f_S_number S a1 a2 = some fin) : jx_M l y_S_number b_S_number 3 (some .int) 0 G [.ref (jx_ad G 1), .int a1, .int a2] (jx_w G S) (some (.int fin), jx_w G S) := by
  refine jx_met (own := "PlaneCells$Sentence") (by decide) rfl (Nat.le_of_ble_eq_true rfl) (fun X hX hl => ?_)
  subst hl
  refine jx_L (L2 := [(0, .ref (jx_ad G 1)), (1, .int a1), (2, .int a2)]) rfl ?_
  unfold f_S_number at h
  refine jx_aload_n hX d_S_number_0 0 rfl rfl ?_
  refine gf_S_9 hX d_S_number_1 ?_
  refine jx_iload_n hX d_S_number_4 1 rfl rfl ?_
  refine jx_iconst (v := 4) hX d_S_number_5 (by decide) ?_
  refine jx_imul hX d_S_number_6 ?_
  refine jx_iload_n hX d_S_number_7 2 rfl rfl ?_
  refine jx_iadd hX d_S_number_8 ?_
  obtain ⟨hg1, h⟩ := jx_gd h
  refine al_0 hX d_S_number_9 rfl hg1 ?_
  obtain rfl := Option.some.inj h
  exact jx_iret hX d_S_number_10
end
section
def f_F_setA (S : jx_S) (a2 : Int32) : Option (jx_S) :=
  (f_S_number S a2 2).bind fun q4_1 =>
    (f_S_number (jx_f S 14 q4_1) a2 3).bind fun q14_2 =>
      some (jx_f (jx_f (jx_f S 14 q4_1) 15 q14_2) 16 0)
set_option maxHeartbeats 4000000 in
set_option maxRecDepth 100000 in
theorem c_F_setA (l : Launch) (G : jx_G) (S : jx_S) (a2 : Int32) (fin : jx_S) (h : f_F_setA S a2 = some fin) : jx_M l y_F_setA b_F_setA 3 none 1 G [.ref (jx_ad G 5), .ref (jx_ad G 1), .int a2] (jx_w G S) (none, jx_w G fin) := by
  refine jx_met (own := "PlaneCells$Form") (by decide) rfl (Nat.le_of_ble_eq_true rfl) (fun X hX hl => ?_)
  subst hl
  refine jx_L (L2 := [(0, .ref (jx_ad G 5)), (1, .ref (jx_ad G 1)), (2, .int a2)]) rfl ?_
  unfold f_F_setA at h
  refine jx_aload_n hX d_F_setA_0 0 rfl rfl ?_
  refine jx_aload_n hX d_F_setA_1 1 rfl rfl ?_
  refine jx_iload_n hX d_F_setA_2 2 rfl rfl ?_
  refine jx_iconst (v := 2) hX d_F_setA_3 (by decide) ?_
  obtain ⟨q4_1, hq4_1, h⟩ := jx_bd h
  refine cs_F_7 hX (c_S_number (jx_l X) G S a2 2 q4_1 hq4_1) d_F_setA_4 (by decide) (Nat.le_of_ble_eq_true rfl) ?_
  refine pf_F_13 hX d_F_setA_7 ?_
  refine jx_aload_n hX d_F_setA_10 0 rfl rfl ?_
  refine jx_aload_n hX d_F_setA_11 1 rfl rfl ?_
  refine jx_iload_n hX d_F_setA_12 2 rfl rfl ?_
  refine jx_iconst (v := 3) hX d_F_setA_13 (by decide) ?_
  obtain ⟨q14_2, hq14_2, h⟩ := jx_bd h
  refine cs_F_7 hX (c_S_number (jx_l X) G (jx_f S 14 q4_1) a2 3 q14_2 hq14_2) d_F_setA_14 (by decide) (Nat.le_of_ble_eq_true rfl) ?_
  refine pf_F_19 hX d_F_setA_17 ?_
  refine jx_aload_n hX d_F_setA_20 0 rfl rfl ?_
  refine jx_iconst (v := 0) hX d_F_setA_21 (by decide) ?_
  refine pf_F_22 hX d_F_setA_22 ?_
  obtain rfl := Option.some.inj h
  exact jx_vret hX d_F_setA_25

def f_F_setB (S : jx_S) (a2 : Int32) : Option (jx_S) :=
  (f_S_number S a2 0).bind fun q4_1 =>
    (f_S_number (jx_f S 14 q4_1) a2 1).bind fun q14_2 =>
      some (jx_f (jx_f (jx_f S 14 q4_1) 15 q14_2) 16 0)
set_option maxHeartbeats 4000000 in
set_option maxRecDepth 100000 in
theorem c_F_setB (l : Launch) (G : jx_G) (S : jx_S) (a2 : Int32) (fin : jx_S) (h : f_F_setB S a2 = some fin) : jx_M l y_F_setB b_F_setB 3 none 1 G [.ref (jx_ad G 5), .ref (jx_ad G 1), .int a2] (jx_w G S) (none, jx_w G fin) := by
  refine jx_met (own := "PlaneCells$Form") (by decide) rfl (Nat.le_of_ble_eq_true rfl) (fun X hX hl => ?_)
  subst hl
  refine jx_L (L2 := [(0, .ref (jx_ad G 5)), (1, .ref (jx_ad G 1)), (2, .int a2)]) rfl ?_
  unfold f_F_setB at h
  refine jx_aload_n hX d_F_setB_0 0 rfl rfl ?_
  refine jx_aload_n hX d_F_setB_1 1 rfl rfl ?_
  refine jx_iload_n hX d_F_setB_2 2 rfl rfl ?_
  refine jx_iconst (v := 0) hX d_F_setB_3 (by decide) ?_
  obtain ⟨q4_1, hq4_1, h⟩ := jx_bd h
  refine cs_F_7 hX (c_S_number (jx_l X) G S a2 0 q4_1 hq4_1) d_F_setB_4 (by decide) (Nat.le_of_ble_eq_true rfl) ?_
  refine pf_F_13 hX d_F_setB_7 ?_
  refine jx_aload_n hX d_F_setB_10 0 rfl rfl ?_
  refine jx_aload_n hX d_F_setB_11 1 rfl rfl ?_
  refine jx_iload_n hX d_F_setB_12 2 rfl rfl ?_
  refine jx_iconst (v := 1) hX d_F_setB_13 (by decide) ?_
  obtain ⟨q14_2, hq14_2, h⟩ := jx_bd h
  refine cs_F_7 hX (c_S_number (jx_l X) G (jx_f S 14 q4_1) a2 1 q14_2 hq14_2) d_F_setB_14 (by decide) (Nat.le_of_ble_eq_true rfl) ?_
  refine pf_F_19 hX d_F_setB_17 ?_
  refine jx_aload_n hX d_F_setB_20 0 rfl rfl ?_
  refine jx_iconst (v := 0) hX d_F_setB_21 (by decide) ?_
  refine pf_F_22 hX d_F_setB_22 ?_
  obtain rfl := Option.some.inj h
  exact jx_vret hX d_F_setB_25

def f_F_setPair (S : jx_S) (a2 : Int32) (a3 : Int32) : Option (jx_S) :=
  (f_S_number S a2 2).bind fun q4_1 =>
    (f_S_number S a3 0).bind fun q10_2 =>
      (f_S_number S a3 2).bind fun q17_3 =>
        (f_S_number S a2 0).bind fun q23_4 =>
          (f_S_number (jx_f S 14 ((q4_1 * q10_2) - (q17_3 * q23_4))) a2 2).bind fun q35_5 =>
            (f_S_number (jx_f S 14 ((q4_1 * q10_2) - (q17_3 * q23_4))) a3 1).bind fun q41_6 =>
              (f_S_number (jx_f S 14 ((q4_1 * q10_2) - (q17_3 * q23_4))) a2 3).bind fun q48_7 =>
                (f_S_number (jx_f S 14 ((q4_1 * q10_2) - (q17_3 * q23_4))) a3 0).bind fun q54_8 =>
                  (f_S_number (jx_f S 14 ((q4_1 * q10_2) - (q17_3 * q23_4))) a3 2).bind fun q62_9 =>
                    (f_S_number (jx_f S 14 ((q4_1 * q10_2) - (q17_3 * q23_4))) a2 1).bind fun q68_10 =>
                      (f_S_number (jx_f S 14 ((q4_1 * q10_2) - (q17_3 * q23_4))) a3 3).bind fun q76_11 =>
                        (f_S_number (jx_f S 14 ((q4_1 * q10_2) - (q17_3 * q23_4))) a2 0).bind fun q82_12 =>
                          (f_S_number (jx_f (jx_f S 14 ((q4_1 * q10_2) - (q17_3 * q23_4))) 15 ((((q35_5 * q41_6) + (q48_7 * q54_8)) - (q62_9 * q68_10)) - (q76_11 * q82_12))) a2 3).bind fun q94_13 =>
                            (f_S_number (jx_f (jx_f S 14 ((q4_1 * q10_2) - (q17_3 * q23_4))) 15 ((((q35_5 * q41_6) + (q48_7 * q54_8)) - (q62_9 * q68_10)) - (q76_11 * q82_12))) a3 1).bind fun q100_14 =>
                              (f_S_number (jx_f (jx_f S 14 ((q4_1 * q10_2) - (q17_3 * q23_4))) 15 ((((q35_5 * q41_6) + (q48_7 * q54_8)) - (q62_9 * q68_10)) - (q76_11 * q82_12))) a3 3).bind fun q107_15 =>
                                (f_S_number (jx_f (jx_f S 14 ((q4_1 * q10_2) - (q17_3 * q23_4))) 15 ((((q35_5 * q41_6) + (q48_7 * q54_8)) - (q62_9 * q68_10)) - (q76_11 * q82_12))) a2 1).bind fun q113_16 =>
                                  some (jx_f (jx_f (jx_f S 14 ((q4_1 * q10_2) - (q17_3 * q23_4))) 15 ((((q35_5 * q41_6) + (q48_7 * q54_8)) - (q62_9 * q68_10)) - (q76_11 * q82_12))) 16 ((q94_13 * q100_14) - (q107_15 * q113_16)))
set_option maxHeartbeats 4000000 in
set_option maxRecDepth 100000 in
theorem c_F_setPair (l : Launch) (G : jx_G) (S : jx_S) (a2 : Int32) (a3 : Int32) (fin : jx_S) (h : f_F_setPair S a2 a3 = some fin) : jx_M l y_F_setPair b_F_setPair 4 none 1 G [.ref (jx_ad G 5), .ref (jx_ad G 1), .int a2, .int a3] (jx_w G S) (none, jx_w G fin) := by
  refine jx_met (own := "PlaneCells$Form") (by decide) rfl (Nat.le_of_ble_eq_true rfl) (fun X hX hl => ?_)
  subst hl
  refine jx_L (L2 := [(0, .ref (jx_ad G 5)), (1, .ref (jx_ad G 1)), (2, .int a2), (3, .int a3)]) rfl ?_
  unfold f_F_setPair at h
  refine jx_aload_n hX d_F_setPair_0 0 rfl rfl ?_
  refine jx_aload_n hX d_F_setPair_1 1 rfl rfl ?_
  refine jx_iload_n hX d_F_setPair_2 2 rfl rfl ?_
  refine jx_iconst (v := 2) hX d_F_setPair_3 (by decide) ?_
  obtain ⟨q4_1, hq4_1, h⟩ := jx_bd h
  refine cs_F_7 hX (c_S_number (jx_l X) G S a2 2 q4_1 hq4_1) d_F_setPair_4 (by decide) (Nat.le_of_ble_eq_true rfl) ?_
  refine jx_aload_n hX d_F_setPair_7 1 rfl rfl ?_
  refine jx_iload_n hX d_F_setPair_8 3 rfl rfl ?_
  refine jx_iconst (v := 0) hX d_F_setPair_9 (by decide) ?_
  obtain ⟨q10_2, hq10_2, h⟩ := jx_bd h
  refine cs_F_7 hX (c_S_number (jx_l X) G S a3 0 q10_2 hq10_2) d_F_setPair_10 (by decide) (Nat.le_of_ble_eq_true rfl) ?_
  refine jx_imul hX d_F_setPair_13 ?_
  refine jx_aload_n hX d_F_setPair_14 1 rfl rfl ?_
  refine jx_iload_n hX d_F_setPair_15 3 rfl rfl ?_
  refine jx_iconst (v := 2) hX d_F_setPair_16 (by decide) ?_
  obtain ⟨q17_3, hq17_3, h⟩ := jx_bd h
  refine cs_F_7 hX (c_S_number (jx_l X) G S a3 2 q17_3 hq17_3) d_F_setPair_17 (by decide) (Nat.le_of_ble_eq_true rfl) ?_
  refine jx_aload_n hX d_F_setPair_20 1 rfl rfl ?_
  refine jx_iload_n hX d_F_setPair_21 2 rfl rfl ?_
  refine jx_iconst (v := 0) hX d_F_setPair_22 (by decide) ?_
  obtain ⟨q23_4, hq23_4, h⟩ := jx_bd h
  refine cs_F_7 hX (c_S_number (jx_l X) G S a2 0 q23_4 hq23_4) d_F_setPair_23 (by decide) (Nat.le_of_ble_eq_true rfl) ?_
  refine jx_imul hX d_F_setPair_26 ?_
  refine jx_isub hX d_F_setPair_27 ?_
  refine pf_F_13 hX d_F_setPair_28 ?_
  refine jx_aload_n hX d_F_setPair_31 0 rfl rfl ?_
  refine jx_aload_n hX d_F_setPair_32 1 rfl rfl ?_
  refine jx_iload_n hX d_F_setPair_33 2 rfl rfl ?_
  refine jx_iconst (v := 2) hX d_F_setPair_34 (by decide) ?_
  obtain ⟨q35_5, hq35_5, h⟩ := jx_bd h
  refine cs_F_7 hX (c_S_number (jx_l X) G (jx_f S 14 ((q4_1 * q10_2) - (q17_3 * q23_4))) a2 2 q35_5 hq35_5) d_F_setPair_35 (by decide) (Nat.le_of_ble_eq_true rfl) ?_
  refine jx_aload_n hX d_F_setPair_38 1 rfl rfl ?_
  refine jx_iload_n hX d_F_setPair_39 3 rfl rfl ?_
  refine jx_iconst (v := 1) hX d_F_setPair_40 (by decide) ?_
  obtain ⟨q41_6, hq41_6, h⟩ := jx_bd h
  refine cs_F_7 hX (c_S_number (jx_l X) G (jx_f S 14 ((q4_1 * q10_2) - (q17_3 * q23_4))) a3 1 q41_6 hq41_6) d_F_setPair_41 (by decide) (Nat.le_of_ble_eq_true rfl) ?_
  refine jx_imul hX d_F_setPair_44 ?_
  refine jx_aload_n hX d_F_setPair_45 1 rfl rfl ?_
  refine jx_iload_n hX d_F_setPair_46 2 rfl rfl ?_
  refine jx_iconst (v := 3) hX d_F_setPair_47 (by decide) ?_
  obtain ⟨q48_7, hq48_7, h⟩ := jx_bd h
  refine cs_F_7 hX (c_S_number (jx_l X) G (jx_f S 14 ((q4_1 * q10_2) - (q17_3 * q23_4))) a2 3 q48_7 hq48_7) d_F_setPair_48 (by decide) (Nat.le_of_ble_eq_true rfl) ?_
  refine jx_aload_n hX d_F_setPair_51 1 rfl rfl ?_
  refine jx_iload_n hX d_F_setPair_52 3 rfl rfl ?_
  refine jx_iconst (v := 0) hX d_F_setPair_53 (by decide) ?_
  obtain ⟨q54_8, hq54_8, h⟩ := jx_bd h
  refine cs_F_7 hX (c_S_number (jx_l X) G (jx_f S 14 ((q4_1 * q10_2) - (q17_3 * q23_4))) a3 0 q54_8 hq54_8) d_F_setPair_54 (by decide) (Nat.le_of_ble_eq_true rfl) ?_
  refine jx_imul hX d_F_setPair_57 ?_
  refine jx_iadd hX d_F_setPair_58 ?_
  refine jx_aload_n hX d_F_setPair_59 1 rfl rfl ?_
  refine jx_iload_n hX d_F_setPair_60 3 rfl rfl ?_
  refine jx_iconst (v := 2) hX d_F_setPair_61 (by decide) ?_
  obtain ⟨q62_9, hq62_9, h⟩ := jx_bd h
  refine cs_F_7 hX (c_S_number (jx_l X) G (jx_f S 14 ((q4_1 * q10_2) - (q17_3 * q23_4))) a3 2 q62_9 hq62_9) d_F_setPair_62 (by decide) (Nat.le_of_ble_eq_true rfl) ?_
  refine jx_aload_n hX d_F_setPair_65 1 rfl rfl ?_
  refine jx_iload_n hX d_F_setPair_66 2 rfl rfl ?_
  refine jx_iconst (v := 1) hX d_F_setPair_67 (by decide) ?_
  obtain ⟨q68_10, hq68_10, h⟩ := jx_bd h
  refine cs_F_7 hX (c_S_number (jx_l X) G (jx_f S 14 ((q4_1 * q10_2) - (q17_3 * q23_4))) a2 1 q68_10 hq68_10) d_F_setPair_68 (by decide) (Nat.le_of_ble_eq_true rfl) ?_
  refine jx_imul hX d_F_setPair_71 ?_
  refine jx_isub hX d_F_setPair_72 ?_
  refine jx_aload_n hX d_F_setPair_73 1 rfl rfl ?_
  refine jx_iload_n hX d_F_setPair_74 3 rfl rfl ?_
  refine jx_iconst (v := 3) hX d_F_setPair_75 (by decide) ?_
  obtain ⟨q76_11, hq76_11, h⟩ := jx_bd h
  refine cs_F_7 hX (c_S_number (jx_l X) G (jx_f S 14 ((q4_1 * q10_2) - (q17_3 * q23_4))) a3 3 q76_11 hq76_11) d_F_setPair_76 (by decide) (Nat.le_of_ble_eq_true rfl) ?_
  refine jx_aload_n hX d_F_setPair_79 1 rfl rfl ?_
  refine jx_iload_n hX d_F_setPair_80 2 rfl rfl ?_
  refine jx_iconst (v := 0) hX d_F_setPair_81 (by decide) ?_
  obtain ⟨q82_12, hq82_12, h⟩ := jx_bd h
  refine cs_F_7 hX (c_S_number (jx_l X) G (jx_f S 14 ((q4_1 * q10_2) - (q17_3 * q23_4))) a2 0 q82_12 hq82_12) d_F_setPair_82 (by decide) (Nat.le_of_ble_eq_true rfl) ?_
  refine jx_imul hX d_F_setPair_85 ?_
  refine jx_isub hX d_F_setPair_86 ?_
  refine pf_F_19 hX d_F_setPair_87 ?_
  refine jx_aload_n hX d_F_setPair_90 0 rfl rfl ?_
  refine jx_aload_n hX d_F_setPair_91 1 rfl rfl ?_
  refine jx_iload_n hX d_F_setPair_92 2 rfl rfl ?_
  refine jx_iconst (v := 3) hX d_F_setPair_93 (by decide) ?_
  obtain ⟨q94_13, hq94_13, h⟩ := jx_bd h
  refine cs_F_7 hX (c_S_number (jx_l X) G (jx_f (jx_f S 14 ((q4_1 * q10_2) - (q17_3 * q23_4))) 15 ((((q35_5 * q41_6) + (q48_7 * q54_8)) - (q62_9 * q68_10)) - (q76_11 * q82_12))) a2 3 q94_13 hq94_13) d_F_setPair_94 (by decide) (Nat.le_of_ble_eq_true rfl) ?_
  refine jx_aload_n hX d_F_setPair_97 1 rfl rfl ?_
  refine jx_iload_n hX d_F_setPair_98 3 rfl rfl ?_
  refine jx_iconst (v := 1) hX d_F_setPair_99 (by decide) ?_
  obtain ⟨q100_14, hq100_14, h⟩ := jx_bd h
  refine cs_F_7 hX (c_S_number (jx_l X) G (jx_f (jx_f S 14 ((q4_1 * q10_2) - (q17_3 * q23_4))) 15 ((((q35_5 * q41_6) + (q48_7 * q54_8)) - (q62_9 * q68_10)) - (q76_11 * q82_12))) a3 1 q100_14 hq100_14) d_F_setPair_100 (by decide) (Nat.le_of_ble_eq_true rfl) ?_
  refine jx_imul hX d_F_setPair_103 ?_
  refine jx_aload_n hX d_F_setPair_104 1 rfl rfl ?_
  refine jx_iload_n hX d_F_setPair_105 3 rfl rfl ?_
  refine jx_iconst (v := 3) hX d_F_setPair_106 (by decide) ?_
  obtain ⟨q107_15, hq107_15, h⟩ := jx_bd h
  refine cs_F_7 hX (c_S_number (jx_l X) G (jx_f (jx_f S 14 ((q4_1 * q10_2) - (q17_3 * q23_4))) 15 ((((q35_5 * q41_6) + (q48_7 * q54_8)) - (q62_9 * q68_10)) - (q76_11 * q82_12))) a3 3 q107_15 hq107_15) d_F_setPair_107 (by decide) (Nat.le_of_ble_eq_true rfl) ?_
  refine jx_aload_n hX d_F_setPair_110 1 rfl rfl ?_
  refine jx_iload_n hX d_F_setPair_111 2 rfl rfl ?_
  refine jx_iconst (v := 1) hX d_F_setPair_112 (by decide) ?_
  obtain ⟨q113_16, hq113_16, h⟩ := jx_bd h
  refine cs_F_7 hX (c_S_number (jx_l X) G (jx_f (jx_f S 14 ((q4_1 * q10_2) - (q17_3 * q23_4))) 15 ((((q35_5 * q41_6) + (q48_7 * q54_8)) - (q62_9 * q68_10)) - (q76_11 * q82_12))) a2 1 q113_16 hq113_16) d_F_setPair_113 (by decide) (Nat.le_of_ble_eq_true rfl) ?_
  refine jx_imul hX d_F_setPair_116 ?_
  refine jx_isub hX d_F_setPair_117 ?_
  refine pf_F_22 hX d_F_setPair_118 ?_
  obtain rfl := Option.some.inj h
  exact jx_vret hX d_F_setPair_121

def b_Q_cut_68 (x1 : Int32) (z : jx_S × Int32) : Option ((jx_S × Int32) ⊕ (jx_S)) :=
  if x1 ≤ z.2 then
    some (.inr z.1)
  else
    (f_F_setPair z.1 x1 z.2).bind fun q83_6 =>
      (f_C_addZerosOf q83_6).bind fun q94_7 =>
        some (.inl (q94_7, (z.2 + 1)))

def b_Q_cut_9  (z : jx_S × Int32) : Option ((jx_S × Int32) ⊕ (jx_S)) :=
  if (z.1.1 4) ≤ z.2 then
    some (.inr z.1)
  else
    (f_F_setA z.1 z.2).bind fun q29_2 =>
      (f_C_addZerosOf q29_2).bind fun q40_3 =>
        (f_F_setB q40_3 z.2).bind fun q52_4 =>
          (f_C_addZerosOf q52_4).bind fun q63_5 =>
            (jx_lp (b_Q_cut_68 z.2) jx_N (q63_5, 0)).bind fun z68_8 =>
              some (.inl (z68_8, (z.2 + 1)))

def f_Q_cut (S : jx_S)  : Option (jx_S) :=
  (f_C_clear S).bind fun q4_1 =>
    (jx_lp (b_Q_cut_9 ) jx_N (q4_1, 0)).bind fun z9_9 =>
      some z9_9
set_option maxHeartbeats 4000000 in
set_option maxRecDepth 100000 in
theorem lt_Q_cut_68 {G : jx_G} {X : jx_C} (hX : jx_Ok G X b_Q_cut "PlaneCells$Plane" none 3 5) (fin : jx_S) (x1 : Int32) {n : Nat} {z : jx_S × Int32} {r : jx_S} (hz : jx_lp (b_Q_cut_68 x1) n z = some r) (hk : jx_At G X (none, jx_w G fin) (jx_w G r) 103 [(0, .ref (jx_ad G 3)), (1, .int x1)] []) : jx_At G X (none, jx_w G fin) (jx_w G z.1) 68 [(0, .ref (jx_ad G 3)), (1, .int x1), (2, .int z.2)] [] := by
  refine jx_loop1 (b_Q_cut_68 x1) (fun z => jx_At G X (none, jx_w G fin) (jx_w G z.1) 68 [(0, .ref (jx_ad G 3)), (1, .int x1), (2, .int z.2)] []) (fun z => jx_At G X (none, jx_w G fin) (jx_w G z) 103 [(0, .ref (jx_ad G 3)), (1, .int x1)] []) ?_ n z r hz hk
  intro z o h hi hx
  unfold b_Q_cut_68 at h
  refine jx_iload_n hX d_Q_cut_68 2 rfl rfl ?_
  refine jx_iload_n hX d_Q_cut_69 1 rfl rfl ?_
  refine jx_icmp_ge hX d_Q_cut_70 rfl (fun hc => ?_) (fun hc => ?_)
  · have h := jx_ip hc h
    refine jx_sub (L2 := [(0, .ref (jx_ad G 3)), (1, .int x1)]) [0, 1] rfl ?_
    obtain rfl := Option.some.inj h
    exact hx _ rfl
  · have h := jx_in_ hc h
    refine jx_aload_n hX d_Q_cut_73 0 rfl rfl ?_
    refine gf_Q_21 hX d_Q_cut_74 ?_
    refine jx_aload_n hX d_Q_cut_77 0 rfl rfl ?_
    refine gf_Q_35 hX d_Q_cut_78 ?_
    refine jx_iload_n hX d_Q_cut_81 1 rfl rfl ?_
    refine jx_iload_n hX d_Q_cut_82 2 rfl rfl ?_
    obtain ⟨q83_6, hq83_6, h⟩ := jx_bd h
    refine cs_Q_59 hX (c_F_setPair (jx_l X) G z.1 x1 z.2 q83_6 hq83_6) d_Q_cut_83 (by decide) (Nat.le_of_ble_eq_true rfl) ?_
    refine jx_aload_n hX d_Q_cut_86 0 rfl rfl ?_
    refine gf_Q_12 hX d_Q_cut_87 ?_
    refine jx_aload_n hX d_Q_cut_90 0 rfl rfl ?_
    refine gf_Q_21 hX d_Q_cut_91 ?_
    obtain ⟨q94_7, hq94_7, h⟩ := jx_bd h
    refine cs_Q_52 hX (c_C_addZerosOf (jx_l X) G q83_6 q94_7 hq94_7) d_Q_cut_94 (by decide) (Nat.le_of_ble_eq_true rfl) ?_
    refine jx_iinc (v := (z.2 + 1)) hX d_Q_cut_97 2 rfl (by first | rfl | decide) (by decide) (L2 := [(2, .int (z.2 + 1)), (0, .ref (jx_ad G 3)), (1, .int x1)]) rfl ?_
    refine jx_goto hX d_Q_cut_100 rfl ?_
    refine jx_sub (L2 := [(0, .ref (jx_ad G 3)), (1, .int x1), (2, .int (z.2 + 1))]) [1, 2, 0] rfl ?_
    obtain rfl := Option.some.inj h
    exact hi _ rfl

set_option maxHeartbeats 4000000 in
set_option maxRecDepth 100000 in
theorem lt_Q_cut_9 {G : jx_G} {X : jx_C} (hX : jx_Ok G X b_Q_cut "PlaneCells$Plane" none 3 5) (fin : jx_S)  {n : Nat} {z : jx_S × Int32} {r : jx_S} (hz : jx_lp (b_Q_cut_9 ) n z = some r) (hk : jx_At G X (none, jx_w G fin) (jx_w G r) 109 [(0, .ref (jx_ad G 3))] []) : jx_At G X (none, jx_w G fin) (jx_w G z.1) 9 [(0, .ref (jx_ad G 3)), (1, .int z.2)] [] := by
  refine jx_loop1 (b_Q_cut_9 ) (fun z => jx_At G X (none, jx_w G fin) (jx_w G z.1) 9 [(0, .ref (jx_ad G 3)), (1, .int z.2)] []) (fun z => jx_At G X (none, jx_w G fin) (jx_w G z) 109 [(0, .ref (jx_ad G 3))] []) ?_ n z r hz hk
  intro z o h hi hx
  unfold b_Q_cut_9 at h
  refine jx_iload_n hX d_Q_cut_9 1 rfl rfl ?_
  refine jx_aload_n hX d_Q_cut_10 0 rfl rfl ?_
  refine gf_Q_35 hX d_Q_cut_11 ?_
  refine gf_Q_42 hX d_Q_cut_14 rfl ?_
  refine jx_icmp_ge hX d_Q_cut_17 rfl (fun hc => ?_) (fun hc => ?_)
  · have h := jx_ip hc h
    refine jx_sub (L2 := [(0, .ref (jx_ad G 3))]) [0] rfl ?_
    obtain rfl := Option.some.inj h
    exact hx _ rfl
  · have h := jx_in_ hc h
    refine jx_aload_n hX d_Q_cut_20 0 rfl rfl ?_
    refine gf_Q_21 hX d_Q_cut_21 ?_
    refine jx_aload_n hX d_Q_cut_24 0 rfl rfl ?_
    refine gf_Q_35 hX d_Q_cut_25 ?_
    refine jx_iload_n hX d_Q_cut_28 1 rfl rfl ?_
    obtain ⟨q29_2, hq29_2, h⟩ := jx_bd h
    refine cs_Q_48 hX (c_F_setA (jx_l X) G z.1 z.2 q29_2 hq29_2) d_Q_cut_29 (by decide) (Nat.le_of_ble_eq_true rfl) ?_
    refine jx_aload_n hX d_Q_cut_32 0 rfl rfl ?_
    refine gf_Q_12 hX d_Q_cut_33 ?_
    refine jx_aload_n hX d_Q_cut_36 0 rfl rfl ?_
    refine gf_Q_21 hX d_Q_cut_37 ?_
    obtain ⟨q40_3, hq40_3, h⟩ := jx_bd h
    refine cs_Q_52 hX (c_C_addZerosOf (jx_l X) G q29_2 q40_3 hq40_3) d_Q_cut_40 (by decide) (Nat.le_of_ble_eq_true rfl) ?_
    refine jx_aload_n hX d_Q_cut_43 0 rfl rfl ?_
    refine gf_Q_21 hX d_Q_cut_44 ?_
    refine jx_aload_n hX d_Q_cut_47 0 rfl rfl ?_
    refine gf_Q_35 hX d_Q_cut_48 ?_
    refine jx_iload_n hX d_Q_cut_51 1 rfl rfl ?_
    obtain ⟨q52_4, hq52_4, h⟩ := jx_bd h
    refine cs_Q_56 hX (c_F_setB (jx_l X) G q40_3 z.2 q52_4 hq52_4) d_Q_cut_52 (by decide) (Nat.le_of_ble_eq_true rfl) ?_
    refine jx_aload_n hX d_Q_cut_55 0 rfl rfl ?_
    refine gf_Q_12 hX d_Q_cut_56 ?_
    refine jx_aload_n hX d_Q_cut_59 0 rfl rfl ?_
    refine gf_Q_21 hX d_Q_cut_60 ?_
    obtain ⟨q63_5, hq63_5, h⟩ := jx_bd h
    refine cs_Q_52 hX (c_C_addZerosOf (jx_l X) G q52_4 q63_5 hq63_5) d_Q_cut_63 (by decide) (Nat.le_of_ble_eq_true rfl) ?_
    refine jx_iconst (v := 0) hX d_Q_cut_66 (by decide) ?_
    refine jx_istore_n hX d_Q_cut_67 rfl (by decide) (L2 := [(2, .int 0), (0, .ref (jx_ad G 3)), (1, .int z.2)]) rfl ?_
    refine jx_sub (L2 := [(0, .ref (jx_ad G 3)), (1, .int z.2), (2, .int 0)]) [1, 2, 0] rfl ?_
    obtain ⟨z68_8, hz, h⟩ := jx_bd h
    refine lt_Q_cut_68 hX fin z.2 hz ?_
    refine jx_iinc (v := (z.2 + 1)) hX d_Q_cut_103 1 rfl (by first | rfl | decide) (by decide) (L2 := [(1, .int (z.2 + 1)), (0, .ref (jx_ad G 3))]) rfl ?_
    refine jx_goto hX d_Q_cut_106 rfl ?_
    refine jx_sub (L2 := [(0, .ref (jx_ad G 3)), (1, .int (z.2 + 1))]) [1, 0] rfl ?_
    obtain rfl := Option.some.inj h
    exact hi _ rfl

set_option maxHeartbeats 4000000 in
set_option maxRecDepth 100000 in
theorem c_Q_cut (l : Launch) (G : jx_G) (S : jx_S)  (fin : jx_S) (h : f_Q_cut S = some fin) : jx_M l y_Q_cut b_Q_cut 3 none 5 G [.ref (jx_ad G 3)] (jx_w G S) (none, jx_w G fin) := by
  refine jx_met (own := "PlaneCells$Plane") (by decide) rfl (Nat.le_of_ble_eq_true rfl) (fun X hX hl => ?_)
  subst hl
  refine jx_L (L2 := [(0, .ref (jx_ad G 3))]) rfl ?_
  unfold f_Q_cut at h
  refine jx_aload_n hX d_Q_cut_0 0 rfl rfl ?_
  refine gf_Q_12 hX d_Q_cut_1 ?_
  obtain ⟨q4_1, hq4_1, h⟩ := jx_bd h
  refine cs_Q_39 hX (c_C_clear (jx_l X) G S q4_1 hq4_1) d_Q_cut_4 (by decide) (Nat.le_of_ble_eq_true rfl) ?_
  refine jx_iconst (v := 0) hX d_Q_cut_7 (by decide) ?_
  refine jx_istore_n hX d_Q_cut_8 rfl (by decide) (L2 := [(1, .int 0), (0, .ref (jx_ad G 3))]) rfl ?_
  refine jx_sub (L2 := [(0, .ref (jx_ad G 3)), (1, .int 0)]) [1, 0] rfl ?_
  obtain ⟨z9_9, hz, h⟩ := jx_bd h
  refine lt_Q_cut_9 hX fin  hz ?_
  obtain rfl := Option.some.inj h
  exact jx_vret hX d_Q_cut_109

def f_Q_countColumns (S : jx_S)  : Option (Int32) :=
  some ((2 * (S.1 13)) + 1)
set_option maxHeartbeats 4000000 in
set_option maxRecDepth 100000 in
theorem c_Q_countColumns (l : Launch) (G : jx_G) (S : jx_S)  (fin : Int32) (h : f_Q_countColumns S = some fin) : jx_M l y_Q_countColumns b_Q_countColumns 1 (some .int) 0 G [.ref (jx_ad G 3)] (jx_w G S) (some (.int fin), jx_w G S) := by
  refine jx_met (own := "PlaneCells$Plane") (by decide) rfl (Nat.le_of_ble_eq_true rfl) (fun X hX hl => ?_)
  subst hl
  refine jx_L (L2 := [(0, .ref (jx_ad G 3))]) rfl ?_
  unfold f_Q_countColumns at h
  refine jx_iconst (v := 2) hX d_Q_countColumns_0 (by decide) ?_
  refine jx_aload_n hX d_Q_countColumns_1 0 rfl rfl ?_
  refine gf_Q_12 hX d_Q_countColumns_2 ?_
  refine gf_Q_63 hX d_Q_countColumns_5 rfl ?_
  refine jx_imul hX d_Q_countColumns_8 ?_
  refine jx_iconst (v := 1) hX d_Q_countColumns_9 (by decide) ?_
  refine jx_iadd hX d_Q_countColumns_10 ?_
  obtain rfl := Option.some.inj h
  exact jx_iret hX d_Q_countColumns_11

def b_Q_addZero_5 (x1 : Int32) (x2 : Int32) (z : jx_S × Int32 × Int32) : Option ((jx_S × Int32 × Int32) ⊕ ((jx_S × Int32) ⊕ jx_S)) :=
  if x2 ≤ z.2.2 then
    some (.inr (.inl (z.1, z.2.1)))
  else
    if jx_in z.2.2 8 = true then
      if ((z.1.2.1 9) (z.2.2).toNatClampNeg) = 0 then
        some (.inl (z.1, z.2.1, (z.2.2 + 1)))
      else
        (f_F_setPair z.1 x2 z.2.2).bind fun q35_2 =>
          (f_C_signInColumn q35_2 x1).bind fun q47_3 =>
            if jx_in x2 8 = true then
              if ((q47_3 * ((q35_2.2.1 9) (x2).toNatClampNeg)) * ((q35_2.2.1 9) (z.2.2).toNatClampNeg)) = 0 then
                some (.inr (.inr (jx_g q35_2 11 (upd (q35_2.2.1 11) (x2).toNatClampNeg ((q35_2.2.1 11) (z.2.2).toNatClampNeg)))))
              else
                if ((q47_3 * ((q35_2.2.1 9) (x2).toNatClampNeg)) * ((q35_2.2.1 9) (z.2.2).toNatClampNeg)) ≤ 0 then
                  some (.inl (q35_2, z.2.1, (z.2.2 + 1)))
                else
                  some (.inl (q35_2, (jx_mx z.2.1 (((q35_2.2.1 11) (z.2.2).toNatClampNeg) + 2)), (z.2.2 + 1)))
            else none
    else none

def b_Q_addZero_114 (x1 : Int32) (x2 : Int32) (x3 : Int32) (z : jx_S × Int32) : Option ((jx_S × Int32) ⊕ (jx_S)) :=
  if x2 ≤ z.2 then
    some (.inr z.1)
  else
    if jx_in z.2 8 = true then
      if ((z.1.2.1 11) (z.2).toNatClampNeg) < x3 then
        some (.inl (z.1, (z.2 + 1)))
      else
        some (.inl ((jx_g z.1 11 (upd (z.1.2.1 11) (z.2).toNatClampNeg (((z.1.2.1 11) (z.2).toNatClampNeg) + 2))), (z.2 + 1)))
    else none

def f_Q_addZero (S : jx_S) (a1 : Int32) (a2 : Int32) : Option (jx_S) :=
  (jx_lp (b_Q_addZero_5 a1 a2) jx_N (S, 1, 0)).bind (Sum.elim (fun z5_5 =>
    (jx_lp (b_Q_addZero_114 a1 a2 z5_5.2) jx_N (z5_5.1, 0)).bind fun z114_7 =>
      if jx_in a2 8 = true then
        some (jx_f (jx_g z114_7 11 (upd (z114_7.2.1 11) (a2).toNatClampNeg z5_5.2)) 12 ((z114_7.1 12) + 2))
      else none)
    (fun y => some y))
set_option maxHeartbeats 4000000 in
set_option maxRecDepth 100000 in
theorem lt_Q_addZero_5 {G : jx_G} {X : jx_C} (hX : jx_Ok G X b_Q_addZero "PlaneCells$Plane" none 6 3) (fin : jx_S) (x1 : Int32) (x2 : Int32) {n : Nat} {z : jx_S × Int32 × Int32} {r : (jx_S × Int32) ⊕ jx_S} (hz : jx_lp (b_Q_addZero_5 x1 x2) n z = some r) (hk : ∀ u, r = .inl u → jx_At G X (none, jx_w G fin) (jx_w G u.1) 111 [(0, .ref (jx_ad G 3)), (1, .int x1), (2, .int x2), (3, .int u.2)] []) (hy : ∀ y, r = .inr y → y = fin) : jx_At G X (none, jx_w G fin) (jx_w G z.1) 5 [(0, .ref (jx_ad G 3)), (1, .int x1), (2, .int x2), (3, .int z.2.1), (4, .int z.2.2)] [] := by
  refine jx_loop2 (b_Q_addZero_5 x1 x2) (fun z => jx_At G X (none, jx_w G fin) (jx_w G z.1) 5 [(0, .ref (jx_ad G 3)), (1, .int x1), (2, .int x2), (3, .int z.2.1), (4, .int z.2.2)] []) (fun z => jx_At G X (none, jx_w G fin) (jx_w G z.1) 111 [(0, .ref (jx_ad G 3)), (1, .int x1), (2, .int x2), (3, .int z.2)] []) fin ?_ n z r hz hk hy
  intro z o h hi hx hr
  unfold b_Q_addZero_5 at h
  refine jx_iload hX d_Q_addZero_5 4 rfl ?_
  refine jx_iload_n hX d_Q_addZero_7 2 rfl rfl ?_
  refine jx_icmp_ge hX d_Q_addZero_8 rfl (fun hc => ?_) (fun hc => ?_)
  · have h := jx_ip hc h
    refine jx_sub (L2 := [(0, .ref (jx_ad G 3)), (1, .int x1), (2, .int x2), (3, .int z.2.1)]) [0, 1, 2, 3] rfl ?_
    obtain rfl := Option.some.inj h
    exact hx _ rfl
  · have h := jx_in_ hc h
    refine jx_aload_n hX d_Q_addZero_11 0 rfl rfl ?_
    refine gf_Q_25 hX d_Q_addZero_12 ?_
    refine jx_iload hX d_Q_addZero_15 4 rfl ?_
    obtain ⟨hg1, h⟩ := jx_gd h
    refine al_9 hX d_Q_addZero_17 rfl hg1 ?_
    refine jx_if_ne hX d_Q_addZero_18 rfl (fun hc => ?_) (fun hc => ?_)
    · have h := jx_in_ hc h
      refine jx_aload_n hX d_Q_addZero_24 0 rfl rfl ?_
      refine gf_Q_21 hX d_Q_addZero_25 ?_
      refine jx_aload_n hX d_Q_addZero_28 0 rfl rfl ?_
      refine gf_Q_35 hX d_Q_addZero_29 ?_
      refine jx_iload_n hX d_Q_addZero_32 2 rfl rfl ?_
      refine jx_iload hX d_Q_addZero_33 4 rfl ?_
      obtain ⟨q35_2, hq35_2, h⟩ := jx_bd h
      refine cs_Q_59 hX (c_F_setPair (jx_l X) G z.1 x2 z.2.2 q35_2 hq35_2) d_Q_addZero_35 (by decide) (Nat.le_of_ble_eq_true rfl) ?_
      refine jx_aload_n hX d_Q_addZero_38 0 rfl rfl ?_
      refine gf_Q_12 hX d_Q_addZero_39 ?_
      refine jx_iload_n hX d_Q_addZero_42 1 rfl rfl ?_
      refine jx_aload_n hX d_Q_addZero_43 0 rfl rfl ?_
      refine gf_Q_21 hX d_Q_addZero_44 ?_
      obtain ⟨q47_3, hq47_3, h⟩ := jx_bd h
      refine cs_Q_69 hX (c_C_signInColumn (jx_l X) G q35_2 x1 q47_3 hq47_3) d_Q_addZero_47 (by decide) (Nat.le_of_ble_eq_true rfl) ?_
      refine jx_aload_n hX d_Q_addZero_50 0 rfl rfl ?_
      refine gf_Q_25 hX d_Q_addZero_51 ?_
      refine jx_iload_n hX d_Q_addZero_54 2 rfl rfl ?_
      obtain ⟨hg4, h⟩ := jx_gd h
      refine al_9 hX d_Q_addZero_55 rfl hg4 ?_
      refine jx_imul hX d_Q_addZero_56 ?_
      refine jx_aload_n hX d_Q_addZero_57 0 rfl rfl ?_
      refine gf_Q_25 hX d_Q_addZero_58 ?_
      refine jx_iload hX d_Q_addZero_61 4 rfl ?_
      refine al_9 hX d_Q_addZero_63 rfl hg1 ?_
      refine jx_imul hX d_Q_addZero_64 ?_
      refine jx_istore hX d_Q_addZero_65 (by decide) (L2 := [(5, .int ((q47_3 * ((q35_2.2.1 9) (x2).toNatClampNeg)) * ((q35_2.2.1 9) (z.2.2).toNatClampNeg))), (0, .ref (jx_ad G 3)), (1, .int x1), (2, .int x2), (3, .int z.2.1), (4, .int z.2.2)]) rfl ?_
      refine jx_iload hX d_Q_addZero_67 0 rfl ?_
      refine jx_if_ne hX d_Q_addZero_69 rfl (fun hc => ?_) (fun hc => ?_)
      · have h := jx_in_ hc h
        refine jx_iload hX d_Q_addZero_86 0 rfl ?_
        refine jx_if_le hX d_Q_addZero_88 rfl (fun hc => ?_) (fun hc => ?_)
        · have h := jx_ip hc h
          refine jx_iinc (v := (z.2.2 + 1)) hX d_Q_addZero_105 5 rfl (by first | rfl | decide) (by decide) (L2 := [(4, .int (z.2.2 + 1)), (5, .int ((q47_3 * ((q35_2.2.1 9) (x2).toNatClampNeg)) * ((q35_2.2.1 9) (z.2.2).toNatClampNeg))), (0, .ref (jx_ad G 3)), (1, .int x1), (2, .int x2), (3, .int z.2.1)]) rfl ?_
          refine jx_goto hX d_Q_addZero_108 rfl ?_
          refine jx_sub (L2 := [(0, .ref (jx_ad G 3)), (1, .int x1), (2, .int x2), (3, .int z.2.1), (4, .int (z.2.2 + 1))]) [2, 3, 4, 5, 0] rfl ?_
          obtain rfl := Option.some.inj h
          exact hi _ rfl
        · have h := jx_in_ hc h
          refine jx_iload_n hX d_Q_addZero_91 4 rfl rfl ?_
          refine jx_aload_n hX d_Q_addZero_92 1 rfl rfl ?_
          refine gf_Q_32 hX d_Q_addZero_93 ?_
          refine jx_iload hX d_Q_addZero_96 5 rfl ?_
          refine al_11 hX d_Q_addZero_98 rfl hg1 ?_
          refine jx_iconst (v := 2) hX d_Q_addZero_99 (by decide) ?_
          refine jx_iadd hX d_Q_addZero_100 ?_
          refine jx_mx_r hX wm_359 d_Q_addZero_101 (Nat.le_of_ble_eq_true rfl) (by decide) ?_
          refine jx_istore_n hX d_Q_addZero_104 rfl (by decide) (L2 := [(3, .int (jx_mx z.2.1 (((q35_2.2.1 11) (z.2.2).toNatClampNeg) + 2))), (5, .int ((q47_3 * ((q35_2.2.1 9) (x2).toNatClampNeg)) * ((q35_2.2.1 9) (z.2.2).toNatClampNeg))), (0, .ref (jx_ad G 3)), (1, .int x1), (2, .int x2), (4, .int z.2.2)]) rfl ?_
          refine jx_iinc (v := (z.2.2 + 1)) hX d_Q_addZero_105 5 rfl (by first | rfl | decide) (by decide) (L2 := [(4, .int (z.2.2 + 1)), (3, .int (jx_mx z.2.1 (((q35_2.2.1 11) (z.2.2).toNatClampNeg) + 2))), (5, .int ((q47_3 * ((q35_2.2.1 9) (x2).toNatClampNeg)) * ((q35_2.2.1 9) (z.2.2).toNatClampNeg))), (0, .ref (jx_ad G 3)), (1, .int x1), (2, .int x2)]) rfl ?_
          refine jx_goto hX d_Q_addZero_108 rfl ?_
          refine jx_sub (L2 := [(0, .ref (jx_ad G 3)), (1, .int x1), (2, .int x2), (3, .int (jx_mx z.2.1 (((q35_2.2.1 11) (z.2.2).toNatClampNeg) + 2))), (4, .int (z.2.2 + 1))]) [3, 4, 5, 1, 0] rfl ?_
          obtain rfl := Option.some.inj h
          exact hi _ rfl
      · have h := jx_ip hc h
        refine jx_aload_n hX d_Q_addZero_72 1 rfl rfl ?_
        refine gf_Q_32 hX d_Q_addZero_73 ?_
        refine jx_iload_n hX d_Q_addZero_76 3 rfl rfl ?_
        refine jx_aload_n hX d_Q_addZero_77 1 rfl rfl ?_
        refine gf_Q_32 hX d_Q_addZero_78 ?_
        refine jx_iload hX d_Q_addZero_81 5 rfl ?_
        refine al_11 hX d_Q_addZero_83 rfl hg1 ?_
        refine as_11 hX d_Q_addZero_84 rfl hg4 ?_
        obtain rfl := Option.some.inj h
        obtain rfl := hr _ rfl
        exact jx_vret hX d_Q_addZero_85
    · have h := jx_ip hc h
      refine jx_goto hX d_Q_addZero_21 rfl ?_
      refine jx_iinc (v := (z.2.2 + 1)) hX d_Q_addZero_105 4 rfl (by first | rfl | decide) (by decide) (L2 := [(4, .int (z.2.2 + 1)), (0, .ref (jx_ad G 3)), (1, .int x1), (2, .int x2), (3, .int z.2.1)]) rfl ?_
      refine jx_goto hX d_Q_addZero_108 rfl ?_
      refine jx_sub (L2 := [(0, .ref (jx_ad G 3)), (1, .int x1), (2, .int x2), (3, .int z.2.1), (4, .int (z.2.2 + 1))]) [1, 2, 3, 4, 0] rfl ?_
      obtain rfl := Option.some.inj h
      exact hi _ rfl

set_option maxHeartbeats 4000000 in
set_option maxRecDepth 100000 in
theorem lt_Q_addZero_114 {G : jx_G} {X : jx_C} (hX : jx_Ok G X b_Q_addZero "PlaneCells$Plane" none 6 3) (fin : jx_S) (x1 : Int32) (x2 : Int32) (x3 : Int32) {n : Nat} {z : jx_S × Int32} {r : jx_S} (hz : jx_lp (b_Q_addZero_114 x1 x2 x3) n z = some r) (hk : jx_At G X (none, jx_w G fin) (jx_w G r) 148 [(0, .ref (jx_ad G 3)), (1, .int x1), (2, .int x2), (3, .int x3)] []) : jx_At G X (none, jx_w G fin) (jx_w G z.1) 114 [(0, .ref (jx_ad G 3)), (1, .int x1), (2, .int x2), (3, .int x3), (4, .int z.2)] [] := by
  refine jx_loop1 (b_Q_addZero_114 x1 x2 x3) (fun z => jx_At G X (none, jx_w G fin) (jx_w G z.1) 114 [(0, .ref (jx_ad G 3)), (1, .int x1), (2, .int x2), (3, .int x3), (4, .int z.2)] []) (fun z => jx_At G X (none, jx_w G fin) (jx_w G z) 148 [(0, .ref (jx_ad G 3)), (1, .int x1), (2, .int x2), (3, .int x3)] []) ?_ n z r hz hk
  intro z o h hi hx
  unfold b_Q_addZero_114 at h
  refine jx_iload hX d_Q_addZero_114 4 rfl ?_
  refine jx_iload_n hX d_Q_addZero_116 2 rfl rfl ?_
  refine jx_icmp_ge hX d_Q_addZero_117 rfl (fun hc => ?_) (fun hc => ?_)
  · have h := jx_ip hc h
    refine jx_sub (L2 := [(0, .ref (jx_ad G 3)), (1, .int x1), (2, .int x2), (3, .int x3)]) [0, 1, 2, 3] rfl ?_
    obtain rfl := Option.some.inj h
    exact hx _ rfl
  · have h := jx_in_ hc h
    refine jx_aload_n hX d_Q_addZero_120 0 rfl rfl ?_
    refine gf_Q_32 hX d_Q_addZero_121 ?_
    refine jx_iload hX d_Q_addZero_124 4 rfl ?_
    obtain ⟨hg6, h⟩ := jx_gd h
    refine al_11 hX d_Q_addZero_126 rfl hg6 ?_
    refine jx_iload_n hX d_Q_addZero_127 3 rfl rfl ?_
    refine jx_icmp_lt hX d_Q_addZero_128 rfl (fun hc => ?_) (fun hc => ?_)
    · have h := jx_ip hc h
      refine jx_iinc (v := (z.2 + 1)) hX d_Q_addZero_142 4 rfl (by first | rfl | decide) (by decide) (L2 := [(4, .int (z.2 + 1)), (0, .ref (jx_ad G 3)), (1, .int x1), (2, .int x2), (3, .int x3)]) rfl ?_
      refine jx_goto hX d_Q_addZero_145 rfl ?_
      refine jx_sub (L2 := [(0, .ref (jx_ad G 3)), (1, .int x1), (2, .int x2), (3, .int x3), (4, .int (z.2 + 1))]) [1, 2, 3, 4, 0] rfl ?_
      obtain rfl := Option.some.inj h
      exact hi _ rfl
    · have h := jx_in_ hc h
      refine jx_aload_n hX d_Q_addZero_131 0 rfl rfl ?_
      refine gf_Q_32 hX d_Q_addZero_132 ?_
      refine jx_iload hX d_Q_addZero_135 4 rfl ?_
      refine jx_dup2 hX d_Q_addZero_137 rfl rfl ?_
      refine al_11 hX d_Q_addZero_138 rfl hg6 ?_
      refine jx_iconst (v := 2) hX d_Q_addZero_139 (by decide) ?_
      refine jx_iadd hX d_Q_addZero_140 ?_
      refine as_11 hX d_Q_addZero_141 rfl hg6 ?_
      refine jx_iinc (v := (z.2 + 1)) hX d_Q_addZero_142 4 rfl (by first | rfl | decide) (by decide) (L2 := [(4, .int (z.2 + 1)), (0, .ref (jx_ad G 3)), (1, .int x1), (2, .int x2), (3, .int x3)]) rfl ?_
      refine jx_goto hX d_Q_addZero_145 rfl ?_
      refine jx_sub (L2 := [(0, .ref (jx_ad G 3)), (1, .int x1), (2, .int x2), (3, .int x3), (4, .int (z.2 + 1))]) [1, 2, 3, 4, 0] rfl ?_
      obtain rfl := Option.some.inj h
      exact hi _ rfl

set_option maxHeartbeats 4000000 in
set_option maxRecDepth 100000 in
theorem c_Q_addZero (l : Launch) (G : jx_G) (S : jx_S) (a1 : Int32) (a2 : Int32) (fin : jx_S) (h : f_Q_addZero S a1 a2 = some fin) : jx_M l y_Q_addZero b_Q_addZero 6 none 3 G [.ref (jx_ad G 3), .int a1, .int a2] (jx_w G S) (none, jx_w G fin) := by
  refine jx_met (own := "PlaneCells$Plane") (by decide) rfl (Nat.le_of_ble_eq_true rfl) (fun X hX hl => ?_)
  subst hl
  refine jx_L (L2 := [(0, .ref (jx_ad G 3)), (1, .int a1), (2, .int a2)]) rfl ?_
  unfold f_Q_addZero at h
  refine jx_iconst (v := 1) hX d_Q_addZero_0 (by decide) ?_
  refine jx_istore_n hX d_Q_addZero_1 rfl (by decide) (L2 := [(3, .int 1), (0, .ref (jx_ad G 3)), (1, .int a1), (2, .int a2)]) rfl ?_
  refine jx_iconst (v := 0) hX d_Q_addZero_2 (by decide) ?_
  refine jx_istore hX d_Q_addZero_3 (by decide) (L2 := [(4, .int 0), (3, .int 1), (0, .ref (jx_ad G 3)), (1, .int a1), (2, .int a2)]) rfl ?_
  refine jx_sub (L2 := [(0, .ref (jx_ad G 3)), (1, .int a1), (2, .int a2), (3, .int 1), (4, .int 0)]) [2, 3, 4, 1, 0] rfl ?_
  obtain ⟨r, hz, h⟩ := jx_bd h
  refine lt_Q_addZero_5 hX fin a1 a2 hz (fun z5_5 e => ?_) (fun y e => ?_)
  · subst e
    have h := jx_el h
    refine jx_iconst (v := 0) hX d_Q_addZero_111 (by decide) ?_
    refine jx_istore hX d_Q_addZero_112 (by decide) (L2 := [(4, .int 0), (0, .ref (jx_ad G 3)), (1, .int a1), (2, .int a2), (3, .int z5_5.2)]) rfl ?_
    refine jx_sub (L2 := [(0, .ref (jx_ad G 3)), (1, .int a1), (2, .int a2), (3, .int z5_5.2), (4, .int 0)]) [1, 2, 3, 4, 0] rfl ?_
    obtain ⟨z114_7, hz, h⟩ := jx_bd h
    refine lt_Q_addZero_114 hX fin a1 a2 z5_5.2 hz ?_
    refine jx_aload_n hX d_Q_addZero_148 0 rfl rfl ?_
    refine gf_Q_32 hX d_Q_addZero_149 ?_
    refine jx_iload_n hX d_Q_addZero_152 2 rfl rfl ?_
    refine jx_iload_n hX d_Q_addZero_153 3 rfl rfl ?_
    obtain ⟨hg8, h⟩ := jx_gd h
    refine as_11 hX d_Q_addZero_154 rfl hg8 ?_
    refine jx_aload_n hX d_Q_addZero_155 0 rfl rfl ?_
    refine jx_dup hX d_Q_addZero_156 rfl ?_
    refine gf_Q_66 hX d_Q_addZero_157 (x := (z114_7.1 12)) rfl ?_
    refine jx_iconst (v := 2) hX d_Q_addZero_160 (by decide) ?_
    refine jx_iadd hX d_Q_addZero_161 ?_
    refine pf_Q_66 hX d_Q_addZero_162 ?_
    obtain rfl := Option.some.inj h
    exact jx_vret hX d_Q_addZero_165
  · subst e
    have h := jx_er h
    exact Option.some.inj h

def b_Q_enter_7 (x1 : Int32) (z : jx_S × Int32) : Option ((jx_S × Int32) ⊕ (jx_S)) :=
  if (z.1.1 4) ≤ z.2 then
    some (.inr z.1)
  else
    (f_F_setA z.1 z.2).bind fun q27_1 =>
      (f_C_signInColumn q27_1 x1).bind fun q44_2 =>
        if jx_in z.2 8 = true then
          (f_F_setB (jx_g q27_1 9 (upd (q27_1.2.1 9) (z.2).toNatClampNeg q44_2)) z.2).bind fun q57_4 =>
            (f_C_signInColumn q57_4 x1).bind fun q74_5 =>
              if ((q57_4.2.1 9) (z.2).toNatClampNeg) = 0 then
                some (.inl ((jx_g (jx_g q57_4 10 (upd (q57_4.2.1 10) (z.2).toNatClampNeg q74_5)) 11 (upd (q57_4.2.1 11) (z.2).toNatClampNeg 0)), (z.2 + 1)))
              else
                (f_Q_addZero (jx_g (jx_g q57_4 10 (upd (q57_4.2.1 10) (z.2).toNatClampNeg q74_5)) 11 (upd (q57_4.2.1 11) (z.2).toNatClampNeg 0)) x1 z.2).bind fun q97_6 =>
                  some (.inl (q97_6, (z.2 + 1)))
        else none

def f_Q_enter (S : jx_S) (a1 : Int32) : Option (jx_S) :=
  (jx_lp (b_Q_enter_7 a1) jx_N ((jx_f S 12 1), 0)).bind fun z7_7 =>
    some z7_7
set_option maxHeartbeats 4000000 in
set_option maxRecDepth 100000 in
theorem lt_Q_enter_7 {G : jx_G} {X : jx_C} (hX : jx_Ok G X b_Q_enter "PlaneCells$Plane" none 3 4) (fin : jx_S) (x1 : Int32) {n : Nat} {z : jx_S × Int32} {r : jx_S} (hz : jx_lp (b_Q_enter_7 x1) n z = some r) (hk : jx_At G X (none, jx_w G fin) (jx_w G r) 106 [(0, .ref (jx_ad G 3)), (1, .int x1)] []) : jx_At G X (none, jx_w G fin) (jx_w G z.1) 7 [(0, .ref (jx_ad G 3)), (1, .int x1), (2, .int z.2)] [] := by
  refine jx_loop1 (b_Q_enter_7 x1) (fun z => jx_At G X (none, jx_w G fin) (jx_w G z.1) 7 [(0, .ref (jx_ad G 3)), (1, .int x1), (2, .int z.2)] []) (fun z => jx_At G X (none, jx_w G fin) (jx_w G z) 106 [(0, .ref (jx_ad G 3)), (1, .int x1)] []) ?_ n z r hz hk
  intro z o h hi hx
  unfold b_Q_enter_7 at h
  refine jx_iload_n hX d_Q_enter_7 2 rfl rfl ?_
  refine jx_aload_n hX d_Q_enter_8 0 rfl rfl ?_
  refine gf_Q_35 hX d_Q_enter_9 ?_
  refine gf_Q_42 hX d_Q_enter_12 rfl ?_
  refine jx_icmp_ge hX d_Q_enter_15 rfl (fun hc => ?_) (fun hc => ?_)
  · have h := jx_ip hc h
    refine jx_sub (L2 := [(0, .ref (jx_ad G 3)), (1, .int x1)]) [0, 1] rfl ?_
    obtain rfl := Option.some.inj h
    exact hx _ rfl
  · have h := jx_in_ hc h
    refine jx_aload_n hX d_Q_enter_18 0 rfl rfl ?_
    refine gf_Q_21 hX d_Q_enter_19 ?_
    refine jx_aload_n hX d_Q_enter_22 0 rfl rfl ?_
    refine gf_Q_35 hX d_Q_enter_23 ?_
    refine jx_iload_n hX d_Q_enter_26 2 rfl rfl ?_
    obtain ⟨q27_1, hq27_1, h⟩ := jx_bd h
    refine cs_Q_48 hX (c_F_setA (jx_l X) G z.1 z.2 q27_1 hq27_1) d_Q_enter_27 (by decide) (Nat.le_of_ble_eq_true rfl) ?_
    refine jx_aload_n hX d_Q_enter_30 0 rfl rfl ?_
    refine gf_Q_25 hX d_Q_enter_31 ?_
    refine jx_iload_n hX d_Q_enter_34 2 rfl rfl ?_
    refine jx_aload_n hX d_Q_enter_35 0 rfl rfl ?_
    refine gf_Q_12 hX d_Q_enter_36 ?_
    refine jx_iload_n hX d_Q_enter_39 1 rfl rfl ?_
    refine jx_aload_n hX d_Q_enter_40 0 rfl rfl ?_
    refine gf_Q_21 hX d_Q_enter_41 ?_
    obtain ⟨q44_2, hq44_2, h⟩ := jx_bd h
    refine cs_Q_69 hX (c_C_signInColumn (jx_l X) G q27_1 x1 q44_2 hq44_2) d_Q_enter_44 (by decide) (Nat.le_of_ble_eq_true rfl) ?_
    obtain ⟨hg3, h⟩ := jx_gd h
    refine as_9 hX d_Q_enter_47 rfl hg3 ?_
    refine jx_aload_n hX d_Q_enter_48 0 rfl rfl ?_
    refine gf_Q_21 hX d_Q_enter_49 ?_
    refine jx_aload_n hX d_Q_enter_52 0 rfl rfl ?_
    refine gf_Q_35 hX d_Q_enter_53 ?_
    refine jx_iload_n hX d_Q_enter_56 2 rfl rfl ?_
    obtain ⟨q57_4, hq57_4, h⟩ := jx_bd h
    refine cs_Q_56 hX (c_F_setB (jx_l X) G (jx_g q27_1 9 (upd (q27_1.2.1 9) (z.2).toNatClampNeg q44_2)) z.2 q57_4 hq57_4) d_Q_enter_57 (by decide) (Nat.le_of_ble_eq_true rfl) ?_
    refine jx_aload_n hX d_Q_enter_60 0 rfl rfl ?_
    refine gf_Q_29 hX d_Q_enter_61 ?_
    refine jx_iload_n hX d_Q_enter_64 2 rfl rfl ?_
    refine jx_aload_n hX d_Q_enter_65 0 rfl rfl ?_
    refine gf_Q_12 hX d_Q_enter_66 ?_
    refine jx_iload_n hX d_Q_enter_69 1 rfl rfl ?_
    refine jx_aload_n hX d_Q_enter_70 0 rfl rfl ?_
    refine gf_Q_21 hX d_Q_enter_71 ?_
    obtain ⟨q74_5, hq74_5, h⟩ := jx_bd h
    refine cs_Q_69 hX (c_C_signInColumn (jx_l X) G q57_4 x1 q74_5 hq74_5) d_Q_enter_74 (by decide) (Nat.le_of_ble_eq_true rfl) ?_
    refine as_10 hX d_Q_enter_77 rfl hg3 ?_
    refine jx_aload_n hX d_Q_enter_78 0 rfl rfl ?_
    refine gf_Q_32 hX d_Q_enter_79 ?_
    refine jx_iload_n hX d_Q_enter_82 2 rfl rfl ?_
    refine jx_iconst (v := 0) hX d_Q_enter_83 (by decide) ?_
    refine as_11 hX d_Q_enter_84 (f := (q57_4.2.1 11)) rfl hg3 ?_
    refine jx_aload_n hX d_Q_enter_85 0 rfl rfl ?_
    refine gf_Q_25 hX d_Q_enter_86 ?_
    refine jx_iload_n hX d_Q_enter_89 2 rfl rfl ?_
    refine al_9 hX d_Q_enter_90 (f := (q57_4.2.1 9)) rfl hg3 ?_
    refine jx_if_eq hX d_Q_enter_91 rfl (fun hc => ?_) (fun hc => ?_)
    · have h := jx_ip hc h
      refine jx_iinc (v := (z.2 + 1)) hX d_Q_enter_100 2 rfl (by first | rfl | decide) (by decide) (L2 := [(2, .int (z.2 + 1)), (0, .ref (jx_ad G 3)), (1, .int x1)]) rfl ?_
      refine jx_goto hX d_Q_enter_103 rfl ?_
      refine jx_sub (L2 := [(0, .ref (jx_ad G 3)), (1, .int x1), (2, .int (z.2 + 1))]) [1, 2, 0] rfl ?_
      obtain rfl := Option.some.inj h
      exact hi _ rfl
    · have h := jx_in_ hc h
      refine jx_aload_n hX d_Q_enter_94 0 rfl rfl ?_
      refine jx_iload_n hX d_Q_enter_95 1 rfl rfl ?_
      refine jx_iload_n hX d_Q_enter_96 2 rfl rfl ?_
      obtain ⟨q97_6, hq97_6, h⟩ := jx_bd h
      refine cs_Q_73 hX (c_Q_addZero (jx_l X) G (jx_g (jx_g q57_4 10 (upd (q57_4.2.1 10) (z.2).toNatClampNeg q74_5)) 11 (upd (q57_4.2.1 11) (z.2).toNatClampNeg 0)) x1 z.2 q97_6 hq97_6) d_Q_enter_97 (by decide) (Nat.le_of_ble_eq_true rfl) ?_
      refine jx_iinc (v := (z.2 + 1)) hX d_Q_enter_100 2 rfl (by first | rfl | decide) (by decide) (L2 := [(2, .int (z.2 + 1)), (0, .ref (jx_ad G 3)), (1, .int x1)]) rfl ?_
      refine jx_goto hX d_Q_enter_103 rfl ?_
      refine jx_sub (L2 := [(0, .ref (jx_ad G 3)), (1, .int x1), (2, .int (z.2 + 1))]) [1, 2, 0] rfl ?_
      obtain rfl := Option.some.inj h
      exact hi _ rfl

set_option maxHeartbeats 4000000 in
set_option maxRecDepth 100000 in
theorem c_Q_enter (l : Launch) (G : jx_G) (S : jx_S) (a1 : Int32) (fin : jx_S) (h : f_Q_enter S a1 = some fin) : jx_M l y_Q_enter b_Q_enter 3 none 4 G [.ref (jx_ad G 3), .int a1] (jx_w G S) (none, jx_w G fin) := by
  refine jx_met (own := "PlaneCells$Plane") (by decide) rfl (Nat.le_of_ble_eq_true rfl) (fun X hX hl => ?_)
  subst hl
  refine jx_L (L2 := [(0, .ref (jx_ad G 3)), (1, .int a1)]) rfl ?_
  unfold f_Q_enter at h
  refine jx_aload_n hX d_Q_enter_0 0 rfl rfl ?_
  refine jx_iconst (v := 1) hX d_Q_enter_1 (by decide) ?_
  refine pf_Q_66 hX d_Q_enter_2 ?_
  refine jx_iconst (v := 0) hX d_Q_enter_5 (by decide) ?_
  refine jx_istore_n hX d_Q_enter_6 rfl (by decide) (L2 := [(2, .int 0), (0, .ref (jx_ad G 3)), (1, .int a1)]) rfl ?_
  refine jx_sub (L2 := [(0, .ref (jx_ad G 3)), (1, .int a1), (2, .int 0)]) [1, 2, 0] rfl ?_
  obtain ⟨z7_7, hz, h⟩ := jx_bd h
  refine lt_Q_enter_7 hX fin a1 hz ?_
  obtain rfl := Option.some.inj h
  exact jx_vret hX d_Q_enter_106

def f_Q_signIn (S : jx_S) (a1 : Int32) (a2 : Int32) : Option (Int32) :=
  if jx_in a2 8 = true then
    if ((S.2.1 9) (a2).toNatClampNeg) = 0 then
      some ((S.2.1 10) (a2).toNatClampNeg)
    else
      some (((S.2.1 9) (a2).toNatClampNeg) * (jx_si (a1 - ((S.2.1 11) (a2).toNatClampNeg))))
  else none
set_option maxHeartbeats 4000000 in
set_option maxRecDepth 100000 in
theorem c_Q_signIn (l : Launch) (G : jx_G) (S : jx_S) (a1 : Int32) (a2 : Int32) (fin : Int32) (h : f_Q_signIn S a1 a2 = some fin) : jx_M l y_Q_signIn b_Q_signIn 3 (some .int) 1 G [.ref (jx_ad G 3), .int a1, .int a2] (jx_w G S) (some (.int fin), jx_w G S) := by
  refine jx_met (own := "PlaneCells$Plane") (by decide) rfl (Nat.le_of_ble_eq_true rfl) (fun X hX hl => ?_)
  subst hl
  refine jx_L (L2 := [(0, .ref (jx_ad G 3)), (1, .int a1), (2, .int a2)]) rfl ?_
  unfold f_Q_signIn at h
  refine jx_aload_n hX d_Q_signIn_0 0 rfl rfl ?_
  refine gf_Q_25 hX d_Q_signIn_1 ?_
  refine jx_iload_n hX d_Q_signIn_4 2 rfl rfl ?_
  obtain ⟨hg1, h⟩ := jx_gd h
  refine al_9 hX d_Q_signIn_5 rfl hg1 ?_
  refine jx_if_ne hX d_Q_signIn_6 rfl (fun hc => ?_) (fun hc => ?_)
  · have h := jx_in_ hc h
    refine jx_aload_n hX d_Q_signIn_18 0 rfl rfl ?_
    refine gf_Q_25 hX d_Q_signIn_19 ?_
    refine jx_iload_n hX d_Q_signIn_22 2 rfl rfl ?_
    refine al_9 hX d_Q_signIn_23 rfl hg1 ?_
    refine jx_iload_n hX d_Q_signIn_24 1 rfl rfl ?_
    refine jx_aload_n hX d_Q_signIn_25 0 rfl rfl ?_
    refine gf_Q_32 hX d_Q_signIn_26 ?_
    refine jx_iload_n hX d_Q_signIn_29 2 rfl rfl ?_
    refine al_11 hX d_Q_signIn_30 rfl hg1 ?_
    refine jx_isub hX d_Q_signIn_31 ?_
    refine jx_si_r hX wm_374 d_Q_signIn_32 (Nat.le_of_ble_eq_true rfl) (by decide) ?_
    refine jx_imul hX d_Q_signIn_35 ?_
    obtain rfl := Option.some.inj h
    exact jx_iret hX d_Q_signIn_36
  · have h := jx_ip hc h
    refine jx_aload_n hX d_Q_signIn_9 0 rfl rfl ?_
    refine gf_Q_29 hX d_Q_signIn_10 ?_
    refine jx_iload_n hX d_Q_signIn_13 2 rfl rfl ?_
    refine al_10 hX d_Q_signIn_14 rfl hg1 ?_
    refine jx_goto hX d_Q_signIn_15 rfl ?_
    obtain rfl := Option.some.inj h
    exact jx_iret hX d_Q_signIn_36

def f_S_atomIsTrue (S : jx_S) (a1 : Int32) (a2 : Int32) : Option (Int32) :=
  if jx_in a1 8 = true then
    if ((S.2.1 1) (a1).toNatClampNeg) = 61 then
      some (if a2 = 0 then 1 else 0 : Int32)
    else
      some (if a2 = (if ((S.2.1 1) (a1).toNatClampNeg) = 60 then (-1) else 1 : Int32) then 1 else 0 : Int32)
  else none
set_option maxHeartbeats 4000000 in
set_option maxRecDepth 100000 in
theorem c_S_atomIsTrue (l : Launch) (G : jx_G) (S : jx_S) (a1 : Int32) (a2 : Int32) (fin : Int32) (h : f_S_atomIsTrue S a1 a2 = some fin) : jx_M l y_S_atomIsTrue b_S_atomIsTrue 3 (some .boolean) 0 G [.ref (jx_ad G 1), .int a1, .int a2] (jx_w G S) (some (.int fin), jx_w G S) := by
  refine jx_met (own := "PlaneCells$Sentence") (by decide) rfl (Nat.le_of_ble_eq_true rfl) (fun X hX hl => ?_)
  subst hl
  refine jx_L (L2 := [(0, .ref (jx_ad G 1)), (1, .int a1), (2, .int a2)]) rfl ?_
  unfold f_S_atomIsTrue at h
  refine jx_aload_n hX d_S_atomIsTrue_0 0 rfl rfl ?_
  refine gf_S_15 hX d_S_atomIsTrue_1 ?_
  refine jx_iload_n hX d_S_atomIsTrue_4 1 rfl rfl ?_
  obtain ⟨hg1, h⟩ := jx_gd h
  refine al_1 hX d_S_atomIsTrue_5 rfl hg1 ?_
  refine jx_bipush (v := 61) hX d_S_atomIsTrue_6 (by decide) ?_
  refine jx_icmp_ne hX d_S_atomIsTrue_8 rfl (fun hc => ?_) (fun hc => ?_)
  · have h := jx_in_ hc h
    refine jx_iload_n hX d_S_atomIsTrue_21 2 rfl rfl ?_
    refine jx_aload_n hX d_S_atomIsTrue_22 0 rfl rfl ?_
    refine gf_S_15 hX d_S_atomIsTrue_23 ?_
    refine jx_iload_n hX d_S_atomIsTrue_26 1 rfl rfl ?_
    refine al_1 hX d_S_atomIsTrue_27 rfl hg1 ?_
    refine jx_bipush (v := 60) hX d_S_atomIsTrue_28 (by decide) ?_
    have hj : jx_At G X (some (.int fin), jx_w G S) (jx_w G S) 38 [(0, .ref (jx_ad G 1)), (1, .int a1), (2, .int a2)] [.int (if ((S.2.1 1) (a1).toNatClampNeg) = 60 then (-1) else 1 : Int32), .int a2] := by
      have hj : jx_At G X (some (.int fin), jx_w G S) (jx_w G S) 46 [(0, .ref (jx_ad G 1)), (1, .int a1), (2, .int a2)] [.int (if a2 = (if ((S.2.1 1) (a1).toNatClampNeg) = 60 then (-1) else 1 : Int32) then 1 else 0 : Int32)] := by
        obtain rfl := Option.some.inj h
        exact jx_zret hX d_S_atomIsTrue_46 (jx_01n (jx_zi jx_z1 jx_z0))
      refine jx_icmp_ne hX d_S_atomIsTrue_38 rfl (fun hc2 => ?_) (fun hc2 => ?_)
      · refine jx_iconst (v := 0) hX d_S_atomIsTrue_45 (by decide) ?_
        have hj2 := hj
        rw [if_neg hc2] at hj2
        exact hj2
      · refine jx_iconst (v := 1) hX d_S_atomIsTrue_41 (by decide) ?_
        refine jx_goto hX d_S_atomIsTrue_42 rfl ?_
        have hj2 := hj
        rw [if_pos hc2] at hj2
        exact hj2
    refine jx_icmp_ne hX d_S_atomIsTrue_30 rfl (fun hc3 => ?_) (fun hc3 => ?_)
    · refine jx_iconst (v := 1) hX d_S_atomIsTrue_37 (by decide) ?_
      have hj2 := hj
      rw [if_neg hc3] at hj2
      exact hj2
    · refine jx_iconst (v := (-1)) hX d_S_atomIsTrue_33 (by decide) ?_
      refine jx_goto hX d_S_atomIsTrue_34 rfl ?_
      have hj2 := hj
      rw [if_pos hc3] at hj2
      exact hj2
  · have h := jx_ip hc h
    refine jx_iload_n hX d_S_atomIsTrue_11 2 rfl rfl ?_
    have hj : jx_At G X (some (.int fin), jx_w G S) (jx_w G S) 20 [(0, .ref (jx_ad G 1)), (1, .int a1), (2, .int a2)] [.int (if a2 = 0 then 1 else 0 : Int32)] := by
      obtain rfl := Option.some.inj h
      exact jx_zret hX d_S_atomIsTrue_20 (jx_01n (jx_zi jx_z1 jx_z0))
    refine jx_if_ne hX d_S_atomIsTrue_12 rfl (fun hc4 => ?_) (fun hc4 => ?_)
    · refine jx_iconst (v := 0) hX d_S_atomIsTrue_19 (by decide) ?_
      have hj2 := hj
      rw [if_neg hc4] at hj2
      exact hj2
    · refine jx_iconst (v := 1) hX d_S_atomIsTrue_15 (by decide) ?_
      refine jx_goto hX d_S_atomIsTrue_16 rfl ?_
      have hj2 := hj
      rw [if_pos hc4] at hj2
      exact hj2
end
section
def b_Q_trueIn_4 (S : jx_S) (x1 : Int32) (z : Int32 × Int32) : Option ((Int32 × Int32) ⊕ (Int32)) :=
  if (S.1 3) ≤ z.2 then
    some (.inr z.1)
  else
    if jx_in z.2 80 = true then
      if ((S.2.1 2) (z.2).toNatClampNeg) < 4 then
        if ((S.2.1 2) (z.2).toNatClampNeg) = 3 then
          some (.inl ((z.1 ^^^ 1), (z.2 + 1)))
        else
          if ((S.2.1 2) (z.2).toNatClampNeg) = 2 then
            some (.inl (((z.1 >>> (1 &&& 31)) &&& (z.1 ||| (-2))), (z.2 + 1)))
          else
            some (.inl (((z.1 >>> (1 &&& 31)) ||| (z.1 &&& 1)), (z.2 + 1)))
      else
        (f_Q_signIn S x1 (((S.2.1 2) (z.2).toNatClampNeg) - 4)).bind fun q51_2 =>
          (f_S_atomIsTrue S (((S.2.1 2) (z.2).toNatClampNeg) - 4) q51_2).bind fun q54_3 =>
            some (.inl (((z.1 <<< (1 &&& 31)) ||| (if q54_3 = 0 then 0 else 1 : Int32)), (z.2 + 1)))
    else none

def f_Q_trueIn (S : jx_S) (a1 : Int32) : Option (Int32) :=
  (jx_lp (b_Q_trueIn_4 S a1) jx_N (0, 0)).bind fun z4_5 =>
    some (if (z4_5 &&& 1) = 1 then 1 else 0 : Int32)
set_option maxHeartbeats 4000000 in
set_option maxRecDepth 100000 in
theorem lt_Q_trueIn_4 {G : jx_G} {X : jx_C} (hX : jx_Ok G X b_Q_trueIn "PlaneCells$Plane" (some .boolean) 6 2) (fin : Int32) (S : jx_S) (x1 : Int32) {n : Nat} {z : Int32 × Int32} {r : Int32} (hz : jx_lp (b_Q_trueIn_4 S x1) n z = some r) (hk : jx_At G X (some (.int fin), jx_w G S) (jx_w G S) 115 [(0, .ref (jx_ad G 3)), (1, .int x1), (2, .int r)] []) : jx_At G X (some (.int fin), jx_w G S) (jx_w G S) 4 [(0, .ref (jx_ad G 3)), (1, .int x1), (2, .int z.1), (3, .int z.2)] [] := by
  refine jx_loop1 (b_Q_trueIn_4 S x1) (fun z => jx_At G X (some (.int fin), jx_w G S) (jx_w G S) 4 [(0, .ref (jx_ad G 3)), (1, .int x1), (2, .int z.1), (3, .int z.2)] []) (fun z => jx_At G X (some (.int fin), jx_w G S) (jx_w G S) 115 [(0, .ref (jx_ad G 3)), (1, .int x1), (2, .int z)] []) ?_ n z r hz hk
  intro z o h hi hx
  unfold b_Q_trueIn_4 at h
  refine jx_iload_n hX d_Q_trueIn_4 3 rfl rfl ?_
  refine jx_aload_n hX d_Q_trueIn_5 0 rfl rfl ?_
  refine gf_Q_35 hX d_Q_trueIn_6 ?_
  refine gf_Q_89 hX d_Q_trueIn_9 rfl ?_
  refine jx_icmp_ge hX d_Q_trueIn_12 rfl (fun hc => ?_) (fun hc => ?_)
  · have h := jx_ip hc h
    refine jx_sub (L2 := [(0, .ref (jx_ad G 3)), (1, .int x1), (2, .int z.1)]) [0, 1, 2] rfl ?_
    obtain rfl := Option.some.inj h
    exact hx _ rfl
  · have h := jx_in_ hc h
    refine jx_aload_n hX d_Q_trueIn_15 0 rfl rfl ?_
    refine gf_Q_35 hX d_Q_trueIn_16 ?_
    refine gf_Q_92 hX d_Q_trueIn_19 ?_
    refine jx_iload_n hX d_Q_trueIn_22 3 rfl rfl ?_
    obtain ⟨hg1, h⟩ := jx_gd h
    refine al_2 hX d_Q_trueIn_23 rfl hg1 ?_
    refine jx_istore hX d_Q_trueIn_24 (by decide) (L2 := [(4, .int ((S.2.1 2) (z.2).toNatClampNeg)), (0, .ref (jx_ad G 3)), (1, .int x1), (2, .int z.1), (3, .int z.2)]) rfl ?_
    refine jx_iload hX d_Q_trueIn_26 0 rfl ?_
    refine jx_iconst (v := 4) hX d_Q_trueIn_28 (by decide) ?_
    refine jx_icmp_lt hX d_Q_trueIn_29 rfl (fun hc => ?_) (fun hc => ?_)
    · have h := jx_ip hc h
      refine jx_iload hX d_Q_trueIn_70 0 rfl ?_
      refine jx_iconst (v := 3) hX d_Q_trueIn_72 (by decide) ?_
      refine jx_icmp_ne hX d_Q_trueIn_73 rfl (fun hc => ?_) (fun hc => ?_)
      · have h := jx_in_ hc h
        refine jx_iload hX d_Q_trueIn_83 0 rfl ?_
        refine jx_iconst (v := 2) hX d_Q_trueIn_85 (by decide) ?_
        refine jx_icmp_ne hX d_Q_trueIn_86 rfl (fun hc => ?_) (fun hc => ?_)
        · have h := jx_in_ hc h
          refine jx_iload_n hX d_Q_trueIn_101 3 rfl rfl ?_
          refine jx_iconst (v := 1) hX d_Q_trueIn_102 (by decide) ?_
          refine jx_ishr hX d_Q_trueIn_103 ?_
          refine jx_iload_n hX d_Q_trueIn_104 3 rfl rfl ?_
          refine jx_iconst (v := 1) hX d_Q_trueIn_105 (by decide) ?_
          refine jx_iand hX d_Q_trueIn_106 ?_
          refine jx_ior hX d_Q_trueIn_107 ?_
          refine jx_istore_n hX d_Q_trueIn_108 rfl (by decide) (L2 := [(2, .int ((z.1 >>> (1 &&& 31)) ||| (z.1 &&& 1))), (4, .int ((S.2.1 2) (z.2).toNatClampNeg)), (0, .ref (jx_ad G 3)), (1, .int x1), (3, .int z.2)]) rfl ?_
          refine jx_iinc (v := (z.2 + 1)) hX d_Q_trueIn_109 4 rfl (by first | rfl | decide) (by decide) (L2 := [(3, .int (z.2 + 1)), (2, .int ((z.1 >>> (1 &&& 31)) ||| (z.1 &&& 1))), (4, .int ((S.2.1 2) (z.2).toNatClampNeg)), (0, .ref (jx_ad G 3)), (1, .int x1)]) rfl ?_
          refine jx_goto hX d_Q_trueIn_112 rfl ?_
          refine jx_sub (L2 := [(0, .ref (jx_ad G 3)), (1, .int x1), (2, .int ((z.1 >>> (1 &&& 31)) ||| (z.1 &&& 1))), (3, .int (z.2 + 1))]) [3, 4, 1, 0] rfl ?_
          obtain rfl := Option.some.inj h
          exact hi _ rfl
        · have h := jx_ip hc h
          refine jx_iload_n hX d_Q_trueIn_89 3 rfl rfl ?_
          refine jx_iconst (v := 1) hX d_Q_trueIn_90 (by decide) ?_
          refine jx_ishr hX d_Q_trueIn_91 ?_
          refine jx_iload_n hX d_Q_trueIn_92 3 rfl rfl ?_
          refine jx_bipush (v := (-2)) hX d_Q_trueIn_93 (by decide) ?_
          refine jx_ior hX d_Q_trueIn_95 ?_
          refine jx_iand hX d_Q_trueIn_96 ?_
          refine jx_istore_n hX d_Q_trueIn_97 rfl (by decide) (L2 := [(2, .int ((z.1 >>> (1 &&& 31)) &&& (z.1 ||| (-2)))), (4, .int ((S.2.1 2) (z.2).toNatClampNeg)), (0, .ref (jx_ad G 3)), (1, .int x1), (3, .int z.2)]) rfl ?_
          refine jx_goto hX d_Q_trueIn_98 rfl ?_
          refine jx_iinc (v := (z.2 + 1)) hX d_Q_trueIn_109 4 rfl (by first | rfl | decide) (by decide) (L2 := [(3, .int (z.2 + 1)), (2, .int ((z.1 >>> (1 &&& 31)) &&& (z.1 ||| (-2)))), (4, .int ((S.2.1 2) (z.2).toNatClampNeg)), (0, .ref (jx_ad G 3)), (1, .int x1)]) rfl ?_
          refine jx_goto hX d_Q_trueIn_112 rfl ?_
          refine jx_sub (L2 := [(0, .ref (jx_ad G 3)), (1, .int x1), (2, .int ((z.1 >>> (1 &&& 31)) &&& (z.1 ||| (-2)))), (3, .int (z.2 + 1))]) [3, 4, 1, 0] rfl ?_
          obtain rfl := Option.some.inj h
          exact hi _ rfl
      · have h := jx_ip hc h
        refine jx_iload_n hX d_Q_trueIn_76 3 rfl rfl ?_
        refine jx_iconst (v := 1) hX d_Q_trueIn_77 (by decide) ?_
        refine jx_ixor hX d_Q_trueIn_78 ?_
        refine jx_istore_n hX d_Q_trueIn_79 rfl (by decide) (L2 := [(2, .int (z.1 ^^^ 1)), (4, .int ((S.2.1 2) (z.2).toNatClampNeg)), (0, .ref (jx_ad G 3)), (1, .int x1), (3, .int z.2)]) rfl ?_
        refine jx_goto hX d_Q_trueIn_80 rfl ?_
        refine jx_iinc (v := (z.2 + 1)) hX d_Q_trueIn_109 4 rfl (by first | rfl | decide) (by decide) (L2 := [(3, .int (z.2 + 1)), (2, .int (z.1 ^^^ 1)), (4, .int ((S.2.1 2) (z.2).toNatClampNeg)), (0, .ref (jx_ad G 3)), (1, .int x1)]) rfl ?_
        refine jx_goto hX d_Q_trueIn_112 rfl ?_
        refine jx_sub (L2 := [(0, .ref (jx_ad G 3)), (1, .int x1), (2, .int (z.1 ^^^ 1)), (3, .int (z.2 + 1))]) [3, 4, 1, 0] rfl ?_
        obtain rfl := Option.some.inj h
        exact hi _ rfl
    · have h := jx_in_ hc h
      refine jx_iload hX d_Q_trueIn_32 0 rfl ?_
      refine jx_iconst (v := 4) hX d_Q_trueIn_34 (by decide) ?_
      refine jx_isub hX d_Q_trueIn_35 ?_
      refine jx_istore hX d_Q_trueIn_36 (by decide) (L2 := [(5, .int (((S.2.1 2) (z.2).toNatClampNeg) - 4)), (4, .int ((S.2.1 2) (z.2).toNatClampNeg)), (0, .ref (jx_ad G 3)), (1, .int x1), (2, .int z.1), (3, .int z.2)]) rfl ?_
      refine jx_iload_n hX d_Q_trueIn_38 4 rfl rfl ?_
      refine jx_iconst (v := 1) hX d_Q_trueIn_39 (by decide) ?_
      refine jx_ishl hX d_Q_trueIn_40 ?_
      refine jx_aload_n hX d_Q_trueIn_41 2 rfl rfl ?_
      refine gf_Q_35 hX d_Q_trueIn_42 ?_
      refine jx_iload hX d_Q_trueIn_45 0 rfl ?_
      refine jx_aload_n hX d_Q_trueIn_47 2 rfl rfl ?_
      refine jx_iload_n hX d_Q_trueIn_48 3 rfl rfl ?_
      refine jx_iload hX d_Q_trueIn_49 0 rfl ?_
      obtain ⟨q51_2, hq51_2, h⟩ := jx_bd h
      refine cs_Q_95 hX (c_Q_signIn (jx_l X) G S x1 (((S.2.1 2) (z.2).toNatClampNeg) - 4) q51_2 hq51_2) d_Q_trueIn_51 (by decide) (Nat.le_of_ble_eq_true rfl) ?_
      obtain ⟨q54_3, hq54_3, h⟩ := jx_bd h
      refine cs_Q_98 hX (c_S_atomIsTrue (jx_l X) G S (((S.2.1 2) (z.2).toNatClampNeg) - 4) q51_2 q54_3 hq54_3) d_Q_trueIn_54 (by decide) (Nat.le_of_ble_eq_true rfl) ?_
      have hj : jx_At G X (some (.int fin), jx_w G S) (jx_w G S) 65 [(5, .int (((S.2.1 2) (z.2).toNatClampNeg) - 4)), (4, .int ((S.2.1 2) (z.2).toNatClampNeg)), (0, .ref (jx_ad G 3)), (1, .int x1), (2, .int z.1), (3, .int z.2)] [.int (if q54_3 = 0 then 0 else 1 : Int32), .int (z.1 <<< (1 &&& 31))] := by
        refine jx_ior hX d_Q_trueIn_65 ?_
        refine jx_istore_n hX d_Q_trueIn_66 rfl (by decide) (L2 := [(2, .int ((z.1 <<< (1 &&& 31)) ||| (if q54_3 = 0 then 0 else 1 : Int32))), (5, .int (((S.2.1 2) (z.2).toNatClampNeg) - 4)), (4, .int ((S.2.1 2) (z.2).toNatClampNeg)), (0, .ref (jx_ad G 3)), (1, .int x1), (3, .int z.2)]) rfl ?_
        refine jx_goto hX d_Q_trueIn_67 rfl ?_
        refine jx_iinc (v := (z.2 + 1)) hX d_Q_trueIn_109 5 rfl (by first | rfl | decide) (by decide) (L2 := [(3, .int (z.2 + 1)), (2, .int ((z.1 <<< (1 &&& 31)) ||| (if q54_3 = 0 then 0 else 1 : Int32))), (5, .int (((S.2.1 2) (z.2).toNatClampNeg) - 4)), (4, .int ((S.2.1 2) (z.2).toNatClampNeg)), (0, .ref (jx_ad G 3)), (1, .int x1)]) rfl ?_
        refine jx_goto hX d_Q_trueIn_112 rfl ?_
        refine jx_sub (L2 := [(0, .ref (jx_ad G 3)), (1, .int x1), (2, .int ((z.1 <<< (1 &&& 31)) ||| (if q54_3 = 0 then 0 else 1 : Int32))), (3, .int (z.2 + 1))]) [4, 5, 1, 0] rfl ?_
        obtain rfl := Option.some.inj h
        exact hi _ rfl
      refine jx_if_eq hX d_Q_trueIn_57 rfl (fun hc4 => ?_) (fun hc4 => ?_)
      · refine jx_iconst (v := 0) hX d_Q_trueIn_64 (by decide) ?_
        have hj2 := hj
        rw [if_pos hc4] at hj2
        exact hj2
      · refine jx_iconst (v := 1) hX d_Q_trueIn_60 (by decide) ?_
        refine jx_goto hX d_Q_trueIn_61 rfl ?_
        have hj2 := hj
        rw [if_neg hc4] at hj2
        exact hj2

set_option maxHeartbeats 4000000 in
set_option maxRecDepth 100000 in
theorem c_Q_trueIn (l : Launch) (G : jx_G) (S : jx_S) (a1 : Int32) (fin : Int32) (h : f_Q_trueIn S a1 = some fin) : jx_M l y_Q_trueIn b_Q_trueIn 6 (some .boolean) 2 G [.ref (jx_ad G 3), .int a1] (jx_w G S) (some (.int fin), jx_w G S) := by
  refine jx_met (own := "PlaneCells$Plane") (by decide) rfl (Nat.le_of_ble_eq_true rfl) (fun X hX hl => ?_)
  subst hl
  refine jx_L (L2 := [(0, .ref (jx_ad G 3)), (1, .int a1)]) rfl ?_
  unfold f_Q_trueIn at h
  refine jx_iconst (v := 0) hX d_Q_trueIn_0 (by decide) ?_
  refine jx_istore_n hX d_Q_trueIn_1 rfl (by decide) (L2 := [(2, .int 0), (0, .ref (jx_ad G 3)), (1, .int a1)]) rfl ?_
  refine jx_iconst (v := 0) hX d_Q_trueIn_2 (by decide) ?_
  refine jx_istore_n hX d_Q_trueIn_3 rfl (by decide) (L2 := [(3, .int 0), (2, .int 0), (0, .ref (jx_ad G 3)), (1, .int a1)]) rfl ?_
  refine jx_sub (L2 := [(0, .ref (jx_ad G 3)), (1, .int a1), (2, .int 0), (3, .int 0)]) [2, 3, 1, 0] rfl ?_
  obtain ⟨z4_5, hz, h⟩ := jx_bd h
  refine lt_Q_trueIn_4 hX fin S a1 hz ?_
  refine jx_iload_n hX d_Q_trueIn_115 2 rfl rfl ?_
  refine jx_iconst (v := 1) hX d_Q_trueIn_116 (by decide) ?_
  refine jx_iand hX d_Q_trueIn_117 ?_
  refine jx_iconst (v := 1) hX d_Q_trueIn_118 (by decide) ?_
  have hj : jx_At G X (some (.int fin), jx_w G S) (jx_w G S) 127 [(0, .ref (jx_ad G 3)), (1, .int a1), (2, .int z4_5)] [.int (if (z4_5 &&& 1) = 1 then 1 else 0 : Int32)] := by
    obtain rfl := Option.some.inj h
    exact jx_zret hX d_Q_trueIn_127 (jx_01n (jx_zi jx_z1 jx_z0))
  refine jx_icmp_ne hX d_Q_trueIn_119 rfl (fun hc6 => ?_) (fun hc6 => ?_)
  · refine jx_iconst (v := 0) hX d_Q_trueIn_126 (by decide) ?_
    have hj2 := hj
    rw [if_neg hc6] at hj2
    exact hj2
  · refine jx_iconst (v := 1) hX d_Q_trueIn_122 (by decide) ?_
    refine jx_goto hX d_Q_trueIn_123 rfl ?_
    have hj2 := hj
    rw [if_pos hc6] at hj2
    exact hj2

def b_Q_columnHolds_2 (S : jx_S)  (z : Int32) : Option ((Int32) ⊕ ((Unit) ⊕ Int32)) :=
  if (S.1 12) ≤ z then
    some (.inr (.inl ()))
  else
    (f_Q_trueIn S z).bind fun q12_1 =>
      if q12_1 = (S.1 6) then
        some (.inl (z + 1))
      else
        some (.inr (.inr (if (S.1 6) = 0 then 1 else 0 : Int32)))

def f_Q_columnHolds (S : jx_S)  : Option (Int32) :=
  (jx_lp (b_Q_columnHolds_2 S) jx_N 0).bind (Sum.elim (fun z2_3 =>
    if jx_nb (S.1 6) = true then some (S.1 6) else none)
    (fun y => some y))
set_option maxHeartbeats 4000000 in
set_option maxRecDepth 100000 in
theorem lt_Q_columnHolds_2 {G : jx_G} {X : jx_C} (hX : jx_Ok G X b_Q_columnHolds "PlaneCells$Plane" (some .boolean) 2 3) (fin : Int32) (S : jx_S)  {n : Nat} {z : Int32} {r : (Unit) ⊕ Int32} (hz : jx_lp (b_Q_columnHolds_2 S) n z = some r) (hk : ∀ u, r = .inl u → jx_At G X (some (.int fin), jx_w G S) (jx_w G S) 47 [(0, .ref (jx_ad G 3))] []) (hy : ∀ y, r = .inr y → y = fin) : jx_At G X (some (.int fin), jx_w G S) (jx_w G S) 2 [(0, .ref (jx_ad G 3)), (1, .int z)] [] := by
  refine jx_loop2 (b_Q_columnHolds_2 S) (fun z => jx_At G X (some (.int fin), jx_w G S) (jx_w G S) 2 [(0, .ref (jx_ad G 3)), (1, .int z)] []) (fun z => jx_At G X (some (.int fin), jx_w G S) (jx_w G S) 47 [(0, .ref (jx_ad G 3))] []) fin ?_ n z r hz hk hy
  intro z o h hi hx hr
  unfold b_Q_columnHolds_2 at h
  refine jx_iload_n hX d_Q_columnHolds_2 1 rfl rfl ?_
  refine jx_aload_n hX d_Q_columnHolds_3 0 rfl rfl ?_
  refine gf_Q_66 hX d_Q_columnHolds_4 rfl ?_
  refine jx_icmp_ge hX d_Q_columnHolds_7 rfl (fun hc => ?_) (fun hc => ?_)
  · have h := jx_ip hc h
    refine jx_sub (L2 := [(0, .ref (jx_ad G 3))]) [0] rfl ?_
    obtain rfl := Option.some.inj h
    exact hx _ rfl
  · have h := jx_in_ hc h
    refine jx_aload_n hX d_Q_columnHolds_10 0 rfl rfl ?_
    refine jx_iload_n hX d_Q_columnHolds_11 1 rfl rfl ?_
    obtain ⟨q12_1, hq12_1, h⟩ := jx_bd h
    refine cs_Q_102 hX (c_Q_trueIn (jx_l X) G S z q12_1 hq12_1) d_Q_columnHolds_12 (by decide) (Nat.le_of_ble_eq_true rfl) ?_
    refine jx_aload_n hX d_Q_columnHolds_15 0 rfl rfl ?_
    refine gf_Q_35 hX d_Q_columnHolds_16 ?_
    refine gf_Q_106 hX d_Q_columnHolds_19 rfl ?_
    refine jx_icmp_eq hX d_Q_columnHolds_22 rfl (fun hc => ?_) (fun hc => ?_)
    · have h := jx_ip hc h
      refine jx_iinc (v := (z + 1)) hX d_Q_columnHolds_41 1 rfl (by first | rfl | decide) (by decide) (L2 := [(1, .int (z + 1)), (0, .ref (jx_ad G 3))]) rfl ?_
      refine jx_goto hX d_Q_columnHolds_44 rfl ?_
      refine jx_sub (L2 := [(0, .ref (jx_ad G 3)), (1, .int (z + 1))]) [1, 0] rfl ?_
      obtain rfl := Option.some.inj h
      exact hi _ rfl
    · have h := jx_in_ hc h
      refine jx_aload_n hX d_Q_columnHolds_25 0 rfl rfl ?_
      refine gf_Q_35 hX d_Q_columnHolds_26 ?_
      refine gf_Q_106 hX d_Q_columnHolds_29 rfl ?_
      have hj : jx_At G X (some (.int fin), jx_w G S) (jx_w G S) 40 [(0, .ref (jx_ad G 3)), (1, .int z)] [.int (if (S.1 6) = 0 then 1 else 0 : Int32)] := by
        obtain rfl := Option.some.inj h
        obtain rfl := hr _ rfl
        exact jx_zret hX d_Q_columnHolds_40 (jx_01n (jx_zi jx_z1 jx_z0))
      refine jx_if_ne hX d_Q_columnHolds_32 rfl (fun hc2 => ?_) (fun hc2 => ?_)
      · refine jx_iconst (v := 0) hX d_Q_columnHolds_39 (by decide) ?_
        have hj2 := hj
        rw [if_neg hc2] at hj2
        exact hj2
      · refine jx_iconst (v := 1) hX d_Q_columnHolds_35 (by decide) ?_
        refine jx_goto hX d_Q_columnHolds_36 rfl ?_
        have hj2 := hj
        rw [if_pos hc2] at hj2
        exact hj2

set_option maxHeartbeats 4000000 in
set_option maxRecDepth 100000 in
theorem c_Q_columnHolds (l : Launch) (G : jx_G) (S : jx_S)  (fin : Int32) (h : f_Q_columnHolds S = some fin) : jx_M l y_Q_columnHolds b_Q_columnHolds 2 (some .boolean) 3 G [.ref (jx_ad G 3)] (jx_w G S) (some (.int fin), jx_w G S) := by
  refine jx_met (own := "PlaneCells$Plane") (by decide) rfl (Nat.le_of_ble_eq_true rfl) (fun X hX hl => ?_)
  subst hl
  refine jx_L (L2 := [(0, .ref (jx_ad G 3))]) rfl ?_
  unfold f_Q_columnHolds at h
  refine jx_iconst (v := 0) hX d_Q_columnHolds_0 (by decide) ?_
  refine jx_istore_n hX d_Q_columnHolds_1 rfl (by decide) (L2 := [(1, .int 0), (0, .ref (jx_ad G 3))]) rfl ?_
  refine jx_sub (L2 := [(0, .ref (jx_ad G 3)), (1, .int 0)]) [1, 0] rfl ?_
  obtain ⟨r, hz, h⟩ := jx_bd h
  refine lt_Q_columnHolds_2 hX fin S hz (fun z2_3 e => ?_) (fun y e => ?_)
  · subst e
    have h := jx_el h
    refine jx_aload_n hX d_Q_columnHolds_47 0 rfl rfl ?_
    refine gf_Q_35 hX d_Q_columnHolds_48 ?_
    refine gf_Q_106 hX d_Q_columnHolds_51 rfl ?_
    obtain ⟨hg, h⟩ := jx_gd h
    obtain rfl := Option.some.inj h
    exact jx_zret hX d_Q_columnHolds_54 (jx_nb_ok hg)
  · subst e
    have h := jx_er h
    exact Option.some.inj h

def f_R_clear (S : jx_S)  : Option (jx_S) :=
  some (jx_f (jx_f S 7 0) 8 0)
set_option maxHeartbeats 4000000 in
set_option maxRecDepth 100000 in
theorem c_R_clear (l : Launch) (G : jx_G) (S : jx_S)  (fin : jx_S) (h : f_R_clear S = some fin) : jx_M l y_R_clear b_R_clear 1 none 0 G [.ref (jx_ad G 2)] (jx_w G S) (none, jx_w G fin) := by
  refine jx_met (own := "PlaneCells$Reader") (by decide) rfl (Nat.le_of_ble_eq_true rfl) (fun X hX hl => ?_)
  subst hl
  refine jx_L (L2 := [(0, .ref (jx_ad G 2))]) rfl ?_
  unfold f_R_clear at h
  refine jx_aload_n hX d_R_clear_0 0 rfl rfl ?_
  refine jx_iconst (v := 0) hX d_R_clear_1 (by decide) ?_
  refine pf_R_26 hX d_R_clear_2 ?_
  refine jx_aload_n hX d_R_clear_5 0 rfl rfl ?_
  refine jx_iconst (v := 0) hX d_R_clear_6 (by decide) ?_
  refine pf_R_30 hX d_R_clear_7 ?_
  obtain rfl := Option.some.inj h
  exact jx_vret hX d_R_clear_10

def f_R_append (S : jx_S) (a1 : Int32) : Option (Int32 × jx_S) :=
  if a1 < 32 then
    some (0, S)
  else
    if 126 < a1 then
      some (0, S)
    else
      if (S.1 7) < 80 then
        if a1 = 32 then
          some (1, (jx_f S 7 ((S.1 7) + 1)))
        else
          if jx_in (S.1 8) 80 = true then
            some (1, (jx_f (jx_g (jx_f S 7 ((S.1 7) + 1)) 3 (upd (S.2.1 3) ((S.1 8)).toNatClampNeg (vp_nar .char a1))) 8 ((S.1 8) + 1)))
          else none
      else
        some (0, S)
set_option maxHeartbeats 4000000 in
set_option maxRecDepth 100000 in
theorem c_R_append (l : Launch) (G : jx_G) (S : jx_S) (a1 : Int32) (fin : Int32 × jx_S) (h : f_R_append S a1 = some fin) : jx_M l y_R_append b_R_append 2 (some .boolean) 0 G [.ref (jx_ad G 2), .int a1] (jx_w G S) (some (.int fin.1), jx_w G fin.2) := by
  refine jx_met (own := "PlaneCells$Reader") (by decide) rfl (Nat.le_of_ble_eq_true rfl) (fun X hX hl => ?_)
  subst hl
  refine jx_L (L2 := [(0, .ref (jx_ad G 2)), (1, .int a1)]) rfl ?_
  unfold f_R_append at h
  refine jx_iload_n hX d_R_append_0 1 rfl rfl ?_
  refine jx_bipush (v := 32) hX d_R_append_1 (by decide) ?_
  refine jx_icmp_lt hX d_R_append_3 rfl (fun hc => ?_) (fun hc => ?_)
  · have h := jx_ip hc h
    refine jx_iconst (v := 0) hX d_R_append_21 (by decide) ?_
    obtain rfl := Option.some.inj h
    exact jx_zret hX d_R_append_22 (jx_01n jx_z0)
  · have h := jx_in_ hc h
    refine jx_iload_n hX d_R_append_6 1 rfl rfl ?_
    refine jx_bipush (v := 126) hX d_R_append_7 (by decide) ?_
    refine jx_icmp_gt hX d_R_append_9 rfl (fun hc => ?_) (fun hc => ?_)
    · have h := jx_ip hc h
      refine jx_iconst (v := 0) hX d_R_append_21 (by decide) ?_
      obtain rfl := Option.some.inj h
      exact jx_zret hX d_R_append_22 (jx_01n jx_z0)
    · have h := jx_in_ hc h
      refine jx_aload_n hX d_R_append_12 0 rfl rfl ?_
      refine gf_R_26 hX d_R_append_13 rfl ?_
      refine jx_bipush (v := 80) hX d_R_append_16 (by decide) ?_
      refine jx_icmp_lt hX d_R_append_18 rfl (fun hc => ?_) (fun hc => ?_)
      · have h := jx_ip hc h
        refine jx_aload_n hX d_R_append_23 0 rfl rfl ?_
        refine jx_dup hX d_R_append_24 rfl ?_
        refine gf_R_26 hX d_R_append_25 rfl ?_
        refine jx_iconst (v := 1) hX d_R_append_28 (by decide) ?_
        refine jx_iadd hX d_R_append_29 ?_
        refine pf_R_26 hX d_R_append_30 ?_
        refine jx_iload_n hX d_R_append_33 1 rfl rfl ?_
        refine jx_bipush (v := 32) hX d_R_append_34 (by decide) ?_
        refine jx_icmp_eq hX d_R_append_36 rfl (fun hc => ?_) (fun hc => ?_)
        · have h := jx_ip hc h
          refine jx_iconst (v := 1) hX d_R_append_59 (by decide) ?_
          obtain rfl := Option.some.inj h
          exact jx_zret hX d_R_append_60 (jx_01n jx_z1)
        · have h := jx_in_ hc h
          refine jx_aload_n hX d_R_append_39 0 rfl rfl ?_
          refine gf_R_9 hX d_R_append_40 ?_
          refine jx_aload_n hX d_R_append_43 0 rfl rfl ?_
          refine gf_R_30 hX d_R_append_44 (x := (S.1 8)) rfl ?_
          refine jx_iload_n hX d_R_append_47 1 rfl rfl ?_
          obtain ⟨hg1, h⟩ := jx_gd h
          refine as_3 hX d_R_append_48 (f := (S.2.1 3)) rfl hg1 ?_
          refine jx_aload_n hX d_R_append_49 0 rfl rfl ?_
          refine jx_dup hX d_R_append_50 rfl ?_
          refine gf_R_30 hX d_R_append_51 (x := (S.1 8)) rfl ?_
          refine jx_iconst (v := 1) hX d_R_append_54 (by decide) ?_
          refine jx_iadd hX d_R_append_55 ?_
          refine pf_R_30 hX d_R_append_56 ?_
          refine jx_iconst (v := 1) hX d_R_append_59 (by decide) ?_
          obtain rfl := Option.some.inj h
          exact jx_zret hX d_R_append_60 (jx_01n jx_z1)
      · have h := jx_in_ hc h
        refine jx_iconst (v := 0) hX d_R_append_21 (by decide) ?_
        obtain rfl := Option.some.inj h
        exact jx_zret hX d_R_append_22 (jx_01n jx_z0)

def b_R_countOpenings_4 (S : jx_S)  (z : Int32 × Int32) : Option ((Int32 × Int32) ⊕ (Int32)) :=
  if (S.1 8) ≤ z.2 then
    some (.inr z.1)
  else
    if jx_in z.2 80 = true then
      if ((S.2.1 3) (z.2).toNatClampNeg) = 40 then
        some (.inl ((z.1 + 1), (z.2 + 1)))
      else
        some (.inl (z.1, (z.2 + 1)))
    else none

def f_R_countOpenings (S : jx_S)  : Option (Int32) :=
  (jx_lp (b_R_countOpenings_4 S) jx_N (0, 0)).bind fun z4_2 =>
    some z4_2
set_option maxHeartbeats 4000000 in
set_option maxRecDepth 100000 in
theorem lt_R_countOpenings_4 {G : jx_G} {X : jx_C} (hX : jx_Ok G X b_R_countOpenings "PlaneCells$Reader" (some .int) 3 0) (fin : Int32) (S : jx_S)  {n : Nat} {z : Int32 × Int32} {r : Int32} (hz : jx_lp (b_R_countOpenings_4 S) n z = some r) (hk : jx_At G X (some (.int fin), jx_w G S) (jx_w G S) 32 [(0, .ref (jx_ad G 2)), (1, .int r)] []) : jx_At G X (some (.int fin), jx_w G S) (jx_w G S) 4 [(0, .ref (jx_ad G 2)), (1, .int z.1), (2, .int z.2)] [] := by
  refine jx_loop1 (b_R_countOpenings_4 S) (fun z => jx_At G X (some (.int fin), jx_w G S) (jx_w G S) 4 [(0, .ref (jx_ad G 2)), (1, .int z.1), (2, .int z.2)] []) (fun z => jx_At G X (some (.int fin), jx_w G S) (jx_w G S) 32 [(0, .ref (jx_ad G 2)), (1, .int z)] []) ?_ n z r hz hk
  intro z o h hi hx
  unfold b_R_countOpenings_4 at h
  refine jx_iload_n hX d_R_countOpenings_4 2 rfl rfl ?_
  refine jx_aload_n hX d_R_countOpenings_5 0 rfl rfl ?_
  refine gf_R_30 hX d_R_countOpenings_6 rfl ?_
  refine jx_icmp_ge hX d_R_countOpenings_9 rfl (fun hc => ?_) (fun hc => ?_)
  · have h := jx_ip hc h
    refine jx_sub (L2 := [(0, .ref (jx_ad G 2)), (1, .int z.1)]) [0, 1] rfl ?_
    obtain rfl := Option.some.inj h
    exact hx _ rfl
  · have h := jx_in_ hc h
    refine jx_aload_n hX d_R_countOpenings_12 0 rfl rfl ?_
    refine gf_R_9 hX d_R_countOpenings_13 ?_
    refine jx_iload_n hX d_R_countOpenings_16 2 rfl rfl ?_
    obtain ⟨hg1, h⟩ := jx_gd h
    refine al_3 hX d_R_countOpenings_17 rfl hg1 ?_
    refine jx_bipush (v := 40) hX d_R_countOpenings_18 (by decide) ?_
    refine jx_icmp_ne hX d_R_countOpenings_20 rfl (fun hc => ?_) (fun hc => ?_)
    · have h := jx_in_ hc h
      refine jx_iinc (v := (z.2 + 1)) hX d_R_countOpenings_26 2 rfl (by first | rfl | decide) (by decide) (L2 := [(2, .int (z.2 + 1)), (0, .ref (jx_ad G 2)), (1, .int z.1)]) rfl ?_
      refine jx_goto hX d_R_countOpenings_29 rfl ?_
      refine jx_sub (L2 := [(0, .ref (jx_ad G 2)), (1, .int z.1), (2, .int (z.2 + 1))]) [1, 2, 0] rfl ?_
      obtain rfl := Option.some.inj h
      exact hi _ rfl
    · have h := jx_ip hc h
      refine jx_iinc (v := (z.1 + 1)) hX d_R_countOpenings_23 1 rfl (by first | rfl | decide) (by decide) (L2 := [(1, .int (z.1 + 1)), (0, .ref (jx_ad G 2)), (2, .int z.2)]) rfl ?_
      refine jx_iinc (v := (z.2 + 1)) hX d_R_countOpenings_26 2 rfl (by first | rfl | decide) (by decide) (L2 := [(2, .int (z.2 + 1)), (1, .int (z.1 + 1)), (0, .ref (jx_ad G 2))]) rfl ?_
      refine jx_goto hX d_R_countOpenings_29 rfl ?_
      refine jx_sub (L2 := [(0, .ref (jx_ad G 2)), (1, .int (z.1 + 1)), (2, .int (z.2 + 1))]) [2, 1, 0] rfl ?_
      obtain rfl := Option.some.inj h
      exact hi _ rfl

set_option maxHeartbeats 4000000 in
set_option maxRecDepth 100000 in
theorem c_R_countOpenings (l : Launch) (G : jx_G) (S : jx_S)  (fin : Int32) (h : f_R_countOpenings S = some fin) : jx_M l y_R_countOpenings b_R_countOpenings 3 (some .int) 0 G [.ref (jx_ad G 2)] (jx_w G S) (some (.int fin), jx_w G S) := by
  refine jx_met (own := "PlaneCells$Reader") (by decide) rfl (Nat.le_of_ble_eq_true rfl) (fun X hX hl => ?_)
  subst hl
  refine jx_L (L2 := [(0, .ref (jx_ad G 2))]) rfl ?_
  unfold f_R_countOpenings at h
  refine jx_iconst (v := 0) hX d_R_countOpenings_0 (by decide) ?_
  refine jx_istore_n hX d_R_countOpenings_1 rfl (by decide) (L2 := [(1, .int 0), (0, .ref (jx_ad G 2))]) rfl ?_
  refine jx_iconst (v := 0) hX d_R_countOpenings_2 (by decide) ?_
  refine jx_istore_n hX d_R_countOpenings_3 rfl (by decide) (L2 := [(2, .int 0), (1, .int 0), (0, .ref (jx_ad G 2))]) rfl ?_
  refine jx_sub (L2 := [(0, .ref (jx_ad G 2)), (1, .int 0), (2, .int 0)]) [2, 1, 0] rfl ?_
  obtain ⟨z4_2, hz, h⟩ := jx_bd h
  refine lt_R_countOpenings_4 hX fin S hz ?_
  refine jx_iload_n hX d_R_countOpenings_32 1 rfl rfl ?_
  obtain rfl := Option.some.inj h
  exact jx_iret hX d_R_countOpenings_33

def f_S_clear (S : jx_S)  : Option (jx_S) :=
  some (jx_f (jx_f S 3 0) 4 0)
set_option maxHeartbeats 4000000 in
set_option maxRecDepth 100000 in
theorem c_S_clear (l : Launch) (G : jx_G) (S : jx_S)  (fin : jx_S) (h : f_S_clear S = some fin) : jx_M l y_S_clear b_S_clear 1 none 0 G [.ref (jx_ad G 1)] (jx_w G S) (none, jx_w G fin) := by
  refine jx_met (own := "PlaneCells$Sentence") (by decide) rfl (Nat.le_of_ble_eq_true rfl) (fun X hX hl => ?_)
  subst hl
  refine jx_L (L2 := [(0, .ref (jx_ad G 1))]) rfl ?_
  unfold f_S_clear at h
  refine jx_aload_n hX d_S_clear_0 0 rfl rfl ?_
  refine jx_iconst (v := 0) hX d_S_clear_1 (by decide) ?_
  refine pf_S_22 hX d_S_clear_2 ?_
  refine jx_aload_n hX d_S_clear_5 0 rfl rfl ?_
  refine jx_iconst (v := 0) hX d_S_clear_6 (by decide) ?_
  refine pf_S_26 hX d_S_clear_7 ?_
  obtain rfl := Option.some.inj h
  exact jx_vret hX d_S_clear_10

def f_R_peek (S : jx_S)  : Option (Int32) :=
  if (S.1 8) ≤ (S.1 9) then
    some 0
  else
    if jx_in (S.1 9) 80 = true then
      if jx_nc ((S.2.1 3) ((S.1 9)).toNatClampNeg) = true then some ((S.2.1 3) ((S.1 9)).toNatClampNeg) else none
    else none
set_option maxHeartbeats 4000000 in
set_option maxRecDepth 100000 in
theorem c_R_peek (l : Launch) (G : jx_G) (S : jx_S)  (fin : Int32) (h : f_R_peek S = some fin) : jx_M l y_R_peek b_R_peek 1 (some .char) 0 G [.ref (jx_ad G 2)] (jx_w G S) (some (.int fin), jx_w G S) := by
  refine jx_met (own := "PlaneCells$Reader") (by decide) rfl (Nat.le_of_ble_eq_true rfl) (fun X hX hl => ?_)
  subst hl
  refine jx_L (L2 := [(0, .ref (jx_ad G 2))]) rfl ?_
  unfold f_R_peek at h
  refine jx_aload_n hX d_R_peek_0 0 rfl rfl ?_
  refine gf_R_33 hX d_R_peek_1 rfl ?_
  refine jx_aload_n hX d_R_peek_4 0 rfl rfl ?_
  refine gf_R_30 hX d_R_peek_5 rfl ?_
  refine jx_icmp_ge hX d_R_peek_8 rfl (fun hc => ?_) (fun hc => ?_)
  · have h := jx_ip hc h
    refine jx_iconst (v := 0) hX d_R_peek_23 (by decide) ?_
    obtain rfl := Option.some.inj h
    exact jx_zret hX d_R_peek_24 (jx_01c jx_z0)
  · have h := jx_in_ hc h
    refine jx_aload_n hX d_R_peek_11 0 rfl rfl ?_
    refine gf_R_9 hX d_R_peek_12 ?_
    refine jx_aload_n hX d_R_peek_15 0 rfl rfl ?_
    refine gf_R_33 hX d_R_peek_16 rfl ?_
    obtain ⟨hg1, h⟩ := jx_gd h
    refine al_3 hX d_R_peek_19 rfl hg1 ?_
    refine jx_goto hX d_R_peek_20 rfl ?_
    obtain ⟨hg, h⟩ := jx_gd h
    obtain rfl := Option.some.inj h
    exact jx_zret hX d_R_peek_24 (jx_nc_ok hg)

def f_R_take (S : jx_S) (a1 : Int32) : Option (Int32 × jx_S) :=
  (f_R_peek S).bind fun q1_1 =>
    if q1_1 = a1 then
      some (1, (jx_f S 9 ((S.1 9) + 1)))
    else
      some (0, S)
set_option maxHeartbeats 4000000 in
set_option maxRecDepth 100000 in
theorem c_R_take (l : Launch) (G : jx_G) (S : jx_S) (a1 : Int32) (fin : Int32 × jx_S) (h : f_R_take S a1 = some fin) : jx_M l y_R_take b_R_take 2 (some .boolean) 1 G [.ref (jx_ad G 2), .int a1] (jx_w G S) (some (.int fin.1), jx_w G fin.2) := by
  refine jx_met (own := "PlaneCells$Reader") (by decide) rfl (Nat.le_of_ble_eq_true rfl) (fun X hX hl => ?_)
  subst hl
  refine jx_L (L2 := [(0, .ref (jx_ad G 2)), (1, .int a1)]) rfl ?_
  unfold f_R_take at h
  refine jx_aload_n hX d_R_take_0 0 rfl rfl ?_
  obtain ⟨q1_1, hq1_1, h⟩ := jx_bd h
  refine cs_R_67 hX (c_R_peek (jx_l X) G S q1_1 hq1_1) d_R_take_1 (by decide) (Nat.le_of_ble_eq_true rfl) ?_
  refine jx_iload_n hX d_R_take_4 1 rfl rfl ?_
  refine jx_icmp_eq hX d_R_take_5 rfl (fun hc => ?_) (fun hc => ?_)
  · have h := jx_ip hc h
    refine jx_aload_n hX d_R_take_10 0 rfl rfl ?_
    refine jx_dup hX d_R_take_11 rfl ?_
    refine gf_R_33 hX d_R_take_12 rfl ?_
    refine jx_iconst (v := 1) hX d_R_take_15 (by decide) ?_
    refine jx_iadd hX d_R_take_16 ?_
    refine pf_R_33 hX d_R_take_17 ?_
    refine jx_iconst (v := 1) hX d_R_take_20 (by decide) ?_
    obtain rfl := Option.some.inj h
    exact jx_zret hX d_R_take_21 (jx_01n jx_z1)
  · have h := jx_in_ hc h
    refine jx_iconst (v := 0) hX d_R_take_8 (by decide) ?_
    obtain rfl := Option.some.inj h
    exact jx_zret hX d_R_take_9 (jx_01n jx_z0)

def f_R_takeQuantifier (S : jx_S)  : Option (Int32 × jx_S) :=
  (f_R_take S 65).bind fun q3_1 =>
    if q3_1.1 = 0 then
      (f_R_take q3_1.2 69).bind fun q12_2 =>
        some ((if q12_2.1 = 0 then 0 else 1 : Int32), q12_2.2)
    else
      some (1, q3_1.2)
set_option maxHeartbeats 4000000 in
set_option maxRecDepth 100000 in
theorem c_R_takeQuantifier (l : Launch) (G : jx_G) (S : jx_S)  (fin : Int32 × jx_S) (h : f_R_takeQuantifier S = some fin) : jx_M l y_R_takeQuantifier b_R_takeQuantifier 1 (some .boolean) 2 G [.ref (jx_ad G 2)] (jx_w G S) (some (.int fin.1), jx_w G fin.2) := by
  refine jx_met (own := "PlaneCells$Reader") (by decide) rfl (Nat.le_of_ble_eq_true rfl) (fun X hX hl => ?_)
  subst hl
  refine jx_L (L2 := [(0, .ref (jx_ad G 2))]) rfl ?_
  unfold f_R_takeQuantifier at h
  refine jx_aload_n hX d_R_takeQuantifier_0 0 rfl rfl ?_
  refine jx_bipush (v := 65) hX d_R_takeQuantifier_1 (by decide) ?_
  obtain ⟨q3_1, hq3_1, h⟩ := jx_bd h
  refine cs_R_78 hX (c_R_take (jx_l X) G S 65 q3_1 hq3_1) d_R_takeQuantifier_3 (by decide) (Nat.le_of_ble_eq_true rfl) ?_
  refine jx_if_ne hX d_R_takeQuantifier_6 rfl (fun hc => ?_) (fun hc => ?_)
  · have h := jx_in_ hc h
    refine jx_iconst (v := 1) hX d_R_takeQuantifier_18 (by decide) ?_
    refine jx_goto hX d_R_takeQuantifier_19 rfl ?_
    obtain rfl := Option.some.inj h
    exact jx_zret hX d_R_takeQuantifier_23 (jx_01n jx_z1)
  · have h := jx_ip hc h
    refine jx_aload_n hX d_R_takeQuantifier_9 0 rfl rfl ?_
    refine jx_bipush (v := 69) hX d_R_takeQuantifier_10 (by decide) ?_
    obtain ⟨q12_2, hq12_2, h⟩ := jx_bd h
    refine cs_R_78 hX (c_R_take (jx_l X) G q3_1.2 69 q12_2 hq12_2) d_R_takeQuantifier_12 (by decide) (Nat.le_of_ble_eq_true rfl) ?_
    have hj : jx_At G X (some (.int fin.1), jx_w G fin.2) (jx_w G q12_2.2) 23 [(0, .ref (jx_ad G 2))] [.int (if q12_2.1 = 0 then 0 else 1 : Int32)] := by
      obtain rfl := Option.some.inj h
      exact jx_zret hX d_R_takeQuantifier_23 (jx_01n (jx_zi jx_z0 jx_z1))
    refine jx_if_eq hX d_R_takeQuantifier_15 rfl (fun hc3 => ?_) (fun hc3 => ?_)
    · refine jx_iconst (v := 0) hX d_R_takeQuantifier_22 (by decide) ?_
      have hj2 := hj
      rw [if_pos hc3] at hj2
      exact hj2
    · refine jx_iconst (v := 1) hX d_R_takeQuantifier_18 (by decide) ?_
      refine jx_goto hX d_R_takeQuantifier_19 rfl ?_
      have hj2 := hj
      rw [if_neg hc3] at hj2
      exact hj2

def f_R_takeHead (S : jx_S)  : Option (Int32 × jx_S) :=
  (f_R_peek S).bind fun q5_1 =>
    (f_R_takeQuantifier (jx_f S 5 (if q5_1 = 65 then 1 else 0 : Int32))).bind fun q22_2 =>
      if q22_2.1 = 0 then
        some (0, q22_2.2)
      else
        (f_R_take q22_2.2 120).bind fun q31_3 =>
          if q31_3.1 = 0 then
            some (0, q31_3.2)
          else
            (f_R_peek q31_3.2).bind fun q44_4 =>
              (f_R_takeQuantifier (jx_f q31_3.2 6 (if q44_4 = 65 then 1 else 0 : Int32))).bind fun q61_5 =>
                if q61_5.1 = 0 then
                  some (0, q61_5.2)
                else
                  (f_R_take q61_5.2 121).bind fun q70_6 =>
                    if q70_6.1 = 0 then
                      some (0, q70_6.2)
                    else
                      (f_R_take q70_6.2 58).bind fun q79_7 =>
                        some ((if q79_7.1 = 0 then 0 else 1 : Int32), q79_7.2)
set_option maxHeartbeats 4000000 in
set_option maxRecDepth 100000 in
theorem c_R_takeHead (l : Launch) (G : jx_G) (S : jx_S)  (fin : Int32 × jx_S) (h : f_R_takeHead S = some fin) : jx_M l y_R_takeHead b_R_takeHead 1 (some .boolean) 3 G [.ref (jx_ad G 2)] (jx_w G S) (some (.int fin.1), jx_w G fin.2) := by
  refine jx_met (own := "PlaneCells$Reader") (by decide) rfl (Nat.le_of_ble_eq_true rfl) (fun X hX hl => ?_)
  subst hl
  refine jx_L (L2 := [(0, .ref (jx_ad G 2))]) rfl ?_
  unfold f_R_takeHead at h
  refine jx_aload_n hX d_R_takeHead_0 0 rfl rfl ?_
  refine gf_R_22 hX d_R_takeHead_1 ?_
  refine jx_aload_n hX d_R_takeHead_4 0 rfl rfl ?_
  obtain ⟨q5_1, hq5_1, h⟩ := jx_bd h
  refine cs_R_67 hX (c_R_peek (jx_l X) G S q5_1 hq5_1) d_R_takeHead_5 (by decide) (Nat.le_of_ble_eq_true rfl) ?_
  refine jx_bipush (v := 65) hX d_R_takeHead_8 (by decide) ?_
  have hj : jx_At G X (some (.int fin.1), jx_w G fin.2) (jx_w G S) 18 [(0, .ref (jx_ad G 2))] [.int (if q5_1 = 65 then 1 else 0 : Int32), .ref (jx_ad G 1)] := by
    refine pf_R_71 hX d_R_takeHead_18 (jx_zi jx_z1 jx_z0) ?_
    refine jx_aload_n hX d_R_takeHead_21 0 rfl rfl ?_
    obtain ⟨q22_2, hq22_2, h⟩ := jx_bd h
    refine cs_R_75 hX (c_R_takeQuantifier (jx_l X) G (jx_f S 5 (if q5_1 = 65 then 1 else 0 : Int32)) q22_2 hq22_2) d_R_takeHead_22 (by decide) (Nat.le_of_ble_eq_true rfl) ?_
    refine jx_if_eq hX d_R_takeHead_25 rfl (fun hc => ?_) (fun hc => ?_)
    · have h := jx_ip hc h
      refine jx_iconst (v := 0) hX d_R_takeHead_37 (by decide) ?_
      obtain rfl := Option.some.inj h
      exact jx_zret hX d_R_takeHead_38 (jx_01n jx_z0)
    · have h := jx_in_ hc h
      refine jx_aload_n hX d_R_takeHead_28 0 rfl rfl ?_
      refine jx_bipush (v := 120) hX d_R_takeHead_29 (by decide) ?_
      obtain ⟨q31_3, hq31_3, h⟩ := jx_bd h
      refine cs_R_78 hX (c_R_take (jx_l X) G q22_2.2 120 q31_3 hq31_3) d_R_takeHead_31 (by decide) (Nat.le_of_ble_eq_true rfl) ?_
      refine jx_if_ne hX d_R_takeHead_34 rfl (fun hc => ?_) (fun hc => ?_)
      · have h := jx_in_ hc h
        refine jx_aload_n hX d_R_takeHead_39 0 rfl rfl ?_
        refine gf_R_22 hX d_R_takeHead_40 ?_
        refine jx_aload_n hX d_R_takeHead_43 0 rfl rfl ?_
        obtain ⟨q44_4, hq44_4, h⟩ := jx_bd h
        refine cs_R_67 hX (c_R_peek (jx_l X) G q31_3.2 q44_4 hq44_4) d_R_takeHead_44 (by decide) (Nat.le_of_ble_eq_true rfl) ?_
        refine jx_bipush (v := 65) hX d_R_takeHead_47 (by decide) ?_
        have hj : jx_At G X (some (.int fin.1), jx_w G fin.2) (jx_w G q31_3.2) 57 [(0, .ref (jx_ad G 2))] [.int (if q44_4 = 65 then 1 else 0 : Int32), .ref (jx_ad G 1)] := by
          refine pf_R_82 hX d_R_takeHead_57 (jx_zi jx_z1 jx_z0) ?_
          refine jx_aload_n hX d_R_takeHead_60 0 rfl rfl ?_
          obtain ⟨q61_5, hq61_5, h⟩ := jx_bd h
          refine cs_R_75 hX (c_R_takeQuantifier (jx_l X) G (jx_f q31_3.2 6 (if q44_4 = 65 then 1 else 0 : Int32)) q61_5 hq61_5) d_R_takeHead_61 (by decide) (Nat.le_of_ble_eq_true rfl) ?_
          refine jx_if_eq hX d_R_takeHead_64 rfl (fun hc => ?_) (fun hc => ?_)
          · have h := jx_ip hc h
            refine jx_iconst (v := 0) hX d_R_takeHead_89 (by decide) ?_
            obtain rfl := Option.some.inj h
            exact jx_zret hX d_R_takeHead_90 (jx_01n jx_z0)
          · have h := jx_in_ hc h
            refine jx_aload_n hX d_R_takeHead_67 0 rfl rfl ?_
            refine jx_bipush (v := 121) hX d_R_takeHead_68 (by decide) ?_
            obtain ⟨q70_6, hq70_6, h⟩ := jx_bd h
            refine cs_R_78 hX (c_R_take (jx_l X) G q61_5.2 121 q70_6 hq70_6) d_R_takeHead_70 (by decide) (Nat.le_of_ble_eq_true rfl) ?_
            refine jx_if_eq hX d_R_takeHead_73 rfl (fun hc => ?_) (fun hc => ?_)
            · have h := jx_ip hc h
              refine jx_iconst (v := 0) hX d_R_takeHead_89 (by decide) ?_
              obtain rfl := Option.some.inj h
              exact jx_zret hX d_R_takeHead_90 (jx_01n jx_z0)
            · have h := jx_in_ hc h
              refine jx_aload_n hX d_R_takeHead_76 0 rfl rfl ?_
              refine jx_bipush (v := 58) hX d_R_takeHead_77 (by decide) ?_
              obtain ⟨q79_7, hq79_7, h⟩ := jx_bd h
              refine cs_R_78 hX (c_R_take (jx_l X) G q70_6.2 58 q79_7 hq79_7) d_R_takeHead_79 (by decide) (Nat.le_of_ble_eq_true rfl) ?_
              have hj : jx_At G X (some (.int fin.1), jx_w G fin.2) (jx_w G q79_7.2) 90 [(0, .ref (jx_ad G 2))] [.int (if q79_7.1 = 0 then 0 else 1 : Int32)] := by
                obtain rfl := Option.some.inj h
                exact jx_zret hX d_R_takeHead_90 (jx_01n (jx_zi jx_z0 jx_z1))
              refine jx_if_eq hX d_R_takeHead_82 rfl (fun hc8 => ?_) (fun hc8 => ?_)
              · refine jx_iconst (v := 0) hX d_R_takeHead_89 (by decide) ?_
                have hj2 := hj
                rw [if_pos hc8] at hj2
                exact hj2
              · refine jx_iconst (v := 1) hX d_R_takeHead_85 (by decide) ?_
                refine jx_goto hX d_R_takeHead_86 rfl ?_
                have hj2 := hj
                rw [if_neg hc8] at hj2
                exact hj2
        refine jx_icmp_ne hX d_R_takeHead_49 rfl (fun hc9 => ?_) (fun hc9 => ?_)
        · refine jx_iconst (v := 0) hX d_R_takeHead_56 (by decide) ?_
          have hj2 := hj
          rw [if_neg hc9] at hj2
          exact hj2
        · refine jx_iconst (v := 1) hX d_R_takeHead_52 (by decide) ?_
          refine jx_goto hX d_R_takeHead_53 rfl ?_
          have hj2 := hj
          rw [if_pos hc9] at hj2
          exact hj2
      · have h := jx_ip hc h
        refine jx_iconst (v := 0) hX d_R_takeHead_37 (by decide) ?_
        obtain rfl := Option.some.inj h
        exact jx_zret hX d_R_takeHead_38 (jx_01n jx_z0)
  refine jx_icmp_ne hX d_R_takeHead_10 rfl (fun hc10 => ?_) (fun hc10 => ?_)
  · refine jx_iconst (v := 0) hX d_R_takeHead_17 (by decide) ?_
    have hj2 := hj
    rw [if_neg hc10] at hj2
    exact hj2
  · refine jx_iconst (v := 1) hX d_R_takeHead_13 (by decide) ?_
    refine jx_goto hX d_R_takeHead_14 rfl ?_
    have hj2 := hj
    rw [if_pos hc10] at hj2
    exact hj2

def f_R_hold (S : jx_S) (a1 : Int32) : Option (jx_S) :=
  if 80 ≤ (S.1 10) then
    some S
  else
    if jx_in (S.1 10) 80 = true then
      some (jx_f (jx_g S 4 (upd (S.2.1 4) ((S.1 10)).toNatClampNeg a1)) 10 ((S.1 10) + 1))
    else none
set_option maxHeartbeats 4000000 in
set_option maxRecDepth 100000 in
theorem c_R_hold (l : Launch) (G : jx_G) (S : jx_S) (a1 : Int32) (fin : jx_S) (h : f_R_hold S a1 = some fin) : jx_M l y_R_hold b_R_hold 2 none 0 G [.ref (jx_ad G 2), .int a1] (jx_w G S) (none, jx_w G fin) := by
  refine jx_met (own := "PlaneCells$Reader") (by decide) rfl (Nat.le_of_ble_eq_true rfl) (fun X hX hl => ?_)
  subst hl
  refine jx_L (L2 := [(0, .ref (jx_ad G 2)), (1, .int a1)]) rfl ?_
  unfold f_R_hold at h
  refine jx_aload_n hX d_R_hold_0 0 rfl rfl ?_
  refine gf_R_36 hX d_R_hold_1 rfl ?_
  refine jx_bipush (v := 80) hX d_R_hold_4 (by decide) ?_
  refine jx_icmp_ge hX d_R_hold_6 rfl (fun hc => ?_) (fun hc => ?_)
  · have h := jx_ip hc h
    obtain rfl := Option.some.inj h
    exact jx_vret hX d_R_hold_29
  · have h := jx_in_ hc h
    refine jx_aload_n hX d_R_hold_9 0 rfl rfl ?_
    refine gf_R_15 hX d_R_hold_10 ?_
    refine jx_aload_n hX d_R_hold_13 0 rfl rfl ?_
    refine gf_R_36 hX d_R_hold_14 rfl ?_
    refine jx_iload_n hX d_R_hold_17 1 rfl rfl ?_
    obtain ⟨hg1, h⟩ := jx_gd h
    refine as_4 hX d_R_hold_18 rfl hg1 ?_
    refine jx_aload_n hX d_R_hold_19 0 rfl rfl ?_
    refine jx_dup hX d_R_hold_20 rfl ?_
    refine gf_R_36 hX d_R_hold_21 (x := (S.1 10)) rfl ?_
    refine jx_iconst (v := 1) hX d_R_hold_24 (by decide) ?_
    refine jx_iadd hX d_R_hold_25 ?_
    refine pf_R_36 hX d_R_hold_26 ?_
    obtain rfl := Option.some.inj h
    exact jx_vret hX d_R_hold_29

def b_R_takeOpenings_0  (z : jx_S) : Option ((jx_S) ⊕ (jx_S)) :=
  if (z.1 8) ≤ (z.1 9) then
    some (.inr z)
  else
    if jx_in (z.1 9) 80 = true then
      if ((z.2.1 3) ((z.1 9)).toNatClampNeg) = 126 then
        if ((z.2.1 3) ((z.1 9)).toNatClampNeg) = 40 then
          (f_R_hold (jx_f z 11 ((z.1 11) + 1)) 0).bind fun q65_3 =>
            some (.inl (jx_f q65_3 9 ((q65_3.1 9) + 1)))
        else
          (f_R_hold z 3).bind fun q73_2 =>
            some (.inl (jx_f q73_2 9 ((q73_2.1 9) + 1)))
      else
        if ((z.2.1 3) ((z.1 9)).toNatClampNeg) = 40 then
          if ((z.2.1 3) ((z.1 9)).toNatClampNeg) = 40 then
            (f_R_hold (jx_f z 11 ((z.1 11) + 1)) 0).bind fun q65_5 =>
              some (.inl (jx_f q65_5 9 ((q65_5.1 9) + 1)))
          else
            (f_R_hold z 3).bind fun q73_4 =>
              some (.inl (jx_f q73_4 9 ((q73_4.1 9) + 1)))
        else
          some (.inr z)
    else none

def f_R_takeOpenings (S : jx_S)  : Option (jx_S) :=
  (jx_lp (b_R_takeOpenings_0 ) jx_N S).bind fun z0_6 =>
    some z0_6
set_option maxHeartbeats 4000000 in
set_option maxRecDepth 100000 in
theorem lt_R_takeOpenings_0 {G : jx_G} {X : jx_C} (hX : jx_Ok G X b_R_takeOpenings "PlaneCells$Reader" none 1 1) (fin : jx_S)  {n : Nat} {z : jx_S} {r : jx_S} (hz : jx_lp (b_R_takeOpenings_0 ) n z = some r) (hk : jx_At G X (none, jx_w G fin) (jx_w G r) 89 [(0, .ref (jx_ad G 2))] []) : jx_At G X (none, jx_w G fin) (jx_w G z) 0 [(0, .ref (jx_ad G 2))] [] := by
  refine jx_loop1 (b_R_takeOpenings_0 ) (fun z => jx_At G X (none, jx_w G fin) (jx_w G z) 0 [(0, .ref (jx_ad G 2))] []) (fun z => jx_At G X (none, jx_w G fin) (jx_w G z) 89 [(0, .ref (jx_ad G 2))] []) ?_ n z r hz hk
  intro z o h hi hx
  unfold b_R_takeOpenings_0 at h
  refine jx_aload_n hX d_R_takeOpenings_0 0 rfl rfl ?_
  refine gf_R_33 hX d_R_takeOpenings_1 rfl ?_
  refine jx_aload_n hX d_R_takeOpenings_4 0 rfl rfl ?_
  refine gf_R_30 hX d_R_takeOpenings_5 rfl ?_
  refine jx_icmp_ge hX d_R_takeOpenings_8 rfl (fun hc => ?_) (fun hc => ?_)
  · have h := jx_ip hc h
    obtain rfl := Option.some.inj h
    exact hx _ rfl
  · have h := jx_in_ hc h
    refine jx_aload_n hX d_R_takeOpenings_11 0 rfl rfl ?_
    refine gf_R_9 hX d_R_takeOpenings_12 ?_
    refine jx_aload_n hX d_R_takeOpenings_15 0 rfl rfl ?_
    refine gf_R_33 hX d_R_takeOpenings_16 rfl ?_
    obtain ⟨hg1, h⟩ := jx_gd h
    refine al_3 hX d_R_takeOpenings_19 rfl hg1 ?_
    refine jx_bipush (v := 126) hX d_R_takeOpenings_20 (by decide) ?_
    refine jx_icmp_eq hX d_R_takeOpenings_22 rfl (fun hc => ?_) (fun hc => ?_)
    · have h := jx_ip hc h
      refine jx_aload_n hX d_R_takeOpenings_39 0 rfl rfl ?_
      refine gf_R_9 hX d_R_takeOpenings_40 ?_
      refine jx_aload_n hX d_R_takeOpenings_43 0 rfl rfl ?_
      refine gf_R_33 hX d_R_takeOpenings_44 rfl ?_
      refine al_3 hX d_R_takeOpenings_47 rfl hg1 ?_
      refine jx_bipush (v := 40) hX d_R_takeOpenings_48 (by decide) ?_
      refine jx_icmp_ne hX d_R_takeOpenings_50 rfl (fun hc => ?_) (fun hc => ?_)
      · have h := jx_in_ hc h
        refine jx_aload_n hX d_R_takeOpenings_71 0 rfl rfl ?_
        refine jx_iconst (v := 3) hX d_R_takeOpenings_72 (by decide) ?_
        obtain ⟨q73_2, hq73_2, h⟩ := jx_bd h
        refine cs_R_85 hX (c_R_hold (jx_l X) G z 3 q73_2 hq73_2) d_R_takeOpenings_73 (by decide) (Nat.le_of_ble_eq_true rfl) ?_
        refine jx_aload_n hX d_R_takeOpenings_76 0 rfl rfl ?_
        refine jx_dup hX d_R_takeOpenings_77 rfl ?_
        refine gf_R_33 hX d_R_takeOpenings_78 rfl ?_
        refine jx_iconst (v := 1) hX d_R_takeOpenings_81 (by decide) ?_
        refine jx_iadd hX d_R_takeOpenings_82 ?_
        refine pf_R_33 hX d_R_takeOpenings_83 ?_
        refine jx_goto hX d_R_takeOpenings_86 rfl ?_
        obtain rfl := Option.some.inj h
        exact hi _ rfl
      · have h := jx_ip hc h
        refine jx_aload_n hX d_R_takeOpenings_53 0 rfl rfl ?_
        refine jx_dup hX d_R_takeOpenings_54 rfl ?_
        refine gf_R_39 hX d_R_takeOpenings_55 rfl ?_
        refine jx_iconst (v := 1) hX d_R_takeOpenings_58 (by decide) ?_
        refine jx_iadd hX d_R_takeOpenings_59 ?_
        refine pf_R_39 hX d_R_takeOpenings_60 ?_
        refine jx_aload_n hX d_R_takeOpenings_63 0 rfl rfl ?_
        refine jx_iconst (v := 0) hX d_R_takeOpenings_64 (by decide) ?_
        obtain ⟨q65_3, hq65_3, h⟩ := jx_bd h
        refine cs_R_85 hX (c_R_hold (jx_l X) G (jx_f z 11 ((z.1 11) + 1)) 0 q65_3 hq65_3) d_R_takeOpenings_65 (by decide) (Nat.le_of_ble_eq_true rfl) ?_
        refine jx_goto hX d_R_takeOpenings_68 rfl ?_
        refine jx_aload_n hX d_R_takeOpenings_76 0 rfl rfl ?_
        refine jx_dup hX d_R_takeOpenings_77 rfl ?_
        refine gf_R_33 hX d_R_takeOpenings_78 rfl ?_
        refine jx_iconst (v := 1) hX d_R_takeOpenings_81 (by decide) ?_
        refine jx_iadd hX d_R_takeOpenings_82 ?_
        refine pf_R_33 hX d_R_takeOpenings_83 ?_
        refine jx_goto hX d_R_takeOpenings_86 rfl ?_
        obtain rfl := Option.some.inj h
        exact hi _ rfl
    · have h := jx_in_ hc h
      refine jx_aload_n hX d_R_takeOpenings_25 0 rfl rfl ?_
      refine gf_R_9 hX d_R_takeOpenings_26 ?_
      refine jx_aload_n hX d_R_takeOpenings_29 0 rfl rfl ?_
      refine gf_R_33 hX d_R_takeOpenings_30 rfl ?_
      refine al_3 hX d_R_takeOpenings_33 rfl hg1 ?_
      refine jx_bipush (v := 40) hX d_R_takeOpenings_34 (by decide) ?_
      refine jx_icmp_ne hX d_R_takeOpenings_36 rfl (fun hc => ?_) (fun hc => ?_)
      · have h := jx_in_ hc h
        obtain rfl := Option.some.inj h
        exact hx _ rfl
      · have h := jx_ip hc h
        refine jx_aload_n hX d_R_takeOpenings_39 0 rfl rfl ?_
        refine gf_R_9 hX d_R_takeOpenings_40 ?_
        refine jx_aload_n hX d_R_takeOpenings_43 0 rfl rfl ?_
        refine gf_R_33 hX d_R_takeOpenings_44 rfl ?_
        refine al_3 hX d_R_takeOpenings_47 rfl hg1 ?_
        refine jx_bipush (v := 40) hX d_R_takeOpenings_48 (by decide) ?_
        refine jx_icmp_ne hX d_R_takeOpenings_50 rfl (fun hc => ?_) (fun hc => ?_)
        · have h := jx_in_ hc h
          refine jx_aload_n hX d_R_takeOpenings_71 0 rfl rfl ?_
          refine jx_iconst (v := 3) hX d_R_takeOpenings_72 (by decide) ?_
          obtain ⟨q73_4, hq73_4, h⟩ := jx_bd h
          refine cs_R_85 hX (c_R_hold (jx_l X) G z 3 q73_4 hq73_4) d_R_takeOpenings_73 (by decide) (Nat.le_of_ble_eq_true rfl) ?_
          refine jx_aload_n hX d_R_takeOpenings_76 0 rfl rfl ?_
          refine jx_dup hX d_R_takeOpenings_77 rfl ?_
          refine gf_R_33 hX d_R_takeOpenings_78 rfl ?_
          refine jx_iconst (v := 1) hX d_R_takeOpenings_81 (by decide) ?_
          refine jx_iadd hX d_R_takeOpenings_82 ?_
          refine pf_R_33 hX d_R_takeOpenings_83 ?_
          refine jx_goto hX d_R_takeOpenings_86 rfl ?_
          obtain rfl := Option.some.inj h
          exact hi _ rfl
        · have h := jx_ip hc h
          refine jx_aload_n hX d_R_takeOpenings_53 0 rfl rfl ?_
          refine jx_dup hX d_R_takeOpenings_54 rfl ?_
          refine gf_R_39 hX d_R_takeOpenings_55 rfl ?_
          refine jx_iconst (v := 1) hX d_R_takeOpenings_58 (by decide) ?_
          refine jx_iadd hX d_R_takeOpenings_59 ?_
          refine pf_R_39 hX d_R_takeOpenings_60 ?_
          refine jx_aload_n hX d_R_takeOpenings_63 0 rfl rfl ?_
          refine jx_iconst (v := 0) hX d_R_takeOpenings_64 (by decide) ?_
          obtain ⟨q65_5, hq65_5, h⟩ := jx_bd h
          refine cs_R_85 hX (c_R_hold (jx_l X) G (jx_f z 11 ((z.1 11) + 1)) 0 q65_5 hq65_5) d_R_takeOpenings_65 (by decide) (Nat.le_of_ble_eq_true rfl) ?_
          refine jx_goto hX d_R_takeOpenings_68 rfl ?_
          refine jx_aload_n hX d_R_takeOpenings_76 0 rfl rfl ?_
          refine jx_dup hX d_R_takeOpenings_77 rfl ?_
          refine gf_R_33 hX d_R_takeOpenings_78 rfl ?_
          refine jx_iconst (v := 1) hX d_R_takeOpenings_81 (by decide) ?_
          refine jx_iadd hX d_R_takeOpenings_82 ?_
          refine pf_R_33 hX d_R_takeOpenings_83 ?_
          refine jx_goto hX d_R_takeOpenings_86 rfl ?_
          obtain rfl := Option.some.inj h
          exact hi _ rfl

set_option maxHeartbeats 4000000 in
set_option maxRecDepth 100000 in
theorem c_R_takeOpenings (l : Launch) (G : jx_G) (S : jx_S)  (fin : jx_S) (h : f_R_takeOpenings S = some fin) : jx_M l y_R_takeOpenings b_R_takeOpenings 1 none 1 G [.ref (jx_ad G 2)] (jx_w G S) (none, jx_w G fin) := by
  refine jx_met (own := "PlaneCells$Reader") (by decide) rfl (Nat.le_of_ble_eq_true rfl) (fun X hX hl => ?_)
  subst hl
  refine jx_L (L2 := [(0, .ref (jx_ad G 2))]) rfl ?_
  unfold f_R_takeOpenings at h
  obtain ⟨z0_6, hz, h⟩ := jx_bd h
  refine lt_R_takeOpenings_0 hX fin  hz ?_
  obtain rfl := Option.some.inj h
  exact jx_vret hX d_R_takeOpenings_89
end
section
def f_R_numberOfLetter (a1 : Int32) : Option (Int32) :=
  some (if a1 = 120 then 1 else (if a1 = 121 then 2 else 0 : Int32) : Int32)
set_option maxHeartbeats 4000000 in
set_option maxRecDepth 100000 in
theorem c_R_numberOfLetter (l : Launch) (G : jx_G) (S : jx_S) (a1 : Int32) (fin : Int32) (h : f_R_numberOfLetter a1 = some fin) : jx_M l y_R_numberOfLetter b_R_numberOfLetter 1 (some .int) 0 G [.int a1] (jx_w G S) (some (.int fin), jx_w G S) := by
  refine jx_met (own := "PlaneCells$Reader") (by decide) rfl (Nat.le_of_ble_eq_true rfl) (fun X hX hl => ?_)
  subst hl
  refine jx_L (L2 := [(0, .int a1)]) rfl ?_
  unfold f_R_numberOfLetter at h
  refine jx_iload_n hX d_R_numberOfLetter_0 0 rfl rfl ?_
  refine jx_bipush (v := 120) hX d_R_numberOfLetter_1 (by decide) ?_
  have hj : jx_At G X (some (.int fin), jx_w G S) (jx_w G S) 21 [(0, .int a1)] [.int (if a1 = 120 then 1 else (if a1 = 121 then 2 else 0 : Int32) : Int32)] := by
    obtain rfl := Option.some.inj h
    exact jx_iret hX d_R_numberOfLetter_21
  refine jx_icmp_ne hX d_R_numberOfLetter_3 rfl (fun hc1 => ?_) (fun hc1 => ?_)
  · refine jx_iload_n hX d_R_numberOfLetter_10 0 rfl rfl ?_
    refine jx_bipush (v := 121) hX d_R_numberOfLetter_11 (by decide) ?_
    refine jx_icmp_ne hX d_R_numberOfLetter_13 rfl (fun hc2 => ?_) (fun hc2 => ?_)
    · refine jx_iconst (v := 0) hX d_R_numberOfLetter_20 (by decide) ?_
      have hj2 := hj
      rw [if_neg hc1, if_neg hc2] at hj2
      exact hj2
    · refine jx_iconst (v := 2) hX d_R_numberOfLetter_16 (by decide) ?_
      refine jx_goto hX d_R_numberOfLetter_17 rfl ?_
      have hj2 := hj
      rw [if_neg hc1, if_pos hc2] at hj2
      exact hj2
  · refine jx_iconst (v := 1) hX d_R_numberOfLetter_6 (by decide) ?_
    refine jx_goto hX d_R_numberOfLetter_7 rfl ?_
    have hj2 := hj
    rw [if_pos hc1] at hj2
    exact hj2

def b_R_takeTerm_51 (x1 : Int32) (x2 : Int32) (x3 : Int32) (x4 : Int32) (z : jx_S × Int32 × Int32) : Option ((jx_S × Int32 × Int32) ⊕ (jx_S × Int32)) :=
  if 2 ≤ z.2.2 then
    some (.inr (z.1, z.2.1))
  else
    (f_R_peek z.1).bind fun q58_2 =>
      (f_R_numberOfLetter q58_2).bind fun q61_3 =>
        if (z.2.1 &&& q61_3) = q61_3 then
          some (.inr (z.1, z.2.1))
        else
          some (.inl ((jx_f z.1 9 ((z.1.1 9) + 1)), (z.2.1 + q61_3), (z.2.2 + 1)))

def k_R_takeTerm_45 (S : jx_S) (x1 : Int32) (x2 : Int32) (x3 : Int32) (x4 : Int32)  : Option (Int32 × jx_S) :=
  (jx_lp (b_R_takeTerm_51 x1 x2 x3 x4) jx_N (S, 0, 0)).bind fun z51_4 =>
    if (z51_4.1.1 9) = x2 then
      some (0, z51_4.1)
    else
      if jx_in z51_4.2 4 = true then
        some (1, (jx_g z51_4.1 5 (upd (z51_4.1.2.1 5) (z51_4.2).toNatClampNeg (((z51_4.1.2.1 5) (z51_4.2).toNatClampNeg) + x3))))
      else none

def f_R_takeTerm (S : jx_S) (a1 : Int32) : Option (Int32 × jx_S) :=
  (f_R_peek S).bind fun q8_1 =>
    if q8_1 < 48 then
      k_R_takeTerm_45 S a1 (S.1 9) a1 q8_1
    else
      if 57 < q8_1 then
        k_R_takeTerm_45 S a1 (S.1 9) a1 q8_1
      else
        k_R_takeTerm_45 (jx_f S 9 ((S.1 9) + 1)) a1 (S.1 9) (a1 * (q8_1 - 48)) q8_1
set_option maxHeartbeats 4000000 in
set_option maxRecDepth 100000 in
theorem lt_R_takeTerm_51 {G : jx_G} {X : jx_C} (hX : jx_Ok G X b_R_takeTerm "PlaneCells$Reader" (some .boolean) 8 1) (fin : Int32 × jx_S) (x1 : Int32) (x2 : Int32) (x3 : Int32) (x4 : Int32) {n : Nat} {z : jx_S × Int32 × Int32} {r : jx_S × Int32} (hz : jx_lp (b_R_takeTerm_51 x1 x2 x3 x4) n z = some r) (hk : jx_At G X (some (.int fin.1), jx_w G fin.2) (jx_w G r.1) 102 [(0, .ref (jx_ad G 2)), (1, .int x1), (2, .int x2), (3, .int x3), (4, .int x4), (5, .int r.2)] []) : jx_At G X (some (.int fin.1), jx_w G fin.2) (jx_w G z.1) 51 [(0, .ref (jx_ad G 2)), (1, .int x1), (2, .int x2), (3, .int x3), (4, .int x4), (5, .int z.2.1), (6, .int z.2.2)] [] := by
  refine jx_loop1 (b_R_takeTerm_51 x1 x2 x3 x4) (fun z => jx_At G X (some (.int fin.1), jx_w G fin.2) (jx_w G z.1) 51 [(0, .ref (jx_ad G 2)), (1, .int x1), (2, .int x2), (3, .int x3), (4, .int x4), (5, .int z.2.1), (6, .int z.2.2)] []) (fun z => jx_At G X (some (.int fin.1), jx_w G fin.2) (jx_w G z.1) 102 [(0, .ref (jx_ad G 2)), (1, .int x1), (2, .int x2), (3, .int x3), (4, .int x4), (5, .int z.2)] []) ?_ n z r hz hk
  intro z o h hi hx
  unfold b_R_takeTerm_51 at h
  refine jx_iload hX d_R_takeTerm_51 6 rfl ?_
  refine jx_iconst (v := 2) hX d_R_takeTerm_53 (by decide) ?_
  refine jx_icmp_ge hX d_R_takeTerm_54 rfl (fun hc => ?_) (fun hc => ?_)
  · have h := jx_ip hc h
    refine jx_sub (L2 := [(0, .ref (jx_ad G 2)), (1, .int x1), (2, .int x2), (3, .int x3), (4, .int x4), (5, .int z.2.1)]) [0, 1, 2, 3, 4, 5] rfl ?_
    obtain rfl := Option.some.inj h
    exact hx _ rfl
  · have h := jx_in_ hc h
    refine jx_aload_n hX d_R_takeTerm_57 0 rfl rfl ?_
    obtain ⟨q58_2, hq58_2, h⟩ := jx_bd h
    refine cs_R_67 hX (c_R_peek (jx_l X) G z.1 q58_2 hq58_2) d_R_takeTerm_58 (by decide) (Nat.le_of_ble_eq_true rfl) ?_
    obtain ⟨q61_3, hq61_3, h⟩ := jx_bd h
    refine cs_R_102 hX (c_R_numberOfLetter (jx_l X) G z.1 q58_2 q61_3 hq61_3) d_R_takeTerm_61 (by decide) (Nat.le_of_ble_eq_true rfl) ?_
    refine jx_istore hX d_R_takeTerm_64 (by decide) (L2 := [(7, .int q61_3), (0, .ref (jx_ad G 2)), (1, .int x1), (2, .int x2), (3, .int x3), (4, .int x4), (5, .int z.2.1), (6, .int z.2.2)]) rfl ?_
    refine jx_iload hX d_R_takeTerm_66 6 rfl ?_
    refine jx_iload hX d_R_takeTerm_68 0 rfl ?_
    refine jx_iand hX d_R_takeTerm_70 ?_
    refine jx_iload hX d_R_takeTerm_71 0 rfl ?_
    refine jx_icmp_ne hX d_R_takeTerm_73 rfl (fun hc => ?_) (fun hc => ?_)
    · have h := jx_in_ hc h
      refine jx_iload hX d_R_takeTerm_79 6 rfl ?_
      refine jx_iload hX d_R_takeTerm_81 0 rfl ?_
      refine jx_iadd hX d_R_takeTerm_83 ?_
      refine jx_istore hX d_R_takeTerm_84 (by decide) (L2 := [(5, .int (z.2.1 + q61_3)), (7, .int q61_3), (0, .ref (jx_ad G 2)), (1, .int x1), (2, .int x2), (3, .int x3), (4, .int x4), (6, .int z.2.2)]) rfl ?_
      refine jx_aload_n hX d_R_takeTerm_86 2 rfl rfl ?_
      refine jx_dup hX d_R_takeTerm_87 rfl ?_
      refine gf_R_33 hX d_R_takeTerm_88 rfl ?_
      refine jx_iconst (v := 1) hX d_R_takeTerm_91 (by decide) ?_
      refine jx_iadd hX d_R_takeTerm_92 ?_
      refine pf_R_33 hX d_R_takeTerm_93 ?_
      refine jx_iinc (v := (z.2.2 + 1)) hX d_R_takeTerm_96 7 rfl (by first | rfl | decide) (by decide) (L2 := [(6, .int (z.2.2 + 1)), (5, .int (z.2.1 + q61_3)), (7, .int q61_3), (0, .ref (jx_ad G 2)), (1, .int x1), (2, .int x2), (3, .int x3), (4, .int x4)]) rfl ?_
      refine jx_goto hX d_R_takeTerm_99 rfl ?_
      refine jx_sub (L2 := [(0, .ref (jx_ad G 2)), (1, .int x1), (2, .int x2), (3, .int x3), (4, .int x4), (5, .int (z.2.1 + q61_3)), (6, .int (z.2.2 + 1))]) [3, 4, 5, 6, 7, 1, 0] rfl ?_
      obtain rfl := Option.some.inj h
      exact hi _ rfl
    · have h := jx_ip hc h
      refine jx_goto hX d_R_takeTerm_76 rfl ?_
      refine jx_sub (L2 := [(0, .ref (jx_ad G 2)), (1, .int x1), (2, .int x2), (3, .int x3), (4, .int x4), (5, .int z.2.1)]) [1, 2, 3, 4, 5, 6] rfl ?_
      obtain rfl := Option.some.inj h
      exact hx _ rfl

set_option maxHeartbeats 4000000 in
set_option maxRecDepth 100000 in
theorem kt_R_takeTerm_45 {G : jx_G} {X : jx_C} (hX : jx_Ok G X b_R_takeTerm "PlaneCells$Reader" (some .boolean) 8 1) (fin : Int32 × jx_S) (S : jx_S) (x1 : Int32) (x2 : Int32) (x3 : Int32) (x4 : Int32)  (h : k_R_takeTerm_45 S x1 x2 x3 x4 = some fin) : jx_At G X (some (.int fin.1), jx_w G fin.2) (jx_w G S) 45 [(0, .ref (jx_ad G 2)), (1, .int x1), (2, .int x2), (3, .int x3), (4, .int x4)] [] := by
  unfold k_R_takeTerm_45 at h
  refine jx_iconst (v := 0) hX d_R_takeTerm_45 (by decide) ?_
  refine jx_istore hX d_R_takeTerm_46 (by decide) (L2 := [(5, .int 0), (0, .ref (jx_ad G 2)), (1, .int x1), (2, .int x2), (3, .int x3), (4, .int x4)]) rfl ?_
  refine jx_iconst (v := 0) hX d_R_takeTerm_48 (by decide) ?_
  refine jx_istore hX d_R_takeTerm_49 (by decide) (L2 := [(6, .int 0), (5, .int 0), (0, .ref (jx_ad G 2)), (1, .int x1), (2, .int x2), (3, .int x3), (4, .int x4)]) rfl ?_
  refine jx_sub (L2 := [(0, .ref (jx_ad G 2)), (1, .int x1), (2, .int x2), (3, .int x3), (4, .int x4), (5, .int 0), (6, .int 0)]) [2, 3, 4, 5, 6, 1, 0] rfl ?_
  obtain ⟨z51_4, hz, h⟩ := jx_bd h
  refine lt_R_takeTerm_51 hX fin x1 x2 x3 x4 hz ?_
  refine jx_aload_n hX d_R_takeTerm_102 0 rfl rfl ?_
  refine gf_R_33 hX d_R_takeTerm_103 rfl ?_
  refine jx_iload_n hX d_R_takeTerm_106 2 rfl rfl ?_
  refine jx_icmp_ne hX d_R_takeTerm_107 rfl (fun hc => ?_) (fun hc => ?_)
  · have h := jx_in_ hc h
    refine jx_aload_n hX d_R_takeTerm_112 0 rfl rfl ?_
    refine gf_R_19 hX d_R_takeTerm_113 ?_
    refine jx_iload hX d_R_takeTerm_116 5 rfl ?_
    refine jx_dup2 hX d_R_takeTerm_118 rfl rfl ?_
    obtain ⟨hg5, h⟩ := jx_gd h
    refine al_5 hX d_R_takeTerm_119 rfl hg5 ?_
    refine jx_iload_n hX d_R_takeTerm_120 3 rfl rfl ?_
    refine jx_iadd hX d_R_takeTerm_121 ?_
    refine as_5 hX d_R_takeTerm_122 rfl hg5 ?_
    refine jx_iconst (v := 1) hX d_R_takeTerm_123 (by decide) ?_
    obtain rfl := Option.some.inj h
    exact jx_zret hX d_R_takeTerm_124 (jx_01n jx_z1)
  · have h := jx_ip hc h
    refine jx_iconst (v := 0) hX d_R_takeTerm_110 (by decide) ?_
    obtain rfl := Option.some.inj h
    exact jx_zret hX d_R_takeTerm_111 (jx_01n jx_z0)

set_option maxHeartbeats 4000000 in
set_option maxRecDepth 100000 in
theorem c_R_takeTerm (l : Launch) (G : jx_G) (S : jx_S) (a1 : Int32) (fin : Int32 × jx_S) (h : f_R_takeTerm S a1 = some fin) : jx_M l y_R_takeTerm b_R_takeTerm 8 (some .boolean) 1 G [.ref (jx_ad G 2), .int a1] (jx_w G S) (some (.int fin.1), jx_w G fin.2) := by
  refine jx_met (own := "PlaneCells$Reader") (by decide) rfl (Nat.le_of_ble_eq_true rfl) (fun X hX hl => ?_)
  subst hl
  refine jx_L (L2 := [(0, .ref (jx_ad G 2)), (1, .int a1)]) rfl ?_
  unfold f_R_takeTerm at h
  refine jx_aload_n hX d_R_takeTerm_0 0 rfl rfl ?_
  refine gf_R_33 hX d_R_takeTerm_1 rfl ?_
  refine jx_istore_n hX d_R_takeTerm_4 rfl (by decide) (L2 := [(2, .int (S.1 9)), (0, .ref (jx_ad G 2)), (1, .int a1)]) rfl ?_
  refine jx_iload_n hX d_R_takeTerm_5 2 rfl rfl ?_
  refine jx_istore_n hX d_R_takeTerm_6 rfl (by decide) (L2 := [(3, .int a1), (2, .int (S.1 9)), (0, .ref (jx_ad G 2)), (1, .int a1)]) rfl ?_
  refine jx_aload_n hX d_R_takeTerm_7 2 rfl rfl ?_
  obtain ⟨q8_1, hq8_1, h⟩ := jx_bd h
  refine cs_R_67 hX (c_R_peek (jx_l X) G S q8_1 hq8_1) d_R_takeTerm_8 (by decide) (Nat.le_of_ble_eq_true rfl) ?_
  refine jx_istore hX d_R_takeTerm_11 (by decide) (L2 := [(4, .int q8_1), (3, .int a1), (2, .int (S.1 9)), (0, .ref (jx_ad G 2)), (1, .int a1)]) rfl ?_
  refine jx_iload hX d_R_takeTerm_13 0 rfl ?_
  refine jx_bipush (v := 48) hX d_R_takeTerm_15 (by decide) ?_
  refine jx_icmp_lt hX d_R_takeTerm_17 rfl (fun hc => ?_) (fun hc => ?_)
  · have h := jx_ip hc h
    refine jx_sub (L2 := [(0, .ref (jx_ad G 2)), (1, .int a1), (2, .int (S.1 9)), (3, .int a1), (4, .int q8_1)]) [3, 4, 2, 1, 0] rfl ?_
    exact kt_R_takeTerm_45 hX fin S a1 (S.1 9) a1 q8_1 h
  · have h := jx_in_ hc h
    refine jx_iload hX d_R_takeTerm_20 0 rfl ?_
    refine jx_bipush (v := 57) hX d_R_takeTerm_22 (by decide) ?_
    refine jx_icmp_gt hX d_R_takeTerm_24 rfl (fun hc => ?_) (fun hc => ?_)
    · have h := jx_ip hc h
      refine jx_sub (L2 := [(0, .ref (jx_ad G 2)), (1, .int a1), (2, .int (S.1 9)), (3, .int a1), (4, .int q8_1)]) [3, 4, 2, 1, 0] rfl ?_
      exact kt_R_takeTerm_45 hX fin S a1 (S.1 9) a1 q8_1 h
    · have h := jx_in_ hc h
      refine jx_iload_n hX d_R_takeTerm_27 4 rfl rfl ?_
      refine jx_iload hX d_R_takeTerm_28 0 rfl ?_
      refine jx_bipush (v := 48) hX d_R_takeTerm_30 (by decide) ?_
      refine jx_isub hX d_R_takeTerm_32 ?_
      refine jx_imul hX d_R_takeTerm_33 ?_
      refine jx_istore_n hX d_R_takeTerm_34 rfl (by decide) (L2 := [(3, .int (a1 * (q8_1 - 48))), (4, .int q8_1), (2, .int (S.1 9)), (0, .ref (jx_ad G 2)), (1, .int a1)]) rfl ?_
      refine jx_aload_n hX d_R_takeTerm_35 3 rfl rfl ?_
      refine jx_dup hX d_R_takeTerm_36 rfl ?_
      refine gf_R_33 hX d_R_takeTerm_37 rfl ?_
      refine jx_iconst (v := 1) hX d_R_takeTerm_40 (by decide) ?_
      refine jx_iadd hX d_R_takeTerm_41 ?_
      refine pf_R_33 hX d_R_takeTerm_42 ?_
      refine jx_sub (L2 := [(0, .ref (jx_ad G 2)), (1, .int a1), (2, .int (S.1 9)), (3, .int (a1 * (q8_1 - 48))), (4, .int q8_1)]) [3, 4, 2, 0, 1] rfl ?_
      exact kt_R_takeTerm_45 hX fin (jx_f S 9 ((S.1 9) + 1)) a1 (S.1 9) (a1 * (q8_1 - 48)) q8_1 h

def b_R_takeSum_18 (x1 : Int32) (z : jx_S × Int32 × Int32) : Option ((jx_S × Int32 × Int32) ⊕ ((jx_S × Int32) ⊕ (Int32 × jx_S))) :=
  if (z.1.1 8) ≤ z.2.2 then
    some (.inr (.inl (z.1, z.2.1)))
  else
    (f_R_takeTerm z.1 z.2.1).bind fun q28_2 =>
      if q28_2.1 = 0 then
        some (.inr (.inr (0, q28_2.2)))
      else
        (f_R_take q28_2.2 45).bind fun q39_3 =>
          if q39_3.1 = 0 then
            (f_R_take q39_3.2 43).bind fun q54_4 =>
              if q54_4.1 = 0 then
                some (.inr (.inr (1, q54_4.2)))
              else
                some (.inl (q54_4.2, x1, (z.2.2 + 1)))
          else
            some (.inl (q39_3.2, (-x1), (z.2.2 + 1)))

def f_R_takeSum (S : jx_S) (a1 : Int32) : Option (Int32 × jx_S) :=
  (f_R_take S 45).bind fun q3_1 =>
    (jx_lp (b_R_takeSum_18 a1) jx_N (q3_1.2, (if q3_1.1 = 0 then a1 else (-a1) : Int32), 0)).bind (Sum.elim (fun z18_5 =>
      some (0, z18_5.1))
      (fun y => some y))
set_option maxHeartbeats 4000000 in
set_option maxRecDepth 100000 in
theorem lt_R_takeSum_18 {G : jx_G} {X : jx_C} (hX : jx_Ok G X b_R_takeSum "PlaneCells$Reader" (some .boolean) 4 2) (fin : Int32 × jx_S) (x1 : Int32) {n : Nat} {z : jx_S × Int32 × Int32} {r : (jx_S × Int32) ⊕ (Int32 × jx_S)} (hz : jx_lp (b_R_takeSum_18 x1) n z = some r) (hk : ∀ u, r = .inl u → jx_At G X (some (.int fin.1), jx_w G fin.2) (jx_w G u.1) 73 [(0, .ref (jx_ad G 2)), (1, .int x1), (2, .int u.2)] []) (hy : ∀ y, r = .inr y → y = fin) : jx_At G X (some (.int fin.1), jx_w G fin.2) (jx_w G z.1) 18 [(0, .ref (jx_ad G 2)), (1, .int x1), (2, .int z.2.1), (3, .int z.2.2)] [] := by
  refine jx_loop2 (b_R_takeSum_18 x1) (fun z => jx_At G X (some (.int fin.1), jx_w G fin.2) (jx_w G z.1) 18 [(0, .ref (jx_ad G 2)), (1, .int x1), (2, .int z.2.1), (3, .int z.2.2)] []) (fun z => jx_At G X (some (.int fin.1), jx_w G fin.2) (jx_w G z.1) 73 [(0, .ref (jx_ad G 2)), (1, .int x1), (2, .int z.2)] []) fin ?_ n z r hz hk hy
  intro z o h hi hx hr
  unfold b_R_takeSum_18 at h
  refine jx_iload_n hX d_R_takeSum_18 3 rfl rfl ?_
  refine jx_aload_n hX d_R_takeSum_19 0 rfl rfl ?_
  refine gf_R_30 hX d_R_takeSum_20 rfl ?_
  refine jx_icmp_ge hX d_R_takeSum_23 rfl (fun hc => ?_) (fun hc => ?_)
  · have h := jx_ip hc h
    refine jx_sub (L2 := [(0, .ref (jx_ad G 2)), (1, .int x1), (2, .int z.2.1)]) [0, 1, 2] rfl ?_
    obtain rfl := Option.some.inj h
    exact hx _ rfl
  · have h := jx_in_ hc h
    refine jx_aload_n hX d_R_takeSum_26 0 rfl rfl ?_
    refine jx_iload_n hX d_R_takeSum_27 2 rfl rfl ?_
    obtain ⟨q28_2, hq28_2, h⟩ := jx_bd h
    refine cs_R_99 hX (c_R_takeTerm (jx_l X) G z.1 z.2.1 q28_2 hq28_2) d_R_takeSum_28 (by decide) (Nat.le_of_ble_eq_true rfl) ?_
    refine jx_if_ne hX d_R_takeSum_31 rfl (fun hc => ?_) (fun hc => ?_)
    · have h := jx_in_ hc h
      refine jx_aload_n hX d_R_takeSum_36 0 rfl rfl ?_
      refine jx_bipush (v := 45) hX d_R_takeSum_37 (by decide) ?_
      obtain ⟨q39_3, hq39_3, h⟩ := jx_bd h
      refine cs_R_78 hX (c_R_take (jx_l X) G q28_2.2 45 q39_3 hq39_3) d_R_takeSum_39 (by decide) (Nat.le_of_ble_eq_true rfl) ?_
      refine jx_if_eq hX d_R_takeSum_42 rfl (fun hc => ?_) (fun hc => ?_)
      · have h := jx_ip hc h
        refine jx_aload_n hX d_R_takeSum_51 0 rfl rfl ?_
        refine jx_bipush (v := 43) hX d_R_takeSum_52 (by decide) ?_
        obtain ⟨q54_4, hq54_4, h⟩ := jx_bd h
        refine cs_R_78 hX (c_R_take (jx_l X) G q39_3.2 43 q54_4 hq54_4) d_R_takeSum_54 (by decide) (Nat.le_of_ble_eq_true rfl) ?_
        refine jx_if_eq hX d_R_takeSum_57 rfl (fun hc => ?_) (fun hc => ?_)
        · have h := jx_ip hc h
          refine jx_iconst (v := 1) hX d_R_takeSum_65 (by decide) ?_
          obtain rfl := Option.some.inj h
          obtain rfl := hr _ rfl
          exact jx_zret hX d_R_takeSum_66 (jx_01n jx_z1)
        · have h := jx_in_ hc h
          refine jx_iload_n hX d_R_takeSum_60 1 rfl rfl ?_
          refine jx_istore_n hX d_R_takeSum_61 rfl (by decide) (L2 := [(2, .int x1), (0, .ref (jx_ad G 2)), (1, .int x1), (3, .int z.2.2)]) rfl ?_
          refine jx_goto hX d_R_takeSum_62 rfl ?_
          refine jx_iinc (v := (z.2.2 + 1)) hX d_R_takeSum_67 3 rfl (by first | rfl | decide) (by decide) (L2 := [(3, .int (z.2.2 + 1)), (2, .int x1), (0, .ref (jx_ad G 2)), (1, .int x1)]) rfl ?_
          refine jx_goto hX d_R_takeSum_70 rfl ?_
          refine jx_sub (L2 := [(0, .ref (jx_ad G 2)), (1, .int x1), (2, .int x1), (3, .int (z.2.2 + 1))]) [2, 3, 1, 0] rfl ?_
          obtain rfl := Option.some.inj h
          exact hi _ rfl
      · have h := jx_in_ hc h
        refine jx_iload_n hX d_R_takeSum_45 1 rfl rfl ?_
        refine jx_ineg hX d_R_takeSum_46 ?_
        refine jx_istore_n hX d_R_takeSum_47 rfl (by decide) (L2 := [(2, .int (-x1)), (0, .ref (jx_ad G 2)), (1, .int x1), (3, .int z.2.2)]) rfl ?_
        refine jx_goto hX d_R_takeSum_48 rfl ?_
        refine jx_iinc (v := (z.2.2 + 1)) hX d_R_takeSum_67 3 rfl (by first | rfl | decide) (by decide) (L2 := [(3, .int (z.2.2 + 1)), (2, .int (-x1)), (0, .ref (jx_ad G 2)), (1, .int x1)]) rfl ?_
        refine jx_goto hX d_R_takeSum_70 rfl ?_
        refine jx_sub (L2 := [(0, .ref (jx_ad G 2)), (1, .int x1), (2, .int (-x1)), (3, .int (z.2.2 + 1))]) [2, 3, 1, 0] rfl ?_
        obtain rfl := Option.some.inj h
        exact hi _ rfl
    · have h := jx_ip hc h
      refine jx_iconst (v := 0) hX d_R_takeSum_34 (by decide) ?_
      obtain rfl := Option.some.inj h
      obtain rfl := hr _ rfl
      exact jx_zret hX d_R_takeSum_35 (jx_01n jx_z0)

set_option maxHeartbeats 4000000 in
set_option maxRecDepth 100000 in
theorem c_R_takeSum (l : Launch) (G : jx_G) (S : jx_S) (a1 : Int32) (fin : Int32 × jx_S) (h : f_R_takeSum S a1 = some fin) : jx_M l y_R_takeSum b_R_takeSum 4 (some .boolean) 2 G [.ref (jx_ad G 2), .int a1] (jx_w G S) (some (.int fin.1), jx_w G fin.2) := by
  refine jx_met (own := "PlaneCells$Reader") (by decide) rfl (Nat.le_of_ble_eq_true rfl) (fun X hX hl => ?_)
  subst hl
  refine jx_L (L2 := [(0, .ref (jx_ad G 2)), (1, .int a1)]) rfl ?_
  unfold f_R_takeSum at h
  refine jx_aload_n hX d_R_takeSum_0 0 rfl rfl ?_
  refine jx_bipush (v := 45) hX d_R_takeSum_1 (by decide) ?_
  obtain ⟨q3_1, hq3_1, h⟩ := jx_bd h
  refine cs_R_78 hX (c_R_take (jx_l X) G S 45 q3_1 hq3_1) d_R_takeSum_3 (by decide) (Nat.le_of_ble_eq_true rfl) ?_
  have hj : jx_At G X (some (.int fin.1), jx_w G fin.2) (jx_w G q3_1.2) 15 [(0, .ref (jx_ad G 2)), (1, .int a1)] [.int (if q3_1.1 = 0 then a1 else (-a1) : Int32)] := by
    refine jx_istore_n hX d_R_takeSum_15 rfl (by decide) (L2 := [(2, .int (if q3_1.1 = 0 then a1 else (-a1) : Int32)), (0, .ref (jx_ad G 2)), (1, .int a1)]) rfl ?_
    refine jx_iconst (v := 0) hX d_R_takeSum_16 (by decide) ?_
    refine jx_istore_n hX d_R_takeSum_17 rfl (by decide) (L2 := [(3, .int 0), (2, .int (if q3_1.1 = 0 then a1 else (-a1) : Int32)), (0, .ref (jx_ad G 2)), (1, .int a1)]) rfl ?_
    refine jx_sub (L2 := [(0, .ref (jx_ad G 2)), (1, .int a1), (2, .int (if q3_1.1 = 0 then a1 else (-a1) : Int32)), (3, .int 0)]) [2, 3, 1, 0] rfl ?_
    obtain ⟨r, hz, h⟩ := jx_bd h
    refine lt_R_takeSum_18 hX fin a1 hz (fun z18_5 e => ?_) (fun y e => ?_)
    · subst e
      have h := jx_el h
      refine jx_iconst (v := 0) hX d_R_takeSum_73 (by decide) ?_
      obtain rfl := Option.some.inj h
      exact jx_zret hX d_R_takeSum_74 (jx_01n jx_z0)
    · subst e
      have h := jx_er h
      exact Option.some.inj h
  refine jx_if_eq hX d_R_takeSum_6 rfl (fun hc6 => ?_) (fun hc6 => ?_)
  · refine jx_iload_n hX d_R_takeSum_14 1 rfl rfl ?_
    have hj2 := hj
    rw [if_pos hc6] at hj2
    exact hj2
  · refine jx_iload_n hX d_R_takeSum_9 1 rfl rfl ?_
    refine jx_ineg hX d_R_takeSum_10 ?_
    refine jx_goto hX d_R_takeSum_11 rfl ?_
    have hj2 := hj
    rw [if_neg hc6] at hj2
    exact hj2

def f_S_addStep (S : jx_S) (a1 : Int32) : Option (jx_S) :=
  if 80 ≤ (S.1 3) then
    some S
  else
    if jx_in (S.1 3) 80 = true then
      some (jx_f (jx_g S 2 (upd (S.2.1 2) ((S.1 3)).toNatClampNeg a1)) 3 ((S.1 3) + 1))
    else none
set_option maxHeartbeats 4000000 in
set_option maxRecDepth 100000 in
theorem c_S_addStep (l : Launch) (G : jx_G) (S : jx_S) (a1 : Int32) (fin : jx_S) (h : f_S_addStep S a1 = some fin) : jx_M l y_S_addStep b_S_addStep 2 none 0 G [.ref (jx_ad G 1), .int a1] (jx_w G S) (none, jx_w G fin) := by
  refine jx_met (own := "PlaneCells$Sentence") (by decide) rfl (Nat.le_of_ble_eq_true rfl) (fun X hX hl => ?_)
  subst hl
  refine jx_L (L2 := [(0, .ref (jx_ad G 1)), (1, .int a1)]) rfl ?_
  unfold f_S_addStep at h
  refine jx_aload_n hX d_S_addStep_0 0 rfl rfl ?_
  refine gf_S_22 hX d_S_addStep_1 rfl ?_
  refine jx_bipush (v := 80) hX d_S_addStep_4 (by decide) ?_
  refine jx_icmp_ge hX d_S_addStep_6 rfl (fun hc => ?_) (fun hc => ?_)
  · have h := jx_ip hc h
    obtain rfl := Option.some.inj h
    exact jx_vret hX d_S_addStep_29
  · have h := jx_in_ hc h
    refine jx_aload_n hX d_S_addStep_9 0 rfl rfl ?_
    refine gf_S_19 hX d_S_addStep_10 ?_
    refine jx_aload_n hX d_S_addStep_13 0 rfl rfl ?_
    refine gf_S_22 hX d_S_addStep_14 rfl ?_
    refine jx_iload_n hX d_S_addStep_17 1 rfl rfl ?_
    obtain ⟨hg1, h⟩ := jx_gd h
    refine as_2 hX d_S_addStep_18 rfl hg1 ?_
    refine jx_aload_n hX d_S_addStep_19 0 rfl rfl ?_
    refine jx_dup hX d_S_addStep_20 rfl ?_
    refine gf_S_22 hX d_S_addStep_21 (x := (S.1 3)) rfl ?_
    refine jx_iconst (v := 1) hX d_S_addStep_24 (by decide) ?_
    refine jx_iadd hX d_S_addStep_25 ?_
    refine pf_S_22 hX d_S_addStep_26 ?_
    obtain rfl := Option.some.inj h
    exact jx_vret hX d_S_addStep_29

def k_S_addAtom_35 (S : jx_S) (x2 : Int32)  : Option (jx_S) :=
  (f_S_addStep S (4 + (S.1 4))).bind fun q42_1 =>
    some (jx_f q42_1 4 ((q42_1.1 4) + 1))

def f_S_addAtom (S : jx_S) (a2 : Int32) : Option (jx_S) :=
  if 8 ≤ (S.1 4) then
    k_S_addAtom_35 S a2
  else
    if jx_ck 0 ((S.1 4) * 4) 4 4 32 = true then
      if jx_in (S.1 4) 8 = true then
        k_S_addAtom_35 (jx_g (jx_g S 0 (va_cpy (S.2.1 5) (S.2.1 0) (0 : Int32).toNatClampNeg (((S.1 4) * 4) : Int32).toNatClampNeg (4 : Int32).toNatClampNeg)) 1 (upd (S.2.1 1) ((S.1 4)).toNatClampNeg (vp_nar .char a2))) a2
      else none
    else none
set_option maxHeartbeats 4000000 in
set_option maxRecDepth 100000 in
theorem kt_S_addAtom_35 {G : jx_G} {X : jx_C} (hX : jx_Ok G X b_S_addAtom "PlaneCells$Sentence" none 3 1) (fin : jx_S) (S : jx_S) (x2 : Int32)  (h : k_S_addAtom_35 S x2 = some fin) : jx_At G X (none, jx_w G fin) (jx_w G S) 35 [(0, .ref (jx_ad G 1)), (1, .ref (jx_ad G 11)), (2, .int x2)] [] := by
  unfold k_S_addAtom_35 at h
  refine jx_aload_n hX d_S_addAtom_35 0 rfl rfl ?_
  refine jx_iconst (v := 4) hX d_S_addAtom_36 (by decide) ?_
  refine jx_aload_n hX d_S_addAtom_37 0 rfl rfl ?_
  refine gf_S_26 hX d_S_addAtom_38 rfl ?_
  refine jx_iadd hX d_S_addAtom_41 ?_
  obtain ⟨q42_1, hq42_1, h⟩ := jx_bd h
  refine cs_S_35 hX (c_S_addStep (jx_l X) G S (4 + (S.1 4)) q42_1 hq42_1) d_S_addAtom_42 (by decide) (Nat.le_of_ble_eq_true rfl) ?_
  refine jx_aload_n hX d_S_addAtom_45 0 rfl rfl ?_
  refine jx_dup hX d_S_addAtom_46 rfl ?_
  refine gf_S_26 hX d_S_addAtom_47 rfl ?_
  refine jx_iconst (v := 1) hX d_S_addAtom_50 (by decide) ?_
  refine jx_iadd hX d_S_addAtom_51 ?_
  refine pf_S_26 hX d_S_addAtom_52 ?_
  obtain rfl := Option.some.inj h
  exact jx_vret hX d_S_addAtom_55

set_option maxHeartbeats 4000000 in
set_option maxRecDepth 100000 in
theorem c_S_addAtom (l : Launch) (G : jx_G) (S : jx_S) (a2 : Int32) (fin : jx_S) (h : f_S_addAtom S a2 = some fin) : jx_M l y_S_addAtom b_S_addAtom 3 none 1 G [.ref (jx_ad G 1), .ref (jx_ad G 11), .int a2] (jx_w G S) (none, jx_w G fin) := by
  refine jx_met (own := "PlaneCells$Sentence") (by decide) rfl (Nat.le_of_ble_eq_true rfl) (fun X hX hl => ?_)
  subst hl
  refine jx_L (L2 := [(0, .ref (jx_ad G 1)), (1, .ref (jx_ad G 11)), (2, .int a2)]) rfl ?_
  unfold f_S_addAtom at h
  refine jx_aload_n hX d_S_addAtom_0 0 rfl rfl ?_
  refine gf_S_26 hX d_S_addAtom_1 rfl ?_
  refine jx_bipush (v := 8) hX d_S_addAtom_4 (by decide) ?_
  refine jx_icmp_ge hX d_S_addAtom_6 rfl (fun hc => ?_) (fun hc => ?_)
  · have h := jx_ip hc h
    exact kt_S_addAtom_35 hX fin S a2 h
  · have h := jx_in_ hc h
    refine jx_aload_n hX d_S_addAtom_9 1 rfl rfl ?_
    refine jx_iconst (v := 0) hX d_S_addAtom_10 (by decide) ?_
    refine jx_aload_n hX d_S_addAtom_11 0 rfl rfl ?_
    refine gf_S_9 hX d_S_addAtom_12 ?_
    refine jx_aload_n hX d_S_addAtom_15 0 rfl rfl ?_
    refine gf_S_26 hX d_S_addAtom_16 rfl ?_
    refine jx_iconst (v := 4) hX d_S_addAtom_19 (by decide) ?_
    refine jx_imul hX d_S_addAtom_20 ?_
    refine jx_iconst (v := 4) hX d_S_addAtom_21 (by decide) ?_
    obtain ⟨hg, h⟩ := jx_gd h
    refine ac_5_0 hX d_S_addAtom_22 hg (Nat.le_of_ble_eq_true rfl) (by decide) ?_
    refine jx_aload_n hX d_S_addAtom_25 0 rfl rfl ?_
    refine gf_S_15 hX d_S_addAtom_26 ?_
    refine jx_aload_n hX d_S_addAtom_29 0 rfl rfl ?_
    refine gf_S_26 hX d_S_addAtom_30 (x := (S.1 4)) rfl ?_
    refine jx_iload_n hX d_S_addAtom_33 2 rfl rfl ?_
    obtain ⟨hg2, h⟩ := jx_gd h
    refine as_1 hX d_S_addAtom_34 (f := (S.2.1 1)) rfl hg2 ?_
    exact kt_S_addAtom_35 hX fin (jx_g (jx_g S 0 (va_cpy (S.2.1 5) (S.2.1 0) (0 : Int32).toNatClampNeg (((S.1 4) * 4) : Int32).toNatClampNeg (4 : Int32).toNatClampNeg)) 1 (upd (S.2.1 1) ((S.1 4)).toNatClampNeg (vp_nar .char a2))) a2 h

def b_R_takeAtom_2  (z : jx_S × Int32) : Option ((jx_S × Int32) ⊕ (jx_S)) :=
  if 4 ≤ z.2 then
    some (.inr z.1)
  else
    if jx_in z.2 4 = true then
      some (.inl ((jx_g z.1 5 (upd (z.1.2.1 5) (z.2).toNatClampNeg 0)), (z.2 + 1)))
    else none

def k_R_takeAtom_67 (S : jx_S) (x1 : Int32) (y0 : Int32) : Option (Int32 × jx_S) :=
  if y0 = 0 then
    some (0, S)
  else
    (f_R_takeSum S (-1)).bind fun q74_6 =>
      if q74_6.1 = 0 then
        some (0, q74_6.2)
      else
        (f_S_addAtom q74_6.2 x1).bind fun q91_7 =>
          some (1, q91_7)

def k_R_takeAtom_62 (S : jx_S) (x1 : Int32)  : Option (Int32 × jx_S) :=
  k_R_takeAtom_67 S x1 1

def f_R_takeAtom (S : jx_S)  : Option (Int32 × jx_S) :=
  (jx_lp (b_R_takeAtom_2 ) jx_N (S, 0)).bind fun z2_2 =>
    (f_R_takeSum z2_2 1).bind fun q22_3 =>
      if q22_3.1 = 0 then
        some (0, q22_3.2)
      else
        (f_R_peek q22_3.2).bind fun q31_4 =>
          (f_R_take q22_3.2 60).bind fun q38_5 =>
            if q38_5.1 = 0 then
              (f_R_take q38_5.2 61).bind fun q47_8 =>
                if q47_8.1 = 0 then
                  (f_R_take q47_8.2 62).bind fun q56_9 =>
                    if (if q56_9.1 = 0 then 0 else 1 : Int32) = 0 then
                      some (0, q56_9.2)
                    else
                      (f_R_takeSum q56_9.2 (-1)).bind fun q74_10 =>
                        if q74_10.1 = 0 then
                          some (0, q74_10.2)
                        else
                          (f_S_addAtom q74_10.2 q31_4).bind fun q91_11 =>
                            some (1, q91_11)
                else
                  k_R_takeAtom_62 q47_8.2 q31_4
            else
              k_R_takeAtom_62 q38_5.2 q31_4
set_option maxHeartbeats 4000000 in
set_option maxRecDepth 100000 in
theorem lt_R_takeAtom_2 {G : jx_G} {X : jx_C} (hX : jx_Ok G X b_R_takeAtom "PlaneCells$Reader" (some .boolean) 3 3) (fin : Int32 × jx_S)  {n : Nat} {z : jx_S × Int32} {r : jx_S} (hz : jx_lp (b_R_takeAtom_2 ) n z = some r) (hk : jx_At G X (some (.int fin.1), jx_w G fin.2) (jx_w G r) 20 [(0, .ref (jx_ad G 2))] []) : jx_At G X (some (.int fin.1), jx_w G fin.2) (jx_w G z.1) 2 [(0, .ref (jx_ad G 2)), (1, .int z.2)] [] := by
  refine jx_loop1 (b_R_takeAtom_2 ) (fun z => jx_At G X (some (.int fin.1), jx_w G fin.2) (jx_w G z.1) 2 [(0, .ref (jx_ad G 2)), (1, .int z.2)] []) (fun z => jx_At G X (some (.int fin.1), jx_w G fin.2) (jx_w G z) 20 [(0, .ref (jx_ad G 2))] []) ?_ n z r hz hk
  intro z o h hi hx
  unfold b_R_takeAtom_2 at h
  refine jx_iload_n hX d_R_takeAtom_2 1 rfl rfl ?_
  refine jx_iconst (v := 4) hX d_R_takeAtom_3 (by decide) ?_
  refine jx_icmp_ge hX d_R_takeAtom_4 rfl (fun hc => ?_) (fun hc => ?_)
  · have h := jx_ip hc h
    refine jx_sub (L2 := [(0, .ref (jx_ad G 2))]) [0] rfl ?_
    obtain rfl := Option.some.inj h
    exact hx _ rfl
  · have h := jx_in_ hc h
    refine jx_aload_n hX d_R_takeAtom_7 0 rfl rfl ?_
    refine gf_R_19 hX d_R_takeAtom_8 ?_
    refine jx_iload_n hX d_R_takeAtom_11 1 rfl rfl ?_
    refine jx_iconst (v := 0) hX d_R_takeAtom_12 (by decide) ?_
    obtain ⟨hg1, h⟩ := jx_gd h
    refine as_5 hX d_R_takeAtom_13 rfl hg1 ?_
    refine jx_iinc (v := (z.2 + 1)) hX d_R_takeAtom_14 1 rfl (by first | rfl | decide) (by decide) (L2 := [(1, .int (z.2 + 1)), (0, .ref (jx_ad G 2))]) rfl ?_
    refine jx_goto hX d_R_takeAtom_17 rfl ?_
    refine jx_sub (L2 := [(0, .ref (jx_ad G 2)), (1, .int (z.2 + 1))]) [1, 0] rfl ?_
    obtain rfl := Option.some.inj h
    exact hi _ rfl

set_option maxHeartbeats 4000000 in
set_option maxRecDepth 100000 in
theorem kt_R_takeAtom_67 {G : jx_G} {X : jx_C} (hX : jx_Ok G X b_R_takeAtom "PlaneCells$Reader" (some .boolean) 3 3) (fin : Int32 × jx_S) (S : jx_S) (x1 : Int32) (y0 : Int32) (h : k_R_takeAtom_67 S x1 y0 = some fin) : jx_At G X (some (.int fin.1), jx_w G fin.2) (jx_w G S) 67 [(0, .ref (jx_ad G 2)), (1, .int x1)] [.int y0] := by
  unfold k_R_takeAtom_67 at h
  refine jx_istore_n hX d_R_takeAtom_67 rfl (by decide) (L2 := [(2, .int y0), (0, .ref (jx_ad G 2)), (1, .int x1)]) rfl ?_
  refine jx_iload_n hX d_R_takeAtom_68 0 rfl rfl ?_
  refine jx_if_eq hX d_R_takeAtom_69 rfl (fun hc => ?_) (fun hc => ?_)
  · have h := jx_ip hc h
    refine jx_iconst (v := 0) hX d_R_takeAtom_80 (by decide) ?_
    obtain rfl := Option.some.inj h
    exact jx_zret hX d_R_takeAtom_81 (jx_01n jx_z0)
  · have h := jx_in_ hc h
    refine jx_aload_n hX d_R_takeAtom_72 1 rfl rfl ?_
    refine jx_iconst (v := (-1)) hX d_R_takeAtom_73 (by decide) ?_
    obtain ⟨q74_6, hq74_6, h⟩ := jx_bd h
    refine cs_R_91 hX (c_R_takeSum (jx_l X) G S (-1) q74_6 hq74_6) d_R_takeAtom_74 (by decide) (Nat.le_of_ble_eq_true rfl) ?_
    refine jx_if_ne hX d_R_takeAtom_77 rfl (fun hc => ?_) (fun hc => ?_)
    · have h := jx_in_ hc h
      refine jx_aload_n hX d_R_takeAtom_82 1 rfl rfl ?_
      refine gf_R_22 hX d_R_takeAtom_83 ?_
      refine jx_aload_n hX d_R_takeAtom_86 1 rfl rfl ?_
      refine gf_R_19 hX d_R_takeAtom_87 ?_
      refine jx_iload_n hX d_R_takeAtom_90 2 rfl rfl ?_
      obtain ⟨q91_7, hq91_7, h⟩ := jx_bd h
      refine cs_R_95 hX (c_S_addAtom (jx_l X) G q74_6.2 x1 q91_7 hq91_7) d_R_takeAtom_91 (by decide) (Nat.le_of_ble_eq_true rfl) ?_
      refine jx_iconst (v := 1) hX d_R_takeAtom_94 (by decide) ?_
      obtain rfl := Option.some.inj h
      exact jx_zret hX d_R_takeAtom_95 (jx_01n jx_z1)
    · have h := jx_ip hc h
      refine jx_iconst (v := 0) hX d_R_takeAtom_80 (by decide) ?_
      obtain rfl := Option.some.inj h
      exact jx_zret hX d_R_takeAtom_81 (jx_01n jx_z0)

set_option maxHeartbeats 4000000 in
set_option maxRecDepth 100000 in
theorem kt_R_takeAtom_62 {G : jx_G} {X : jx_C} (hX : jx_Ok G X b_R_takeAtom "PlaneCells$Reader" (some .boolean) 3 3) (fin : Int32 × jx_S) (S : jx_S) (x1 : Int32)  (h : k_R_takeAtom_62 S x1 = some fin) : jx_At G X (some (.int fin.1), jx_w G fin.2) (jx_w G S) 62 [(0, .ref (jx_ad G 2)), (1, .int x1)] [] := by
  unfold k_R_takeAtom_62 at h
  refine jx_iconst (v := 1) hX d_R_takeAtom_62 (by decide) ?_
  refine jx_goto hX d_R_takeAtom_63 rfl ?_
  exact kt_R_takeAtom_67 hX fin S x1 1 h

set_option maxHeartbeats 4000000 in
set_option maxRecDepth 100000 in
theorem c_R_takeAtom (l : Launch) (G : jx_G) (S : jx_S)  (fin : Int32 × jx_S) (h : f_R_takeAtom S = some fin) : jx_M l y_R_takeAtom b_R_takeAtom 3 (some .boolean) 3 G [.ref (jx_ad G 2)] (jx_w G S) (some (.int fin.1), jx_w G fin.2) := by
  refine jx_met (own := "PlaneCells$Reader") (by decide) rfl (Nat.le_of_ble_eq_true rfl) (fun X hX hl => ?_)
  subst hl
  refine jx_L (L2 := [(0, .ref (jx_ad G 2))]) rfl ?_
  unfold f_R_takeAtom at h
  refine jx_iconst (v := 0) hX d_R_takeAtom_0 (by decide) ?_
  refine jx_istore_n hX d_R_takeAtom_1 rfl (by decide) (L2 := [(1, .int 0), (0, .ref (jx_ad G 2))]) rfl ?_
  refine jx_sub (L2 := [(0, .ref (jx_ad G 2)), (1, .int 0)]) [1, 0] rfl ?_
  obtain ⟨z2_2, hz, h⟩ := jx_bd h
  refine lt_R_takeAtom_2 hX fin  hz ?_
  refine jx_aload_n hX d_R_takeAtom_20 0 rfl rfl ?_
  refine jx_iconst (v := 1) hX d_R_takeAtom_21 (by decide) ?_
  obtain ⟨q22_3, hq22_3, h⟩ := jx_bd h
  refine cs_R_91 hX (c_R_takeSum (jx_l X) G z2_2 1 q22_3 hq22_3) d_R_takeAtom_22 (by decide) (Nat.le_of_ble_eq_true rfl) ?_
  refine jx_if_ne hX d_R_takeAtom_25 rfl (fun hc => ?_) (fun hc => ?_)
  · have h := jx_in_ hc h
    refine jx_aload_n hX d_R_takeAtom_30 0 rfl rfl ?_
    obtain ⟨q31_4, hq31_4, h⟩ := jx_bd h
    refine cs_R_67 hX (c_R_peek (jx_l X) G q22_3.2 q31_4 hq31_4) d_R_takeAtom_31 (by decide) (Nat.le_of_ble_eq_true rfl) ?_
    refine jx_istore_n hX d_R_takeAtom_34 rfl (by decide) (L2 := [(1, .int q31_4), (0, .ref (jx_ad G 2))]) rfl ?_
    refine jx_aload_n hX d_R_takeAtom_35 1 rfl rfl ?_
    refine jx_bipush (v := 60) hX d_R_takeAtom_36 (by decide) ?_
    obtain ⟨q38_5, hq38_5, h⟩ := jx_bd h
    refine cs_R_78 hX (c_R_take (jx_l X) G q22_3.2 60 q38_5 hq38_5) d_R_takeAtom_38 (by decide) (Nat.le_of_ble_eq_true rfl) ?_
    refine jx_if_ne hX d_R_takeAtom_41 rfl (fun hc => ?_) (fun hc => ?_)
    · have h := jx_in_ hc h
      refine jx_sub (L2 := [(0, .ref (jx_ad G 2)), (1, .int q31_4)]) [1, 0] rfl ?_
      exact kt_R_takeAtom_62 hX fin q38_5.2 q31_4 h
    · have h := jx_ip hc h
      refine jx_aload_n hX d_R_takeAtom_44 1 rfl rfl ?_
      refine jx_bipush (v := 61) hX d_R_takeAtom_45 (by decide) ?_
      obtain ⟨q47_8, hq47_8, h⟩ := jx_bd h
      refine cs_R_78 hX (c_R_take (jx_l X) G q38_5.2 61 q47_8 hq47_8) d_R_takeAtom_47 (by decide) (Nat.le_of_ble_eq_true rfl) ?_
      refine jx_if_ne hX d_R_takeAtom_50 rfl (fun hc => ?_) (fun hc => ?_)
      · have h := jx_in_ hc h
        refine jx_sub (L2 := [(0, .ref (jx_ad G 2)), (1, .int q31_4)]) [1, 0] rfl ?_
        exact kt_R_takeAtom_62 hX fin q47_8.2 q31_4 h
      · have h := jx_ip hc h
        refine jx_aload_n hX d_R_takeAtom_53 1 rfl rfl ?_
        refine jx_bipush (v := 62) hX d_R_takeAtom_54 (by decide) ?_
        obtain ⟨q56_9, hq56_9, h⟩ := jx_bd h
        refine cs_R_78 hX (c_R_take (jx_l X) G q47_8.2 62 q56_9 hq56_9) d_R_takeAtom_56 (by decide) (Nat.le_of_ble_eq_true rfl) ?_
        have hj : jx_At G X (some (.int fin.1), jx_w G fin.2) (jx_w G q56_9.2) 67 [(1, .int q31_4), (0, .ref (jx_ad G 2))] [.int (if q56_9.1 = 0 then 0 else 1 : Int32)] := by
          refine jx_istore_n hX d_R_takeAtom_67 rfl (by decide) (L2 := [(2, .int (if q56_9.1 = 0 then 0 else 1 : Int32)), (1, .int q31_4), (0, .ref (jx_ad G 2))]) rfl ?_
          refine jx_iload_n hX d_R_takeAtom_68 0 rfl rfl ?_
          refine jx_if_eq hX d_R_takeAtom_69 rfl (fun hc => ?_) (fun hc => ?_)
          · have h := jx_ip hc h
            refine jx_iconst (v := 0) hX d_R_takeAtom_80 (by decide) ?_
            obtain rfl := Option.some.inj h
            exact jx_zret hX d_R_takeAtom_81 (jx_01n jx_z0)
          · have h := jx_in_ hc h
            refine jx_aload_n hX d_R_takeAtom_72 2 rfl rfl ?_
            refine jx_iconst (v := (-1)) hX d_R_takeAtom_73 (by decide) ?_
            obtain ⟨q74_10, hq74_10, h⟩ := jx_bd h
            refine cs_R_91 hX (c_R_takeSum (jx_l X) G q56_9.2 (-1) q74_10 hq74_10) d_R_takeAtom_74 (by decide) (Nat.le_of_ble_eq_true rfl) ?_
            refine jx_if_ne hX d_R_takeAtom_77 rfl (fun hc => ?_) (fun hc => ?_)
            · have h := jx_in_ hc h
              refine jx_aload_n hX d_R_takeAtom_82 2 rfl rfl ?_
              refine gf_R_22 hX d_R_takeAtom_83 ?_
              refine jx_aload_n hX d_R_takeAtom_86 2 rfl rfl ?_
              refine gf_R_19 hX d_R_takeAtom_87 ?_
              refine jx_iload_n hX d_R_takeAtom_90 1 rfl rfl ?_
              obtain ⟨q91_11, hq91_11, h⟩ := jx_bd h
              refine cs_R_95 hX (c_S_addAtom (jx_l X) G q74_10.2 q31_4 q91_11 hq91_11) d_R_takeAtom_91 (by decide) (Nat.le_of_ble_eq_true rfl) ?_
              refine jx_iconst (v := 1) hX d_R_takeAtom_94 (by decide) ?_
              obtain rfl := Option.some.inj h
              exact jx_zret hX d_R_takeAtom_95 (jx_01n jx_z1)
            · have h := jx_ip hc h
              refine jx_iconst (v := 0) hX d_R_takeAtom_80 (by decide) ?_
              obtain rfl := Option.some.inj h
              exact jx_zret hX d_R_takeAtom_81 (jx_01n jx_z0)
        refine jx_if_eq hX d_R_takeAtom_59 rfl (fun hc12 => ?_) (fun hc12 => ?_)
        · refine jx_iconst (v := 0) hX d_R_takeAtom_66 (by decide) ?_
          have hj2 := hj
          rw [if_pos hc12] at hj2
          exact hj2
        · refine jx_iconst (v := 1) hX d_R_takeAtom_62 (by decide) ?_
          refine jx_goto hX d_R_takeAtom_63 rfl ?_
          have hj2 := hj
          rw [if_neg hc12] at hj2
          exact hj2
  · have h := jx_ip hc h
    refine jx_iconst (v := 0) hX d_R_takeAtom_28 (by decide) ?_
    obtain rfl := Option.some.inj h
    exact jx_zret hX d_R_takeAtom_29 (jx_01n jx_z0)

def b_R_release_0 (x1 : Int32) (z : jx_S) : Option ((jx_S) ⊕ (jx_S)) :=
  if (z.1 10) ≤ 0 then
    some (.inr z)
  else
    if jx_in ((z.1 10) - 1) 80 = true then
      if ((z.2.1 4) (((z.1 10) - 1)).toNatClampNeg) < x1 then
        some (.inr z)
      else
        (f_S_addStep z ((z.2.1 4) (((z.1 10) - 1)).toNatClampNeg)).bind fun q37_2 =>
          some (.inl (jx_f q37_2 10 ((q37_2.1 10) - 1)))
    else none

def f_R_release (S : jx_S) (a1 : Int32) : Option (jx_S) :=
  (jx_lp (b_R_release_0 a1) jx_N S).bind fun z0_3 =>
    some z0_3
set_option maxHeartbeats 4000000 in
set_option maxRecDepth 100000 in
theorem lt_R_release_0 {G : jx_G} {X : jx_C} (hX : jx_Ok G X b_R_release "PlaneCells$Reader" none 2 1) (fin : jx_S) (x1 : Int32) {n : Nat} {z : jx_S} {r : jx_S} (hz : jx_lp (b_R_release_0 x1) n z = some r) (hk : jx_At G X (none, jx_w G fin) (jx_w G r) 53 [(0, .ref (jx_ad G 2)), (1, .int x1)] []) : jx_At G X (none, jx_w G fin) (jx_w G z) 0 [(0, .ref (jx_ad G 2)), (1, .int x1)] [] := by
  refine jx_loop1 (b_R_release_0 x1) (fun z => jx_At G X (none, jx_w G fin) (jx_w G z) 0 [(0, .ref (jx_ad G 2)), (1, .int x1)] []) (fun z => jx_At G X (none, jx_w G fin) (jx_w G z) 53 [(0, .ref (jx_ad G 2)), (1, .int x1)] []) ?_ n z r hz hk
  intro z o h hi hx
  unfold b_R_release_0 at h
  refine jx_aload_n hX d_R_release_0 0 rfl rfl ?_
  refine gf_R_36 hX d_R_release_1 rfl ?_
  refine jx_if_le hX d_R_release_4 rfl (fun hc => ?_) (fun hc => ?_)
  · have h := jx_ip hc h
    obtain rfl := Option.some.inj h
    exact hx _ rfl
  · have h := jx_in_ hc h
    refine jx_aload_n hX d_R_release_7 0 rfl rfl ?_
    refine gf_R_15 hX d_R_release_8 ?_
    refine jx_aload_n hX d_R_release_11 0 rfl rfl ?_
    refine gf_R_36 hX d_R_release_12 rfl ?_
    refine jx_iconst (v := 1) hX d_R_release_15 (by decide) ?_
    refine jx_isub hX d_R_release_16 ?_
    obtain ⟨hg1, h⟩ := jx_gd h
    refine al_4 hX d_R_release_17 rfl hg1 ?_
    refine jx_iload_n hX d_R_release_18 1 rfl rfl ?_
    refine jx_icmp_lt hX d_R_release_19 rfl (fun hc => ?_) (fun hc => ?_)
    · have h := jx_ip hc h
      obtain rfl := Option.some.inj h
      exact hx _ rfl
    · have h := jx_in_ hc h
      refine jx_aload_n hX d_R_release_22 0 rfl rfl ?_
      refine gf_R_22 hX d_R_release_23 ?_
      refine jx_aload_n hX d_R_release_26 0 rfl rfl ?_
      refine gf_R_15 hX d_R_release_27 ?_
      refine jx_aload_n hX d_R_release_30 0 rfl rfl ?_
      refine gf_R_36 hX d_R_release_31 rfl ?_
      refine jx_iconst (v := 1) hX d_R_release_34 (by decide) ?_
      refine jx_isub hX d_R_release_35 ?_
      refine al_4 hX d_R_release_36 rfl hg1 ?_
      obtain ⟨q37_2, hq37_2, h⟩ := jx_bd h
      refine cs_R_88 hX (c_S_addStep (jx_l X) G z ((z.2.1 4) (((z.1 10) - 1)).toNatClampNeg) q37_2 hq37_2) d_R_release_37 (by decide) (Nat.le_of_ble_eq_true rfl) ?_
      refine jx_aload_n hX d_R_release_40 0 rfl rfl ?_
      refine jx_dup hX d_R_release_41 rfl ?_
      refine gf_R_36 hX d_R_release_42 rfl ?_
      refine jx_iconst (v := 1) hX d_R_release_45 (by decide) ?_
      refine jx_isub hX d_R_release_46 ?_
      refine pf_R_36 hX d_R_release_47 ?_
      refine jx_goto hX d_R_release_50 rfl ?_
      obtain rfl := Option.some.inj h
      exact hi _ rfl

set_option maxHeartbeats 4000000 in
set_option maxRecDepth 100000 in
theorem c_R_release (l : Launch) (G : jx_G) (S : jx_S) (a1 : Int32) (fin : jx_S) (h : f_R_release S a1 = some fin) : jx_M l y_R_release b_R_release 2 none 1 G [.ref (jx_ad G 2), .int a1] (jx_w G S) (none, jx_w G fin) := by
  refine jx_met (own := "PlaneCells$Reader") (by decide) rfl (Nat.le_of_ble_eq_true rfl) (fun X hX hl => ?_)
  subst hl
  refine jx_L (L2 := [(0, .ref (jx_ad G 2)), (1, .int a1)]) rfl ?_
  unfold f_R_release at h
  obtain ⟨z0_3, hz, h⟩ := jx_bd h
  refine lt_R_release_0 hX fin a1 hz ?_
  obtain rfl := Option.some.inj h
  exact jx_vret hX d_R_release_53

def b_R_takeClosings_0  (z : jx_S) : Option ((jx_S) ⊕ (jx_S)) :=
  if (z.1 11) ≤ 0 then
    some (.inr z)
  else
    (f_R_peek z).bind fun q8_1 =>
      if q8_1 = 41 then
        (f_R_release z 1).bind fun q18_2 =>
          some (.inl (jx_f (jx_f (jx_f q18_2 10 ((q18_2.1 10) - 1)) 11 ((q18_2.1 11) - 1)) 9 ((q18_2.1 9) + 1)))
      else
        some (.inr z)

def f_R_takeClosings (S : jx_S)  : Option (jx_S) :=
  (jx_lp (b_R_takeClosings_0 ) jx_N S).bind fun z0_3 =>
    some z0_3
set_option maxHeartbeats 4000000 in
set_option maxRecDepth 100000 in
theorem lt_R_takeClosings_0 {G : jx_G} {X : jx_C} (hX : jx_Ok G X b_R_takeClosings "PlaneCells$Reader" none 1 2) (fin : jx_S)  {n : Nat} {z : jx_S} {r : jx_S} (hz : jx_lp (b_R_takeClosings_0 ) n z = some r) (hk : jx_At G X (none, jx_w G fin) (jx_w G r) 54 [(0, .ref (jx_ad G 2))] []) : jx_At G X (none, jx_w G fin) (jx_w G z) 0 [(0, .ref (jx_ad G 2))] [] := by
  refine jx_loop1 (b_R_takeClosings_0 ) (fun z => jx_At G X (none, jx_w G fin) (jx_w G z) 0 [(0, .ref (jx_ad G 2))] []) (fun z => jx_At G X (none, jx_w G fin) (jx_w G z) 54 [(0, .ref (jx_ad G 2))] []) ?_ n z r hz hk
  intro z o h hi hx
  unfold b_R_takeClosings_0 at h
  refine jx_aload_n hX d_R_takeClosings_0 0 rfl rfl ?_
  refine gf_R_39 hX d_R_takeClosings_1 rfl ?_
  refine jx_if_le hX d_R_takeClosings_4 rfl (fun hc => ?_) (fun hc => ?_)
  · have h := jx_ip hc h
    obtain rfl := Option.some.inj h
    exact hx _ rfl
  · have h := jx_in_ hc h
    refine jx_aload_n hX d_R_takeClosings_7 0 rfl rfl ?_
    obtain ⟨q8_1, hq8_1, h⟩ := jx_bd h
    refine cs_R_67 hX (c_R_peek (jx_l X) G z q8_1 hq8_1) d_R_takeClosings_8 (by decide) (Nat.le_of_ble_eq_true rfl) ?_
    refine jx_bipush (v := 41) hX d_R_takeClosings_11 (by decide) ?_
    refine jx_icmp_ne hX d_R_takeClosings_13 rfl (fun hc => ?_) (fun hc => ?_)
    · have h := jx_in_ hc h
      obtain rfl := Option.some.inj h
      exact hx _ rfl
    · have h := jx_ip hc h
      refine jx_aload_n hX d_R_takeClosings_16 0 rfl rfl ?_
      refine jx_iconst (v := 1) hX d_R_takeClosings_17 (by decide) ?_
      obtain ⟨q18_2, hq18_2, h⟩ := jx_bd h
      refine cs_R_63 hX (c_R_release (jx_l X) G z 1 q18_2 hq18_2) d_R_takeClosings_18 (by decide) (Nat.le_of_ble_eq_true rfl) ?_
      refine jx_aload_n hX d_R_takeClosings_21 0 rfl rfl ?_
      refine jx_dup hX d_R_takeClosings_22 rfl ?_
      refine gf_R_36 hX d_R_takeClosings_23 rfl ?_
      refine jx_iconst (v := 1) hX d_R_takeClosings_26 (by decide) ?_
      refine jx_isub hX d_R_takeClosings_27 ?_
      refine pf_R_36 hX d_R_takeClosings_28 ?_
      refine jx_aload_n hX d_R_takeClosings_31 0 rfl rfl ?_
      refine jx_dup hX d_R_takeClosings_32 rfl ?_
      refine gf_R_39 hX d_R_takeClosings_33 (x := (q18_2.1 11)) rfl ?_
      refine jx_iconst (v := 1) hX d_R_takeClosings_36 (by decide) ?_
      refine jx_isub hX d_R_takeClosings_37 ?_
      refine pf_R_39 hX d_R_takeClosings_38 ?_
      refine jx_aload_n hX d_R_takeClosings_41 0 rfl rfl ?_
      refine jx_dup hX d_R_takeClosings_42 rfl ?_
      refine gf_R_33 hX d_R_takeClosings_43 (x := (q18_2.1 9)) rfl ?_
      refine jx_iconst (v := 1) hX d_R_takeClosings_46 (by decide) ?_
      refine jx_iadd hX d_R_takeClosings_47 ?_
      refine pf_R_33 hX d_R_takeClosings_48 ?_
      refine jx_goto hX d_R_takeClosings_51 rfl ?_
      obtain rfl := Option.some.inj h
      exact hi _ rfl

set_option maxHeartbeats 4000000 in
set_option maxRecDepth 100000 in
theorem c_R_takeClosings (l : Launch) (G : jx_G) (S : jx_S)  (fin : jx_S) (h : f_R_takeClosings S = some fin) : jx_M l y_R_takeClosings b_R_takeClosings 1 none 2 G [.ref (jx_ad G 2)] (jx_w G S) (none, jx_w G fin) := by
  refine jx_met (own := "PlaneCells$Reader") (by decide) rfl (Nat.le_of_ble_eq_true rfl) (fun X hX hl => ?_)
  subst hl
  refine jx_L (L2 := [(0, .ref (jx_ad G 2))]) rfl ?_
  unfold f_R_takeClosings at h
  obtain ⟨z0_3, hz, h⟩ := jx_bd h
  refine lt_R_takeClosings_0 hX fin  hz ?_
  obtain rfl := Option.some.inj h
  exact jx_vret hX d_R_takeClosings_54
end
section
def f_R_takeJoint (S : jx_S)  : Option (Int32 × jx_S) :=
  (f_R_peek S).bind fun q1_1 =>
    (f_R_take S 38).bind fun q18_2 =>
      if q18_2.1 = 0 then
        (f_R_take q18_2.2 124).bind fun q27_5 =>
          if q27_5.1 = 0 then
            some (0, q27_5.2)
          else
            (f_R_release q27_5.2 (if q1_1 = 38 then 2 else 1 : Int32)).bind fun q37_6 =>
              (f_R_hold q37_6 (if q1_1 = 38 then 2 else 1 : Int32)).bind fun q42_7 =>
                some (1, q42_7)
      else
        (f_R_release q18_2.2 (if q1_1 = 38 then 2 else 1 : Int32)).bind fun q37_3 =>
          (f_R_hold q37_3 (if q1_1 = 38 then 2 else 1 : Int32)).bind fun q42_4 =>
            some (1, q42_4)
set_option maxHeartbeats 4000000 in
set_option maxRecDepth 100000 in
theorem c_R_takeJoint (l : Launch) (G : jx_G) (S : jx_S)  (fin : Int32 × jx_S) (h : f_R_takeJoint S = some fin) : jx_M l y_R_takeJoint b_R_takeJoint 2 (some .boolean) 2 G [.ref (jx_ad G 2)] (jx_w G S) (some (.int fin.1), jx_w G fin.2) := by
  refine jx_met (own := "PlaneCells$Reader") (by decide) rfl (Nat.le_of_ble_eq_true rfl) (fun X hX hl => ?_)
  subst hl
  refine jx_L (L2 := [(0, .ref (jx_ad G 2))]) rfl ?_
  unfold f_R_takeJoint at h
  refine jx_aload_n hX d_R_takeJoint_0 0 rfl rfl ?_
  obtain ⟨q1_1, hq1_1, h⟩ := jx_bd h
  refine cs_R_67 hX (c_R_peek (jx_l X) G S q1_1 hq1_1) d_R_takeJoint_1 (by decide) (Nat.le_of_ble_eq_true rfl) ?_
  refine jx_bipush (v := 38) hX d_R_takeJoint_4 (by decide) ?_
  have hj : jx_At G X (some (.int fin.1), jx_w G fin.2) (jx_w G S) 14 [(0, .ref (jx_ad G 2))] [.int (if q1_1 = 38 then 2 else 1 : Int32)] := by
    refine jx_istore_n hX d_R_takeJoint_14 rfl (by decide) (L2 := [(1, .int (if q1_1 = 38 then 2 else 1 : Int32)), (0, .ref (jx_ad G 2))]) rfl ?_
    refine jx_aload_n hX d_R_takeJoint_15 1 rfl rfl ?_
    refine jx_bipush (v := 38) hX d_R_takeJoint_16 (by decide) ?_
    obtain ⟨q18_2, hq18_2, h⟩ := jx_bd h
    refine cs_R_78 hX (c_R_take (jx_l X) G S 38 q18_2 hq18_2) d_R_takeJoint_18 (by decide) (Nat.le_of_ble_eq_true rfl) ?_
    refine jx_if_ne hX d_R_takeJoint_21 rfl (fun hc => ?_) (fun hc => ?_)
    · have h := jx_in_ hc h
      refine jx_aload_n hX d_R_takeJoint_35 1 rfl rfl ?_
      refine jx_iload_n hX d_R_takeJoint_36 0 rfl rfl ?_
      obtain ⟨q37_3, hq37_3, h⟩ := jx_bd h
      refine cs_R_63 hX (c_R_release (jx_l X) G q18_2.2 (if q1_1 = 38 then 2 else 1 : Int32) q37_3 hq37_3) d_R_takeJoint_37 (by decide) (Nat.le_of_ble_eq_true rfl) ?_
      refine jx_aload_n hX d_R_takeJoint_40 1 rfl rfl ?_
      refine jx_iload_n hX d_R_takeJoint_41 0 rfl rfl ?_
      obtain ⟨q42_4, hq42_4, h⟩ := jx_bd h
      refine cs_R_85 hX (c_R_hold (jx_l X) G q37_3 (if q1_1 = 38 then 2 else 1 : Int32) q42_4 hq42_4) d_R_takeJoint_42 (by decide) (Nat.le_of_ble_eq_true rfl) ?_
      refine jx_iconst (v := 1) hX d_R_takeJoint_45 (by decide) ?_
      obtain rfl := Option.some.inj h
      exact jx_zret hX d_R_takeJoint_46 (jx_01n jx_z1)
    · have h := jx_ip hc h
      refine jx_aload_n hX d_R_takeJoint_24 1 rfl rfl ?_
      refine jx_bipush (v := 124) hX d_R_takeJoint_25 (by decide) ?_
      obtain ⟨q27_5, hq27_5, h⟩ := jx_bd h
      refine cs_R_78 hX (c_R_take (jx_l X) G q18_2.2 124 q27_5 hq27_5) d_R_takeJoint_27 (by decide) (Nat.le_of_ble_eq_true rfl) ?_
      refine jx_if_ne hX d_R_takeJoint_30 rfl (fun hc => ?_) (fun hc => ?_)
      · have h := jx_in_ hc h
        refine jx_aload_n hX d_R_takeJoint_35 1 rfl rfl ?_
        refine jx_iload_n hX d_R_takeJoint_36 0 rfl rfl ?_
        obtain ⟨q37_6, hq37_6, h⟩ := jx_bd h
        refine cs_R_63 hX (c_R_release (jx_l X) G q27_5.2 (if q1_1 = 38 then 2 else 1 : Int32) q37_6 hq37_6) d_R_takeJoint_37 (by decide) (Nat.le_of_ble_eq_true rfl) ?_
        refine jx_aload_n hX d_R_takeJoint_40 1 rfl rfl ?_
        refine jx_iload_n hX d_R_takeJoint_41 0 rfl rfl ?_
        obtain ⟨q42_7, hq42_7, h⟩ := jx_bd h
        refine cs_R_85 hX (c_R_hold (jx_l X) G q37_6 (if q1_1 = 38 then 2 else 1 : Int32) q42_7 hq42_7) d_R_takeJoint_42 (by decide) (Nat.le_of_ble_eq_true rfl) ?_
        refine jx_iconst (v := 1) hX d_R_takeJoint_45 (by decide) ?_
        obtain rfl := Option.some.inj h
        exact jx_zret hX d_R_takeJoint_46 (jx_01n jx_z1)
      · have h := jx_ip hc h
        refine jx_iconst (v := 0) hX d_R_takeJoint_33 (by decide) ?_
        obtain rfl := Option.some.inj h
        exact jx_zret hX d_R_takeJoint_34 (jx_01n jx_z0)
  refine jx_icmp_ne hX d_R_takeJoint_6 rfl (fun hc8 => ?_) (fun hc8 => ?_)
  · refine jx_iconst (v := 1) hX d_R_takeJoint_13 (by decide) ?_
    have hj2 := hj
    rw [if_neg hc8] at hj2
    exact hj2
  · refine jx_iconst (v := 2) hX d_R_takeJoint_9 (by decide) ?_
    refine jx_goto hX d_R_takeJoint_10 rfl ?_
    have hj2 := hj
    rw [if_pos hc8] at hj2
    exact hj2

def b_R_readSentence_33  (z : jx_S × Int32) : Option ((jx_S × Int32) ⊕ ((jx_S) ⊕ (Int32 × jx_S))) :=
  if (z.1.1 8) ≤ z.2 then
    some (.inr (.inl z.1))
  else
    (f_R_takeOpenings z.1).bind fun q42_3 =>
      (f_R_takeAtom q42_3).bind fun q46_4 =>
        if q46_4.1 = 0 then
          some (.inr (.inr (0, q46_4.2)))
        else
          (f_R_takeClosings q46_4.2).bind fun q55_5 =>
            (f_R_takeJoint q55_5).bind fun q59_6 =>
              if q59_6.1 = 0 then
                (f_R_release q59_6.2 1).bind fun q67_7 =>
                  some (.inr (.inr ((if (q67_7.1 9) = (q67_7.1 8) then (if (q67_7.1 11) = 0 then 1 else 0 : Int32) else 0 : Int32), q67_7)))
              else
                some (.inl (q59_6.2, (z.2 + 1)))

def f_R_readSentence (S : jx_S)  : Option (Int32 × jx_S) :=
  (f_S_clear (jx_f (jx_f (jx_f S 9 0) 10 0) 11 0)).bind fun q19_1 =>
    (f_R_takeHead q19_1).bind fun q23_2 =>
      if q23_2.1 = 0 then
        some (0, q23_2.2)
      else
        (jx_lp (b_R_readSentence_33 ) jx_N (q23_2.2, 0)).bind (Sum.elim (fun z33_10 =>
          some (0, z33_10))
          (fun y => some y))
set_option maxHeartbeats 4000000 in
set_option maxRecDepth 100000 in
theorem lt_R_readSentence_33 {G : jx_G} {X : jx_C} (hX : jx_Ok G X b_R_readSentence "PlaneCells$Reader" (some .boolean) 2 4) (fin : Int32 × jx_S)  {n : Nat} {z : jx_S × Int32} {r : (jx_S) ⊕ (Int32 × jx_S)} (hz : jx_lp (b_R_readSentence_33 ) n z = some r) (hk : ∀ u, r = .inl u → jx_At G X (some (.int fin.1), jx_w G fin.2) (jx_w G u) 100 [(0, .ref (jx_ad G 2))] []) (hy : ∀ y, r = .inr y → y = fin) : jx_At G X (some (.int fin.1), jx_w G fin.2) (jx_w G z.1) 33 [(0, .ref (jx_ad G 2)), (1, .int z.2)] [] := by
  refine jx_loop2 (b_R_readSentence_33 ) (fun z => jx_At G X (some (.int fin.1), jx_w G fin.2) (jx_w G z.1) 33 [(0, .ref (jx_ad G 2)), (1, .int z.2)] []) (fun z => jx_At G X (some (.int fin.1), jx_w G fin.2) (jx_w G z) 100 [(0, .ref (jx_ad G 2))] []) fin ?_ n z r hz hk hy
  intro z o h hi hx hr
  unfold b_R_readSentence_33 at h
  refine jx_iload_n hX d_R_readSentence_33 1 rfl rfl ?_
  refine jx_aload_n hX d_R_readSentence_34 0 rfl rfl ?_
  refine gf_R_30 hX d_R_readSentence_35 rfl ?_
  refine jx_icmp_ge hX d_R_readSentence_38 rfl (fun hc => ?_) (fun hc => ?_)
  · have h := jx_ip hc h
    refine jx_sub (L2 := [(0, .ref (jx_ad G 2))]) [0] rfl ?_
    obtain rfl := Option.some.inj h
    exact hx _ rfl
  · have h := jx_in_ hc h
    refine jx_aload_n hX d_R_readSentence_41 0 rfl rfl ?_
    obtain ⟨q42_3, hq42_3, h⟩ := jx_bd h
    refine cs_R_51 hX (c_R_takeOpenings (jx_l X) G z.1 q42_3 hq42_3) d_R_readSentence_42 (by decide) (Nat.le_of_ble_eq_true rfl) ?_
    refine jx_aload_n hX d_R_readSentence_45 0 rfl rfl ?_
    obtain ⟨q46_4, hq46_4, h⟩ := jx_bd h
    refine cs_R_54 hX (c_R_takeAtom (jx_l X) G q42_3 q46_4 hq46_4) d_R_readSentence_46 (by decide) (Nat.le_of_ble_eq_true rfl) ?_
    refine jx_if_ne hX d_R_readSentence_49 rfl (fun hc => ?_) (fun hc => ?_)
    · have h := jx_in_ hc h
      refine jx_aload_n hX d_R_readSentence_54 0 rfl rfl ?_
      obtain ⟨q55_5, hq55_5, h⟩ := jx_bd h
      refine cs_R_57 hX (c_R_takeClosings (jx_l X) G q46_4.2 q55_5 hq55_5) d_R_readSentence_55 (by decide) (Nat.le_of_ble_eq_true rfl) ?_
      refine jx_aload_n hX d_R_readSentence_58 0 rfl rfl ?_
      obtain ⟨q59_6, hq59_6, h⟩ := jx_bd h
      refine cs_R_60 hX (c_R_takeJoint (jx_l X) G q55_5 q59_6 hq59_6) d_R_readSentence_59 (by decide) (Nat.le_of_ble_eq_true rfl) ?_
      refine jx_if_ne hX d_R_readSentence_62 rfl (fun hc => ?_) (fun hc => ?_)
      · have h := jx_in_ hc h
        refine jx_iinc (v := (z.2 + 1)) hX d_R_readSentence_94 1 rfl (by first | rfl | decide) (by decide) (L2 := [(1, .int (z.2 + 1)), (0, .ref (jx_ad G 2))]) rfl ?_
        refine jx_goto hX d_R_readSentence_97 rfl ?_
        refine jx_sub (L2 := [(0, .ref (jx_ad G 2)), (1, .int (z.2 + 1))]) [1, 0] rfl ?_
        obtain rfl := Option.some.inj h
        exact hi _ rfl
      · have h := jx_ip hc h
        refine jx_aload_n hX d_R_readSentence_65 0 rfl rfl ?_
        refine jx_iconst (v := 1) hX d_R_readSentence_66 (by decide) ?_
        obtain ⟨q67_7, hq67_7, h⟩ := jx_bd h
        refine cs_R_63 hX (c_R_release (jx_l X) G q59_6.2 1 q67_7 hq67_7) d_R_readSentence_67 (by decide) (Nat.le_of_ble_eq_true rfl) ?_
        refine jx_aload_n hX d_R_readSentence_70 0 rfl rfl ?_
        refine gf_R_33 hX d_R_readSentence_71 rfl ?_
        refine jx_aload_n hX d_R_readSentence_74 0 rfl rfl ?_
        refine gf_R_30 hX d_R_readSentence_75 rfl ?_
        have hj : jx_At G X (some (.int fin.1), jx_w G fin.2) (jx_w G q67_7) 93 [(0, .ref (jx_ad G 2)), (1, .int z.2)] [.int (if (q67_7.1 9) = (q67_7.1 8) then (if (q67_7.1 11) = 0 then 1 else 0 : Int32) else 0 : Int32)] := by
          obtain rfl := Option.some.inj h
          obtain rfl := hr _ rfl
          exact jx_zret hX d_R_readSentence_93 (jx_01n (jx_zi (jx_zi jx_z1 jx_z0) jx_z0))
        refine jx_icmp_ne hX d_R_readSentence_78 rfl (fun hc8 => ?_) (fun hc8 => ?_)
        · refine jx_iconst (v := 0) hX d_R_readSentence_92 (by decide) ?_
          have hj2 := hj
          rw [if_neg hc8] at hj2
          exact hj2
        · refine jx_aload_n hX d_R_readSentence_81 0 rfl rfl ?_
          refine gf_R_39 hX d_R_readSentence_82 rfl ?_
          refine jx_if_ne hX d_R_readSentence_85 rfl (fun hc9 => ?_) (fun hc9 => ?_)
          · refine jx_iconst (v := 0) hX d_R_readSentence_92 (by decide) ?_
            have hj2 := hj
            rw [if_pos hc8, if_neg hc9] at hj2
            exact hj2
          · refine jx_iconst (v := 1) hX d_R_readSentence_88 (by decide) ?_
            refine jx_goto hX d_R_readSentence_89 rfl ?_
            have hj2 := hj
            rw [if_pos hc8, if_pos hc9] at hj2
            exact hj2
    · have h := jx_ip hc h
      refine jx_iconst (v := 0) hX d_R_readSentence_52 (by decide) ?_
      obtain rfl := Option.some.inj h
      obtain rfl := hr _ rfl
      exact jx_zret hX d_R_readSentence_53 (jx_01n jx_z0)

set_option maxHeartbeats 4000000 in
set_option maxRecDepth 100000 in
theorem c_R_readSentence (l : Launch) (G : jx_G) (S : jx_S)  (fin : Int32 × jx_S) (h : f_R_readSentence S = some fin) : jx_M l y_R_readSentence b_R_readSentence 2 (some .boolean) 4 G [.ref (jx_ad G 2)] (jx_w G S) (some (.int fin.1), jx_w G fin.2) := by
  refine jx_met (own := "PlaneCells$Reader") (by decide) rfl (Nat.le_of_ble_eq_true rfl) (fun X hX hl => ?_)
  subst hl
  refine jx_L (L2 := [(0, .ref (jx_ad G 2))]) rfl ?_
  unfold f_R_readSentence at h
  refine jx_aload_n hX d_R_readSentence_0 0 rfl rfl ?_
  refine jx_iconst (v := 0) hX d_R_readSentence_1 (by decide) ?_
  refine pf_R_33 hX d_R_readSentence_2 ?_
  refine jx_aload_n hX d_R_readSentence_5 0 rfl rfl ?_
  refine jx_iconst (v := 0) hX d_R_readSentence_6 (by decide) ?_
  refine pf_R_36 hX d_R_readSentence_7 ?_
  refine jx_aload_n hX d_R_readSentence_10 0 rfl rfl ?_
  refine jx_iconst (v := 0) hX d_R_readSentence_11 (by decide) ?_
  refine pf_R_39 hX d_R_readSentence_12 ?_
  refine jx_aload_n hX d_R_readSentence_15 0 rfl rfl ?_
  refine gf_R_22 hX d_R_readSentence_16 ?_
  obtain ⟨q19_1, hq19_1, h⟩ := jx_bd h
  refine cs_R_42 hX (c_S_clear (jx_l X) G (jx_f (jx_f (jx_f S 9 0) 10 0) 11 0) q19_1 hq19_1) d_R_readSentence_19 (by decide) (Nat.le_of_ble_eq_true rfl) ?_
  refine jx_aload_n hX d_R_readSentence_22 0 rfl rfl ?_
  obtain ⟨q23_2, hq23_2, h⟩ := jx_bd h
  refine cs_R_47 hX (c_R_takeHead (jx_l X) G q19_1 q23_2 hq23_2) d_R_readSentence_23 (by decide) (Nat.le_of_ble_eq_true rfl) ?_
  refine jx_if_ne hX d_R_readSentence_26 rfl (fun hc => ?_) (fun hc => ?_)
  · have h := jx_in_ hc h
    refine jx_iconst (v := 0) hX d_R_readSentence_31 (by decide) ?_
    refine jx_istore_n hX d_R_readSentence_32 rfl (by decide) (L2 := [(1, .int 0), (0, .ref (jx_ad G 2))]) rfl ?_
    refine jx_sub (L2 := [(0, .ref (jx_ad G 2)), (1, .int 0)]) [1, 0] rfl ?_
    obtain ⟨r, hz, h⟩ := jx_bd h
    refine lt_R_readSentence_33 hX fin  hz (fun z33_10 e => ?_) (fun y e => ?_)
    · subst e
      have h := jx_el h
      refine jx_iconst (v := 0) hX d_R_readSentence_100 (by decide) ?_
      obtain rfl := Option.some.inj h
      exact jx_zret hX d_R_readSentence_101 (jx_01n jx_z0)
    · subst e
      have h := jx_er h
      exact Option.some.inj h
  · have h := jx_ip hc h
    refine jx_iconst (v := 0) hX d_R_readSentence_29 (by decide) ?_
    obtain rfl := Option.some.inj h
    exact jx_zret hX d_R_readSentence_30 (jx_01n jx_z0)

def b_S_fits_13 (S : jx_S)  (z : Int32) : Option ((Int32) ⊕ ((Unit) ⊕ Int32)) :=
  if ((S.1 4) * 4) ≤ z then
    some (.inr (.inl ()))
  else
    if jx_in z 32 = true then
      if ((S.2.1 0) (z).toNatClampNeg) < (-5) then
        some (.inr (.inr 0))
      else
        if ((S.2.1 0) (z).toNatClampNeg) ≤ 5 then
          some (.inl (z + 1))
        else
          some (.inr (.inr 0))
    else none

def f_S_fits (S : jx_S)  : Option (Int32) :=
  if (S.1 4) ≤ 8 then
    (jx_lp (b_S_fits_13 S) jx_N 0).bind (Sum.elim (fun z13_2 =>
      some 1)
      (fun y => some y))
  else
    some 0
set_option maxHeartbeats 4000000 in
set_option maxRecDepth 100000 in
theorem lt_S_fits_13 {G : jx_G} {X : jx_C} (hX : jx_Ok G X b_S_fits "PlaneCells$Sentence" (some .boolean) 2 0) (fin : Int32) (S : jx_S)  {n : Nat} {z : Int32} {r : (Unit) ⊕ Int32} (hz : jx_lp (b_S_fits_13 S) n z = some r) (hk : ∀ u, r = .inl u → jx_At G X (some (.int fin), jx_w G S) (jx_w G S) 52 [(0, .ref (jx_ad G 1))] []) (hy : ∀ y, r = .inr y → y = fin) : jx_At G X (some (.int fin), jx_w G S) (jx_w G S) 13 [(0, .ref (jx_ad G 1)), (1, .int z)] [] := by
  refine jx_loop2 (b_S_fits_13 S) (fun z => jx_At G X (some (.int fin), jx_w G S) (jx_w G S) 13 [(0, .ref (jx_ad G 1)), (1, .int z)] []) (fun z => jx_At G X (some (.int fin), jx_w G S) (jx_w G S) 52 [(0, .ref (jx_ad G 1))] []) fin ?_ n z r hz hk hy
  intro z o h hi hx hr
  unfold b_S_fits_13 at h
  refine jx_iload_n hX d_S_fits_13 1 rfl rfl ?_
  refine jx_aload_n hX d_S_fits_14 0 rfl rfl ?_
  refine gf_S_26 hX d_S_fits_15 rfl ?_
  refine jx_iconst (v := 4) hX d_S_fits_18 (by decide) ?_
  refine jx_imul hX d_S_fits_19 ?_
  refine jx_icmp_ge hX d_S_fits_20 rfl (fun hc => ?_) (fun hc => ?_)
  · have h := jx_ip hc h
    refine jx_sub (L2 := [(0, .ref (jx_ad G 1))]) [0] rfl ?_
    obtain rfl := Option.some.inj h
    exact hx _ rfl
  · have h := jx_in_ hc h
    refine jx_aload_n hX d_S_fits_23 0 rfl rfl ?_
    refine gf_S_9 hX d_S_fits_24 ?_
    refine jx_iload_n hX d_S_fits_27 1 rfl rfl ?_
    obtain ⟨hg1, h⟩ := jx_gd h
    refine al_0 hX d_S_fits_28 rfl hg1 ?_
    refine jx_bipush (v := (-5)) hX d_S_fits_29 (by decide) ?_
    refine jx_icmp_lt hX d_S_fits_31 rfl (fun hc => ?_) (fun hc => ?_)
    · have h := jx_ip hc h
      refine jx_iconst (v := 0) hX d_S_fits_44 (by decide) ?_
      obtain rfl := Option.some.inj h
      obtain rfl := hr _ rfl
      exact jx_zret hX d_S_fits_45 (jx_01n jx_z0)
    · have h := jx_in_ hc h
      refine jx_aload_n hX d_S_fits_34 0 rfl rfl ?_
      refine gf_S_9 hX d_S_fits_35 ?_
      refine jx_iload_n hX d_S_fits_38 1 rfl rfl ?_
      refine al_0 hX d_S_fits_39 rfl hg1 ?_
      refine jx_iconst (v := 5) hX d_S_fits_40 (by decide) ?_
      refine jx_icmp_le hX d_S_fits_41 rfl (fun hc => ?_) (fun hc => ?_)
      · have h := jx_ip hc h
        refine jx_iinc (v := (z + 1)) hX d_S_fits_46 1 rfl (by first | rfl | decide) (by decide) (L2 := [(1, .int (z + 1)), (0, .ref (jx_ad G 1))]) rfl ?_
        refine jx_goto hX d_S_fits_49 rfl ?_
        refine jx_sub (L2 := [(0, .ref (jx_ad G 1)), (1, .int (z + 1))]) [1, 0] rfl ?_
        obtain rfl := Option.some.inj h
        exact hi _ rfl
      · have h := jx_in_ hc h
        refine jx_iconst (v := 0) hX d_S_fits_44 (by decide) ?_
        obtain rfl := Option.some.inj h
        obtain rfl := hr _ rfl
        exact jx_zret hX d_S_fits_45 (jx_01n jx_z0)

set_option maxHeartbeats 4000000 in
set_option maxRecDepth 100000 in
theorem c_S_fits (l : Launch) (G : jx_G) (S : jx_S)  (fin : Int32) (h : f_S_fits S = some fin) : jx_M l y_S_fits b_S_fits 2 (some .boolean) 0 G [.ref (jx_ad G 1)] (jx_w G S) (some (.int fin), jx_w G S) := by
  refine jx_met (own := "PlaneCells$Sentence") (by decide) rfl (Nat.le_of_ble_eq_true rfl) (fun X hX hl => ?_)
  subst hl
  refine jx_L (L2 := [(0, .ref (jx_ad G 1))]) rfl ?_
  unfold f_S_fits at h
  refine jx_aload_n hX d_S_fits_0 0 rfl rfl ?_
  refine gf_S_26 hX d_S_fits_1 rfl ?_
  refine jx_bipush (v := 8) hX d_S_fits_4 (by decide) ?_
  refine jx_icmp_le hX d_S_fits_6 rfl (fun hc => ?_) (fun hc => ?_)
  · have h := jx_ip hc h
    refine jx_iconst (v := 0) hX d_S_fits_11 (by decide) ?_
    refine jx_istore_n hX d_S_fits_12 rfl (by decide) (L2 := [(1, .int 0), (0, .ref (jx_ad G 1))]) rfl ?_
    refine jx_sub (L2 := [(0, .ref (jx_ad G 1)), (1, .int 0)]) [1, 0] rfl ?_
    obtain ⟨r, hz, h⟩ := jx_bd h
    refine lt_S_fits_13 hX fin S hz (fun z13_2 e => ?_) (fun y e => ?_)
    · subst e
      have h := jx_el h
      refine jx_iconst (v := 1) hX d_S_fits_52 (by decide) ?_
      obtain rfl := Option.some.inj h
      exact jx_zret hX d_S_fits_53 (jx_01n jx_z1)
    · subst e
      have h := jx_er h
      exact Option.some.inj h
  · have h := jx_in_ hc h
    refine jx_iconst (v := 0) hX d_S_fits_9 (by decide) ?_
    obtain rfl := Option.some.inj h
    exact jx_zret hX d_S_fits_10 (jx_01n jx_z0)

def f_P_write (S : jx_S) (a1 : Int32) : Option (Int32 × jx_S) :=
  (f_R_append S a1).bind fun q5_1 =>
    if jx_nb q5_1.1 = true then some (q5_1.1, q5_1.2) else none
set_option maxHeartbeats 4000000 in
set_option maxRecDepth 100000 in
theorem c_P_write (l : Launch) (G : jx_G) (S : jx_S) (a1 : Int32) (fin : Int32 × jx_S) (h : f_P_write S a1 = some fin) : jx_M l y_P_write b_P_write 2 (some .boolean) 1 G [.ref (jx_ad G 0), .int a1] (jx_w G S) (some (.int fin.1), jx_w G fin.2) := by
  refine jx_met (own := "PlaneCells") (by decide) rfl (Nat.le_of_ble_eq_true rfl) (fun X hX hl => ?_)
  subst hl
  refine jx_L (L2 := [(0, .ref (jx_ad G 0)), (1, .int a1)]) rfl ?_
  unfold f_P_write at h
  refine jx_aload_n hX d_P_write_0 0 rfl rfl ?_
  refine gf_P_21 hX d_P_write_1 ?_
  refine jx_iload_n hX d_P_write_4 1 rfl rfl ?_
  obtain ⟨q5_1, hq5_1, h⟩ := jx_bd h
  refine cs_P_42 hX (c_R_append (jx_l X) G S a1 q5_1 hq5_1) d_P_write_5 (by decide) (Nat.le_of_ble_eq_true rfl) ?_
  obtain ⟨hg, h⟩ := jx_gd h
  obtain rfl := Option.some.inj h
  exact jx_zret hX d_P_write_8 (jx_nb_ok hg)

def f_P_readText (S : jx_S)  : Option (Int32 × jx_S) :=
  (f_R_countOpenings (jx_f S 0 (-1))).bind fun q9_1 =>
    if q9_1 ≤ 8 then
      (f_R_readSentence (jx_f S 0 (-1))).bind fun q24_2 =>
        if q24_2.1 = 0 then
          some ((-1), (jx_f q24_2.2 0 (q24_2.2.1 9)))
        else
          (f_S_fits q24_2.2).bind fun q47_3 =>
            some ((if q47_3 = 0 then (-2) else 0 : Int32), q24_2.2)
    else
      some ((-2), (jx_f S 0 (-1)))
set_option maxHeartbeats 4000000 in
set_option maxRecDepth 100000 in
theorem c_P_readText (l : Launch) (G : jx_G) (S : jx_S)  (fin : Int32 × jx_S) (h : f_P_readText S = some fin) : jx_M l y_P_readText b_P_readText 1 (some .int) 5 G [.ref (jx_ad G 0)] (jx_w G S) (some (.int fin.1), jx_w G fin.2) := by
  refine jx_met (own := "PlaneCells") (by decide) rfl (Nat.le_of_ble_eq_true rfl) (fun X hX hl => ?_)
  subst hl
  refine jx_L (L2 := [(0, .ref (jx_ad G 0))]) rfl ?_
  unfold f_P_readText at h
  refine jx_aload_n hX d_P_readText_0 0 rfl rfl ?_
  refine jx_iconst (v := (-1)) hX d_P_readText_1 (by decide) ?_
  refine pf_P_32 hX d_P_readText_2 ?_
  refine jx_aload_n hX d_P_readText_5 0 rfl rfl ?_
  refine gf_P_21 hX d_P_readText_6 ?_
  obtain ⟨q9_1, hq9_1, h⟩ := jx_bd h
  refine cs_P_72 hX (c_R_countOpenings (jx_l X) G (jx_f S 0 (-1)) q9_1 hq9_1) d_P_readText_9 (by decide) (Nat.le_of_ble_eq_true rfl) ?_
  refine jx_bipush (v := 8) hX d_P_readText_12 (by decide) ?_
  refine jx_icmp_le hX d_P_readText_14 rfl (fun hc => ?_) (fun hc => ?_)
  · have h := jx_ip hc h
    refine jx_aload_n hX d_P_readText_20 0 rfl rfl ?_
    refine gf_P_21 hX d_P_readText_21 ?_
    obtain ⟨q24_2, hq24_2, h⟩ := jx_bd h
    refine cs_P_75 hX (c_R_readSentence (jx_l X) G (jx_f S 0 (-1)) q24_2 hq24_2) d_P_readText_24 (by decide) (Nat.le_of_ble_eq_true rfl) ?_
    refine jx_if_ne hX d_P_readText_27 rfl (fun hc => ?_) (fun hc => ?_)
    · have h := jx_in_ hc h
      refine jx_aload_n hX d_P_readText_43 0 rfl rfl ?_
      refine gf_P_12 hX d_P_readText_44 ?_
      obtain ⟨q47_3, hq47_3, h⟩ := jx_bd h
      refine cs_P_81 hX (c_S_fits (jx_l X) G q24_2.2 q47_3 hq47_3) d_P_readText_47 (by decide) (Nat.le_of_ble_eq_true rfl) ?_
      have hj : jx_At G X (some (.int fin.1), jx_w G fin.2) (jx_w G q24_2.2) 59 [(0, .ref (jx_ad G 0))] [.int (if q47_3 = 0 then (-2) else 0 : Int32)] := by
        obtain rfl := Option.some.inj h
        exact jx_iret hX d_P_readText_59
      refine jx_if_eq hX d_P_readText_50 rfl (fun hc4 => ?_) (fun hc4 => ?_)
      · refine jx_bipush (v := (-2)) hX d_P_readText_57 (by decide) ?_
        have hj2 := hj
        rw [if_pos hc4] at hj2
        exact hj2
      · refine jx_iconst (v := 0) hX d_P_readText_53 (by decide) ?_
        refine jx_goto hX d_P_readText_54 rfl ?_
        have hj2 := hj
        rw [if_neg hc4] at hj2
        exact hj2
    · have h := jx_ip hc h
      refine jx_aload_n hX d_P_readText_30 0 rfl rfl ?_
      refine jx_aload_n hX d_P_readText_31 0 rfl rfl ?_
      refine gf_P_21 hX d_P_readText_32 ?_
      refine gf_P_78 hX d_P_readText_35 rfl ?_
      refine pf_P_32 hX d_P_readText_38 ?_
      refine jx_iconst (v := (-1)) hX d_P_readText_41 (by decide) ?_
      obtain rfl := Option.some.inj h
      exact jx_iret hX d_P_readText_42
  · have h := jx_in_ hc h
    refine jx_bipush (v := (-2)) hX d_P_readText_17 (by decide) ?_
    obtain rfl := Option.some.inj h
    exact jx_iret hX d_P_readText_19

def b_P_decide_55 (x1 : Int32) (z : jx_S × Int32) : Option ((jx_S × Int32) ⊕ (jx_S)) :=
  if (z.1.1 1) ≤ z.2 then
    some (.inr z.1)
  else
    if 0 ≤ (z.1.1 2) then
      some (.inr z.1)
    else
      (f_Q_enter z.1 z.2).bind fun q75_5 =>
        (f_Q_columnHolds q75_5).bind fun q82_6 =>
          if q82_6 = (q75_5.1 5) then
            some (.inl (q75_5, (z.2 + 1)))
          else
            some (.inl ((jx_f q75_5 2 z.2), (z.2 + 1)))

def f_P_decide (S : jx_S)  : Option (Int32 × jx_S) :=
  (f_P_readText S).bind fun q1_1 =>
    (f_R_clear q1_1.2).bind fun q9_2 =>
      if 0 ≤ q1_1.1 then
        (f_Q_cut (jx_f (jx_f q9_2 1 0) 2 (-1))).bind fun q39_3 =>
          (f_Q_countColumns q39_3).bind fun q47_4 =>
            (jx_lp (b_P_decide_55 q1_1.1) jx_N ((jx_f q39_3 1 q47_4), 0)).bind fun z55_7 =>
              some ((if (z55_7.1 5) = (if 0 ≤ (z55_7.1 2) then 0 else 1 : Int32) then 1 else 0 : Int32), z55_7)
      else
        (f_S_clear (jx_f (jx_f q9_2 1 0) 2 (-1))).bind fun q30_10 =>
          some (q1_1.1, q30_10)
set_option maxHeartbeats 4000000 in
set_option maxRecDepth 100000 in
theorem lt_P_decide_55 {G : jx_G} {X : jx_C} (hX : jx_Ok G X b_P_decide "PlaneCells" (some .int) 3 6) (fin : Int32 × jx_S) (x1 : Int32) {n : Nat} {z : jx_S × Int32} {r : jx_S} (hz : jx_lp (b_P_decide_55 x1) n z = some r) (hk : jx_At G X (some (.int fin.1), jx_w G fin.2) (jx_w G r) 106 [(0, .ref (jx_ad G 0)), (1, .int x1)] []) : jx_At G X (some (.int fin.1), jx_w G fin.2) (jx_w G z.1) 55 [(0, .ref (jx_ad G 0)), (1, .int x1), (2, .int z.2)] [] := by
  refine jx_loop1 (b_P_decide_55 x1) (fun z => jx_At G X (some (.int fin.1), jx_w G fin.2) (jx_w G z.1) 55 [(0, .ref (jx_ad G 0)), (1, .int x1), (2, .int z.2)] []) (fun z => jx_At G X (some (.int fin.1), jx_w G fin.2) (jx_w G z) 106 [(0, .ref (jx_ad G 0)), (1, .int x1)] []) ?_ n z r hz hk
  intro z o h hi hx
  unfold b_P_decide_55 at h
  refine jx_iload_n hX d_P_decide_55 2 rfl rfl ?_
  refine jx_aload_n hX d_P_decide_56 0 rfl rfl ?_
  refine gf_P_36 hX d_P_decide_57 rfl ?_
  refine jx_icmp_ge hX d_P_decide_60 rfl (fun hc => ?_) (fun hc => ?_)
  · have h := jx_ip hc h
    refine jx_sub (L2 := [(0, .ref (jx_ad G 0)), (1, .int x1)]) [0, 1] rfl ?_
    obtain rfl := Option.some.inj h
    exact hx _ rfl
  · have h := jx_in_ hc h
    refine jx_aload_n hX d_P_decide_63 0 rfl rfl ?_
    refine gf_P_39 hX d_P_decide_64 rfl ?_
    refine jx_if_ge hX d_P_decide_67 rfl (fun hc => ?_) (fun hc => ?_)
    · have h := jx_ip hc h
      refine jx_sub (L2 := [(0, .ref (jx_ad G 0)), (1, .int x1)]) [0, 1] rfl ?_
      obtain rfl := Option.some.inj h
      exact hx _ rfl
    · have h := jx_in_ hc h
      refine jx_aload_n hX d_P_decide_70 0 rfl rfl ?_
      refine gf_P_28 hX d_P_decide_71 ?_
      refine jx_iload_n hX d_P_decide_74 2 rfl rfl ?_
      obtain ⟨q75_5, hq75_5, h⟩ := jx_bd h
      refine cs_P_60 hX (c_Q_enter (jx_l X) G z.1 z.2 q75_5 hq75_5) d_P_decide_75 (by decide) (Nat.le_of_ble_eq_true rfl) ?_
      refine jx_aload_n hX d_P_decide_78 0 rfl rfl ?_
      refine gf_P_28 hX d_P_decide_79 ?_
      obtain ⟨q82_6, hq82_6, h⟩ := jx_bd h
      refine cs_P_64 hX (c_Q_columnHolds (jx_l X) G q75_5 q82_6 hq82_6) d_P_decide_82 (by decide) (Nat.le_of_ble_eq_true rfl) ?_
      refine jx_aload_n hX d_P_decide_85 0 rfl rfl ?_
      refine gf_P_12 hX d_P_decide_86 ?_
      refine gf_P_68 hX d_P_decide_89 rfl ?_
      refine jx_icmp_eq hX d_P_decide_92 rfl (fun hc => ?_) (fun hc => ?_)
      · have h := jx_ip hc h
        refine jx_iinc (v := (z.2 + 1)) hX d_P_decide_100 2 rfl (by first | rfl | decide) (by decide) (L2 := [(2, .int (z.2 + 1)), (0, .ref (jx_ad G 0)), (1, .int x1)]) rfl ?_
        refine jx_goto hX d_P_decide_103 rfl ?_
        refine jx_sub (L2 := [(0, .ref (jx_ad G 0)), (1, .int x1), (2, .int (z.2 + 1))]) [1, 2, 0] rfl ?_
        obtain rfl := Option.some.inj h
        exact hi _ rfl
      · have h := jx_in_ hc h
        refine jx_aload_n hX d_P_decide_95 0 rfl rfl ?_
        refine jx_iload_n hX d_P_decide_96 2 rfl rfl ?_
        refine pf_P_39 hX d_P_decide_97 ?_
        refine jx_iinc (v := (z.2 + 1)) hX d_P_decide_100 2 rfl (by first | rfl | decide) (by decide) (L2 := [(2, .int (z.2 + 1)), (0, .ref (jx_ad G 0)), (1, .int x1)]) rfl ?_
        refine jx_goto hX d_P_decide_103 rfl ?_
        refine jx_sub (L2 := [(0, .ref (jx_ad G 0)), (1, .int x1), (2, .int (z.2 + 1))]) [1, 2, 0] rfl ?_
        obtain rfl := Option.some.inj h
        exact hi _ rfl

set_option maxHeartbeats 4000000 in
set_option maxRecDepth 100000 in
theorem c_P_decide (l : Launch) (G : jx_G) (S : jx_S)  (fin : Int32 × jx_S) (h : f_P_decide S = some fin) : jx_M l y_P_decide b_P_decide 3 (some .int) 6 G [.ref (jx_ad G 0)] (jx_w G S) (some (.int fin.1), jx_w G fin.2) := by
  refine jx_met (own := "PlaneCells") (by decide) rfl (Nat.le_of_ble_eq_true rfl) (fun X hX hl => ?_)
  subst hl
  refine jx_L (L2 := [(0, .ref (jx_ad G 0))]) rfl ?_
  unfold f_P_decide at h
  refine jx_aload_n hX d_P_decide_0 0 rfl rfl ?_
  obtain ⟨q1_1, hq1_1, h⟩ := jx_bd h
  refine cs_P_46 hX (c_P_readText (jx_l X) G S q1_1 hq1_1) d_P_decide_1 (by decide) (Nat.le_of_ble_eq_true rfl) ?_
  refine jx_istore_n hX d_P_decide_4 rfl (by decide) (L2 := [(1, .int q1_1.1), (0, .ref (jx_ad G 0))]) rfl ?_
  refine jx_aload_n hX d_P_decide_5 1 rfl rfl ?_
  refine gf_P_21 hX d_P_decide_6 ?_
  obtain ⟨q9_2, hq9_2, h⟩ := jx_bd h
  refine cs_P_50 hX (c_R_clear (jx_l X) G q1_1.2 q9_2 hq9_2) d_P_decide_9 (by decide) (Nat.le_of_ble_eq_true rfl) ?_
  refine jx_aload_n hX d_P_decide_12 1 rfl rfl ?_
  refine jx_iconst (v := 0) hX d_P_decide_13 (by decide) ?_
  refine pf_P_36 hX d_P_decide_14 ?_
  refine jx_aload_n hX d_P_decide_17 1 rfl rfl ?_
  refine jx_iconst (v := (-1)) hX d_P_decide_18 (by decide) ?_
  refine pf_P_39 hX d_P_decide_19 ?_
  refine jx_iload_n hX d_P_decide_22 0 rfl rfl ?_
  refine jx_if_ge hX d_P_decide_23 rfl (fun hc => ?_) (fun hc => ?_)
  · have h := jx_ip hc h
    refine jx_aload_n hX d_P_decide_35 1 rfl rfl ?_
    refine gf_P_28 hX d_P_decide_36 ?_
    obtain ⟨q39_3, hq39_3, h⟩ := jx_bd h
    refine cs_P_54 hX (c_Q_cut (jx_l X) G (jx_f (jx_f q9_2 1 0) 2 (-1)) q39_3 hq39_3) d_P_decide_39 (by decide) (Nat.le_of_ble_eq_true rfl) ?_
    refine jx_aload_n hX d_P_decide_42 1 rfl rfl ?_
    refine jx_aload_n hX d_P_decide_43 1 rfl rfl ?_
    refine gf_P_28 hX d_P_decide_44 ?_
    obtain ⟨q47_4, hq47_4, h⟩ := jx_bd h
    refine cs_P_57 hX (c_Q_countColumns (jx_l X) G q39_3 q47_4 hq47_4) d_P_decide_47 (by decide) (Nat.le_of_ble_eq_true rfl) ?_
    refine pf_P_36 hX d_P_decide_50 ?_
    refine jx_iconst (v := 0) hX d_P_decide_53 (by decide) ?_
    refine jx_istore_n hX d_P_decide_54 rfl (by decide) (L2 := [(2, .int 0), (1, .int q1_1.1), (0, .ref (jx_ad G 0))]) rfl ?_
    refine jx_sub (L2 := [(0, .ref (jx_ad G 0)), (1, .int q1_1.1), (2, .int 0)]) [2, 1, 0] rfl ?_
    obtain ⟨z55_7, hz, h⟩ := jx_bd h
    refine lt_P_decide_55 hX fin q1_1.1 hz ?_
    refine jx_aload_n hX d_P_decide_106 0 rfl rfl ?_
    refine gf_P_12 hX d_P_decide_107 ?_
    refine gf_P_68 hX d_P_decide_110 rfl ?_
    refine jx_aload_n hX d_P_decide_113 0 rfl rfl ?_
    refine gf_P_39 hX d_P_decide_114 rfl ?_
    have hj : jx_At G X (some (.int fin.1), jx_w G fin.2) (jx_w G z55_7) 125 [(0, .ref (jx_ad G 0)), (1, .int q1_1.1)] [.int (if 0 ≤ (z55_7.1 2) then 0 else 1 : Int32), .int (z55_7.1 5)] := by
      have hj : jx_At G X (some (.int fin.1), jx_w G fin.2) (jx_w G z55_7) 133 [(0, .ref (jx_ad G 0)), (1, .int q1_1.1)] [.int (if (z55_7.1 5) = (if 0 ≤ (z55_7.1 2) then 0 else 1 : Int32) then 1 else 0 : Int32)] := by
        obtain rfl := Option.some.inj h
        exact jx_iret hX d_P_decide_133
      refine jx_icmp_ne hX d_P_decide_125 rfl (fun hc8 => ?_) (fun hc8 => ?_)
      · refine jx_iconst (v := 0) hX d_P_decide_132 (by decide) ?_
        have hj2 := hj
        rw [if_neg hc8] at hj2
        exact hj2
      · refine jx_iconst (v := 1) hX d_P_decide_128 (by decide) ?_
        refine jx_goto hX d_P_decide_129 rfl ?_
        have hj2 := hj
        rw [if_pos hc8] at hj2
        exact hj2
    refine jx_if_ge hX d_P_decide_117 rfl (fun hc9 => ?_) (fun hc9 => ?_)
    · refine jx_iconst (v := 0) hX d_P_decide_124 (by decide) ?_
      have hj2 := hj
      rw [if_pos hc9] at hj2
      exact hj2
    · refine jx_iconst (v := 1) hX d_P_decide_120 (by decide) ?_
      refine jx_goto hX d_P_decide_121 rfl ?_
      have hj2 := hj
      rw [if_neg hc9] at hj2
      exact hj2
  · have h := jx_in_ hc h
    refine jx_aload_n hX d_P_decide_26 1 rfl rfl ?_
    refine gf_P_12 hX d_P_decide_27 ?_
    obtain ⟨q30_10, hq30_10, h⟩ := jx_bd h
    refine cs_P_53 hX (c_S_clear (jx_l X) G (jx_f (jx_f q9_2 1 0) 2 (-1)) q30_10 hq30_10) d_P_decide_30 (by decide) (Nat.le_of_ble_eq_true rfl) ?_
    refine jx_iload_n hX d_P_decide_33 0 rfl rfl ?_
    obtain rfl := Option.some.inj h
    exact jx_iret hX d_P_decide_34

def f_P_place (S : jx_S)  : Option (Int32) :=
  some (S.1 0)
set_option maxHeartbeats 4000000 in
set_option maxRecDepth 100000 in
theorem c_P_place (l : Launch) (G : jx_G) (S : jx_S)  (fin : Int32) (h : f_P_place S = some fin) : jx_M l y_P_place b_P_place 1 (some .int) 0 G [.ref (jx_ad G 0)] (jx_w G S) (some (.int fin), jx_w G S) := by
  refine jx_met (own := "PlaneCells") (by decide) rfl (Nat.le_of_ble_eq_true rfl) (fun X hX hl => ?_)
  subst hl
  refine jx_L (L2 := [(0, .ref (jx_ad G 0))]) rfl ?_
  unfold f_P_place at h
  refine jx_aload_n hX d_P_place_0 0 rfl rfl ?_
  refine gf_P_32 hX d_P_place_1 rfl ?_
  obtain rfl := Option.some.inj h
  exact jx_iret hX d_P_place_4

def f_P_polynomials (S : jx_S)  : Option (Int32) :=
  some (S.1 4)
set_option maxHeartbeats 4000000 in
set_option maxRecDepth 100000 in
theorem c_P_polynomials (l : Launch) (G : jx_G) (S : jx_S)  (fin : Int32) (h : f_P_polynomials S = some fin) : jx_M l y_P_polynomials b_P_polynomials 1 (some .int) 0 G [.ref (jx_ad G 0)] (jx_w G S) (some (.int fin), jx_w G S) := by
  refine jx_met (own := "PlaneCells") (by decide) rfl (Nat.le_of_ble_eq_true rfl) (fun X hX hl => ?_)
  subst hl
  refine jx_L (L2 := [(0, .ref (jx_ad G 0))]) rfl ?_
  unfold f_P_polynomials at h
  refine jx_aload_n hX d_P_polynomials_0 0 rfl rfl ?_
  refine gf_P_12 hX d_P_polynomials_1 ?_
  refine gf_P_84 hX d_P_polynomials_4 rfl ?_
  obtain rfl := Option.some.inj h
  exact jx_iret hX d_P_polynomials_7

def f_P_hasPolynomial (S : jx_S) (a1 : Int32) : Option (Int32) :=
  some (if a1 < 0 then 0 else (if (S.1 4) ≤ a1 then 0 else 1 : Int32) : Int32)
set_option maxHeartbeats 4000000 in
set_option maxRecDepth 100000 in
theorem c_P_hasPolynomial (l : Launch) (G : jx_G) (S : jx_S) (a1 : Int32) (fin : Int32) (h : f_P_hasPolynomial S a1 = some fin) : jx_M l y_P_hasPolynomial b_P_hasPolynomial 2 (some .boolean) 0 G [.ref (jx_ad G 0), .int a1] (jx_w G S) (some (.int fin), jx_w G S) := by
  refine jx_met (own := "PlaneCells") (by decide) rfl (Nat.le_of_ble_eq_true rfl) (fun X hX hl => ?_)
  subst hl
  refine jx_L (L2 := [(0, .ref (jx_ad G 0)), (1, .int a1)]) rfl ?_
  unfold f_P_hasPolynomial at h
  refine jx_iload_n hX d_P_hasPolynomial_0 1 rfl rfl ?_
  have hj : jx_At G X (some (.int fin), jx_w G S) (jx_w G S) 20 [(0, .ref (jx_ad G 0)), (1, .int a1)] [.int (if a1 < 0 then 0 else (if (S.1 4) ≤ a1 then 0 else 1 : Int32) : Int32)] := by
    obtain rfl := Option.some.inj h
    exact jx_zret hX d_P_hasPolynomial_20 (jx_01n (jx_zi jx_z0 (jx_zi jx_z0 jx_z1)))
  refine jx_if_lt hX d_P_hasPolynomial_1 rfl (fun hc1 => ?_) (fun hc1 => ?_)
  · refine jx_iconst (v := 0) hX d_P_hasPolynomial_19 (by decide) ?_
    have hj2 := hj
    rw [if_pos hc1] at hj2
    exact hj2
  · refine jx_iload_n hX d_P_hasPolynomial_4 1 rfl rfl ?_
    refine jx_aload_n hX d_P_hasPolynomial_5 0 rfl rfl ?_
    refine gf_P_12 hX d_P_hasPolynomial_6 ?_
    refine gf_P_84 hX d_P_hasPolynomial_9 rfl ?_
    refine jx_icmp_ge hX d_P_hasPolynomial_12 rfl (fun hc2 => ?_) (fun hc2 => ?_)
    · refine jx_iconst (v := 0) hX d_P_hasPolynomial_19 (by decide) ?_
      have hj2 := hj
      rw [if_neg hc1, if_pos hc2] at hj2
      exact hj2
    · refine jx_iconst (v := 1) hX d_P_hasPolynomial_15 (by decide) ?_
      refine jx_goto hX d_P_hasPolynomial_16 rfl ?_
      have hj2 := hj
      rw [if_neg hc1, if_neg hc2] at hj2
      exact hj2

def f_P_coefficient (S : jx_S) (a1 : Int32) (a2 : Int32) : Option (Int32) :=
  (f_P_hasPolynomial S a1).bind fun q2_1 =>
    if q2_1 = 0 then
      some 9
    else
      if a2 < 0 then
        some 9
      else
        if a2 < 4 then
          (f_S_number S a1 a2).bind fun q26_2 =>
            some q26_2
        else
          some 9
set_option maxHeartbeats 4000000 in
set_option maxRecDepth 100000 in
theorem c_P_coefficient (l : Launch) (G : jx_G) (S : jx_S) (a1 : Int32) (a2 : Int32) (fin : Int32) (h : f_P_coefficient S a1 a2 = some fin) : jx_M l y_P_coefficient b_P_coefficient 3 (some .int) 1 G [.ref (jx_ad G 0), .int a1, .int a2] (jx_w G S) (some (.int fin), jx_w G S) := by
  refine jx_met (own := "PlaneCells") (by decide) rfl (Nat.le_of_ble_eq_true rfl) (fun X hX hl => ?_)
  subst hl
  refine jx_L (L2 := [(0, .ref (jx_ad G 0)), (1, .int a1), (2, .int a2)]) rfl ?_
  unfold f_P_coefficient at h
  refine jx_aload_n hX d_P_coefficient_0 0 rfl rfl ?_
  refine jx_iload_n hX d_P_coefficient_1 1 rfl rfl ?_
  obtain ⟨q2_1, hq2_1, h⟩ := jx_bd h
  refine cs_P_87 hX (c_P_hasPolynomial (jx_l X) G S a1 q2_1 hq2_1) d_P_coefficient_2 (by decide) (Nat.le_of_ble_eq_true rfl) ?_
  refine jx_if_eq hX d_P_coefficient_5 rfl (fun hc => ?_) (fun hc => ?_)
  · have h := jx_ip hc h
    refine jx_bipush (v := 9) hX d_P_coefficient_17 (by decide) ?_
    obtain rfl := Option.some.inj h
    exact jx_iret hX d_P_coefficient_19
  · have h := jx_in_ hc h
    refine jx_iload_n hX d_P_coefficient_8 2 rfl rfl ?_
    refine jx_if_lt hX d_P_coefficient_9 rfl (fun hc => ?_) (fun hc => ?_)
    · have h := jx_ip hc h
      refine jx_bipush (v := 9) hX d_P_coefficient_17 (by decide) ?_
      obtain rfl := Option.some.inj h
      exact jx_iret hX d_P_coefficient_19
    · have h := jx_in_ hc h
      refine jx_iload_n hX d_P_coefficient_12 2 rfl rfl ?_
      refine jx_iconst (v := 4) hX d_P_coefficient_13 (by decide) ?_
      refine jx_icmp_lt hX d_P_coefficient_14 rfl (fun hc => ?_) (fun hc => ?_)
      · have h := jx_ip hc h
        refine jx_aload_n hX d_P_coefficient_20 0 rfl rfl ?_
        refine gf_P_12 hX d_P_coefficient_21 ?_
        refine jx_iload_n hX d_P_coefficient_24 1 rfl rfl ?_
        refine jx_iload_n hX d_P_coefficient_25 2 rfl rfl ?_
        obtain ⟨q26_2, hq26_2, h⟩ := jx_bd h
        refine cs_P_91 hX (c_S_number (jx_l X) G S a1 a2 q26_2 hq26_2) d_P_coefficient_26 (by decide) (Nat.le_of_ble_eq_true rfl) ?_
        obtain rfl := Option.some.inj h
        exact jx_iret hX d_P_coefficient_29
      · have h := jx_in_ hc h
        refine jx_bipush (v := 9) hX d_P_coefficient_17 (by decide) ?_
        obtain rfl := Option.some.inj h
        exact jx_iret hX d_P_coefficient_19

def f_P_columns (S : jx_S)  : Option (Int32) :=
  some (S.1 1)
set_option maxHeartbeats 4000000 in
set_option maxRecDepth 100000 in
theorem c_P_columns (l : Launch) (G : jx_G) (S : jx_S)  (fin : Int32) (h : f_P_columns S = some fin) : jx_M l y_P_columns b_P_columns 1 (some .int) 0 G [.ref (jx_ad G 0)] (jx_w G S) (some (.int fin), jx_w G S) := by
  refine jx_met (own := "PlaneCells") (by decide) rfl (Nat.le_of_ble_eq_true rfl) (fun X hX hl => ?_)
  subst hl
  refine jx_L (L2 := [(0, .ref (jx_ad G 0))]) rfl ?_
  unfold f_P_columns at h
  refine jx_aload_n hX d_P_columns_0 0 rfl rfl ?_
  refine gf_P_36 hX d_P_columns_1 rfl ?_
  obtain rfl := Option.some.inj h
  exact jx_iret hX d_P_columns_4

def f_P_hasColumn (S : jx_S) (a1 : Int32) : Option (Int32) :=
  some (if a1 < 0 then 0 else (if (S.1 1) ≤ a1 then 0 else 1 : Int32) : Int32)
set_option maxHeartbeats 4000000 in
set_option maxRecDepth 100000 in
theorem c_P_hasColumn (l : Launch) (G : jx_G) (S : jx_S) (a1 : Int32) (fin : Int32) (h : f_P_hasColumn S a1 = some fin) : jx_M l y_P_hasColumn b_P_hasColumn 2 (some .boolean) 0 G [.ref (jx_ad G 0), .int a1] (jx_w G S) (some (.int fin), jx_w G S) := by
  refine jx_met (own := "PlaneCells") (by decide) rfl (Nat.le_of_ble_eq_true rfl) (fun X hX hl => ?_)
  subst hl
  refine jx_L (L2 := [(0, .ref (jx_ad G 0)), (1, .int a1)]) rfl ?_
  unfold f_P_hasColumn at h
  refine jx_iload_n hX d_P_hasColumn_0 1 rfl rfl ?_
  have hj : jx_At G X (some (.int fin), jx_w G S) (jx_w G S) 17 [(0, .ref (jx_ad G 0)), (1, .int a1)] [.int (if a1 < 0 then 0 else (if (S.1 1) ≤ a1 then 0 else 1 : Int32) : Int32)] := by
    obtain rfl := Option.some.inj h
    exact jx_zret hX d_P_hasColumn_17 (jx_01n (jx_zi jx_z0 (jx_zi jx_z0 jx_z1)))
  refine jx_if_lt hX d_P_hasColumn_1 rfl (fun hc1 => ?_) (fun hc1 => ?_)
  · refine jx_iconst (v := 0) hX d_P_hasColumn_16 (by decide) ?_
    have hj2 := hj
    rw [if_pos hc1] at hj2
    exact hj2
  · refine jx_iload_n hX d_P_hasColumn_4 1 rfl rfl ?_
    refine jx_aload_n hX d_P_hasColumn_5 0 rfl rfl ?_
    refine gf_P_36 hX d_P_hasColumn_6 rfl ?_
    refine jx_icmp_ge hX d_P_hasColumn_9 rfl (fun hc2 => ?_) (fun hc2 => ?_)
    · refine jx_iconst (v := 0) hX d_P_hasColumn_16 (by decide) ?_
      have hj2 := hj
      rw [if_neg hc1, if_pos hc2] at hj2
      exact hj2
    · refine jx_iconst (v := 1) hX d_P_hasColumn_12 (by decide) ?_
      refine jx_goto hX d_P_hasColumn_13 rfl ?_
      have hj2 := hj
      rw [if_neg hc1, if_neg hc2] at hj2
      exact hj2

def f_P_enterColumn (S : jx_S) (a1 : Int32) : Option (Int32 × jx_S) :=
  (f_P_hasColumn S a1).bind fun q2_1 =>
    if q2_1 = 0 then
      some (0, S)
    else
      (f_Q_enter S a1).bind fun q15_2 =>
        some (1, q15_2)
set_option maxHeartbeats 4000000 in
set_option maxRecDepth 100000 in
theorem c_P_enterColumn (l : Launch) (G : jx_G) (S : jx_S) (a1 : Int32) (fin : Int32 × jx_S) (h : f_P_enterColumn S a1 = some fin) : jx_M l y_P_enterColumn b_P_enterColumn 2 (some .boolean) 5 G [.ref (jx_ad G 0), .int a1] (jx_w G S) (some (.int fin.1), jx_w G fin.2) := by
  refine jx_met (own := "PlaneCells") (by decide) rfl (Nat.le_of_ble_eq_true rfl) (fun X hX hl => ?_)
  subst hl
  refine jx_L (L2 := [(0, .ref (jx_ad G 0)), (1, .int a1)]) rfl ?_
  unfold f_P_enterColumn at h
  refine jx_aload_n hX d_P_enterColumn_0 0 rfl rfl ?_
  refine jx_iload_n hX d_P_enterColumn_1 1 rfl rfl ?_
  obtain ⟨q2_1, hq2_1, h⟩ := jx_bd h
  refine cs_P_110 hX (c_P_hasColumn (jx_l X) G S a1 q2_1 hq2_1) d_P_enterColumn_2 (by decide) (Nat.le_of_ble_eq_true rfl) ?_
  refine jx_if_ne hX d_P_enterColumn_5 rfl (fun hc => ?_) (fun hc => ?_)
  · have h := jx_in_ hc h
    refine jx_aload_n hX d_P_enterColumn_10 0 rfl rfl ?_
    refine gf_P_28 hX d_P_enterColumn_11 ?_
    refine jx_iload_n hX d_P_enterColumn_14 1 rfl rfl ?_
    obtain ⟨q15_2, hq15_2, h⟩ := jx_bd h
    refine cs_P_60 hX (c_Q_enter (jx_l X) G S a1 q15_2 hq15_2) d_P_enterColumn_15 (by decide) (Nat.le_of_ble_eq_true rfl) ?_
    refine jx_iconst (v := 1) hX d_P_enterColumn_18 (by decide) ?_
    obtain rfl := Option.some.inj h
    exact jx_zret hX d_P_enterColumn_19 (jx_01n jx_z1)
  · have h := jx_ip hc h
    refine jx_iconst (v := 0) hX d_P_enterColumn_8 (by decide) ?_
    obtain rfl := Option.some.inj h
    exact jx_zret hX d_P_enterColumn_9 (jx_01n jx_z0)

def f_P_cells (S : jx_S) (a1 : Int32) : Option (Int32 × jx_S) :=
  (f_P_enterColumn S a1).bind fun q2_1 =>
    some ((if q2_1.1 = 0 then 0 else (q2_1.2.1 12) : Int32), q2_1.2)
set_option maxHeartbeats 4000000 in
set_option maxRecDepth 100000 in
theorem c_P_cells (l : Launch) (G : jx_G) (S : jx_S) (a1 : Int32) (fin : Int32 × jx_S) (h : f_P_cells S a1 = some fin) : jx_M l y_P_cells b_P_cells 2 (some .int) 6 G [.ref (jx_ad G 0), .int a1] (jx_w G S) (some (.int fin.1), jx_w G fin.2) := by
  refine jx_met (own := "PlaneCells") (by decide) rfl (Nat.le_of_ble_eq_true rfl) (fun X hX hl => ?_)
  subst hl
  refine jx_L (L2 := [(0, .ref (jx_ad G 0)), (1, .int a1)]) rfl ?_
  unfold f_P_cells at h
  refine jx_aload_n hX d_P_cells_0 0 rfl rfl ?_
  refine jx_iload_n hX d_P_cells_1 1 rfl rfl ?_
  obtain ⟨q2_1, hq2_1, h⟩ := jx_bd h
  refine cs_P_95 hX (c_P_enterColumn (jx_l X) G S a1 q2_1 hq2_1) d_P_cells_2 (by decide) (Nat.le_of_ble_eq_true rfl) ?_
  have hj : jx_At G X (some (.int fin.1), jx_w G fin.2) (jx_w G q2_1.2) 19 [(0, .ref (jx_ad G 0)), (1, .int a1)] [.int (if q2_1.1 = 0 then 0 else (q2_1.2.1 12) : Int32)] := by
    obtain rfl := Option.some.inj h
    exact jx_iret hX d_P_cells_19
  refine jx_if_eq hX d_P_cells_5 rfl (fun hc2 => ?_) (fun hc2 => ?_)
  · refine jx_iconst (v := 0) hX d_P_cells_18 (by decide) ?_
    have hj2 := hj
    rw [if_pos hc2] at hj2
    exact hj2
  · refine jx_aload_n hX d_P_cells_8 0 rfl rfl ?_
    refine gf_P_28 hX d_P_cells_9 ?_
    refine gf_P_98 hX d_P_cells_12 rfl ?_
    refine jx_goto hX d_P_cells_15 rfl ?_
    have hj2 := hj
    rw [if_neg hc2] at hj2
    exact hj2

def f_P_hasCell (S : jx_S) (a1 : Int32) : Option (Int32) :=
  some (if a1 < 0 then 0 else (if (S.1 12) ≤ a1 then 0 else 1 : Int32) : Int32)
set_option maxHeartbeats 4000000 in
set_option maxRecDepth 100000 in
theorem c_P_hasCell (l : Launch) (G : jx_G) (S : jx_S) (a1 : Int32) (fin : Int32) (h : f_P_hasCell S a1 = some fin) : jx_M l y_P_hasCell b_P_hasCell 2 (some .boolean) 0 G [.ref (jx_ad G 0), .int a1] (jx_w G S) (some (.int fin), jx_w G S) := by
  refine jx_met (own := "PlaneCells") (by decide) rfl (Nat.le_of_ble_eq_true rfl) (fun X hX hl => ?_)
  subst hl
  refine jx_L (L2 := [(0, .ref (jx_ad G 0)), (1, .int a1)]) rfl ?_
  unfold f_P_hasCell at h
  refine jx_iload_n hX d_P_hasCell_0 1 rfl rfl ?_
  have hj : jx_At G X (some (.int fin), jx_w G S) (jx_w G S) 20 [(0, .ref (jx_ad G 0)), (1, .int a1)] [.int (if a1 < 0 then 0 else (if (S.1 12) ≤ a1 then 0 else 1 : Int32) : Int32)] := by
    obtain rfl := Option.some.inj h
    exact jx_zret hX d_P_hasCell_20 (jx_01n (jx_zi jx_z0 (jx_zi jx_z0 jx_z1)))
  refine jx_if_lt hX d_P_hasCell_1 rfl (fun hc1 => ?_) (fun hc1 => ?_)
  · refine jx_iconst (v := 0) hX d_P_hasCell_19 (by decide) ?_
    have hj2 := hj
    rw [if_pos hc1] at hj2
    exact hj2
  · refine jx_iload_n hX d_P_hasCell_4 1 rfl rfl ?_
    refine jx_aload_n hX d_P_hasCell_5 0 rfl rfl ?_
    refine gf_P_28 hX d_P_hasCell_6 ?_
    refine gf_P_98 hX d_P_hasCell_9 rfl ?_
    refine jx_icmp_ge hX d_P_hasCell_12 rfl (fun hc2 => ?_) (fun hc2 => ?_)
    · refine jx_iconst (v := 0) hX d_P_hasCell_19 (by decide) ?_
      have hj2 := hj
      rw [if_neg hc1, if_pos hc2] at hj2
      exact hj2
    · refine jx_iconst (v := 1) hX d_P_hasCell_15 (by decide) ?_
      refine jx_goto hX d_P_hasCell_16 rfl ?_
      have hj2 := hj
      rw [if_neg hc1, if_neg hc2] at hj2
      exact hj2
end
section
def f_P_sign (S : jx_S) (a1 : Int32) (a2 : Int32) (a3 : Int32) : Option (Int32 × jx_S) :=
  (f_P_hasPolynomial S a3).bind fun q2_1 =>
    if q2_1 = 0 then
      some (9, S)
    else
      (f_P_enterColumn S a1).bind fun q10_2 =>
        if q10_2.1 = 0 then
          some (9, q10_2.2)
        else
          (f_P_hasCell q10_2.2 a2).bind fun q18_3 =>
            if q18_3 = 0 then
              some (9, q10_2.2)
            else
              (f_Q_signIn q10_2.2 a2 a3).bind fun q33_4 =>
                some (q33_4, q10_2.2)
set_option maxHeartbeats 4000000 in
set_option maxRecDepth 100000 in
theorem c_P_sign (l : Launch) (G : jx_G) (S : jx_S) (a1 : Int32) (a2 : Int32) (a3 : Int32) (fin : Int32 × jx_S) (h : f_P_sign S a1 a2 a3 = some fin) : jx_M l y_P_sign b_P_sign 4 (some .int) 6 G [.ref (jx_ad G 0), .int a1, .int a2, .int a3] (jx_w G S) (some (.int fin.1), jx_w G fin.2) := by
  refine jx_met (own := "PlaneCells") (by decide) rfl (Nat.le_of_ble_eq_true rfl) (fun X hX hl => ?_)
  subst hl
  refine jx_L (L2 := [(0, .ref (jx_ad G 0)), (1, .int a1), (2, .int a2), (3, .int a3)]) rfl ?_
  unfold f_P_sign at h
  refine jx_aload_n hX d_P_sign_0 0 rfl rfl ?_
  refine jx_iload_n hX d_P_sign_1 3 rfl rfl ?_
  obtain ⟨q2_1, hq2_1, h⟩ := jx_bd h
  refine cs_P_87 hX (c_P_hasPolynomial (jx_l X) G S a3 q2_1 hq2_1) d_P_sign_2 (by decide) (Nat.le_of_ble_eq_true rfl) ?_
  refine jx_if_eq hX d_P_sign_5 rfl (fun hc => ?_) (fun hc => ?_)
  · have h := jx_ip hc h
    refine jx_bipush (v := 9) hX d_P_sign_24 (by decide) ?_
    obtain rfl := Option.some.inj h
    exact jx_iret hX d_P_sign_26
  · have h := jx_in_ hc h
    refine jx_aload_n hX d_P_sign_8 0 rfl rfl ?_
    refine jx_iload_n hX d_P_sign_9 1 rfl rfl ?_
    obtain ⟨q10_2, hq10_2, h⟩ := jx_bd h
    refine cs_P_95 hX (c_P_enterColumn (jx_l X) G S a1 q10_2 hq10_2) d_P_sign_10 (by decide) (Nat.le_of_ble_eq_true rfl) ?_
    refine jx_if_eq hX d_P_sign_13 rfl (fun hc => ?_) (fun hc => ?_)
    · have h := jx_ip hc h
      refine jx_bipush (v := 9) hX d_P_sign_24 (by decide) ?_
      obtain rfl := Option.some.inj h
      exact jx_iret hX d_P_sign_26
    · have h := jx_in_ hc h
      refine jx_aload_n hX d_P_sign_16 0 rfl rfl ?_
      refine jx_iload_n hX d_P_sign_17 2 rfl rfl ?_
      obtain ⟨q18_3, hq18_3, h⟩ := jx_bd h
      refine cs_P_101 hX (c_P_hasCell (jx_l X) G q10_2.2 a2 q18_3 hq18_3) d_P_sign_18 (by decide) (Nat.le_of_ble_eq_true rfl) ?_
      refine jx_if_ne hX d_P_sign_21 rfl (fun hc => ?_) (fun hc => ?_)
      · have h := jx_in_ hc h
        refine jx_aload_n hX d_P_sign_27 0 rfl rfl ?_
        refine gf_P_28 hX d_P_sign_28 ?_
        refine jx_iload_n hX d_P_sign_31 2 rfl rfl ?_
        refine jx_iload_n hX d_P_sign_32 3 rfl rfl ?_
        obtain ⟨q33_4, hq33_4, h⟩ := jx_bd h
        refine cs_P_104 hX (c_Q_signIn (jx_l X) G q10_2.2 a2 a3 q33_4 hq33_4) d_P_sign_33 (by decide) (Nat.le_of_ble_eq_true rfl) ?_
        obtain rfl := Option.some.inj h
        exact jx_iret hX d_P_sign_36
      · have h := jx_ip hc h
        refine jx_bipush (v := 9) hX d_P_sign_24 (by decide) ?_
        obtain rfl := Option.some.inj h
        exact jx_iret hX d_P_sign_26

def f_P_truth (S : jx_S) (a1 : Int32) (a2 : Int32) : Option (Int32 × jx_S) :=
  (f_P_enterColumn S a1).bind fun q2_1 =>
    if q2_1.1 = 0 then
      some (9, q2_1.2)
    else
      (f_P_hasCell q2_1.2 a2).bind fun q10_2 =>
        if q10_2 = 0 then
          some (9, q2_1.2)
        else
          (f_Q_trueIn q2_1.2 a2).bind fun q24_3 =>
            some ((if q24_3 = 0 then 0 else 1 : Int32), q2_1.2)
set_option maxHeartbeats 4000000 in
set_option maxRecDepth 100000 in
theorem c_P_truth (l : Launch) (G : jx_G) (S : jx_S) (a1 : Int32) (a2 : Int32) (fin : Int32 × jx_S) (h : f_P_truth S a1 a2 = some fin) : jx_M l y_P_truth b_P_truth 3 (some .int) 6 G [.ref (jx_ad G 0), .int a1, .int a2] (jx_w G S) (some (.int fin.1), jx_w G fin.2) := by
  refine jx_met (own := "PlaneCells") (by decide) rfl (Nat.le_of_ble_eq_true rfl) (fun X hX hl => ?_)
  subst hl
  refine jx_L (L2 := [(0, .ref (jx_ad G 0)), (1, .int a1), (2, .int a2)]) rfl ?_
  unfold f_P_truth at h
  refine jx_aload_n hX d_P_truth_0 0 rfl rfl ?_
  refine jx_iload_n hX d_P_truth_1 1 rfl rfl ?_
  obtain ⟨q2_1, hq2_1, h⟩ := jx_bd h
  refine cs_P_95 hX (c_P_enterColumn (jx_l X) G S a1 q2_1 hq2_1) d_P_truth_2 (by decide) (Nat.le_of_ble_eq_true rfl) ?_
  refine jx_if_eq hX d_P_truth_5 rfl (fun hc => ?_) (fun hc => ?_)
  · have h := jx_ip hc h
    refine jx_bipush (v := 9) hX d_P_truth_16 (by decide) ?_
    obtain rfl := Option.some.inj h
    exact jx_iret hX d_P_truth_18
  · have h := jx_in_ hc h
    refine jx_aload_n hX d_P_truth_8 0 rfl rfl ?_
    refine jx_iload_n hX d_P_truth_9 2 rfl rfl ?_
    obtain ⟨q10_2, hq10_2, h⟩ := jx_bd h
    refine cs_P_101 hX (c_P_hasCell (jx_l X) G q2_1.2 a2 q10_2 hq10_2) d_P_truth_10 (by decide) (Nat.le_of_ble_eq_true rfl) ?_
    refine jx_if_ne hX d_P_truth_13 rfl (fun hc => ?_) (fun hc => ?_)
    · have h := jx_in_ hc h
      refine jx_aload_n hX d_P_truth_19 0 rfl rfl ?_
      refine gf_P_28 hX d_P_truth_20 ?_
      refine jx_iload_n hX d_P_truth_23 2 rfl rfl ?_
      obtain ⟨q24_3, hq24_3, h⟩ := jx_bd h
      refine cs_P_107 hX (c_Q_trueIn (jx_l X) G q2_1.2 a2 q24_3 hq24_3) d_P_truth_24 (by decide) (Nat.le_of_ble_eq_true rfl) ?_
      have hj : jx_At G X (some (.int fin.1), jx_w G fin.2) (jx_w G q2_1.2) 35 [(0, .ref (jx_ad G 0)), (1, .int a1), (2, .int a2)] [.int (if q24_3 = 0 then 0 else 1 : Int32)] := by
        obtain rfl := Option.some.inj h
        exact jx_iret hX d_P_truth_35
      refine jx_if_eq hX d_P_truth_27 rfl (fun hc4 => ?_) (fun hc4 => ?_)
      · refine jx_iconst (v := 0) hX d_P_truth_34 (by decide) ?_
        have hj2 := hj
        rw [if_pos hc4] at hj2
        exact hj2
      · refine jx_iconst (v := 1) hX d_P_truth_30 (by decide) ?_
        refine jx_goto hX d_P_truth_31 rfl ?_
        have hj2 := hj
        rw [if_neg hc4] at hj2
        exact hj2
    · have h := jx_ip hc h
      refine jx_bipush (v := 9) hX d_P_truth_16 (by decide) ?_
      obtain rfl := Option.some.inj h
      exact jx_iret hX d_P_truth_18

def f_P_holds (S : jx_S) (a1 : Int32) : Option (Int32 × jx_S) :=
  (f_P_enterColumn S a1).bind fun q2_1 =>
    if q2_1.1 = 0 then
      some (9, q2_1.2)
    else
      (f_Q_columnHolds q2_1.2).bind fun q15_2 =>
        some ((if q15_2 = 0 then 0 else 1 : Int32), q2_1.2)
set_option maxHeartbeats 4000000 in
set_option maxRecDepth 100000 in
theorem c_P_holds (l : Launch) (G : jx_G) (S : jx_S) (a1 : Int32) (fin : Int32 × jx_S) (h : f_P_holds S a1 = some fin) : jx_M l y_P_holds b_P_holds 2 (some .int) 6 G [.ref (jx_ad G 0), .int a1] (jx_w G S) (some (.int fin.1), jx_w G fin.2) := by
  refine jx_met (own := "PlaneCells") (by decide) rfl (Nat.le_of_ble_eq_true rfl) (fun X hX hl => ?_)
  subst hl
  refine jx_L (L2 := [(0, .ref (jx_ad G 0)), (1, .int a1)]) rfl ?_
  unfold f_P_holds at h
  refine jx_aload_n hX d_P_holds_0 0 rfl rfl ?_
  refine jx_iload_n hX d_P_holds_1 1 rfl rfl ?_
  obtain ⟨q2_1, hq2_1, h⟩ := jx_bd h
  refine cs_P_95 hX (c_P_enterColumn (jx_l X) G S a1 q2_1 hq2_1) d_P_holds_2 (by decide) (Nat.le_of_ble_eq_true rfl) ?_
  refine jx_if_ne hX d_P_holds_5 rfl (fun hc => ?_) (fun hc => ?_)
  · have h := jx_in_ hc h
    refine jx_aload_n hX d_P_holds_11 0 rfl rfl ?_
    refine gf_P_28 hX d_P_holds_12 ?_
    obtain ⟨q15_2, hq15_2, h⟩ := jx_bd h
    refine cs_P_64 hX (c_Q_columnHolds (jx_l X) G q2_1.2 q15_2 hq15_2) d_P_holds_15 (by decide) (Nat.le_of_ble_eq_true rfl) ?_
    have hj : jx_At G X (some (.int fin.1), jx_w G fin.2) (jx_w G q2_1.2) 26 [(0, .ref (jx_ad G 0)), (1, .int a1)] [.int (if q15_2 = 0 then 0 else 1 : Int32)] := by
      obtain rfl := Option.some.inj h
      exact jx_iret hX d_P_holds_26
    refine jx_if_eq hX d_P_holds_18 rfl (fun hc3 => ?_) (fun hc3 => ?_)
    · refine jx_iconst (v := 0) hX d_P_holds_25 (by decide) ?_
      have hj2 := hj
      rw [if_pos hc3] at hj2
      exact hj2
    · refine jx_iconst (v := 1) hX d_P_holds_21 (by decide) ?_
      refine jx_goto hX d_P_holds_22 rfl ?_
      have hj2 := hj
      rw [if_neg hc3] at hj2
      exact hj2
  · have h := jx_ip hc h
    refine jx_bipush (v := 9) hX d_P_holds_8 (by decide) ?_
    obtain rfl := Option.some.inj h
    exact jx_iret hX d_P_holds_10

def f_P_witness (S : jx_S)  : Option (Int32) :=
  some (S.1 2)
set_option maxHeartbeats 4000000 in
set_option maxRecDepth 100000 in
theorem c_P_witness (l : Launch) (G : jx_G) (S : jx_S)  (fin : Int32) (h : f_P_witness S = some fin) : jx_M l y_P_witness b_P_witness 1 (some .int) 0 G [.ref (jx_ad G 0)] (jx_w G S) (some (.int fin), jx_w G S) := by
  refine jx_met (own := "PlaneCells") (by decide) rfl (Nat.le_of_ble_eq_true rfl) (fun X hX hl => ?_)
  subst hl
  refine jx_L (L2 := [(0, .ref (jx_ad G 0))]) rfl ?_
  unfold f_P_witness at h
  refine jx_aload_n hX d_P_witness_0 0 rfl rfl ?_
  refine gf_P_39 hX d_P_witness_1 rfl ?_
  obtain rfl := Option.some.inj h
  exact jx_iret hX d_P_witness_4

def f_P_compare (S : jx_S) (a1 : Int32) (a2 : Int32) (a3 : Int32) : Option (Int32) :=
  if (if a2 < (-1000) then 0 else (if 1000 < a2 then 0 else (if a3 < 1 then 0 else (if 100 < a3 then 0 else 1 : Int32) : Int32) : Int32) : Int32) = 0 then
    some 9
  else
    (f_P_hasColumn S a1).bind fun q39_1 =>
      if q39_1 = 0 then
        some 9
      else
        if (a1 &&& 1) = 0 then
          some 9
        else
          (f_C_signAt S (a1 >>> (1 &&& 31)) (((-a2)).toInt64) ((a3).toInt64) 0).bind fun q70_2 =>
            some q70_2
set_option maxHeartbeats 4000000 in
set_option maxRecDepth 100000 in
theorem c_P_compare (l : Launch) (G : jx_G) (S : jx_S) (a1 : Int32) (a2 : Int32) (a3 : Int32) (fin : Int32) (h : f_P_compare S a1 a2 a3 = some fin) : jx_M l y_P_compare b_P_compare 5 (some .int) 2 G [.ref (jx_ad G 0), .int a1, .int a2, .int a3] (jx_w G S) (some (.int fin), jx_w G S) := by
  refine jx_met (own := "PlaneCells") (by decide) rfl (Nat.le_of_ble_eq_true rfl) (fun X hX hl => ?_)
  subst hl
  refine jx_L (L2 := [(0, .ref (jx_ad G 0)), (1, .int a1), (2, .int a2), (3, .int a3)]) rfl ?_
  unfold f_P_compare at h
  refine jx_iload_n hX d_P_compare_0 2 rfl rfl ?_
  refine jx_sipush (v := (-1000)) hX d_P_compare_1 (by decide) ?_
  have hj : jx_At G X (some (.int fin), jx_w G S) (jx_w G S) 30 [(0, .ref (jx_ad G 0)), (1, .int a1), (2, .int a2), (3, .int a3)] [.int (if a2 < (-1000) then 0 else (if 1000 < a2 then 0 else (if a3 < 1 then 0 else (if 100 < a3 then 0 else 1 : Int32) : Int32) : Int32) : Int32)] := by
    refine jx_istore hX d_P_compare_30 (by decide) (L2 := [(4, .int (if a2 < (-1000) then 0 else (if 1000 < a2 then 0 else (if a3 < 1 then 0 else (if 100 < a3 then 0 else 1 : Int32) : Int32) : Int32) : Int32)), (0, .ref (jx_ad G 0)), (1, .int a1), (2, .int a2), (3, .int a3)]) rfl ?_
    refine jx_iload hX d_P_compare_32 0 rfl ?_
    refine jx_if_eq hX d_P_compare_34 rfl (fun hc => ?_) (fun hc => ?_)
    · have h := jx_ip hc h
      refine jx_bipush (v := 9) hX d_P_compare_51 (by decide) ?_
      obtain rfl := Option.some.inj h
      exact jx_iret hX d_P_compare_53
    · have h := jx_in_ hc h
      refine jx_aload_n hX d_P_compare_37 1 rfl rfl ?_
      refine jx_iload_n hX d_P_compare_38 2 rfl rfl ?_
      obtain ⟨q39_1, hq39_1, h⟩ := jx_bd h
      refine cs_P_110 hX (c_P_hasColumn (jx_l X) G S a1 q39_1 hq39_1) d_P_compare_39 (by decide) (Nat.le_of_ble_eq_true rfl) ?_
      refine jx_if_eq hX d_P_compare_42 rfl (fun hc => ?_) (fun hc => ?_)
      · have h := jx_ip hc h
        refine jx_bipush (v := 9) hX d_P_compare_51 (by decide) ?_
        obtain rfl := Option.some.inj h
        exact jx_iret hX d_P_compare_53
      · have h := jx_in_ hc h
        refine jx_iload_n hX d_P_compare_45 2 rfl rfl ?_
        refine jx_iconst (v := 1) hX d_P_compare_46 (by decide) ?_
        refine jx_iand hX d_P_compare_47 ?_
        refine jx_if_ne hX d_P_compare_48 rfl (fun hc => ?_) (fun hc => ?_)
        · have h := jx_in_ hc h
          refine jx_aload_n hX d_P_compare_54 1 rfl rfl ?_
          refine gf_P_28 hX d_P_compare_55 ?_
          refine gf_P_113 hX d_P_compare_58 ?_
          refine jx_iload_n hX d_P_compare_61 2 rfl rfl ?_
          refine jx_iconst (v := 1) hX d_P_compare_62 (by decide) ?_
          refine jx_ishr hX d_P_compare_63 ?_
          refine jx_iload_n hX d_P_compare_64 3 rfl rfl ?_
          refine jx_ineg hX d_P_compare_65 ?_
          refine jx_i2l hX d_P_compare_66 rfl ?_
          refine jx_iload_n hX d_P_compare_67 4 rfl rfl ?_
          refine jx_i2l hX d_P_compare_68 rfl ?_
          refine jx_lconst (v := 0) hX d_P_compare_69 (by decide) ?_
          obtain ⟨q70_2, hq70_2, h⟩ := jx_bd h
          refine cs_P_117 hX (c_C_signAt (jx_l X) G S (a1 >>> (1 &&& 31)) (((-a2)).toInt64) ((a3).toInt64) 0 q70_2 hq70_2) d_P_compare_70 (by decide) (Nat.le_of_ble_eq_true rfl) ?_
          obtain rfl := Option.some.inj h
          exact jx_iret hX d_P_compare_73
        · have h := jx_ip hc h
          refine jx_bipush (v := 9) hX d_P_compare_51 (by decide) ?_
          obtain rfl := Option.some.inj h
          exact jx_iret hX d_P_compare_53
  refine jx_icmp_lt hX d_P_compare_4 rfl (fun hc3 => ?_) (fun hc3 => ?_)
  · refine jx_iconst (v := 0) hX d_P_compare_29 (by decide) ?_
    have hj2 := hj
    rw [if_pos hc3] at hj2
    exact hj2
  · refine jx_iload_n hX d_P_compare_7 2 rfl rfl ?_
    refine jx_sipush (v := 1000) hX d_P_compare_8 (by decide) ?_
    refine jx_icmp_gt hX d_P_compare_11 rfl (fun hc4 => ?_) (fun hc4 => ?_)
    · refine jx_iconst (v := 0) hX d_P_compare_29 (by decide) ?_
      have hj2 := hj
      rw [if_neg hc3, if_pos hc4] at hj2
      exact hj2
    · refine jx_iload_n hX d_P_compare_14 3 rfl rfl ?_
      refine jx_iconst (v := 1) hX d_P_compare_15 (by decide) ?_
      refine jx_icmp_lt hX d_P_compare_16 rfl (fun hc5 => ?_) (fun hc5 => ?_)
      · refine jx_iconst (v := 0) hX d_P_compare_29 (by decide) ?_
        have hj2 := hj
        rw [if_neg hc3, if_neg hc4, if_pos hc5] at hj2
        exact hj2
      · refine jx_iload_n hX d_P_compare_19 3 rfl rfl ?_
        refine jx_bipush (v := 100) hX d_P_compare_20 (by decide) ?_
        refine jx_icmp_gt hX d_P_compare_22 rfl (fun hc6 => ?_) (fun hc6 => ?_)
        · refine jx_iconst (v := 0) hX d_P_compare_29 (by decide) ?_
          have hj2 := hj
          rw [if_neg hc3, if_neg hc4, if_neg hc5, if_pos hc6] at hj2
          exact hj2
        · refine jx_iconst (v := 1) hX d_P_compare_25 (by decide) ?_
          refine jx_goto hX d_P_compare_26 rfl ?_
          have hj2 := hj
          rw [if_neg hc3, if_neg hc4, if_neg hc5, if_neg hc6] at hj2
          exact hj2
end
