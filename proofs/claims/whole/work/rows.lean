section
/-- a private method of a class that the tables say can be made, by its rows of tables_1 -/
def lw_okq (q : MethodName × Nat) : Prop := (q.1.cls ≠ "java/lang/invoke/MethodHandle" ∧ q.1.cls ≠ "java/lang/invoke/VarHandle") ∧ Cond.instantiable q.1.cls q.2 ∈ tables_1 ∧ Cond.privateMethod q.1 ∈ tables_1 ∧ Cond.instanceMethod q.1 ∈ tables_1
theorem lw_p0 : lw_okq (⟨"PlaneCells", "readText", "()I"⟩, 6) := ⟨⟨by decide +kernel, by decide +kernel⟩, List.mem_of_getElem? (i := 13) (by decide +kernel), List.mem_of_getElem? (i := 192) (by decide +kernel), List.mem_of_getElem? (i := 193) (by decide +kernel)⟩
theorem lw_p1 : lw_okq (⟨"PlaneCells$Reader", "takeHead", "()Z"⟩, 9) := ⟨⟨by decide +kernel, by decide +kernel⟩, List.mem_of_getElem? (i := 57) (by decide +kernel), List.mem_of_getElem? (i := 208) (by decide +kernel), List.mem_of_getElem? (i := 209) (by decide +kernel)⟩
theorem lw_p2 : lw_okq (⟨"PlaneCells$Reader", "peek", "()C"⟩, 9) := ⟨⟨by decide +kernel, by decide +kernel⟩, List.mem_of_getElem? (i := 57) (by decide +kernel), List.mem_of_getElem? (i := 212) (by decide +kernel), List.mem_of_getElem? (i := 213) (by decide +kernel)⟩
theorem lw_p3 : lw_okq (⟨"PlaneCells$Reader", "takeQuantifier", "()Z"⟩, 9) := ⟨⟨by decide +kernel, by decide +kernel⟩, List.mem_of_getElem? (i := 57) (by decide +kernel), List.mem_of_getElem? (i := 216) (by decide +kernel), List.mem_of_getElem? (i := 217) (by decide +kernel)⟩
theorem lw_p4 : lw_okq (⟨"PlaneCells$Reader", "take", "(C)Z"⟩, 9) := ⟨⟨by decide +kernel, by decide +kernel⟩, List.mem_of_getElem? (i := 57) (by decide +kernel), List.mem_of_getElem? (i := 220) (by decide +kernel), List.mem_of_getElem? (i := 221) (by decide +kernel)⟩
theorem lw_p5 : lw_okq (⟨"PlaneCells$Reader", "takeOpenings", "()V"⟩, 9) := ⟨⟨by decide +kernel, by decide +kernel⟩, List.mem_of_getElem? (i := 57) (by decide +kernel), List.mem_of_getElem? (i := 224) (by decide +kernel), List.mem_of_getElem? (i := 225) (by decide +kernel)⟩
theorem lw_p6 : lw_okq (⟨"PlaneCells$Reader", "hold", "(I)V"⟩, 9) := ⟨⟨by decide +kernel, by decide +kernel⟩, List.mem_of_getElem? (i := 57) (by decide +kernel), List.mem_of_getElem? (i := 228) (by decide +kernel), List.mem_of_getElem? (i := 229) (by decide +kernel)⟩
theorem lw_p7 : lw_okq (⟨"PlaneCells$Reader", "takeAtom", "()Z"⟩, 9) := ⟨⟨by decide +kernel, by decide +kernel⟩, List.mem_of_getElem? (i := 57) (by decide +kernel), List.mem_of_getElem? (i := 232) (by decide +kernel), List.mem_of_getElem? (i := 233) (by decide +kernel)⟩
theorem lw_p8 : lw_okq (⟨"PlaneCells$Reader", "takeSum", "(I)Z"⟩, 9) := ⟨⟨by decide +kernel, by decide +kernel⟩, List.mem_of_getElem? (i := 57) (by decide +kernel), List.mem_of_getElem? (i := 236) (by decide +kernel), List.mem_of_getElem? (i := 237) (by decide +kernel)⟩
theorem lw_p9 : lw_okq (⟨"PlaneCells$Reader", "takeTerm", "(I)Z"⟩, 9) := ⟨⟨by decide +kernel, by decide +kernel⟩, List.mem_of_getElem? (i := 57) (by decide +kernel), List.mem_of_getElem? (i := 240) (by decide +kernel), List.mem_of_getElem? (i := 241) (by decide +kernel)⟩
theorem lw_p10 : lw_okq (⟨"PlaneCells$Reader", "takeClosings", "()V"⟩, 9) := ⟨⟨by decide +kernel, by decide +kernel⟩, List.mem_of_getElem? (i := 57) (by decide +kernel), List.mem_of_getElem? (i := 258) (by decide +kernel), List.mem_of_getElem? (i := 259) (by decide +kernel)⟩
theorem lw_p11 : lw_okq (⟨"PlaneCells$Reader", "release", "(I)V"⟩, 9) := ⟨⟨by decide +kernel, by decide +kernel⟩, List.mem_of_getElem? (i := 57) (by decide +kernel), List.mem_of_getElem? (i := 262) (by decide +kernel), List.mem_of_getElem? (i := 263) (by decide +kernel)⟩
theorem lw_p12 : lw_okq (⟨"PlaneCells$Reader", "takeJoint", "()Z"⟩, 9) := ⟨⟨by decide +kernel, by decide +kernel⟩, List.mem_of_getElem? (i := 57) (by decide +kernel), List.mem_of_getElem? (i := 267) (by decide +kernel), List.mem_of_getElem? (i := 268) (by decide +kernel)⟩
theorem lw_p13 : lw_okq (⟨"PlaneCells$CriticalNumbers", "add", "(III)V"⟩, 4) := ⟨⟨by decide +kernel, by decide +kernel⟩, List.mem_of_getElem? (i := 98) (by decide +kernel), List.mem_of_getElem? (i := 303) (by decide +kernel), List.mem_of_getElem? (i := 304) (by decide +kernel)⟩
theorem lw_p14 : lw_okq (⟨"PlaneCells$CriticalNumbers", "signOfDifference", "(IIII)I"⟩, 4) := ⟨⟨by decide +kernel, by decide +kernel⟩, List.mem_of_getElem? (i := 98) (by decide +kernel), List.mem_of_getElem? (i := 307) (by decide +kernel), List.mem_of_getElem? (i := 308) (by decide +kernel)⟩
theorem lw_p15 : lw_okq (⟨"PlaneCells$CriticalNumbers", "insert", "(IIII)V"⟩, 4) := ⟨⟨by decide +kernel, by decide +kernel⟩, List.mem_of_getElem? (i := 98) (by decide +kernel), List.mem_of_getElem? (i := 321) (by decide +kernel), List.mem_of_getElem? (i := 322) (by decide +kernel)⟩
def lw_privs_1 : List (MethodName × Nat) := [(⟨"PlaneCells", "readText", "()I"⟩, 6), (⟨"PlaneCells$Reader", "takeHead", "()Z"⟩, 9), (⟨"PlaneCells$Reader", "peek", "()C"⟩, 9), (⟨"PlaneCells$Reader", "takeQuantifier", "()Z"⟩, 9), (⟨"PlaneCells$Reader", "take", "(C)Z"⟩, 9), (⟨"PlaneCells$Reader", "takeOpenings", "()V"⟩, 9), (⟨"PlaneCells$Reader", "hold", "(I)V"⟩, 9), (⟨"PlaneCells$Reader", "takeAtom", "()Z"⟩, 9), (⟨"PlaneCells$Reader", "takeSum", "(I)Z"⟩, 9), (⟨"PlaneCells$Reader", "takeTerm", "(I)Z"⟩, 9), (⟨"PlaneCells$Reader", "takeClosings", "()V"⟩, 9), (⟨"PlaneCells$Reader", "release", "(I)V"⟩, 9), (⟨"PlaneCells$Reader", "takeJoint", "()Z"⟩, 9), (⟨"PlaneCells$CriticalNumbers", "add", "(III)V"⟩, 4), (⟨"PlaneCells$CriticalNumbers", "signOfDifference", "(IIII)I"⟩, 4), (⟨"PlaneCells$CriticalNumbers", "insert", "(IIII)V"⟩, 4)]
theorem lw_r1 : ∀ q ∈ lw_privs_1, lw_okq q := List.forall_mem_cons.mpr ⟨lw_p0, List.forall_mem_cons.mpr ⟨lw_p1, List.forall_mem_cons.mpr ⟨lw_p2, List.forall_mem_cons.mpr ⟨lw_p3, List.forall_mem_cons.mpr ⟨lw_p4, List.forall_mem_cons.mpr ⟨lw_p5, List.forall_mem_cons.mpr ⟨lw_p6, List.forall_mem_cons.mpr ⟨lw_p7, List.forall_mem_cons.mpr ⟨lw_p8, List.forall_mem_cons.mpr ⟨lw_p9, List.forall_mem_cons.mpr ⟨lw_p10, List.forall_mem_cons.mpr ⟨lw_p11, List.forall_mem_cons.mpr ⟨lw_p12, List.forall_mem_cons.mpr ⟨lw_p13, List.forall_mem_cons.mpr ⟨lw_p14, List.forall_mem_cons.mpr ⟨lw_p15, fun _ h => absurd h List.not_mem_nil⟩⟩⟩⟩⟩⟩⟩⟩⟩⟩⟩⟩⟩⟩⟩⟩
theorem lw_p16 : lw_okq (⟨"PlaneCells$Plane", "addZero", "(II)V"⟩, 7) := ⟨⟨by decide +kernel, by decide +kernel⟩, List.mem_of_getElem? (i := 92) (by decide +kernel), List.mem_of_getElem? (i := 356) (by decide +kernel), List.mem_of_getElem? (i := 357) (by decide +kernel)⟩
theorem lw_p17 : lw_okq (⟨"PlaneCells", "hasPolynomial", "(I)Z"⟩, 6) := ⟨⟨by decide +kernel, by decide +kernel⟩, List.mem_of_getElem? (i := 13) (by decide +kernel), List.mem_of_getElem? (i := 392) (by decide +kernel), List.mem_of_getElem? (i := 393) (by decide +kernel)⟩
theorem lw_p18 : lw_okq (⟨"PlaneCells", "enterColumn", "(I)Z"⟩, 6) := ⟨⟨by decide +kernel, by decide +kernel⟩, List.mem_of_getElem? (i := 13) (by decide +kernel), List.mem_of_getElem? (i := 405) (by decide +kernel), List.mem_of_getElem? (i := 406) (by decide +kernel)⟩
theorem lw_p19 : lw_okq (⟨"PlaneCells", "hasColumn", "(I)Z"⟩, 6) := ⟨⟨by decide +kernel, by decide +kernel⟩, List.mem_of_getElem? (i := 13) (by decide +kernel), List.mem_of_getElem? (i := 409) (by decide +kernel), List.mem_of_getElem? (i := 410) (by decide +kernel)⟩
theorem lw_p20 : lw_okq (⟨"PlaneCells", "hasCell", "(I)Z"⟩, 6) := ⟨⟨by decide +kernel, by decide +kernel⟩, List.mem_of_getElem? (i := 13) (by decide +kernel), List.mem_of_getElem? (i := 417) (by decide +kernel), List.mem_of_getElem? (i := 418) (by decide +kernel)⟩
theorem lw_p21 : lw_okq (⟨"PlaneCellsModel", "takeText", "()V"⟩, 25) := ⟨⟨by decide +kernel, by decide +kernel⟩, List.mem_of_getElem? (i := 440) (by decide +kernel), List.mem_of_getElem? (i := 532) (by decide +kernel), List.mem_of_getElem? (i := 533) (by decide +kernel)⟩
theorem lw_p22 : lw_okq (⟨"PlaneCellsModel", "count", "(I)I"⟩, 25) := ⟨⟨by decide +kernel, by decide +kernel⟩, List.mem_of_getElem? (i := 440) (by decide +kernel), List.mem_of_getElem? (i := 536) (by decide +kernel), List.mem_of_getElem? (i := 537) (by decide +kernel)⟩
theorem lw_p23 : lw_okq (⟨"PlaneCellsModel", "wrong", "(II)I"⟩, 25) := ⟨⟨by decide +kernel, by decide +kernel⟩, List.mem_of_getElem? (i := 440) (by decide +kernel), List.mem_of_getElem? (i := 540) (by decide +kernel), List.mem_of_getElem? (i := 541) (by decide +kernel)⟩
theorem lw_p24 : lw_okq (⟨"PlaneCellsModel", "illAt", "()I"⟩, 25) := ⟨⟨by decide +kernel, by decide +kernel⟩, List.mem_of_getElem? (i := 440) (by decide +kernel), List.mem_of_getElem? (i := 544) (by decide +kernel), List.mem_of_getElem? (i := 545) (by decide +kernel)⟩
theorem lw_p25 : lw_okq (⟨"PlaneCellsModel", "at", "(I)I"⟩, 25) := ⟨⟨by decide +kernel, by decide +kernel⟩, List.mem_of_getElem? (i := 440) (by decide +kernel), List.mem_of_getElem? (i := 548) (by decide +kernel), List.mem_of_getElem? (i := 549) (by decide +kernel)⟩
theorem lw_p26 : lw_okq (⟨"PlaneCellsModel", "mayEnd", "(II)Z"⟩, 25) := ⟨⟨by decide +kernel, by decide +kernel⟩, List.mem_of_getElem? (i := 440) (by decide +kernel), List.mem_of_getElem? (i := 567) (by decide +kernel), List.mem_of_getElem? (i := 568) (by decide +kernel)⟩
theorem lw_p27 : lw_okq (⟨"PlaneCellsModel", "relations", "()I"⟩, 25) := ⟨⟨by decide +kernel, by decide +kernel⟩, List.mem_of_getElem? (i := 440) (by decide +kernel), List.mem_of_getElem? (i := 571) (by decide +kernel), List.mem_of_getElem? (i := 572) (by decide +kernel)⟩
theorem lw_p28 : lw_okq (⟨"PlaneCellsModel", "readFormula", "()V"⟩, 25) := ⟨⟨by decide +kernel, by decide +kernel⟩, List.mem_of_getElem? (i := 440) (by decide +kernel), List.mem_of_getElem? (i := 575) (by decide +kernel), List.mem_of_getElem? (i := 576) (by decide +kernel)⟩
theorem lw_p29 : lw_okq (⟨"PlaneCellsModel", "wait0", "(I)V"⟩, 25) := ⟨⟨by decide +kernel, by decide +kernel⟩, List.mem_of_getElem? (i := 440) (by decide +kernel), List.mem_of_getElem? (i := 579) (by decide +kernel), List.mem_of_getElem? (i := 580) (by decide +kernel)⟩
theorem lw_p30 : lw_okq (⟨"PlaneCellsModel", "giveAll", "(I)V"⟩, 25) := ⟨⟨by decide +kernel, by decide +kernel⟩, List.mem_of_getElem? (i := 440) (by decide +kernel), List.mem_of_getElem? (i := 583) (by decide +kernel), List.mem_of_getElem? (i := 584) (by decide +kernel)⟩
theorem lw_p31 : lw_okq (⟨"PlaneCellsModel", "give", "(I)V"⟩, 25) := ⟨⟨by decide +kernel, by decide +kernel⟩, List.mem_of_getElem? (i := 440) (by decide +kernel), List.mem_of_getElem? (i := 587) (by decide +kernel), List.mem_of_getElem? (i := 588) (by decide +kernel)⟩
def lw_privs_2 : List (MethodName × Nat) := [(⟨"PlaneCells$Plane", "addZero", "(II)V"⟩, 7), (⟨"PlaneCells", "hasPolynomial", "(I)Z"⟩, 6), (⟨"PlaneCells", "enterColumn", "(I)Z"⟩, 6), (⟨"PlaneCells", "hasColumn", "(I)Z"⟩, 6), (⟨"PlaneCells", "hasCell", "(I)Z"⟩, 6), (⟨"PlaneCellsModel", "takeText", "()V"⟩, 25), (⟨"PlaneCellsModel", "count", "(I)I"⟩, 25), (⟨"PlaneCellsModel", "wrong", "(II)I"⟩, 25), (⟨"PlaneCellsModel", "illAt", "()I"⟩, 25), (⟨"PlaneCellsModel", "at", "(I)I"⟩, 25), (⟨"PlaneCellsModel", "mayEnd", "(II)Z"⟩, 25), (⟨"PlaneCellsModel", "relations", "()I"⟩, 25), (⟨"PlaneCellsModel", "readFormula", "()V"⟩, 25), (⟨"PlaneCellsModel", "wait0", "(I)V"⟩, 25), (⟨"PlaneCellsModel", "giveAll", "(I)V"⟩, 25), (⟨"PlaneCellsModel", "give", "(I)V"⟩, 25)]
theorem lw_r2 : ∀ q ∈ lw_privs_2, lw_okq q := List.forall_mem_cons.mpr ⟨lw_p16, List.forall_mem_cons.mpr ⟨lw_p17, List.forall_mem_cons.mpr ⟨lw_p18, List.forall_mem_cons.mpr ⟨lw_p19, List.forall_mem_cons.mpr ⟨lw_p20, List.forall_mem_cons.mpr ⟨lw_p21, List.forall_mem_cons.mpr ⟨lw_p22, List.forall_mem_cons.mpr ⟨lw_p23, List.forall_mem_cons.mpr ⟨lw_p24, List.forall_mem_cons.mpr ⟨lw_p25, List.forall_mem_cons.mpr ⟨lw_p26, List.forall_mem_cons.mpr ⟨lw_p27, List.forall_mem_cons.mpr ⟨lw_p28, List.forall_mem_cons.mpr ⟨lw_p29, List.forall_mem_cons.mpr ⟨lw_p30, List.forall_mem_cons.mpr ⟨lw_p31, fun _ h => absurd h List.not_mem_nil⟩⟩⟩⟩⟩⟩⟩⟩⟩⟩⟩⟩⟩⟩⟩⟩
theorem lw_p32 : lw_okq (⟨"PlaneCellsModel", "readSum", "(III)I"⟩, 25) := ⟨⟨by decide +kernel, by decide +kernel⟩, List.mem_of_getElem? (i := 440) (by decide +kernel), List.mem_of_getElem? (i := 591) (by decide +kernel), List.mem_of_getElem? (i := 592) (by decide +kernel)⟩
theorem lw_p33 : lw_okq (⟨"PlaneCellsModel", "findCriticals", "()V"⟩, 25) := ⟨⟨by decide +kernel, by decide +kernel⟩, List.mem_of_getElem? (i := 440) (by decide +kernel), List.mem_of_getElem? (i := 595) (by decide +kernel), List.mem_of_getElem? (i := 596) (by decide +kernel)⟩
theorem lw_p34 : lw_okq (⟨"PlaneCellsModel", "addRoots", "(JJJ)V"⟩, 25) := ⟨⟨by decide +kernel, by decide +kernel⟩, List.mem_of_getElem? (i := 440) (by decide +kernel), List.mem_of_getElem? (i := 599) (by decide +kernel), List.mem_of_getElem? (i := 600) (by decide +kernel)⟩
theorem lw_p35 : lw_okq (⟨"PlaneCellsModel", "addRoot", "(JJJI)V"⟩, 25) := ⟨⟨by decide +kernel, by decide +kernel⟩, List.mem_of_getElem? (i := 440) (by decide +kernel), List.mem_of_getElem? (i := 604) (by decide +kernel), List.mem_of_getElem? (i := 605) (by decide +kernel)⟩
theorem lw_p36 : lw_okq (⟨"PlaneCellsModel", "against", "(IJJJI)I"⟩, 25) := ⟨⟨by decide +kernel, by decide +kernel⟩, List.mem_of_getElem? (i := 440) (by decide +kernel), List.mem_of_getElem? (i := 608) (by decide +kernel), List.mem_of_getElem? (i := 609) (by decide +kernel)⟩
theorem lw_p37 : lw_okq (⟨"PlaneCellsModel", "signAt", "(IJJJ)I"⟩, 25) := ⟨⟨by decide +kernel, by decide +kernel⟩, List.mem_of_getElem? (i := 440) (by decide +kernel), List.mem_of_getElem? (i := 612) (by decide +kernel), List.mem_of_getElem? (i := 613) (by decide +kernel)⟩
theorem lw_p38 : lw_okq (⟨"PlaneCellsModel", "mixed", "(III)J"⟩, 25) := ⟨⟨by decide +kernel, by decide +kernel⟩, List.mem_of_getElem? (i := 440) (by decide +kernel), List.mem_of_getElem? (i := 623) (by decide +kernel), List.mem_of_getElem? (i := 624) (by decide +kernel)⟩
theorem lw_p39 : lw_okq (⟨"PlaneCellsModel", "cross", "(IIII)J"⟩, 25) := ⟨⟨by decide +kernel, by decide +kernel⟩, List.mem_of_getElem? (i := 440) (by decide +kernel), List.mem_of_getElem? (i := 627) (by decide +kernel), List.mem_of_getElem? (i := 628) (by decide +kernel)⟩
theorem lw_p40 : lw_okq (⟨"PlaneCellsModel", "columnHolds", "(I)Z"⟩, 25) := ⟨⟨by decide +kernel, by decide +kernel⟩, List.mem_of_getElem? (i := 440) (by decide +kernel), List.mem_of_getElem? (i := 631) (by decide +kernel), List.mem_of_getElem? (i := 632) (by decide +kernel)⟩
theorem lw_p41 : lw_okq (⟨"PlaneCellsModel", "look", "(I)V"⟩, 25) := ⟨⟨by decide +kernel, by decide +kernel⟩, List.mem_of_getElem? (i := 440) (by decide +kernel), List.mem_of_getElem? (i := 635) (by decide +kernel), List.mem_of_getElem? (i := 636) (by decide +kernel)⟩
theorem lw_p42 : lw_okq (⟨"PlaneCellsModel", "signIn", "(IJJJ)I"⟩, 25) := ⟨⟨by decide +kernel, by decide +kernel⟩, List.mem_of_getElem? (i := 440) (by decide +kernel), List.mem_of_getElem? (i := 639) (by decide +kernel), List.mem_of_getElem? (i := 640) (by decide +kernel)⟩
theorem lw_p43 : lw_okq (⟨"PlaneCellsModel", "signBehind", "(IJJJ)I"⟩, 25) := ⟨⟨by decide +kernel, by decide +kernel⟩, List.mem_of_getElem? (i := 440) (by decide +kernel), List.mem_of_getElem? (i := 643) (by decide +kernel), List.mem_of_getElem? (i := 644) (by decide +kernel)⟩
theorem lw_p44 : lw_okq (⟨"PlaneCellsModel", "compareY", "(III)I"⟩, 25) := ⟨⟨by decide +kernel, by decide +kernel⟩, List.mem_of_getElem? (i := 440) (by decide +kernel), List.mem_of_getElem? (i := 647) (by decide +kernel), List.mem_of_getElem? (i := 648) (by decide +kernel)⟩
theorem lw_p45 : lw_okq (⟨"PlaneCellsModel", "isFirst", "(II)Z"⟩, 25) := ⟨⟨by decide +kernel, by decide +kernel⟩, List.mem_of_getElem? (i := 440) (by decide +kernel), List.mem_of_getElem? (i := 651) (by decide +kernel), List.mem_of_getElem? (i := 652) (by decide +kernel)⟩
theorem lw_p46 : lw_okq (⟨"PlaneCellsModel", "formulaIn", "(II)Z"⟩, 25) := ⟨⟨by decide +kernel, by decide +kernel⟩, List.mem_of_getElem? (i := 440) (by decide +kernel), List.mem_of_getElem? (i := 655) (by decide +kernel), List.mem_of_getElem? (i := 656) (by decide +kernel)⟩
theorem lw_p47 : lw_okq (⟨"PlaneCellsModel", "signOfCell", "(III)I"⟩, 25) := ⟨⟨by decide +kernel, by decide +kernel⟩, List.mem_of_getElem? (i := 440) (by decide +kernel), List.mem_of_getElem? (i := 659) (by decide +kernel), List.mem_of_getElem? (i := 660) (by decide +kernel)⟩
def lw_privs_3 : List (MethodName × Nat) := [(⟨"PlaneCellsModel", "readSum", "(III)I"⟩, 25), (⟨"PlaneCellsModel", "findCriticals", "()V"⟩, 25), (⟨"PlaneCellsModel", "addRoots", "(JJJ)V"⟩, 25), (⟨"PlaneCellsModel", "addRoot", "(JJJI)V"⟩, 25), (⟨"PlaneCellsModel", "against", "(IJJJI)I"⟩, 25), (⟨"PlaneCellsModel", "signAt", "(IJJJ)I"⟩, 25), (⟨"PlaneCellsModel", "mixed", "(III)J"⟩, 25), (⟨"PlaneCellsModel", "cross", "(IIII)J"⟩, 25), (⟨"PlaneCellsModel", "columnHolds", "(I)Z"⟩, 25), (⟨"PlaneCellsModel", "look", "(I)V"⟩, 25), (⟨"PlaneCellsModel", "signIn", "(IJJJ)I"⟩, 25), (⟨"PlaneCellsModel", "signBehind", "(IJJJ)I"⟩, 25), (⟨"PlaneCellsModel", "compareY", "(III)I"⟩, 25), (⟨"PlaneCellsModel", "isFirst", "(II)Z"⟩, 25), (⟨"PlaneCellsModel", "formulaIn", "(II)Z"⟩, 25), (⟨"PlaneCellsModel", "signOfCell", "(III)I"⟩, 25)]
theorem lw_r3 : ∀ q ∈ lw_privs_3, lw_okq q := List.forall_mem_cons.mpr ⟨lw_p32, List.forall_mem_cons.mpr ⟨lw_p33, List.forall_mem_cons.mpr ⟨lw_p34, List.forall_mem_cons.mpr ⟨lw_p35, List.forall_mem_cons.mpr ⟨lw_p36, List.forall_mem_cons.mpr ⟨lw_p37, List.forall_mem_cons.mpr ⟨lw_p38, List.forall_mem_cons.mpr ⟨lw_p39, List.forall_mem_cons.mpr ⟨lw_p40, List.forall_mem_cons.mpr ⟨lw_p41, List.forall_mem_cons.mpr ⟨lw_p42, List.forall_mem_cons.mpr ⟨lw_p43, List.forall_mem_cons.mpr ⟨lw_p44, List.forall_mem_cons.mpr ⟨lw_p45, List.forall_mem_cons.mpr ⟨lw_p46, List.forall_mem_cons.mpr ⟨lw_p47, fun _ h => absurd h List.not_mem_nil⟩⟩⟩⟩⟩⟩⟩⟩⟩⟩⟩⟩⟩⟩⟩⟩
theorem lw_p48 : lw_okq (⟨"PlaneCellsModel", "isColumn", "(I)Z"⟩, 25) := ⟨⟨by decide +kernel, by decide +kernel⟩, List.mem_of_getElem? (i := 440) (by decide +kernel), List.mem_of_getElem? (i := 683) (by decide +kernel), List.mem_of_getElem? (i := 684) (by decide +kernel)⟩
theorem lw_p49 : lw_okq (⟨"PlaneCellsModel", "isCell", "(II)Z"⟩, 25) := ⟨⟨by decide +kernel, by decide +kernel⟩, List.mem_of_getElem? (i := 440) (by decide +kernel), List.mem_of_getElem? (i := 691) (by decide +kernel), List.mem_of_getElem? (i := 692) (by decide +kernel)⟩
def lw_privs_4 : List (MethodName × Nat) := [(⟨"PlaneCellsModel", "isColumn", "(I)Z"⟩, 25), (⟨"PlaneCellsModel", "isCell", "(II)Z"⟩, 25)]
theorem lw_r4 : ∀ q ∈ lw_privs_4, lw_okq q := List.forall_mem_cons.mpr ⟨lw_p48, List.forall_mem_cons.mpr ⟨lw_p49, fun _ h => absurd h List.not_mem_nil⟩⟩
def lw_privs : List (MethodName × Nat) := lw_privs_1 ++ (lw_privs_2 ++ (lw_privs_3 ++ (lw_privs_4)))
def lw_tbl : List Cond := k2_sels lw_privs ++ tables_1
theorem lw_privs_ok : ∀ q ∈ lw_privs, lw_okq q := by
  show ∀ q ∈ lw_privs_1 ++ (lw_privs_2 ++ (lw_privs_3 ++ (lw_privs_4))), lw_okq q
  exact List.forall_mem_append.mpr ⟨lw_r1, List.forall_mem_append.mpr ⟨lw_r2, List.forall_mem_append.mpr ⟨lw_r3, lw_r4⟩⟩⟩
end
section
def jx_isN : Cond → Bool
  | .fieldLinkNest .. => true
  | .methodLinkNest .. => true
  | _ => false
def jx_W : List Cond := lw_tbl.filter goodWord
def jx_Z : List Cond := lw_tbl.filter jx_isN
theorem jx_Wg : jx_W.all goodWord = true := List.all_eq_true.mpr (fun w hw => (List.mem_filter.mp hw).2)
theorem jx_Zn : jx_Z.all jx_isN = true := List.all_eq_true.mpr (fun w hw => (List.mem_filter.mp hw).2)
theorem jx_mem {w : Cond} (i : Nat) (h : tables_1[i]? = some w) (hg : goodWord w = true) : w ∈ jx_W := List.mem_filter.mpr ⟨List.mem_append_right _ (List.mem_of_getElem? h), hg⟩
theorem jx_memZ {w : Cond} (i : Nat) (h : tables_1[i]? = some w) (hg : jx_isN w = true) : w ∈ jx_Z := List.mem_filter.mpr ⟨List.mem_append_right _ (List.mem_of_getElem? h), hg⟩
theorem jx_memS {w : Cond} (i : Nat) (h : (k2_sels lw_privs)[i]? = some w) (hg : goodWord w = true) : w ∈ jx_W := List.mem_filter.mpr ⟨List.mem_append_left _ (List.mem_of_getElem? h), hg⟩
def jn_F_P : u_T := fun k => match k with
  | 0 => ("PlaneCells", "sentence", "LPlaneCells$Sentence;", true)
  | 1 => ("PlaneCells", "reader", "LPlaneCells$Reader;", true)
  | 2 => ("PlaneCells", "plane", "LPlaneCells$Plane;", true)
  | 3 => ("PlaneCells", "illPlace", "I", false)
  | 4 => ("PlaneCells", "columnCount", "I", false)
  | _ => ("PlaneCells", "witnessColumn", "I", false)
def jn_t_P : Nat → FieldType := fun k => match k with
  | 0 => .object "PlaneCells$Sentence"
  | 1 => .object "PlaneCells$Reader"
  | 2 => .object "PlaneCells$Plane"
  | 3 => .int
  | 4 => .int
  | _ => .int
theorem jn_nm_P : ∀ a, a < 6 → ∀ b, b < 6 → a ≠ b → (jn_F_P a).2.1 ≠ (jn_F_P b).2.1 := by decide +kernel
theorem jn_tok_P : ∀ k, k < 6 → parseFieldDescriptor (jn_F_P k).2.2.1 = some (jn_t_P k) := by decide +kernel
theorem jn_in_P : ∀ w ∈ u_ws "PlaneCells" jn_F_P 6, w ∈ jx_W := by
  intro w hw
  obtain ⟨k, hk, rfl⟩ := List.mem_map.mp hw
  have hk := List.mem_range.mp hk
  refine List.mem_filter.mpr ⟨List.mem_append_right _ ?_, ?_⟩
  · exact (by decide +kernel : ∀ k, k < 6 → u_lay "PlaneCells" jn_F_P k ∈ tables_1) k hk
  · exact (by decide +kernel : ∀ k, k < 6 → goodWord (u_lay "PlaneCells" jn_F_P k) = true) k hk
def jn_F_S : u_T := fun k => match k with
  | 0 => ("PlaneCells$Sentence", "numbers", "[I", true)
  | 1 => ("PlaneCells$Sentence", "relations", "[C", true)
  | 2 => ("PlaneCells$Sentence", "steps", "[I", true)
  | 3 => ("PlaneCells$Sentence", "stepCount", "I", false)
  | 4 => ("PlaneCells$Sentence", "atoms", "I", false)
  | 5 => ("PlaneCells$Sentence", "allX", "Z", false)
  | _ => ("PlaneCells$Sentence", "allY", "Z", false)
def jn_t_S : Nat → FieldType := fun k => match k with
  | 0 => .array .int
  | 1 => .array .char
  | 2 => .array .int
  | 3 => .int
  | 4 => .int
  | 5 => .boolean
  | _ => .boolean
theorem jn_nm_S : ∀ a, a < 7 → ∀ b, b < 7 → a ≠ b → (jn_F_S a).2.1 ≠ (jn_F_S b).2.1 := by decide +kernel
theorem jn_tok_S : ∀ k, k < 7 → parseFieldDescriptor (jn_F_S k).2.2.1 = some (jn_t_S k) := by decide +kernel
theorem jn_in_S : ∀ w ∈ u_ws "PlaneCells$Sentence" jn_F_S 7, w ∈ jx_W := by
  intro w hw
  obtain ⟨k, hk, rfl⟩ := List.mem_map.mp hw
  have hk := List.mem_range.mp hk
  refine List.mem_filter.mpr ⟨List.mem_append_right _ ?_, ?_⟩
  · exact (by decide +kernel : ∀ k, k < 7 → u_lay "PlaneCells$Sentence" jn_F_S k ∈ tables_1) k hk
  · exact (by decide +kernel : ∀ k, k < 7 → goodWord (u_lay "PlaneCells$Sentence" jn_F_S k) = true) k hk
def jn_F_R : u_T := fun k => match k with
  | 0 => ("PlaneCells$Reader", "sentence", "LPlaneCells$Sentence;", true)
  | 1 => ("PlaneCells$Reader", "text", "[C", true)
  | 2 => ("PlaneCells$Reader", "waiting", "[I", true)
  | 3 => ("PlaneCells$Reader", "sum", "[I", true)
  | 4 => ("PlaneCells$Reader", "written", "I", false)
  | 5 => ("PlaneCells$Reader", "length", "I", false)
  | 6 => ("PlaneCells$Reader", "at", "I", false)
  | 7 => ("PlaneCells$Reader", "waitingCount", "I", false)
  | _ => ("PlaneCells$Reader", "open", "I", false)
def jn_t_R : Nat → FieldType := fun k => match k with
  | 0 => .object "PlaneCells$Sentence"
  | 1 => .array .char
  | 2 => .array .int
  | 3 => .array .int
  | 4 => .int
  | 5 => .int
  | 6 => .int
  | 7 => .int
  | _ => .int
theorem jn_nm_R : ∀ a, a < 9 → ∀ b, b < 9 → a ≠ b → (jn_F_R a).2.1 ≠ (jn_F_R b).2.1 := by decide +kernel
theorem jn_tok_R : ∀ k, k < 9 → parseFieldDescriptor (jn_F_R k).2.2.1 = some (jn_t_R k) := by decide +kernel
theorem jn_in_R : ∀ w ∈ u_ws "PlaneCells$Reader" jn_F_R 9, w ∈ jx_W := by
  intro w hw
  obtain ⟨k, hk, rfl⟩ := List.mem_map.mp hw
  have hk := List.mem_range.mp hk
  refine List.mem_filter.mpr ⟨List.mem_append_right _ ?_, ?_⟩
  · exact (by decide +kernel : ∀ k, k < 9 → u_lay "PlaneCells$Reader" jn_F_R k ∈ tables_1) k hk
  · exact (by decide +kernel : ∀ k, k < 9 → goodWord (u_lay "PlaneCells$Reader" jn_F_R k) = true) k hk
def jn_F_Q : u_T := fun k => match k with
  | 0 => ("PlaneCells$Plane", "sentence", "LPlaneCells$Sentence;", true)
  | 1 => ("PlaneCells$Plane", "critical", "LPlaneCells$CriticalNumbers;", true)
  | 2 => ("PlaneCells$Plane", "form", "LPlaneCells$Form;", true)
  | 3 => ("PlaneCells$Plane", "signOfA", "[I", true)
  | 4 => ("PlaneCells$Plane", "signOfB", "[I", true)
  | 5 => ("PlaneCells$Plane", "zeroCell", "[I", true)
  | _ => ("PlaneCells$Plane", "cellCount", "I", false)
def jn_t_Q : Nat → FieldType := fun k => match k with
  | 0 => .object "PlaneCells$Sentence"
  | 1 => .object "PlaneCells$CriticalNumbers"
  | 2 => .object "PlaneCells$Form"
  | 3 => .array .int
  | 4 => .array .int
  | 5 => .array .int
  | _ => .int
theorem jn_nm_Q : ∀ a, a < 7 → ∀ b, b < 7 → a ≠ b → (jn_F_Q a).2.1 ≠ (jn_F_Q b).2.1 := by decide +kernel
theorem jn_tok_Q : ∀ k, k < 7 → parseFieldDescriptor (jn_F_Q k).2.2.1 = some (jn_t_Q k) := by decide +kernel
theorem jn_in_Q : ∀ w ∈ u_ws "PlaneCells$Plane" jn_F_Q 7, w ∈ jx_W := by
  intro w hw
  obtain ⟨k, hk, rfl⟩ := List.mem_map.mp hw
  have hk := List.mem_range.mp hk
  refine List.mem_filter.mpr ⟨List.mem_append_right _ ?_, ?_⟩
  · exact (by decide +kernel : ∀ k, k < 7 → u_lay "PlaneCells$Plane" jn_F_Q k ∈ tables_1) k hk
  · exact (by decide +kernel : ∀ k, k < 7 → goodWord (u_lay "PlaneCells$Plane" jn_F_Q k) = true) k hk
def jn_F_C : u_T := fun k => match k with
  | 0 => ("PlaneCells$CriticalNumbers", "top", "[I", true)
  | 1 => ("PlaneCells$CriticalNumbers", "radicand", "[I", true)
  | 2 => ("PlaneCells$CriticalNumbers", "bottom", "[I", true)
  | _ => ("PlaneCells$CriticalNumbers", "count", "I", false)
def jn_t_C : Nat → FieldType := fun k => match k with
  | 0 => .array .int
  | 1 => .array .int
  | 2 => .array .int
  | _ => .int
theorem jn_nm_C : ∀ a, a < 4 → ∀ b, b < 4 → a ≠ b → (jn_F_C a).2.1 ≠ (jn_F_C b).2.1 := by decide +kernel
theorem jn_tok_C : ∀ k, k < 4 → parseFieldDescriptor (jn_F_C k).2.2.1 = some (jn_t_C k) := by decide +kernel
theorem jn_in_C : ∀ w ∈ u_ws "PlaneCells$CriticalNumbers" jn_F_C 4, w ∈ jx_W := by
  intro w hw
  obtain ⟨k, hk, rfl⟩ := List.mem_map.mp hw
  have hk := List.mem_range.mp hk
  refine List.mem_filter.mpr ⟨List.mem_append_right _ ?_, ?_⟩
  · exact (by decide +kernel : ∀ k, k < 4 → u_lay "PlaneCells$CriticalNumbers" jn_F_C k ∈ tables_1) k hk
  · exact (by decide +kernel : ∀ k, k < 4 → goodWord (u_lay "PlaneCells$CriticalNumbers" jn_F_C k) = true) k hk
def jn_F_F : u_T := fun k => match k with
  | 0 => ("PlaneCells$Form", "constant", "I", false)
  | 1 => ("PlaneCells$Form", "linear", "I", false)
  | _ => ("PlaneCells$Form", "square", "I", false)
def jn_t_F : Nat → FieldType := fun k => match k with
  | 0 => .int
  | 1 => .int
  | _ => .int
theorem jn_nm_F : ∀ a, a < 3 → ∀ b, b < 3 → a ≠ b → (jn_F_F a).2.1 ≠ (jn_F_F b).2.1 := by decide +kernel
theorem jn_tok_F : ∀ k, k < 3 → parseFieldDescriptor (jn_F_F k).2.2.1 = some (jn_t_F k) := by decide +kernel
theorem jn_in_F : ∀ w ∈ u_ws "PlaneCells$Form" jn_F_F 3, w ∈ jx_W := by
  intro w hw
  obtain ⟨k, hk, rfl⟩ := List.mem_map.mp hw
  have hk := List.mem_range.mp hk
  refine List.mem_filter.mpr ⟨List.mem_append_right _ ?_, ?_⟩
  · exact (by decide +kernel : ∀ k, k < 3 → u_lay "PlaneCells$Form" jn_F_F k ∈ tables_1) k hk
  · exact (by decide +kernel : ∀ k, k < 3 → goodWord (u_lay "PlaneCells$Form" jn_F_F k) = true) k hk
def jn_F_M : u_T := fun k => match k with
  | 0 => ("PlaneCellsModel", "written", "I", false)
  | 1 => ("PlaneCellsModel", "text", "[I", false)
  | 2 => ("PlaneCellsModel", "size", "I", false)
  | 3 => ("PlaneCellsModel", "line", "[I", false)
  | 4 => ("PlaneCellsModel", "fault", "I", false)
  | 5 => ("PlaneCellsModel", "allX", "Z", false)
  | 6 => ("PlaneCellsModel", "allY", "Z", false)
  | 7 => ("PlaneCellsModel", "many", "I", false)
  | 8 => ("PlaneCellsModel", "number", "[I", false)
  | 9 => ("PlaneCellsModel", "parts", "I", false)
  | 10 => ("PlaneCellsModel", "part", "[I", false)
  | 11 => ("PlaneCellsModel", "waits", "I", false)
  | 12 => ("PlaneCellsModel", "waiting", "[I", false)
  | 13 => ("PlaneCellsModel", "truth", "[Z", false)
  | 14 => ("PlaneCellsModel", "criticals", "I", false)
  | 15 => ("PlaneCellsModel", "rootA", "[J", false)
  | 16 => ("PlaneCellsModel", "rootB", "[J", false)
  | 17 => ("PlaneCellsModel", "rootC", "[J", false)
  | 18 => ("PlaneCellsModel", "rootWhich", "[I", false)
  | 19 => ("PlaneCellsModel", "column", "I", false)
  | 20 => ("PlaneCellsModel", "heights", "I", false)
  | 21 => ("PlaneCellsModel", "signA", "[I", false)
  | 22 => ("PlaneCellsModel", "rank", "[I", false)
  | 23 => ("PlaneCellsModel", "columnCount", "I", false)
  | _ => ("PlaneCellsModel", "relation", "[I", false)
def jn_t_M : Nat → FieldType := fun k => match k with
  | 0 => .int
  | 1 => .array .int
  | 2 => .int
  | 3 => .array .int
  | 4 => .int
  | 5 => .boolean
  | 6 => .boolean
  | 7 => .int
  | 8 => .array .int
  | 9 => .int
  | 10 => .array .int
  | 11 => .int
  | 12 => .array .int
  | 13 => .array .boolean
  | 14 => .int
  | 15 => .array .long
  | 16 => .array .long
  | 17 => .array .long
  | 18 => .array .int
  | 19 => .int
  | 20 => .int
  | 21 => .array .int
  | 22 => .array .int
  | 23 => .int
  | _ => .array .int
theorem jn_nm_M : ∀ a, a < 25 → ∀ b, b < 25 → a ≠ b → (jn_F_M a).2.1 ≠ (jn_F_M b).2.1 := by decide +kernel
theorem jn_tok_M : ∀ k, k < 25 → parseFieldDescriptor (jn_F_M k).2.2.1 = some (jn_t_M k) := by decide +kernel
theorem jn_in_M : ∀ w ∈ u_ws "PlaneCellsModel" jn_F_M 25, w ∈ jx_W := by
  intro w hw
  obtain ⟨k, hk, rfl⟩ := List.mem_map.mp hw
  have hk := List.mem_range.mp hk
  refine List.mem_filter.mpr ⟨List.mem_append_right _ ?_, ?_⟩
  · exact (by decide +kernel : ∀ k, k < 25 → u_lay "PlaneCellsModel" jn_F_M k ∈ tables_1) k hk
  · exact (by decide +kernel : ∀ k, k < 25 → goodWord (u_lay "PlaneCellsModel" jn_F_M k) = true) k hk
abbrev jx_cl : List vw_C := [("PlaneCells", jn_F_P, 6), ("PlaneCells$Sentence", jn_F_S, 7), ("PlaneCells$Reader", jn_F_R, 9), ("PlaneCells$Plane", jn_F_Q, 7), ("PlaneCells$CriticalNumbers", jn_F_C, 4), ("PlaneCells$Form", jn_F_F, 3), ("PlaneCellsModel", jn_F_M, 25)]
abbrev b_C_clear : ByteArray := prog_2_method_2_code
def y_C_clear : MethodName := ⟨"PlaneCells$CriticalNumbers", "clear", "()V"⟩
abbrev b_C_addZerosOf : ByteArray := prog_2_method_3_code
def y_C_addZerosOf : MethodName := ⟨"PlaneCells$CriticalNumbers", "addZerosOf", "(LPlaneCells$Form;)V"⟩
abbrev b_C_add : ByteArray := prog_2_method_4_code
def y_C_add : MethodName := ⟨"PlaneCells$CriticalNumbers", "add", "(III)V"⟩
abbrev b_C_insert : ByteArray := prog_2_method_5_code
def y_C_insert : MethodName := ⟨"PlaneCells$CriticalNumbers", "insert", "(IIII)V"⟩
abbrev b_C_signOfDifference : ByteArray := prog_2_method_6_code
def y_C_signOfDifference : MethodName := ⟨"PlaneCells$CriticalNumbers", "signOfDifference", "(IIII)I"⟩
abbrev b_C_signWithRoots : ByteArray := prog_2_method_7_code
def y_C_signWithRoots : MethodName := ⟨"PlaneCells$CriticalNumbers", "signWithRoots", "(JJJ)I"⟩
abbrev b_C_signInColumn : ByteArray := prog_2_method_8_code
def y_C_signInColumn : MethodName := ⟨"PlaneCells$CriticalNumbers", "signInColumn", "(ILPlaneCells$Form;)I"⟩
abbrev b_C_signBelowAll : ByteArray := prog_2_method_9_code
def y_C_signBelowAll : MethodName := ⟨"PlaneCells$CriticalNumbers", "signBelowAll", "(LPlaneCells$Form;)I"⟩
abbrev b_C_signAt : ByteArray := prog_2_method_10_code
def y_C_signAt : MethodName := ⟨"PlaneCells$CriticalNumbers", "signAt", "(IJJJ)I"⟩
abbrev b_F_setA : ByteArray := prog_3_method_2_code
def y_F_setA : MethodName := ⟨"PlaneCells$Form", "setA", "(LPlaneCells$Sentence;I)V"⟩
abbrev b_F_setB : ByteArray := prog_3_method_3_code
def y_F_setB : MethodName := ⟨"PlaneCells$Form", "setB", "(LPlaneCells$Sentence;I)V"⟩
abbrev b_F_setPair : ByteArray := prog_3_method_4_code
def y_F_setPair : MethodName := ⟨"PlaneCells$Form", "setPair", "(LPlaneCells$Sentence;II)V"⟩
abbrev b_Q_cut : ByteArray := prog_4_method_2_code
def y_Q_cut : MethodName := ⟨"PlaneCells$Plane", "cut", "()V"⟩
abbrev b_Q_countColumns : ByteArray := prog_4_method_3_code
def y_Q_countColumns : MethodName := ⟨"PlaneCells$Plane", "countColumns", "()I"⟩
abbrev b_Q_enter : ByteArray := prog_4_method_4_code
def y_Q_enter : MethodName := ⟨"PlaneCells$Plane", "enter", "(I)V"⟩
abbrev b_Q_addZero : ByteArray := prog_4_method_5_code
def y_Q_addZero : MethodName := ⟨"PlaneCells$Plane", "addZero", "(II)V"⟩
abbrev b_Q_signIn : ByteArray := prog_4_method_6_code
def y_Q_signIn : MethodName := ⟨"PlaneCells$Plane", "signIn", "(II)I"⟩
abbrev b_Q_trueIn : ByteArray := prog_4_method_7_code
def y_Q_trueIn : MethodName := ⟨"PlaneCells$Plane", "trueIn", "(I)Z"⟩
abbrev b_Q_columnHolds : ByteArray := prog_4_method_8_code
def y_Q_columnHolds : MethodName := ⟨"PlaneCells$Plane", "columnHolds", "()Z"⟩
abbrev b_R_clear : ByteArray := prog_5_method_2_code
def y_R_clear : MethodName := ⟨"PlaneCells$Reader", "clear", "()V"⟩
abbrev b_R_append : ByteArray := prog_5_method_3_code
def y_R_append : MethodName := ⟨"PlaneCells$Reader", "append", "(C)Z"⟩
abbrev b_R_countOpenings : ByteArray := prog_5_method_4_code
def y_R_countOpenings : MethodName := ⟨"PlaneCells$Reader", "countOpenings", "()I"⟩
abbrev b_R_readSentence : ByteArray := prog_5_method_5_code
def y_R_readSentence : MethodName := ⟨"PlaneCells$Reader", "readSentence", "()Z"⟩
abbrev b_R_takeHead : ByteArray := prog_5_method_6_code
def y_R_takeHead : MethodName := ⟨"PlaneCells$Reader", "takeHead", "()Z"⟩
abbrev b_R_takeQuantifier : ByteArray := prog_5_method_7_code
def y_R_takeQuantifier : MethodName := ⟨"PlaneCells$Reader", "takeQuantifier", "()Z"⟩
abbrev b_R_takeOpenings : ByteArray := prog_5_method_8_code
def y_R_takeOpenings : MethodName := ⟨"PlaneCells$Reader", "takeOpenings", "()V"⟩
abbrev b_R_takeClosings : ByteArray := prog_5_method_9_code
def y_R_takeClosings : MethodName := ⟨"PlaneCells$Reader", "takeClosings", "()V"⟩
abbrev b_R_takeJoint : ByteArray := prog_5_method_10_code
def y_R_takeJoint : MethodName := ⟨"PlaneCells$Reader", "takeJoint", "()Z"⟩
abbrev b_R_hold : ByteArray := prog_5_method_11_code
def y_R_hold : MethodName := ⟨"PlaneCells$Reader", "hold", "(I)V"⟩
abbrev b_R_release : ByteArray := prog_5_method_12_code
def y_R_release : MethodName := ⟨"PlaneCells$Reader", "release", "(I)V"⟩
abbrev b_R_takeAtom : ByteArray := prog_5_method_13_code
def y_R_takeAtom : MethodName := ⟨"PlaneCells$Reader", "takeAtom", "()Z"⟩
abbrev b_R_takeSum : ByteArray := prog_5_method_14_code
def y_R_takeSum : MethodName := ⟨"PlaneCells$Reader", "takeSum", "(I)Z"⟩
abbrev b_R_takeTerm : ByteArray := prog_5_method_15_code
def y_R_takeTerm : MethodName := ⟨"PlaneCells$Reader", "takeTerm", "(I)Z"⟩
abbrev b_R_numberOfLetter : ByteArray := prog_5_method_16_code
def y_R_numberOfLetter : MethodName := ⟨"PlaneCells$Reader", "numberOfLetter", "(C)I"⟩
abbrev b_R_peek : ByteArray := prog_5_method_17_code
def y_R_peek : MethodName := ⟨"PlaneCells$Reader", "peek", "()C"⟩
abbrev b_R_take : ByteArray := prog_5_method_18_code
def y_R_take : MethodName := ⟨"PlaneCells$Reader", "take", "(C)Z"⟩
abbrev b_S_clear : ByteArray := prog_6_method_2_code
def y_S_clear : MethodName := ⟨"PlaneCells$Sentence", "clear", "()V"⟩
abbrev b_S_addAtom : ByteArray := prog_6_method_3_code
def y_S_addAtom : MethodName := ⟨"PlaneCells$Sentence", "addAtom", "([IC)V"⟩
abbrev b_S_addStep : ByteArray := prog_6_method_4_code
def y_S_addStep : MethodName := ⟨"PlaneCells$Sentence", "addStep", "(I)V"⟩
abbrev b_S_fits : ByteArray := prog_6_method_5_code
def y_S_fits : MethodName := ⟨"PlaneCells$Sentence", "fits", "()Z"⟩
abbrev b_S_number : ByteArray := prog_6_method_6_code
def y_S_number : MethodName := ⟨"PlaneCells$Sentence", "number", "(II)I"⟩
abbrev b_S_atomIsTrue : ByteArray := prog_6_method_7_code
def y_S_atomIsTrue : MethodName := ⟨"PlaneCells$Sentence", "atomIsTrue", "(II)Z"⟩
abbrev b_P_write : ByteArray := prog_1_method_2_code
def y_P_write : MethodName := ⟨"PlaneCells", "write", "(C)Z"⟩
abbrev b_P_decide : ByteArray := prog_1_method_3_code
def y_P_decide : MethodName := ⟨"PlaneCells", "decide", "()I"⟩
abbrev b_P_readText : ByteArray := prog_1_method_4_code
def y_P_readText : MethodName := ⟨"PlaneCells", "readText", "()I"⟩
abbrev b_P_place : ByteArray := prog_1_method_5_code
def y_P_place : MethodName := ⟨"PlaneCells", "place", "()I"⟩
abbrev b_P_polynomials : ByteArray := prog_1_method_6_code
def y_P_polynomials : MethodName := ⟨"PlaneCells", "polynomials", "()I"⟩
abbrev b_P_coefficient : ByteArray := prog_1_method_7_code
def y_P_coefficient : MethodName := ⟨"PlaneCells", "coefficient", "(II)I"⟩
abbrev b_P_columns : ByteArray := prog_1_method_8_code
def y_P_columns : MethodName := ⟨"PlaneCells", "columns", "()I"⟩
abbrev b_P_cells : ByteArray := prog_1_method_9_code
def y_P_cells : MethodName := ⟨"PlaneCells", "cells", "(I)I"⟩
abbrev b_P_sign : ByteArray := prog_1_method_10_code
def y_P_sign : MethodName := ⟨"PlaneCells", "sign", "(III)I"⟩
abbrev b_P_truth : ByteArray := prog_1_method_11_code
def y_P_truth : MethodName := ⟨"PlaneCells", "truth", "(II)I"⟩
abbrev b_P_holds : ByteArray := prog_1_method_12_code
def y_P_holds : MethodName := ⟨"PlaneCells", "holds", "(I)I"⟩
abbrev b_P_witness : ByteArray := prog_1_method_13_code
def y_P_witness : MethodName := ⟨"PlaneCells", "witness", "()I"⟩
abbrev b_P_compare : ByteArray := prog_1_method_14_code
def y_P_compare : MethodName := ⟨"PlaneCells", "compare", "(III)I"⟩
abbrev b_P_hasPolynomial : ByteArray := prog_1_method_15_code
def y_P_hasPolynomial : MethodName := ⟨"PlaneCells", "hasPolynomial", "(I)Z"⟩
abbrev b_P_hasColumn : ByteArray := prog_1_method_16_code
def y_P_hasColumn : MethodName := ⟨"PlaneCells", "hasColumn", "(I)Z"⟩
abbrev b_P_hasCell : ByteArray := prog_1_method_17_code
def y_P_hasCell : MethodName := ⟨"PlaneCells", "hasCell", "(I)Z"⟩
abbrev b_P_enterColumn : ByteArray := prog_1_method_18_code
def y_P_enterColumn : MethodName := ⟨"PlaneCells", "enterColumn", "(I)Z"⟩
end
section
theorem wm_1 : (Cond.initialized "PlaneCells") ∈ jx_W := jx_mem 1 (by decide +kernel) rfl
theorem wm_2 : (Cond.initialized "PlaneCells$Sentence") ∈ jx_W := jx_mem 2 (by decide +kernel) rfl
theorem wm_3 : (Cond.initialized "PlaneCells$Reader") ∈ jx_W := jx_mem 3 (by decide +kernel) rfl
theorem wm_4 : (Cond.initialized "PlaneCells$Plane") ∈ jx_W := jx_mem 4 (by decide +kernel) rfl
theorem wm_5 : (Cond.initialized "PlaneCells$CriticalNumbers") ∈ jx_W := jx_mem 5 (by decide +kernel) rfl
theorem wm_6 : (Cond.initialized "PlaneCells$Form") ∈ jx_W := jx_mem 6 (by decide +kernel) rfl
theorem wm_26 : (Cond.fieldLink "PlaneCells$Sentence" 9 "PlaneCells$Sentence" "numbers" "[I") ∈ jx_W := jx_mem 26 (by decide +kernel) rfl
theorem wm_27 : (Cond.fieldLink "PlaneCells$Sentence" 15 "PlaneCells$Sentence" "relations" "[C") ∈ jx_W := jx_mem 27 (by decide +kernel) rfl
theorem wm_28 : (Cond.fieldLink "PlaneCells$Sentence" 19 "PlaneCells$Sentence" "steps" "[I") ∈ jx_W := jx_mem 28 (by decide +kernel) rfl
theorem wm_29 : (Cond.fieldLinkNest "PlaneCells$Plane" 92 "PlaneCells$Sentence" "steps" "[I" "PlaneCells") ∈ jx_Z := jx_memZ 29 (by decide +kernel) rfl
theorem wm_30 : (Cond.fieldLink "PlaneCells$Sentence" 22 "PlaneCells$Sentence" "stepCount" "I") ∈ jx_W := jx_mem 30 (by decide +kernel) rfl
theorem wm_31 : (Cond.fieldLinkNest "PlaneCells$Plane" 89 "PlaneCells$Sentence" "stepCount" "I" "PlaneCells") ∈ jx_Z := jx_memZ 31 (by decide +kernel) rfl
theorem wm_32 : (Cond.fieldLink "PlaneCells$Sentence" 26 "PlaneCells$Sentence" "atoms" "I") ∈ jx_W := jx_mem 32 (by decide +kernel) rfl
theorem wm_33 : (Cond.fieldLinkNest "PlaneCells$Plane" 42 "PlaneCells$Sentence" "atoms" "I" "PlaneCells") ∈ jx_Z := jx_memZ 33 (by decide +kernel) rfl
theorem wm_34 : (Cond.fieldLinkNest "PlaneCells" 84 "PlaneCells$Sentence" "atoms" "I" "PlaneCells") ∈ jx_Z := jx_memZ 34 (by decide +kernel) rfl
theorem wm_35 : (Cond.fieldLinkNest "PlaneCells" 68 "PlaneCells$Sentence" "allX" "Z" "PlaneCells") ∈ jx_Z := jx_memZ 35 (by decide +kernel) rfl
theorem wm_36 : (Cond.fieldLinkNest "PlaneCells$Reader" 71 "PlaneCells$Sentence" "allX" "Z" "PlaneCells") ∈ jx_Z := jx_memZ 36 (by decide +kernel) rfl
theorem wm_37 : (Cond.fieldLinkNest "PlaneCells$Reader" 82 "PlaneCells$Sentence" "allY" "Z" "PlaneCells") ∈ jx_Z := jx_memZ 37 (by decide +kernel) rfl
theorem wm_38 : (Cond.fieldLinkNest "PlaneCells$Plane" 106 "PlaneCells$Sentence" "allY" "Z" "PlaneCells") ∈ jx_Z := jx_memZ 38 (by decide +kernel) rfl
theorem wm_62 : (Cond.fieldLink "PlaneCells$Reader" 22 "PlaneCells$Reader" "sentence" "LPlaneCells$Sentence;") ∈ jx_W := jx_mem 62 (by decide +kernel) rfl
theorem wm_63 : (Cond.fieldLink "PlaneCells$Reader" 9 "PlaneCells$Reader" "text" "[C") ∈ jx_W := jx_mem 63 (by decide +kernel) rfl
theorem wm_64 : (Cond.fieldLink "PlaneCells$Reader" 15 "PlaneCells$Reader" "waiting" "[I") ∈ jx_W := jx_mem 64 (by decide +kernel) rfl
theorem wm_65 : (Cond.fieldLink "PlaneCells$Reader" 19 "PlaneCells$Reader" "sum" "[I") ∈ jx_W := jx_mem 65 (by decide +kernel) rfl
theorem wm_66 : (Cond.fieldLink "PlaneCells$Reader" 26 "PlaneCells$Reader" "written" "I") ∈ jx_W := jx_mem 66 (by decide +kernel) rfl
theorem wm_67 : (Cond.fieldLink "PlaneCells$Reader" 30 "PlaneCells$Reader" "length" "I") ∈ jx_W := jx_mem 67 (by decide +kernel) rfl
theorem wm_68 : (Cond.fieldLinkNest "PlaneCells" 78 "PlaneCells$Reader" "at" "I" "PlaneCells") ∈ jx_Z := jx_memZ 68 (by decide +kernel) rfl
theorem wm_69 : (Cond.fieldLink "PlaneCells$Reader" 33 "PlaneCells$Reader" "at" "I") ∈ jx_W := jx_mem 69 (by decide +kernel) rfl
theorem wm_70 : (Cond.fieldLink "PlaneCells$Reader" 36 "PlaneCells$Reader" "waitingCount" "I") ∈ jx_W := jx_mem 70 (by decide +kernel) rfl
theorem wm_71 : (Cond.fieldLink "PlaneCells$Reader" 39 "PlaneCells$Reader" "open" "I") ∈ jx_W := jx_mem 71 (by decide +kernel) rfl
theorem wm_103 : (Cond.fieldLink "PlaneCells$CriticalNumbers" 9 "PlaneCells$CriticalNumbers" "top" "[I") ∈ jx_W := jx_mem 103 (by decide +kernel) rfl
theorem wm_104 : (Cond.fieldLink "PlaneCells$CriticalNumbers" 15 "PlaneCells$CriticalNumbers" "radicand" "[I") ∈ jx_W := jx_mem 104 (by decide +kernel) rfl
theorem wm_105 : (Cond.fieldLink "PlaneCells$CriticalNumbers" 18 "PlaneCells$CriticalNumbers" "bottom" "[I") ∈ jx_W := jx_mem 105 (by decide +kernel) rfl
theorem wm_106 : (Cond.fieldLink "PlaneCells$CriticalNumbers" 21 "PlaneCells$CriticalNumbers" "count" "I") ∈ jx_W := jx_mem 106 (by decide +kernel) rfl
theorem wm_107 : (Cond.fieldLinkNest "PlaneCells$Plane" 63 "PlaneCells$CriticalNumbers" "count" "I" "PlaneCells") ∈ jx_Z := jx_memZ 107 (by decide +kernel) rfl
theorem wm_123 : (Cond.fieldLink "PlaneCells$Form" 13 "PlaneCells$Form" "constant" "I") ∈ jx_W := jx_mem 123 (by decide +kernel) rfl
theorem wm_124 : (Cond.fieldLinkNest "PlaneCells$CriticalNumbers" 33 "PlaneCells$Form" "constant" "I" "PlaneCells") ∈ jx_Z := jx_memZ 124 (by decide +kernel) rfl
theorem wm_125 : (Cond.fieldLink "PlaneCells$Form" 19 "PlaneCells$Form" "linear" "I") ∈ jx_W := jx_mem 125 (by decide +kernel) rfl
theorem wm_126 : (Cond.fieldLinkNest "PlaneCells$CriticalNumbers" 30 "PlaneCells$Form" "linear" "I" "PlaneCells") ∈ jx_Z := jx_memZ 126 (by decide +kernel) rfl
theorem wm_127 : (Cond.fieldLink "PlaneCells$Form" 22 "PlaneCells$Form" "square" "I") ∈ jx_W := jx_mem 127 (by decide +kernel) rfl
theorem wm_128 : (Cond.fieldLinkNest "PlaneCells$CriticalNumbers" 25 "PlaneCells$Form" "square" "I" "PlaneCells") ∈ jx_Z := jx_memZ 128 (by decide +kernel) rfl
theorem wm_136 : (Cond.fieldLink "PlaneCells$Plane" 35 "PlaneCells$Plane" "sentence" "LPlaneCells$Sentence;") ∈ jx_W := jx_mem 136 (by decide +kernel) rfl
theorem wm_137 : (Cond.fieldLink "PlaneCells$Plane" 12 "PlaneCells$Plane" "critical" "LPlaneCells$CriticalNumbers;") ∈ jx_W := jx_mem 137 (by decide +kernel) rfl
theorem wm_138 : (Cond.fieldLinkNest "PlaneCells" 113 "PlaneCells$Plane" "critical" "LPlaneCells$CriticalNumbers;" "PlaneCells") ∈ jx_Z := jx_memZ 138 (by decide +kernel) rfl
theorem wm_139 : (Cond.fieldLink "PlaneCells$Plane" 21 "PlaneCells$Plane" "form" "LPlaneCells$Form;") ∈ jx_W := jx_mem 139 (by decide +kernel) rfl
theorem wm_140 : (Cond.fieldLink "PlaneCells$Plane" 25 "PlaneCells$Plane" "signOfA" "[I") ∈ jx_W := jx_mem 140 (by decide +kernel) rfl
theorem wm_141 : (Cond.fieldLink "PlaneCells$Plane" 29 "PlaneCells$Plane" "signOfB" "[I") ∈ jx_W := jx_mem 141 (by decide +kernel) rfl
theorem wm_142 : (Cond.fieldLink "PlaneCells$Plane" 32 "PlaneCells$Plane" "zeroCell" "[I") ∈ jx_W := jx_mem 142 (by decide +kernel) rfl
theorem wm_143 : (Cond.fieldLink "PlaneCells$Plane" 66 "PlaneCells$Plane" "cellCount" "I") ∈ jx_W := jx_mem 143 (by decide +kernel) rfl
theorem wm_144 : (Cond.fieldLinkNest "PlaneCells" 98 "PlaneCells$Plane" "cellCount" "I" "PlaneCells") ∈ jx_Z := jx_memZ 144 (by decide +kernel) rfl
theorem wm_160 : (Cond.fieldLink "PlaneCells" 12 "PlaneCells" "sentence" "LPlaneCells$Sentence;") ∈ jx_W := jx_mem 160 (by decide +kernel) rfl
theorem wm_161 : (Cond.fieldLink "PlaneCells" 21 "PlaneCells" "reader" "LPlaneCells$Reader;") ∈ jx_W := jx_mem 161 (by decide +kernel) rfl
theorem wm_162 : (Cond.fieldLink "PlaneCells" 28 "PlaneCells" "plane" "LPlaneCells$Plane;") ∈ jx_W := jx_mem 162 (by decide +kernel) rfl
theorem wm_163 : (Cond.fieldLink "PlaneCells" 32 "PlaneCells" "illPlace" "I") ∈ jx_W := jx_mem 163 (by decide +kernel) rfl
theorem wm_164 : (Cond.fieldLink "PlaneCells" 36 "PlaneCells" "columnCount" "I") ∈ jx_W := jx_mem 164 (by decide +kernel) rfl
theorem wm_165 : (Cond.fieldLink "PlaneCells" 39 "PlaneCells" "witnessColumn" "I") ∈ jx_W := jx_mem 165 (by decide +kernel) rfl
theorem wm_183 : (Cond.methodLink "PlaneCells" 42 ⟨"PlaneCells$Reader", "append", "(C)Z"⟩) ∈ jx_W := jx_mem 183 (by decide +kernel) rfl
theorem wm_184 : (Cond.instanceMethod ⟨"PlaneCells$Reader", "append", "(C)Z"⟩) ∈ jx_W := jx_mem 184 (by decide +kernel) rfl
theorem wm_185 : (Cond.selects "PlaneCells$Reader" ⟨"PlaneCells$Reader", "append", "(C)Z"⟩ ⟨"PlaneCells$Reader", "append", "(C)Z"⟩) ∈ jx_W := jx_mem 185 (by decide +kernel) rfl
theorem wm_186 : (Cond.code y_R_append b_R_append 2 (some .boolean)) ∈ jx_W := jx_mem 186 rfl rfl
theorem wm_191 : (Cond.methodLink "PlaneCells" 46 ⟨"PlaneCells", "readText", "()I"⟩) ∈ jx_W := jx_mem 191 (by decide +kernel) rfl
theorem wm_193 : (Cond.instanceMethod ⟨"PlaneCells", "readText", "()I"⟩) ∈ jx_W := jx_mem 193 (by decide +kernel) rfl
theorem wm_194 : (Cond.code y_P_readText b_P_readText 1 (some .int)) ∈ jx_W := jx_mem 194 rfl rfl
theorem wm_195 : (Cond.methodLink "PlaneCells" 72 ⟨"PlaneCells$Reader", "countOpenings", "()I"⟩) ∈ jx_W := jx_mem 195 (by decide +kernel) rfl
theorem wm_196 : (Cond.instanceMethod ⟨"PlaneCells$Reader", "countOpenings", "()I"⟩) ∈ jx_W := jx_mem 196 (by decide +kernel) rfl
theorem wm_197 : (Cond.selects "PlaneCells$Reader" ⟨"PlaneCells$Reader", "countOpenings", "()I"⟩ ⟨"PlaneCells$Reader", "countOpenings", "()I"⟩) ∈ jx_W := jx_mem 197 (by decide +kernel) rfl
theorem wm_198 : (Cond.code y_R_countOpenings b_R_countOpenings 3 (some .int)) ∈ jx_W := jx_mem 198 rfl rfl
theorem wm_199 : (Cond.methodLink "PlaneCells" 75 ⟨"PlaneCells$Reader", "readSentence", "()Z"⟩) ∈ jx_W := jx_mem 199 (by decide +kernel) rfl
theorem wm_200 : (Cond.instanceMethod ⟨"PlaneCells$Reader", "readSentence", "()Z"⟩) ∈ jx_W := jx_mem 200 (by decide +kernel) rfl
theorem wm_201 : (Cond.selects "PlaneCells$Reader" ⟨"PlaneCells$Reader", "readSentence", "()Z"⟩ ⟨"PlaneCells$Reader", "readSentence", "()Z"⟩) ∈ jx_W := jx_mem 201 (by decide +kernel) rfl
theorem wm_202 : (Cond.code y_R_readSentence b_R_readSentence 2 (some .boolean)) ∈ jx_W := jx_mem 202 rfl rfl
theorem wm_203 : (Cond.methodLink "PlaneCells$Reader" 42 ⟨"PlaneCells$Sentence", "clear", "()V"⟩) ∈ jx_W := jx_mem 203 (by decide +kernel) rfl
theorem wm_204 : (Cond.instanceMethod ⟨"PlaneCells$Sentence", "clear", "()V"⟩) ∈ jx_W := jx_mem 204 (by decide +kernel) rfl
theorem wm_205 : (Cond.selects "PlaneCells$Sentence" ⟨"PlaneCells$Sentence", "clear", "()V"⟩ ⟨"PlaneCells$Sentence", "clear", "()V"⟩) ∈ jx_W := jx_mem 205 (by decide +kernel) rfl
theorem wm_206 : (Cond.code y_S_clear b_S_clear 1 none) ∈ jx_W := jx_mem 206 rfl rfl
theorem wm_207 : (Cond.methodLink "PlaneCells$Reader" 47 ⟨"PlaneCells$Reader", "takeHead", "()Z"⟩) ∈ jx_W := jx_mem 207 (by decide +kernel) rfl
theorem wm_209 : (Cond.instanceMethod ⟨"PlaneCells$Reader", "takeHead", "()Z"⟩) ∈ jx_W := jx_mem 209 (by decide +kernel) rfl
theorem wm_210 : (Cond.code y_R_takeHead b_R_takeHead 1 (some .boolean)) ∈ jx_W := jx_mem 210 rfl rfl
theorem wm_211 : (Cond.methodLink "PlaneCells$Reader" 67 ⟨"PlaneCells$Reader", "peek", "()C"⟩) ∈ jx_W := jx_mem 211 (by decide +kernel) rfl
theorem wm_213 : (Cond.instanceMethod ⟨"PlaneCells$Reader", "peek", "()C"⟩) ∈ jx_W := jx_mem 213 (by decide +kernel) rfl
theorem wm_214 : (Cond.code y_R_peek b_R_peek 1 (some .char)) ∈ jx_W := jx_mem 214 rfl rfl
theorem wm_215 : (Cond.methodLink "PlaneCells$Reader" 75 ⟨"PlaneCells$Reader", "takeQuantifier", "()Z"⟩) ∈ jx_W := jx_mem 215 (by decide +kernel) rfl
theorem wm_217 : (Cond.instanceMethod ⟨"PlaneCells$Reader", "takeQuantifier", "()Z"⟩) ∈ jx_W := jx_mem 217 (by decide +kernel) rfl
theorem wm_218 : (Cond.code y_R_takeQuantifier b_R_takeQuantifier 1 (some .boolean)) ∈ jx_W := jx_mem 218 rfl rfl
theorem wm_219 : (Cond.methodLink "PlaneCells$Reader" 78 ⟨"PlaneCells$Reader", "take", "(C)Z"⟩) ∈ jx_W := jx_mem 219 (by decide +kernel) rfl
theorem wm_221 : (Cond.instanceMethod ⟨"PlaneCells$Reader", "take", "(C)Z"⟩) ∈ jx_W := jx_mem 221 (by decide +kernel) rfl
theorem wm_222 : (Cond.code y_R_take b_R_take 2 (some .boolean)) ∈ jx_W := jx_mem 222 rfl rfl
theorem wm_223 : (Cond.methodLink "PlaneCells$Reader" 51 ⟨"PlaneCells$Reader", "takeOpenings", "()V"⟩) ∈ jx_W := jx_mem 223 (by decide +kernel) rfl
theorem wm_225 : (Cond.instanceMethod ⟨"PlaneCells$Reader", "takeOpenings", "()V"⟩) ∈ jx_W := jx_mem 225 (by decide +kernel) rfl
theorem wm_226 : (Cond.code y_R_takeOpenings b_R_takeOpenings 1 none) ∈ jx_W := jx_mem 226 rfl rfl
theorem wm_227 : (Cond.methodLink "PlaneCells$Reader" 85 ⟨"PlaneCells$Reader", "hold", "(I)V"⟩) ∈ jx_W := jx_mem 227 (by decide +kernel) rfl
theorem wm_229 : (Cond.instanceMethod ⟨"PlaneCells$Reader", "hold", "(I)V"⟩) ∈ jx_W := jx_mem 229 (by decide +kernel) rfl
theorem wm_230 : (Cond.code y_R_hold b_R_hold 2 none) ∈ jx_W := jx_mem 230 rfl rfl
theorem wm_231 : (Cond.methodLink "PlaneCells$Reader" 54 ⟨"PlaneCells$Reader", "takeAtom", "()Z"⟩) ∈ jx_W := jx_mem 231 (by decide +kernel) rfl
theorem wm_233 : (Cond.instanceMethod ⟨"PlaneCells$Reader", "takeAtom", "()Z"⟩) ∈ jx_W := jx_mem 233 (by decide +kernel) rfl
theorem wm_234 : (Cond.code y_R_takeAtom b_R_takeAtom 3 (some .boolean)) ∈ jx_W := jx_mem 234 rfl rfl
theorem wm_235 : (Cond.methodLink "PlaneCells$Reader" 91 ⟨"PlaneCells$Reader", "takeSum", "(I)Z"⟩) ∈ jx_W := jx_mem 235 (by decide +kernel) rfl
theorem wm_237 : (Cond.instanceMethod ⟨"PlaneCells$Reader", "takeSum", "(I)Z"⟩) ∈ jx_W := jx_mem 237 (by decide +kernel) rfl
theorem wm_238 : (Cond.code y_R_takeSum b_R_takeSum 4 (some .boolean)) ∈ jx_W := jx_mem 238 rfl rfl
theorem wm_239 : (Cond.methodLink "PlaneCells$Reader" 99 ⟨"PlaneCells$Reader", "takeTerm", "(I)Z"⟩) ∈ jx_W := jx_mem 239 (by decide +kernel) rfl
theorem wm_241 : (Cond.instanceMethod ⟨"PlaneCells$Reader", "takeTerm", "(I)Z"⟩) ∈ jx_W := jx_mem 241 (by decide +kernel) rfl
theorem wm_242 : (Cond.code y_R_takeTerm b_R_takeTerm 8 (some .boolean)) ∈ jx_W := jx_mem 242 rfl rfl
theorem wm_243 : (Cond.methodLink "PlaneCells$Reader" 102 ⟨"PlaneCells$Reader", "numberOfLetter", "(C)I"⟩) ∈ jx_W := jx_mem 243 (by decide +kernel) rfl
theorem wm_244 : (Cond.static ⟨"PlaneCells$Reader", "numberOfLetter", "(C)I"⟩) ∈ jx_W := jx_mem 244 (by decide +kernel) rfl
theorem wm_245 : (Cond.code y_R_numberOfLetter b_R_numberOfLetter 1 (some .int)) ∈ jx_W := jx_mem 245 rfl rfl
theorem wm_246 : (Cond.methodLink "PlaneCells$Reader" 95 ⟨"PlaneCells$Sentence", "addAtom", "([IC)V"⟩) ∈ jx_W := jx_mem 246 (by decide +kernel) rfl
theorem wm_247 : (Cond.instanceMethod ⟨"PlaneCells$Sentence", "addAtom", "([IC)V"⟩) ∈ jx_W := jx_mem 247 (by decide +kernel) rfl
theorem wm_248 : (Cond.selects "PlaneCells$Sentence" ⟨"PlaneCells$Sentence", "addAtom", "([IC)V"⟩ ⟨"PlaneCells$Sentence", "addAtom", "([IC)V"⟩) ∈ jx_W := jx_mem 248 (by decide +kernel) rfl
theorem wm_249 : (Cond.code y_S_addAtom b_S_addAtom 3 none) ∈ jx_W := jx_mem 249 rfl rfl
theorem wm_253 : (Cond.methodLink "PlaneCells$Sentence" 35 ⟨"PlaneCells$Sentence", "addStep", "(I)V"⟩) ∈ jx_W := jx_mem 253 (by decide +kernel) rfl
theorem wm_254 : (Cond.instanceMethod ⟨"PlaneCells$Sentence", "addStep", "(I)V"⟩) ∈ jx_W := jx_mem 254 (by decide +kernel) rfl
theorem wm_255 : (Cond.selects "PlaneCells$Sentence" ⟨"PlaneCells$Sentence", "addStep", "(I)V"⟩ ⟨"PlaneCells$Sentence", "addStep", "(I)V"⟩) ∈ jx_W := jx_mem 255 (by decide +kernel) rfl
theorem wm_256 : (Cond.code y_S_addStep b_S_addStep 2 none) ∈ jx_W := jx_mem 256 rfl rfl
theorem wm_257 : (Cond.methodLink "PlaneCells$Reader" 57 ⟨"PlaneCells$Reader", "takeClosings", "()V"⟩) ∈ jx_W := jx_mem 257 (by decide +kernel) rfl
theorem wm_259 : (Cond.instanceMethod ⟨"PlaneCells$Reader", "takeClosings", "()V"⟩) ∈ jx_W := jx_mem 259 (by decide +kernel) rfl
theorem wm_260 : (Cond.code y_R_takeClosings b_R_takeClosings 1 none) ∈ jx_W := jx_mem 260 rfl rfl
theorem wm_261 : (Cond.methodLink "PlaneCells$Reader" 63 ⟨"PlaneCells$Reader", "release", "(I)V"⟩) ∈ jx_W := jx_mem 261 (by decide +kernel) rfl
theorem wm_263 : (Cond.instanceMethod ⟨"PlaneCells$Reader", "release", "(I)V"⟩) ∈ jx_W := jx_mem 263 (by decide +kernel) rfl
theorem wm_264 : (Cond.code y_R_release b_R_release 2 none) ∈ jx_W := jx_mem 264 rfl rfl
theorem wm_265 : (Cond.methodLink "PlaneCells$Reader" 88 ⟨"PlaneCells$Sentence", "addStep", "(I)V"⟩) ∈ jx_W := jx_mem 265 (by decide +kernel) rfl
theorem wm_266 : (Cond.methodLink "PlaneCells$Reader" 60 ⟨"PlaneCells$Reader", "takeJoint", "()Z"⟩) ∈ jx_W := jx_mem 266 (by decide +kernel) rfl
theorem wm_268 : (Cond.instanceMethod ⟨"PlaneCells$Reader", "takeJoint", "()Z"⟩) ∈ jx_W := jx_mem 268 (by decide +kernel) rfl
theorem wm_269 : (Cond.code y_R_takeJoint b_R_takeJoint 2 (some .boolean)) ∈ jx_W := jx_mem 269 rfl rfl
theorem wm_270 : (Cond.methodLink "PlaneCells" 81 ⟨"PlaneCells$Sentence", "fits", "()Z"⟩) ∈ jx_W := jx_mem 270 (by decide +kernel) rfl
theorem wm_271 : (Cond.instanceMethod ⟨"PlaneCells$Sentence", "fits", "()Z"⟩) ∈ jx_W := jx_mem 271 (by decide +kernel) rfl
theorem wm_272 : (Cond.selects "PlaneCells$Sentence" ⟨"PlaneCells$Sentence", "fits", "()Z"⟩ ⟨"PlaneCells$Sentence", "fits", "()Z"⟩) ∈ jx_W := jx_mem 272 (by decide +kernel) rfl
theorem wm_273 : (Cond.code y_S_fits b_S_fits 2 (some .boolean)) ∈ jx_W := jx_mem 273 rfl rfl
theorem wm_274 : (Cond.methodLink "PlaneCells" 50 ⟨"PlaneCells$Reader", "clear", "()V"⟩) ∈ jx_W := jx_mem 274 (by decide +kernel) rfl
theorem wm_275 : (Cond.instanceMethod ⟨"PlaneCells$Reader", "clear", "()V"⟩) ∈ jx_W := jx_mem 275 (by decide +kernel) rfl
theorem wm_276 : (Cond.selects "PlaneCells$Reader" ⟨"PlaneCells$Reader", "clear", "()V"⟩ ⟨"PlaneCells$Reader", "clear", "()V"⟩) ∈ jx_W := jx_mem 276 (by decide +kernel) rfl
theorem wm_277 : (Cond.code y_R_clear b_R_clear 1 none) ∈ jx_W := jx_mem 277 rfl rfl
theorem wm_278 : (Cond.methodLink "PlaneCells" 53 ⟨"PlaneCells$Sentence", "clear", "()V"⟩) ∈ jx_W := jx_mem 278 (by decide +kernel) rfl
theorem wm_279 : (Cond.methodLink "PlaneCells" 54 ⟨"PlaneCells$Plane", "cut", "()V"⟩) ∈ jx_W := jx_mem 279 (by decide +kernel) rfl
theorem wm_280 : (Cond.instanceMethod ⟨"PlaneCells$Plane", "cut", "()V"⟩) ∈ jx_W := jx_mem 280 (by decide +kernel) rfl
theorem wm_281 : (Cond.selects "PlaneCells$Plane" ⟨"PlaneCells$Plane", "cut", "()V"⟩ ⟨"PlaneCells$Plane", "cut", "()V"⟩) ∈ jx_W := jx_mem 281 (by decide +kernel) rfl
theorem wm_282 : (Cond.code y_Q_cut b_Q_cut 3 none) ∈ jx_W := jx_mem 282 rfl rfl
theorem wm_283 : (Cond.methodLink "PlaneCells$Plane" 39 ⟨"PlaneCells$CriticalNumbers", "clear", "()V"⟩) ∈ jx_W := jx_mem 283 (by decide +kernel) rfl
theorem wm_284 : (Cond.instanceMethod ⟨"PlaneCells$CriticalNumbers", "clear", "()V"⟩) ∈ jx_W := jx_mem 284 (by decide +kernel) rfl
theorem wm_285 : (Cond.selects "PlaneCells$CriticalNumbers" ⟨"PlaneCells$CriticalNumbers", "clear", "()V"⟩ ⟨"PlaneCells$CriticalNumbers", "clear", "()V"⟩) ∈ jx_W := jx_mem 285 (by decide +kernel) rfl
theorem wm_286 : (Cond.code y_C_clear b_C_clear 1 none) ∈ jx_W := jx_mem 286 rfl rfl
theorem wm_287 : (Cond.methodLink "PlaneCells$Plane" 48 ⟨"PlaneCells$Form", "setA", "(LPlaneCells$Sentence;I)V"⟩) ∈ jx_W := jx_mem 287 (by decide +kernel) rfl
theorem wm_288 : (Cond.instanceMethod ⟨"PlaneCells$Form", "setA", "(LPlaneCells$Sentence;I)V"⟩) ∈ jx_W := jx_mem 288 (by decide +kernel) rfl
theorem wm_289 : (Cond.selects "PlaneCells$Form" ⟨"PlaneCells$Form", "setA", "(LPlaneCells$Sentence;I)V"⟩ ⟨"PlaneCells$Form", "setA", "(LPlaneCells$Sentence;I)V"⟩) ∈ jx_W := jx_mem 289 (by decide +kernel) rfl
theorem wm_290 : (Cond.code y_F_setA b_F_setA 3 none) ∈ jx_W := jx_mem 290 rfl rfl
theorem wm_291 : (Cond.methodLink "PlaneCells$Form" 7 ⟨"PlaneCells$Sentence", "number", "(II)I"⟩) ∈ jx_W := jx_mem 291 (by decide +kernel) rfl
theorem wm_292 : (Cond.instanceMethod ⟨"PlaneCells$Sentence", "number", "(II)I"⟩) ∈ jx_W := jx_mem 292 (by decide +kernel) rfl
theorem wm_293 : (Cond.selects "PlaneCells$Sentence" ⟨"PlaneCells$Sentence", "number", "(II)I"⟩ ⟨"PlaneCells$Sentence", "number", "(II)I"⟩) ∈ jx_W := jx_mem 293 (by decide +kernel) rfl
theorem wm_294 : (Cond.code y_S_number b_S_number 3 (some .int)) ∈ jx_W := jx_mem 294 rfl rfl
theorem wm_295 : (Cond.methodLink "PlaneCells$Plane" 52 ⟨"PlaneCells$CriticalNumbers", "addZerosOf", "(LPlaneCells$Form;)V"⟩) ∈ jx_W := jx_mem 295 (by decide +kernel) rfl
theorem wm_296 : (Cond.instanceMethod ⟨"PlaneCells$CriticalNumbers", "addZerosOf", "(LPlaneCells$Form;)V"⟩) ∈ jx_W := jx_mem 296 (by decide +kernel) rfl
theorem wm_297 : (Cond.selects "PlaneCells$CriticalNumbers" ⟨"PlaneCells$CriticalNumbers", "addZerosOf", "(LPlaneCells$Form;)V"⟩ ⟨"PlaneCells$CriticalNumbers", "addZerosOf", "(LPlaneCells$Form;)V"⟩) ∈ jx_W := jx_mem 297 (by decide +kernel) rfl
theorem wm_298 : (Cond.code y_C_addZerosOf b_C_addZerosOf 4 none) ∈ jx_W := jx_mem 298 rfl rfl
theorem wm_299 : (Cond.methodLink "PlaneCells$CriticalNumbers" 36 Lib.Math.abs.name) ∈ jx_W := jx_mem 299 (by decide +kernel) rfl
theorem wm_302 : (Cond.methodLink "PlaneCells$CriticalNumbers" 42 ⟨"PlaneCells$CriticalNumbers", "add", "(III)V"⟩) ∈ jx_W := jx_mem 302 (by decide +kernel) rfl
theorem wm_304 : (Cond.instanceMethod ⟨"PlaneCells$CriticalNumbers", "add", "(III)V"⟩) ∈ jx_W := jx_mem 304 (by decide +kernel) rfl
theorem wm_305 : (Cond.code y_C_add b_C_add 6 none) ∈ jx_W := jx_mem 305 rfl rfl
theorem wm_306 : (Cond.methodLink "PlaneCells$CriticalNumbers" 46 ⟨"PlaneCells$CriticalNumbers", "signOfDifference", "(IIII)I"⟩) ∈ jx_W := jx_mem 306 (by decide +kernel) rfl
theorem wm_308 : (Cond.instanceMethod ⟨"PlaneCells$CriticalNumbers", "signOfDifference", "(IIII)I"⟩) ∈ jx_W := jx_mem 308 (by decide +kernel) rfl
theorem wm_309 : (Cond.code y_C_signOfDifference b_C_signOfDifference 11 (some .int)) ∈ jx_W := jx_mem 309 rfl rfl
theorem wm_310 : (Cond.methodLink "PlaneCells$CriticalNumbers" 54 ⟨"PlaneCells$CriticalNumbers", "signWithRoots", "(JJJ)I"⟩) ∈ jx_W := jx_mem 310 (by decide +kernel) rfl
theorem wm_311 : (Cond.static ⟨"PlaneCells$CriticalNumbers", "signWithRoots", "(JJJ)I"⟩) ∈ jx_W := jx_mem 311 (by decide +kernel) rfl
theorem wm_312 : (Cond.code y_C_signWithRoots b_C_signWithRoots 10 (some .int)) ∈ jx_W := jx_mem 312 rfl rfl
theorem wm_313 : (Cond.methodLink "PlaneCells$CriticalNumbers" 58 ⟨"java/lang/Long", "signum", "(J)I"⟩) ∈ jx_W := jx_mem 313 (by decide +kernel) rfl
theorem wm_316 : (Cond.methodLink "PlaneCells$CriticalNumbers" 64 Lib.MathLoose.abs_long.x) ∈ jx_W := jx_mem 316 (by decide +kernel) rfl
theorem wm_319 : (Cond.constantLong "PlaneCells$CriticalNumbers" 67 4) ∈ jx_W := jx_mem 319 (by decide +kernel) rfl
theorem wm_320 : (Cond.methodLink "PlaneCells$CriticalNumbers" 50 ⟨"PlaneCells$CriticalNumbers", "insert", "(IIII)V"⟩) ∈ jx_W := jx_mem 320 (by decide +kernel) rfl
theorem wm_322 : (Cond.instanceMethod ⟨"PlaneCells$CriticalNumbers", "insert", "(IIII)V"⟩) ∈ jx_W := jx_mem 322 (by decide +kernel) rfl
theorem wm_323 : (Cond.code y_C_insert b_C_insert 6 none) ∈ jx_W := jx_mem 323 rfl rfl
theorem wm_324 : (Cond.methodLink "PlaneCells$Plane" 56 ⟨"PlaneCells$Form", "setB", "(LPlaneCells$Sentence;I)V"⟩) ∈ jx_W := jx_mem 324 (by decide +kernel) rfl
theorem wm_325 : (Cond.instanceMethod ⟨"PlaneCells$Form", "setB", "(LPlaneCells$Sentence;I)V"⟩) ∈ jx_W := jx_mem 325 (by decide +kernel) rfl
theorem wm_326 : (Cond.selects "PlaneCells$Form" ⟨"PlaneCells$Form", "setB", "(LPlaneCells$Sentence;I)V"⟩ ⟨"PlaneCells$Form", "setB", "(LPlaneCells$Sentence;I)V"⟩) ∈ jx_W := jx_mem 326 (by decide +kernel) rfl
theorem wm_327 : (Cond.code y_F_setB b_F_setB 3 none) ∈ jx_W := jx_mem 327 rfl rfl
theorem wm_328 : (Cond.methodLink "PlaneCells$Plane" 59 ⟨"PlaneCells$Form", "setPair", "(LPlaneCells$Sentence;II)V"⟩) ∈ jx_W := jx_mem 328 (by decide +kernel) rfl
theorem wm_329 : (Cond.instanceMethod ⟨"PlaneCells$Form", "setPair", "(LPlaneCells$Sentence;II)V"⟩) ∈ jx_W := jx_mem 329 (by decide +kernel) rfl
theorem wm_330 : (Cond.selects "PlaneCells$Form" ⟨"PlaneCells$Form", "setPair", "(LPlaneCells$Sentence;II)V"⟩ ⟨"PlaneCells$Form", "setPair", "(LPlaneCells$Sentence;II)V"⟩) ∈ jx_W := jx_mem 330 (by decide +kernel) rfl
theorem wm_331 : (Cond.code y_F_setPair b_F_setPair 4 none) ∈ jx_W := jx_mem 331 rfl rfl
theorem wm_332 : (Cond.methodLink "PlaneCells" 57 ⟨"PlaneCells$Plane", "countColumns", "()I"⟩) ∈ jx_W := jx_mem 332 (by decide +kernel) rfl
theorem wm_333 : (Cond.instanceMethod ⟨"PlaneCells$Plane", "countColumns", "()I"⟩) ∈ jx_W := jx_mem 333 (by decide +kernel) rfl
theorem wm_334 : (Cond.selects "PlaneCells$Plane" ⟨"PlaneCells$Plane", "countColumns", "()I"⟩ ⟨"PlaneCells$Plane", "countColumns", "()I"⟩) ∈ jx_W := jx_mem 334 (by decide +kernel) rfl
theorem wm_335 : (Cond.code y_Q_countColumns b_Q_countColumns 1 (some .int)) ∈ jx_W := jx_mem 335 rfl rfl
theorem wm_336 : (Cond.methodLink "PlaneCells" 60 ⟨"PlaneCells$Plane", "enter", "(I)V"⟩) ∈ jx_W := jx_mem 336 (by decide +kernel) rfl
theorem wm_337 : (Cond.instanceMethod ⟨"PlaneCells$Plane", "enter", "(I)V"⟩) ∈ jx_W := jx_mem 337 (by decide +kernel) rfl
theorem wm_338 : (Cond.selects "PlaneCells$Plane" ⟨"PlaneCells$Plane", "enter", "(I)V"⟩ ⟨"PlaneCells$Plane", "enter", "(I)V"⟩) ∈ jx_W := jx_mem 338 (by decide +kernel) rfl
theorem wm_339 : (Cond.code y_Q_enter b_Q_enter 3 none) ∈ jx_W := jx_mem 339 rfl rfl
theorem wm_340 : (Cond.methodLink "PlaneCells$Plane" 69 ⟨"PlaneCells$CriticalNumbers", "signInColumn", "(ILPlaneCells$Form;)I"⟩) ∈ jx_W := jx_mem 340 (by decide +kernel) rfl
theorem wm_341 : (Cond.instanceMethod ⟨"PlaneCells$CriticalNumbers", "signInColumn", "(ILPlaneCells$Form;)I"⟩) ∈ jx_W := jx_mem 341 (by decide +kernel) rfl
theorem wm_342 : (Cond.selects "PlaneCells$CriticalNumbers" ⟨"PlaneCells$CriticalNumbers", "signInColumn", "(ILPlaneCells$Form;)I"⟩ ⟨"PlaneCells$CriticalNumbers", "signInColumn", "(ILPlaneCells$Form;)I"⟩) ∈ jx_W := jx_mem 342 (by decide +kernel) rfl
theorem wm_343 : (Cond.code y_C_signInColumn b_C_signInColumn 6 (some .int)) ∈ jx_W := jx_mem 343 rfl rfl
theorem wm_344 : (Cond.methodLink "PlaneCells$CriticalNumbers" 69 ⟨"PlaneCells$CriticalNumbers", "signBelowAll", "(LPlaneCells$Form;)I"⟩) ∈ jx_W := jx_mem 344 (by decide +kernel) rfl
theorem wm_345 : (Cond.static ⟨"PlaneCells$CriticalNumbers", "signBelowAll", "(LPlaneCells$Form;)I"⟩) ∈ jx_W := jx_mem 345 (by decide +kernel) rfl
theorem wm_346 : (Cond.code y_C_signBelowAll b_C_signBelowAll 1 (some .int)) ∈ jx_W := jx_mem 346 rfl rfl
theorem wm_347 : (Cond.methodLink "PlaneCells$CriticalNumbers" 77 ⟨"java/lang/Integer", "signum", "(I)I"⟩) ∈ jx_W := jx_mem 347 (by decide +kernel) rfl
theorem wm_350 : (Cond.methodLink "PlaneCells$CriticalNumbers" 73 ⟨"PlaneCells$CriticalNumbers", "signAt", "(IJJJ)I"⟩) ∈ jx_W := jx_mem 350 (by decide +kernel) rfl
theorem wm_351 : (Cond.instanceMethod ⟨"PlaneCells$CriticalNumbers", "signAt", "(IJJJ)I"⟩) ∈ jx_W := jx_mem 351 (by decide +kernel) rfl
theorem wm_352 : (Cond.selects "PlaneCells$CriticalNumbers" ⟨"PlaneCells$CriticalNumbers", "signAt", "(IJJJ)I"⟩ ⟨"PlaneCells$CriticalNumbers", "signAt", "(IJJJ)I"⟩) ∈ jx_W := jx_mem 352 (by decide +kernel) rfl
theorem wm_353 : (Cond.code y_C_signAt b_C_signAt 18 (some .int)) ∈ jx_W := jx_mem 353 rfl rfl
theorem wm_354 : (Cond.constantLong "PlaneCells$CriticalNumbers" 81 2) ∈ jx_W := jx_mem 354 (by decide +kernel) rfl
theorem wm_355 : (Cond.methodLink "PlaneCells$Plane" 73 ⟨"PlaneCells$Plane", "addZero", "(II)V"⟩) ∈ jx_W := jx_mem 355 (by decide +kernel) rfl
theorem wm_357 : (Cond.instanceMethod ⟨"PlaneCells$Plane", "addZero", "(II)V"⟩) ∈ jx_W := jx_mem 357 (by decide +kernel) rfl
theorem wm_358 : (Cond.code y_Q_addZero b_Q_addZero 6 none) ∈ jx_W := jx_mem 358 rfl rfl
theorem wm_359 : (Cond.methodLink "PlaneCells$Plane" 77 Lib.Math.max.name) ∈ jx_W := jx_mem 359 (by decide +kernel) rfl
theorem wm_362 : (Cond.methodLink "PlaneCells" 64 ⟨"PlaneCells$Plane", "columnHolds", "()Z"⟩) ∈ jx_W := jx_mem 362 (by decide +kernel) rfl
theorem wm_363 : (Cond.instanceMethod ⟨"PlaneCells$Plane", "columnHolds", "()Z"⟩) ∈ jx_W := jx_mem 363 (by decide +kernel) rfl
theorem wm_364 : (Cond.selects "PlaneCells$Plane" ⟨"PlaneCells$Plane", "columnHolds", "()Z"⟩ ⟨"PlaneCells$Plane", "columnHolds", "()Z"⟩) ∈ jx_W := jx_mem 364 (by decide +kernel) rfl
theorem wm_365 : (Cond.code y_Q_columnHolds b_Q_columnHolds 2 (some .boolean)) ∈ jx_W := jx_mem 365 rfl rfl
theorem wm_366 : (Cond.methodLink "PlaneCells$Plane" 102 ⟨"PlaneCells$Plane", "trueIn", "(I)Z"⟩) ∈ jx_W := jx_mem 366 (by decide +kernel) rfl
theorem wm_367 : (Cond.instanceMethod ⟨"PlaneCells$Plane", "trueIn", "(I)Z"⟩) ∈ jx_W := jx_mem 367 (by decide +kernel) rfl
theorem wm_368 : (Cond.selects "PlaneCells$Plane" ⟨"PlaneCells$Plane", "trueIn", "(I)Z"⟩ ⟨"PlaneCells$Plane", "trueIn", "(I)Z"⟩) ∈ jx_W := jx_mem 368 (by decide +kernel) rfl
theorem wm_369 : (Cond.code y_Q_trueIn b_Q_trueIn 6 (some .boolean)) ∈ jx_W := jx_mem 369 rfl rfl
theorem wm_370 : (Cond.methodLink "PlaneCells$Plane" 95 ⟨"PlaneCells$Plane", "signIn", "(II)I"⟩) ∈ jx_W := jx_mem 370 (by decide +kernel) rfl
theorem wm_371 : (Cond.instanceMethod ⟨"PlaneCells$Plane", "signIn", "(II)I"⟩) ∈ jx_W := jx_mem 371 (by decide +kernel) rfl
theorem wm_372 : (Cond.selects "PlaneCells$Plane" ⟨"PlaneCells$Plane", "signIn", "(II)I"⟩ ⟨"PlaneCells$Plane", "signIn", "(II)I"⟩) ∈ jx_W := jx_mem 372 (by decide +kernel) rfl
theorem wm_373 : (Cond.code y_Q_signIn b_Q_signIn 3 (some .int)) ∈ jx_W := jx_mem 373 rfl rfl
theorem wm_374 : (Cond.methodLink "PlaneCells$Plane" 83 ⟨"java/lang/Integer", "signum", "(I)I"⟩) ∈ jx_W := jx_mem 374 (by decide +kernel) rfl
theorem wm_375 : (Cond.methodLink "PlaneCells$Plane" 98 ⟨"PlaneCells$Sentence", "atomIsTrue", "(II)Z"⟩) ∈ jx_W := jx_mem 375 (by decide +kernel) rfl
theorem wm_376 : (Cond.instanceMethod ⟨"PlaneCells$Sentence", "atomIsTrue", "(II)Z"⟩) ∈ jx_W := jx_mem 376 (by decide +kernel) rfl
theorem wm_377 : (Cond.selects "PlaneCells$Sentence" ⟨"PlaneCells$Sentence", "atomIsTrue", "(II)Z"⟩ ⟨"PlaneCells$Sentence", "atomIsTrue", "(II)Z"⟩) ∈ jx_W := jx_mem 377 (by decide +kernel) rfl
theorem wm_378 : (Cond.code y_S_atomIsTrue b_S_atomIsTrue 3 (some .boolean)) ∈ jx_W := jx_mem 378 rfl rfl
theorem wm_391 : (Cond.methodLink "PlaneCells" 87 ⟨"PlaneCells", "hasPolynomial", "(I)Z"⟩) ∈ jx_W := jx_mem 391 (by decide +kernel) rfl
theorem wm_393 : (Cond.instanceMethod ⟨"PlaneCells", "hasPolynomial", "(I)Z"⟩) ∈ jx_W := jx_mem 393 (by decide +kernel) rfl
theorem wm_394 : (Cond.code y_P_hasPolynomial b_P_hasPolynomial 2 (some .boolean)) ∈ jx_W := jx_mem 394 rfl rfl
theorem wm_395 : (Cond.methodLink "PlaneCells" 91 ⟨"PlaneCells$Sentence", "number", "(II)I"⟩) ∈ jx_W := jx_mem 395 (by decide +kernel) rfl
theorem wm_404 : (Cond.methodLink "PlaneCells" 95 ⟨"PlaneCells", "enterColumn", "(I)Z"⟩) ∈ jx_W := jx_mem 404 (by decide +kernel) rfl
theorem wm_406 : (Cond.instanceMethod ⟨"PlaneCells", "enterColumn", "(I)Z"⟩) ∈ jx_W := jx_mem 406 (by decide +kernel) rfl
theorem wm_407 : (Cond.code y_P_enterColumn b_P_enterColumn 2 (some .boolean)) ∈ jx_W := jx_mem 407 rfl rfl
theorem wm_408 : (Cond.methodLink "PlaneCells" 110 ⟨"PlaneCells", "hasColumn", "(I)Z"⟩) ∈ jx_W := jx_mem 408 (by decide +kernel) rfl
theorem wm_410 : (Cond.instanceMethod ⟨"PlaneCells", "hasColumn", "(I)Z"⟩) ∈ jx_W := jx_mem 410 (by decide +kernel) rfl
theorem wm_411 : (Cond.code y_P_hasColumn b_P_hasColumn 2 (some .boolean)) ∈ jx_W := jx_mem 411 rfl rfl
theorem wm_416 : (Cond.methodLink "PlaneCells" 101 ⟨"PlaneCells", "hasCell", "(I)Z"⟩) ∈ jx_W := jx_mem 416 (by decide +kernel) rfl
theorem wm_418 : (Cond.instanceMethod ⟨"PlaneCells", "hasCell", "(I)Z"⟩) ∈ jx_W := jx_mem 418 (by decide +kernel) rfl
theorem wm_419 : (Cond.code y_P_hasCell b_P_hasCell 2 (some .boolean)) ∈ jx_W := jx_mem 419 rfl rfl
theorem wm_420 : (Cond.methodLink "PlaneCells" 104 ⟨"PlaneCells$Plane", "signIn", "(II)I"⟩) ∈ jx_W := jx_mem 420 (by decide +kernel) rfl
theorem wm_425 : (Cond.methodLink "PlaneCells" 107 ⟨"PlaneCells$Plane", "trueIn", "(I)Z"⟩) ∈ jx_W := jx_mem 425 (by decide +kernel) rfl
theorem wm_438 : (Cond.methodLink "PlaneCells" 117 ⟨"PlaneCells$CriticalNumbers", "signAt", "(IJJJ)I"⟩) ∈ jx_W := jx_mem 438 (by decide +kernel) rfl
theorem ws_0 : (Cond.selects "PlaneCells" ⟨"PlaneCells", "readText", "()I"⟩ ⟨"PlaneCells", "readText", "()I"⟩) ∈ jx_W := jx_memS 0 (by decide +kernel) rfl
theorem ws_1 : (Cond.selects "PlaneCells$Reader" ⟨"PlaneCells$Reader", "takeHead", "()Z"⟩ ⟨"PlaneCells$Reader", "takeHead", "()Z"⟩) ∈ jx_W := jx_memS 1 (by decide +kernel) rfl
theorem ws_2 : (Cond.selects "PlaneCells$Reader" ⟨"PlaneCells$Reader", "peek", "()C"⟩ ⟨"PlaneCells$Reader", "peek", "()C"⟩) ∈ jx_W := jx_memS 2 (by decide +kernel) rfl
theorem ws_3 : (Cond.selects "PlaneCells$Reader" ⟨"PlaneCells$Reader", "takeQuantifier", "()Z"⟩ ⟨"PlaneCells$Reader", "takeQuantifier", "()Z"⟩) ∈ jx_W := jx_memS 3 (by decide +kernel) rfl
theorem ws_4 : (Cond.selects "PlaneCells$Reader" ⟨"PlaneCells$Reader", "take", "(C)Z"⟩ ⟨"PlaneCells$Reader", "take", "(C)Z"⟩) ∈ jx_W := jx_memS 4 (by decide +kernel) rfl
theorem ws_5 : (Cond.selects "PlaneCells$Reader" ⟨"PlaneCells$Reader", "takeOpenings", "()V"⟩ ⟨"PlaneCells$Reader", "takeOpenings", "()V"⟩) ∈ jx_W := jx_memS 5 (by decide +kernel) rfl
theorem ws_6 : (Cond.selects "PlaneCells$Reader" ⟨"PlaneCells$Reader", "hold", "(I)V"⟩ ⟨"PlaneCells$Reader", "hold", "(I)V"⟩) ∈ jx_W := jx_memS 6 (by decide +kernel) rfl
theorem ws_7 : (Cond.selects "PlaneCells$Reader" ⟨"PlaneCells$Reader", "takeAtom", "()Z"⟩ ⟨"PlaneCells$Reader", "takeAtom", "()Z"⟩) ∈ jx_W := jx_memS 7 (by decide +kernel) rfl
theorem ws_8 : (Cond.selects "PlaneCells$Reader" ⟨"PlaneCells$Reader", "takeSum", "(I)Z"⟩ ⟨"PlaneCells$Reader", "takeSum", "(I)Z"⟩) ∈ jx_W := jx_memS 8 (by decide +kernel) rfl
theorem ws_9 : (Cond.selects "PlaneCells$Reader" ⟨"PlaneCells$Reader", "takeTerm", "(I)Z"⟩ ⟨"PlaneCells$Reader", "takeTerm", "(I)Z"⟩) ∈ jx_W := jx_memS 9 (by decide +kernel) rfl
theorem ws_10 : (Cond.selects "PlaneCells$Reader" ⟨"PlaneCells$Reader", "takeClosings", "()V"⟩ ⟨"PlaneCells$Reader", "takeClosings", "()V"⟩) ∈ jx_W := jx_memS 10 (by decide +kernel) rfl
theorem ws_11 : (Cond.selects "PlaneCells$Reader" ⟨"PlaneCells$Reader", "release", "(I)V"⟩ ⟨"PlaneCells$Reader", "release", "(I)V"⟩) ∈ jx_W := jx_memS 11 (by decide +kernel) rfl
theorem ws_12 : (Cond.selects "PlaneCells$Reader" ⟨"PlaneCells$Reader", "takeJoint", "()Z"⟩ ⟨"PlaneCells$Reader", "takeJoint", "()Z"⟩) ∈ jx_W := jx_memS 12 (by decide +kernel) rfl
theorem ws_13 : (Cond.selects "PlaneCells$CriticalNumbers" ⟨"PlaneCells$CriticalNumbers", "add", "(III)V"⟩ ⟨"PlaneCells$CriticalNumbers", "add", "(III)V"⟩) ∈ jx_W := jx_memS 13 (by decide +kernel) rfl
theorem ws_14 : (Cond.selects "PlaneCells$CriticalNumbers" ⟨"PlaneCells$CriticalNumbers", "signOfDifference", "(IIII)I"⟩ ⟨"PlaneCells$CriticalNumbers", "signOfDifference", "(IIII)I"⟩) ∈ jx_W := jx_memS 14 (by decide +kernel) rfl
theorem ws_15 : (Cond.selects "PlaneCells$CriticalNumbers" ⟨"PlaneCells$CriticalNumbers", "insert", "(IIII)V"⟩ ⟨"PlaneCells$CriticalNumbers", "insert", "(IIII)V"⟩) ∈ jx_W := jx_memS 15 (by decide +kernel) rfl
theorem ws_16 : (Cond.selects "PlaneCells$Plane" ⟨"PlaneCells$Plane", "addZero", "(II)V"⟩ ⟨"PlaneCells$Plane", "addZero", "(II)V"⟩) ∈ jx_W := jx_memS 16 (by decide +kernel) rfl
theorem ws_17 : (Cond.selects "PlaneCells" ⟨"PlaneCells", "hasPolynomial", "(I)Z"⟩ ⟨"PlaneCells", "hasPolynomial", "(I)Z"⟩) ∈ jx_W := jx_memS 17 (by decide +kernel) rfl
theorem ws_18 : (Cond.selects "PlaneCells" ⟨"PlaneCells", "enterColumn", "(I)Z"⟩ ⟨"PlaneCells", "enterColumn", "(I)Z"⟩) ∈ jx_W := jx_memS 18 (by decide +kernel) rfl
theorem ws_19 : (Cond.selects "PlaneCells" ⟨"PlaneCells", "hasColumn", "(I)Z"⟩ ⟨"PlaneCells", "hasColumn", "(I)Z"⟩) ∈ jx_W := jx_memS 19 (by decide +kernel) rfl
theorem ws_20 : (Cond.selects "PlaneCells" ⟨"PlaneCells", "hasCell", "(I)Z"⟩ ⟨"PlaneCells", "hasCell", "(I)Z"⟩) ∈ jx_W := jx_memS 20 (by decide +kernel) rfl
theorem jw_absS : Cond.static Lib.Math.abs.name ∈ jx_W := jx_mem 300 (by decide +kernel) rfl
theorem jw_absC : Cond.code Lib.Math.abs.name Lib.Math.abs.code 1 (some .int) ∈ jx_W := jx_mem 301 rfl rfl
theorem jw_maxS : Cond.static Lib.Math.max.name ∈ jx_W := jx_mem 360 (by decide +kernel) rfl
theorem jw_maxC : Cond.code Lib.Math.max.name Lib.Math.max.code 2 (some .int) ∈ jx_W := jx_mem 361 rfl rfl
theorem jw_abslS : Cond.static Lib.MathLoose.abs_long.x ∈ jx_W := jx_mem 317 (by decide +kernel) rfl
theorem jw_abslC : Cond.code Lib.MathLoose.abs_long.x Lib.MathLoose.abs_long.code 2 (some .long) ∈ jx_W := jx_mem 318 rfl rfl
theorem jw_MathI : Cond.initialized "java/lang/Math" ∈ jx_W := jx_mem 9 (by decide +kernel) rfl
theorem jw_JII : Cond.initialized "java/lang/Integer" ∈ jx_W := jx_mem 11 (by decide +kernel) rfl
theorem jw_JIS : Cond.static ⟨"java/lang/Integer", "signum", "(I)I"⟩ ∈ jx_W := jx_mem 348 (by decide +kernel) rfl
theorem jw_JIC : Cond.code ⟨"java/lang/Integer", "signum", "(I)I"⟩ prog_9_method_56_code 1 (some .int) ∈ jx_W := jx_mem 349 rfl rfl
theorem jw_JLI : Cond.initialized "java/lang/Long" ∈ jx_W := jx_mem 10 (by decide +kernel) rfl
theorem jw_JLS : Cond.static ⟨"java/lang/Long", "signum", "(J)I"⟩ ∈ jx_W := jx_mem 314 (by decide +kernel) rfl
theorem jw_JLC : Cond.code ⟨"java/lang/Long", "signum", "(J)I"⟩ prog_10_method_57_code 2 (some .int) ∈ jx_W := jx_mem 315 rfl rfl
theorem jw_acN : Cond.native arraycopyName ∈ jx_W := jx_mem 252 (by decide +kernel) rfl
theorem jw_acS : Cond.static arraycopyName ∈ jx_W := jx_mem 251 (by decide +kernel) rfl
theorem jw_acI : Cond.initialized "java/lang/System" ∈ jx_W := jx_mem 8 (by decide +kernel) rfl
theorem jw_acL : Cond.methodLink "PlaneCells$Sentence" 29 arraycopyName ∈ jx_W := jx_mem 250 (by decide +kernel) rfl
end
section
/-! the judgement of a walk: at a place of a method, with a world, locals and a stack, it comes to its end; a row an instruction -/
abbrev jx_S : Type := (Nat → Int32) × (Nat → Nat → Int32) × (Nat → Nat → Int64)
def jx_f (S : jx_S) (k : Nat) (v : Int32) : jx_S := (fun j => bif Nat.beq j k then v else S.1 j, S.2)
def jx_g (S : jx_S) (a : Nat) (f : Nat → Int32) : jx_S := (S.1, fun b => bif Nat.beq b a then f else S.2.1 b, S.2.2)
def jx_gl (S : jx_S) (a : Nat) (f : Nat → Int64) : jx_S := (S.1, S.2.1, fun b => bif Nat.beq b a then f else S.2.2 b)
abbrev jx_G : Type := va_G × (Nat → ClassId) × (Nat → Nat)
abbrev jx_ad (G : jx_G) (k : Nat) : Nat := G.2.2 k
abbrev jx_ca (G : jx_G) (k : Nat) : ClassId := G.2.1 k
abbrev jx_ty (G : jx_G) : List (ClassId × FieldType) := [(G.2.1 0, .int), (G.2.1 1, .char), (G.2.1 2, .boolean), (G.2.1 3, .long)]
abbrev jx_C := Program × Launch × Env × Room × State × MethodId × Array Value × List Frame × Method × Code × (Nat → Prop)
abbrev jx_p (X : jx_C) := X.1
abbrev jx_l (X : jx_C) := X.2.1
abbrev jx_e (X : jx_C) := X.2.2.1
abbrev jx_R (X : jx_C) := X.2.2.2.1
abbrev jx_s (X : jx_C) := X.2.2.2.2.1
abbrev jx_m (X : jx_C) := X.2.2.2.2.2.1
abbrev jx_a (X : jx_C) := X.2.2.2.2.2.2.1
abbrev jx_b (X : jx_C) := X.2.2.2.2.2.2.2.1
abbrev jx_h (X : jx_C) := X.2.2.2.2.2.2.2.2.1
abbrev jx_c (X : jx_C) := X.2.2.2.2.2.2.2.2.2.1
abbrev jx_A (X : jx_C) : Nat → Prop := X.2.2.2.2.2.2.2.2.2.2
def jx_rm (lv : Nat) : Room := { frames := lv, cells := 0, slots := 0, locals := 52 * lv }
def jx_Q (G : jx_G) (A : Nat → Prop) (fin : Option Value × va_W) : Array Value → State → Outcome → State → Prop := fun _ st oc t => (oc = .returned fin.1 ∧ va_P G.1 jx_cl fin.2 t.heap ∧ va_K G.1 jx_cl (jx_ty G) t ∧ va_D A fin.2) ∧ va_F A st t
def jx_At (G : jx_G) (X : jx_C) (fin : Option Value × va_W) (w : va_W) (pc : Nat) (L : List (Nat × Value)) (st : List Value) : Prop :=
  ∀ (H : Heap) (locs : List Loc) (ls : Array Slot), va_P G.1 jx_cl w H → va_D (jx_A X) w → va_S (jx_A X) (jx_s X).heap H locs → lv_has ls (jx_c X).maxLocals L →
    W (jx_p X) (jx_l X) (jx_e X) (jx_R X) (jx_s X) (jx_m X) (jx_a X) (jx_b X) (jx_h X) (jx_c X) H locs 0 0 (MQ (jx_b X) (jx_Q G (jx_A X) fin) (jx_a X) (jx_s X) 0 0 (jx_A X)) (F0 (jx_m X) pc ls st)
def jx_Ok (G : jx_G) (X : jx_C) (cc : ByteArray) (own : String) (ret : Option FieldType) (nL lv : Nat) : Prop :=
  (jx_p X).tables.exec = Jvm.exec ∧ (jx_c X).code = cc ∧ (jx_c X).maxLocals = nL ∧ (jx_s X).vm.findClass own = some (jx_m X).cls ∧ (∀ w ∈ jx_W, w.before (jx_a X) (jx_s X) = true) ∧ va_K G.1 jx_cl (jx_ty G) (jx_s X) ∧ (∀ w ∈ jx_Z, va_Nw w (jx_s X)) ∧ (jx_h X).locks = false ∧ (jx_h X).sig.returnType = ret ∧ (∀ q, (jx_s X).heap.size ≤ q → jx_A X q) ∧ jx_R X = jx_rm lv
theorem jx_gd {α : Type} {c : Prop} [Decidable c] {x : Option α} {r : α} (h : (if c then x else none) = some r) : c ∧ x = some r := by
  by_cases hc : c
  · rw [if_pos hc] at h; exact ⟨hc, h⟩
  · rw [if_neg hc] at h; cases h
theorem jx_ip {α : Type} {c : Prop} [Decidable c] {x y r : α} (hc : c) (h : (if c then x else y) = r) : x = r := by rw [if_pos hc] at h; exact h
theorem jx_in_ {α : Type} {c : Prop} [Decidable c] {x y r : α} (hc : ¬ c) (h : (if c then x else y) = r) : y = r := by rw [if_neg hc] at h; exact h
theorem jx_bd {α β : Type} {o : Option α} {f : α → Option β} {r : β} (h : o.bind f = some r) : ∃ q, o = some q ∧ f q = some r := by
  cases o with
  | none => cases h
  | some q => exact ⟨q, rfl, h⟩
def jx_N : Nat := 100000
def jx_lp {σ ρ : Type} (f : σ → Option (σ ⊕ ρ)) : Nat → σ → Option ρ
  | 0, _ => none
  | n + 1, s => (f s).bind (Sum.elim (fun s' => jx_lp f n s') (fun r => some r))
theorem jx_el {α β γ : Type} {f : α → γ} {g : β → γ} {z : α} {x : γ} (h : Sum.elim f g (Sum.inl z) = x) : f z = x := h
theorem jx_er {α β γ : Type} {f : α → γ} {g : β → γ} {z : β} {x : γ} (h : Sum.elim f g (Sum.inr z) = x) : g z = x := h
theorem jx_loop1 {σ ρ : Type} (f : σ → Option (σ ⊕ ρ)) (P : σ → Prop) (E : ρ → Prop) (hs : ∀ z o, f z = some o → (∀ z', o = .inl z' → P z') → (∀ r, o = .inr r → E r) → P z) : ∀ n z r, jx_lp f n z = some r → E r → P z
  | 0, z, r, h, _ => by simp [jx_lp] at h
  | n + 1, z, r, h, hE => by
    rw [jx_lp] at h
    obtain ⟨o, ho, h⟩ := jx_bd h
    refine hs z o ho (fun z' e => ?_) (fun r' e => ?_)
    · subst e
      exact jx_loop1 f P E hs n z' r (jx_el h) hE
    · subst e
      have e2 : r' = r := Option.some.inj (jx_er h)
      rw [e2]; exact hE
theorem jx_loop2 {σ ρ τ : Type} (f : σ → Option (σ ⊕ (ρ ⊕ τ))) (P : σ → Prop) (E : ρ → Prop) (fin : τ) (hs : ∀ z o, f z = some o → (∀ z', o = .inl z' → P z') → (∀ r, o = .inr (.inl r) → E r) → (∀ y, o = .inr (.inr y) → y = fin) → P z) : ∀ n z r, jx_lp f n z = some r → (∀ u, r = .inl u → E u) → (∀ y, r = .inr y → y = fin) → P z
  | 0, z, r, h, _, _ => by simp [jx_lp] at h
  | n + 1, z, r, h, hE, hy => by
    rw [jx_lp] at h
    obtain ⟨o, ho, h⟩ := jx_bd h
    refine hs z o ho (fun z' e => ?_) (fun r' e => ?_) (fun y e => ?_)
    · subst e
      exact jx_loop2 f P E fin hs n z' r (jx_el h) hE hy
    · subst e
      exact hE _ (Option.some.inj (jx_er h)).symm
    · subst e
      exact hy _ (Option.some.inj (jx_er h)).symm
def jx_in (i : Int32) (n : Nat) : Bool := decide (¬ (i < 0 ∨ n ≤ i.toNatClampNeg))
theorem jx_in_ok {i : Int32} {n : Nat} (h : jx_in i n = true) : vp_in i n := by
  unfold jx_in at h
  unfold vp_in
  exact of_decide_eq_true h
def jx_ck (sp dp n : Int32) (n0 n1 : Nat) : Bool := decide (¬ sp < 0 ∧ ¬ dp < 0 ∧ ¬ n < 0 ∧ sp.toNatClampNeg + n.toNatClampNeg ≤ n0 ∧ dp.toNatClampNeg + n.toNatClampNeg ≤ n1)
def jx_nc (v : Int32) : Bool := decide (v.toUInt32.toUInt16.toUInt32.toInt32 = v)
def jx_nb (v : Int32) : Bool := decide (v &&& 1 = v)
theorem jx_nc_ok {v : Int32} (h : jx_nc v = true) : narrow .char (.int v) = .int v := congrArg Value.int (of_decide_eq_true h)
theorem jx_nb_ok {v : Int32} (h : jx_nb v = true) : narrow .boolean (.int v) = .int v := congrArg Value.int (of_decide_eq_true h)
def jx_01 (v : Int32) : Prop := v = 0 ∨ v = 1
theorem jx_z0 : jx_01 0 := Or.inl rfl
theorem jx_z1 : jx_01 1 := Or.inr rfl
theorem jx_zi {c : Prop} [Decidable c] {a b : Int32} (ha : jx_01 a) (hb : jx_01 b) : jx_01 (if c then a else b) := by
  by_cases hc : c
  · rw [if_pos hc]; exact ha
  · rw [if_neg hc]; exact hb
theorem jx_01n {v : Int32} (h : jx_01 v) : narrow .boolean (.int v) = .int v := by rcases h with rfl | rfl <;> rfl
theorem jx_01c {v : Int32} (h : jx_01 v) : narrow .char (.int v) = .int v := by rcases h with rfl | rfl <;> rfl
theorem jx_01f {v : Int32} (h : jx_01 v) : fits .boolean (.int v) = true := by rcases h with rfl | rfl <;> rfl
def jx_ai (x : Int32) : Int32 := if 0 ≤ x then x else 0 - x
def jx_al (x : Int64) : Int64 := if 0 < x then x else -x
def jx_mx (x y : Int32) : Int32 := if x < y then y else x
def jx_si (x : Int32) : Int32 := (x >>> (31 &&& 31)) ||| ((-x).toUInt32 >>> ((31 : Int32).toUInt32 &&& Int32.toUInt32 31)).toInt32
def jx_sl (x : Int64) : Int32 := ((x >>> ((63 : Int32).toInt64 &&& 63)) ||| ((-x).toUInt64 >>> ((63 : Int32).toInt64.toUInt64 &&& Int64.toUInt64 63)).toInt64).toInt32
section JX
variable {G : jx_G} {X : jx_C} {cc : ByteArray} {own : String} {ret : Option FieldType} {nL lv : Nat} {fin : Option Value × va_W} {w : va_W} {pc : Nat} {L : List (Nat × Value)} {st : List Value}
theorem jx_L {L2 : List (Nat × Value)} (h : L = L2) (k : jx_At G X fin w pc L2 st) : jx_At G X fin w pc L st := by rw [h]; exact k
theorem jx_sub {L2 : List (Nat × Value)} (ks : List Nat) (h : lv_pick L ks = L2) (k : jx_At G X fin w pc L2 st) : jx_At G X fin w pc L st := fun H locs ls hP hD hS hl => k H locs ls hP hD hS (lv_sub hl ks h)
theorem jx_iconst (hX : jx_Ok G X cc own ret nL lv) {n : Int} {v : Int32} (hd : decode cc pc = .ok (.iconst n, 1)) (hv : Int32.ofInt n = v) (k : jx_At G X fin w (pc + 1) L (.int v :: st)) : jx_At G X fin w pc L st :=
  fun H locs ls hP hD hS hl => lv_iconst hX.1 hX.2.1 hd hv (k H locs ls hP hD hS hl)
theorem jx_bipush (hX : jx_Ok G X cc own ret nL lv) {n : Int} {v : Int32} (hd : decode cc pc = .ok (.bipush n, 2)) (hv : (Int8.ofInt n).toInt32 = v) (k : jx_At G X fin w (pc + 2) L (.int v :: st)) : jx_At G X fin w pc L st :=
  fun H locs ls hP hD hS hl => lv_bipush hX.1 hX.2.1 hd hv (k H locs ls hP hD hS hl)
theorem jx_sipush (hX : jx_Ok G X cc own ret nL lv) {n : Int} {v : Int32} (hd : decode cc pc = .ok (.sipush n, 3)) (hv : (Int16.ofInt n).toInt32 = v) (k : jx_At G X fin w (pc + 3) L (.int v :: st)) : jx_At G X fin w pc L st :=
  fun H locs ls hP hD hS hl => lv_sipush hX.1 hX.2.1 hd hv (k H locs ls hP hD hS hl)
theorem jx_lconst (hX : jx_Ok G X cc own ret nL lv) {n : Fin 2} {v : Int64} (hd : decode cc pc = .ok (.lconst n, 1)) (hv : Int64.ofNat (n : Nat) = v) (k : jx_At G X fin w (pc + 1) L (.long v :: st)) : jx_At G X fin w pc L st :=
  fun H locs ls hP hD hS hl => lv_lconst hX.1 hX.2.1 hd hv (k H locs ls hP hD hS hl)
theorem jx_iload_n (hX : jx_Ok G X cc own ret nL lv) {i : Nat} {x : Int32} {n : Fin 4} (hd : decode cc pc = .ok (.iload_n n, 1)) (j : Nat) (hj : L[j]? = some (i, .int x)) (hi : (n : Nat) = i) (k : jx_At G X fin w (pc + 1) L (.int x :: st)) : jx_At G X fin w pc L st :=
  fun H locs ls hP hD hS hl => lv_iload_n hX.1 hX.2.1 hd hi (lv_at hl j hj) (k H locs ls hP hD hS hl)
theorem jx_iload (hX : jx_Ok G X cc own ret nL lv) {i : Nat} {x : Int32} (hd : decode cc pc = .ok (.iload i, 2)) (j : Nat) (hj : L[j]? = some (i, .int x)) (k : jx_At G X fin w (pc + 2) L (.int x :: st)) : jx_At G X fin w pc L st :=
  fun H locs ls hP hD hS hl => lv_iload hX.1 hX.2.1 hd (lv_at hl j hj) (k H locs ls hP hD hS hl)
theorem jx_istore_n (hX : jx_Ok G X cc own ret nL lv) {i : Nat} {x : Int32} {n : Fin 4} (hd : decode cc pc = .ok (.istore_n n, 1)) (hi : (n : Nat) = i) (hn : i < nL) {L2 : List (Nat × Value)} (hL : (i, Value.int x) :: L.filter (fun q => !(q.1 == i) && !(q.1 + 1 == i && q.2.category == 2)) = L2) (k : jx_At G X fin w (pc + 1) L2 st) : jx_At G X fin w pc L (.int x :: st) :=
  fun H locs ls hP hD hS hl => lv_istore_n hX.1 hX.2.1 hd hi hl (by rw [hX.2.2.1]; exact hn) hL (fun ls2 hl2 => k H locs ls2 hP hD hS hl2)
theorem jx_istore (hX : jx_Ok G X cc own ret nL lv) {i : Nat} {x : Int32} (hd : decode cc pc = .ok (.istore i, 2)) (hn : i < nL) {L2 : List (Nat × Value)} (hL : (i, Value.int x) :: L.filter (fun q => !(q.1 == i) && !(q.1 + 1 == i && q.2.category == 2)) = L2) (k : jx_At G X fin w (pc + 2) L2 st) : jx_At G X fin w pc L (.int x :: st) :=
  fun H locs ls hP hD hS hl => lv_istore hX.1 hX.2.1 hd hl (by rw [hX.2.2.1]; exact hn) hL (fun ls2 hl2 => k H locs ls2 hP hD hS hl2)
theorem jx_lload_n (hX : jx_Ok G X cc own ret nL lv) {i : Nat} {x : Int64} {n : Fin 4} (hd : decode cc pc = .ok (.lload_n n, 1)) (j : Nat) (hj : L[j]? = some (i, .long x)) (hi : (n : Nat) = i) (k : jx_At G X fin w (pc + 1) L (.long x :: st)) : jx_At G X fin w pc L st :=
  fun H locs ls hP hD hS hl => lv_lload_n hX.1 hX.2.1 hd hi (lv_at hl j hj) (k H locs ls hP hD hS hl)
theorem jx_lload (hX : jx_Ok G X cc own ret nL lv) {i : Nat} {x : Int64} (hd : decode cc pc = .ok (.lload i, 2)) (j : Nat) (hj : L[j]? = some (i, .long x)) (k : jx_At G X fin w (pc + 2) L (.long x :: st)) : jx_At G X fin w pc L st :=
  fun H locs ls hP hD hS hl => lv_lload hX.1 hX.2.1 hd (lv_at hl j hj) (k H locs ls hP hD hS hl)
theorem jx_lstore_n (hX : jx_Ok G X cc own ret nL lv) {i : Nat} {x : Int64} {n : Fin 4} (hd : decode cc pc = .ok (.lstore_n n, 1)) (hi : (n : Nat) = i) (hn : i + 1 < nL) {L2 : List (Nat × Value)} (hL : (i, Value.long x) :: L.filter (fun q => !(q.1 == i) && (!(q.1 == i + 1) && !(q.1 + 1 == i && q.2.category == 2))) = L2) (k : jx_At G X fin w (pc + 1) L2 st) : jx_At G X fin w pc L (.long x :: st) :=
  fun H locs ls hP hD hS hl => lv_lstore_n hX.1 hX.2.1 hd hi hl (by rw [hX.2.2.1]; exact hn) hL (fun ls2 hl2 => k H locs ls2 hP hD hS hl2)
theorem jx_lstore (hX : jx_Ok G X cc own ret nL lv) {i : Nat} {x : Int64} (hd : decode cc pc = .ok (.lstore i, 2)) (hn : i + 1 < nL) {L2 : List (Nat × Value)} (hL : (i, Value.long x) :: L.filter (fun q => !(q.1 == i) && (!(q.1 == i + 1) && !(q.1 + 1 == i && q.2.category == 2))) = L2) (k : jx_At G X fin w (pc + 2) L2 st) : jx_At G X fin w pc L (.long x :: st) :=
  fun H locs ls hP hD hS hl => lv_lstore hX.1 hX.2.1 hd hl (by rw [hX.2.2.1]; exact hn) hL (fun ls2 hl2 => k H locs ls2 hP hD hS hl2)
theorem jx_aload_n (hX : jx_Ok G X cc own ret nL lv) {i : Nat} {x : Nat} {n : Fin 4} (hd : decode cc pc = .ok (.aload_n n, 1)) (j : Nat) (hj : L[j]? = some (i, .ref x)) (hi : (n : Nat) = i) (k : jx_At G X fin w (pc + 1) L (.ref x :: st)) : jx_At G X fin w pc L st :=
  fun H locs ls hP hD hS hl => lv_aload_n hX.1 hX.2.1 hd hi (lv_at hl j hj) (k H locs ls hP hD hS hl)
theorem jx_aload (hX : jx_Ok G X cc own ret nL lv) {i : Nat} {x : Nat} (hd : decode cc pc = .ok (.aload i, 2)) (j : Nat) (hj : L[j]? = some (i, .ref x)) (k : jx_At G X fin w (pc + 2) L (.ref x :: st)) : jx_At G X fin w pc L st :=
  fun H locs ls hP hD hS hl => lv_aload hX.1 hX.2.1 hd (lv_at hl j hj) (k H locs ls hP hD hS hl)
theorem jx_astore_n (hX : jx_Ok G X cc own ret nL lv) {i : Nat} {x : Nat} {n : Fin 4} (hd : decode cc pc = .ok (.astore_n n, 1)) (hi : (n : Nat) = i) (hn : i < nL) {L2 : List (Nat × Value)} (hL : (i, Value.ref x) :: L.filter (fun q => !(q.1 == i) && !(q.1 + 1 == i && q.2.category == 2)) = L2) (k : jx_At G X fin w (pc + 1) L2 st) : jx_At G X fin w pc L (.ref x :: st) :=
  fun H locs ls hP hD hS hl => lv_astore_n hX.1 hX.2.1 hd hi hl (by rw [hX.2.2.1]; exact hn) hL (fun ls2 hl2 => k H locs ls2 hP hD hS hl2)
theorem jx_astore (hX : jx_Ok G X cc own ret nL lv) {i : Nat} {x : Nat} (hd : decode cc pc = .ok (.astore i, 2)) (hn : i < nL) {L2 : List (Nat × Value)} (hL : (i, Value.ref x) :: L.filter (fun q => !(q.1 == i) && !(q.1 + 1 == i && q.2.category == 2)) = L2) (k : jx_At G X fin w (pc + 2) L2 st) : jx_At G X fin w pc L (.ref x :: st) :=
  fun H locs ls hP hD hS hl => lv_astore hX.1 hX.2.1 hd hl (by rw [hX.2.2.1]; exact hn) hL (fun ls2 hl2 => k H locs ls2 hP hD hS hl2)
theorem jx_iinc (hX : jx_Ok G X cc own ret nL lv) {i : Nat} {n : Int} {x v : Int32} (hd : decode cc pc = .ok (.iinc i n, 3)) (j : Nat) (hj : L[j]? = some (i, .int x)) (hv : x + Int32.ofInt n = v) (hn : i < nL) {L2 : List (Nat × Value)} (hL : (i, Value.int v) :: L.filter (fun q => !(q.1 == i) && !(q.1 + 1 == i && q.2.category == 2)) = L2) (k : jx_At G X fin w (pc + 3) L2 st) : jx_At G X fin w pc L st :=
  fun H locs ls hP hD hS hl => lv_iinc hX.1 hX.2.1 hd hl hj hv (by rw [hX.2.2.1]; exact hn) hL (fun ls2 hl2 => k H locs ls2 hP hD hS hl2)
theorem jx_iadd (hX : jx_Ok G X cc own ret nL lv) {x y : Int32} (hd : decode cc pc = .ok (.iadd, 1))  (k : jx_At G X fin w (pc + 1) L (.int (x + y) :: st)) : jx_At G X fin w pc L (.int y :: .int x :: st) :=
  fun H locs ls hP hD hS hl => lv_iadd hX.1 hX.2.1 hd (k H locs ls hP hD hS hl)
theorem jx_isub (hX : jx_Ok G X cc own ret nL lv) {x y : Int32} (hd : decode cc pc = .ok (.isub, 1))  (k : jx_At G X fin w (pc + 1) L (.int (x - y) :: st)) : jx_At G X fin w pc L (.int y :: .int x :: st) :=
  fun H locs ls hP hD hS hl => lv_isub hX.1 hX.2.1 hd (k H locs ls hP hD hS hl)
theorem jx_imul (hX : jx_Ok G X cc own ret nL lv) {x y : Int32} (hd : decode cc pc = .ok (.imul, 1))  (k : jx_At G X fin w (pc + 1) L (.int (x * y) :: st)) : jx_At G X fin w pc L (.int y :: .int x :: st) :=
  fun H locs ls hP hD hS hl => lv_imul hX.1 hX.2.1 hd (k H locs ls hP hD hS hl)
theorem jx_iand (hX : jx_Ok G X cc own ret nL lv) {x y : Int32} (hd : decode cc pc = .ok (.iand, 1))  (k : jx_At G X fin w (pc + 1) L (.int (x &&& y) :: st)) : jx_At G X fin w pc L (.int y :: .int x :: st) :=
  fun H locs ls hP hD hS hl => lv_iand hX.1 hX.2.1 hd (k H locs ls hP hD hS hl)
theorem jx_ior (hX : jx_Ok G X cc own ret nL lv) {x y : Int32} (hd : decode cc pc = .ok (.ior, 1))  (k : jx_At G X fin w (pc + 1) L (.int (x ||| y) :: st)) : jx_At G X fin w pc L (.int y :: .int x :: st) :=
  fun H locs ls hP hD hS hl => lv_ior hX.1 hX.2.1 hd (k H locs ls hP hD hS hl)
theorem jx_ixor (hX : jx_Ok G X cc own ret nL lv) {x y : Int32} (hd : decode cc pc = .ok (.ixor, 1))  (k : jx_At G X fin w (pc + 1) L (.int (x ^^^ y) :: st)) : jx_At G X fin w pc L (.int y :: .int x :: st) :=
  fun H locs ls hP hD hS hl => lv_ixor hX.1 hX.2.1 hd (k H locs ls hP hD hS hl)
theorem jx_ladd (hX : jx_Ok G X cc own ret nL lv) {x y : Int64} (hd : decode cc pc = .ok (.ladd, 1))  (k : jx_At G X fin w (pc + 1) L (.long (x + y) :: st)) : jx_At G X fin w pc L (.long y :: .long x :: st) :=
  fun H locs ls hP hD hS hl => lv_ladd hX.1 hX.2.1 hd (k H locs ls hP hD hS hl)
theorem jx_lsub (hX : jx_Ok G X cc own ret nL lv) {x y : Int64} (hd : decode cc pc = .ok (.lsub, 1))  (k : jx_At G X fin w (pc + 1) L (.long (x - y) :: st)) : jx_At G X fin w pc L (.long y :: .long x :: st) :=
  fun H locs ls hP hD hS hl => lv_lsub hX.1 hX.2.1 hd (k H locs ls hP hD hS hl)
theorem jx_lmul (hX : jx_Ok G X cc own ret nL lv) {x y : Int64} (hd : decode cc pc = .ok (.lmul, 1))  (k : jx_At G X fin w (pc + 1) L (.long (x * y) :: st)) : jx_At G X fin w pc L (.long y :: .long x :: st) :=
  fun H locs ls hP hD hS hl => lv_lmul hX.1 hX.2.1 hd (k H locs ls hP hD hS hl)
theorem jx_land (hX : jx_Ok G X cc own ret nL lv) {x y : Int64} (hd : decode cc pc = .ok (.land, 1))  (k : jx_At G X fin w (pc + 1) L (.long (x &&& y) :: st)) : jx_At G X fin w pc L (.long y :: .long x :: st) :=
  fun H locs ls hP hD hS hl => lv_land hX.1 hX.2.1 hd (k H locs ls hP hD hS hl)
theorem jx_lor (hX : jx_Ok G X cc own ret nL lv) {x y : Int64} (hd : decode cc pc = .ok (.lor, 1))  (k : jx_At G X fin w (pc + 1) L (.long (x ||| y) :: st)) : jx_At G X fin w pc L (.long y :: .long x :: st) :=
  fun H locs ls hP hD hS hl => lv_lor hX.1 hX.2.1 hd (k H locs ls hP hD hS hl)
theorem jx_lxor (hX : jx_Ok G X cc own ret nL lv) {x y : Int64} (hd : decode cc pc = .ok (.lxor, 1))  (k : jx_At G X fin w (pc + 1) L (.long (x ^^^ y) :: st)) : jx_At G X fin w pc L (.long y :: .long x :: st) :=
  fun H locs ls hP hD hS hl => lv_lxor hX.1 hX.2.1 hd (k H locs ls hP hD hS hl)
theorem jx_ineg (hX : jx_Ok G X cc own ret nL lv) {x : Int32} (hd : decode cc pc = .ok (.ineg, 1))  (k : jx_At G X fin w (pc + 1) L (.int (-x) :: st)) : jx_At G X fin w pc L (.int x :: st) :=
  fun H locs ls hP hD hS hl => lv_ineg hX.1 hX.2.1 hd (k H locs ls hP hD hS hl)
theorem jx_lneg (hX : jx_Ok G X cc own ret nL lv) {x : Int64} (hd : decode cc pc = .ok (.lneg, 1))  (k : jx_At G X fin w (pc + 1) L (.long (-x) :: st)) : jx_At G X fin w pc L (.long x :: st) :=
  fun H locs ls hP hD hS hl => lv_lneg hX.1 hX.2.1 hd (k H locs ls hP hD hS hl)
theorem jx_ishl (hX : jx_Ok G X cc own ret nL lv) {x y : Int32} (hd : decode cc pc = .ok (.ishl, 1))  (k : jx_At G X fin w (pc + 1) L (.int (x <<< (y &&& 31)) :: st)) : jx_At G X fin w pc L (.int y :: .int x :: st) :=
  fun H locs ls hP hD hS hl => lv_ishl hX.1 hX.2.1 hd (k H locs ls hP hD hS hl)
theorem jx_ishr (hX : jx_Ok G X cc own ret nL lv) {x y : Int32} (hd : decode cc pc = .ok (.ishr, 1))  (k : jx_At G X fin w (pc + 1) L (.int (x >>> (y &&& 31)) :: st)) : jx_At G X fin w pc L (.int y :: .int x :: st) :=
  fun H locs ls hP hD hS hl => lv_ishr hX.1 hX.2.1 hd (k H locs ls hP hD hS hl)
theorem jx_iushr (hX : jx_Ok G X cc own ret nL lv) {x y v : Int32} (hd : decode cc pc = .ok (.iushr, 1)) (hv : (x.toUInt32 >>> (y.toUInt32 &&& Int32.toUInt32 31)).toInt32 = v) (k : jx_At G X fin w (pc + 1) L (.int v :: st)) : jx_At G X fin w pc L (.int y :: .int x :: st) :=
  fun H locs ls hP hD hS hl => lv_iushr hX.1 hX.2.1 hd hv (k H locs ls hP hD hS hl)
theorem jx_lshr (hX : jx_Ok G X cc own ret nL lv) {x v : Int64} {y : Int32} (hd : decode cc pc = .ok (.lshr, 1)) (hv : x >>> (y.toInt64 &&& 63) = v) (k : jx_At G X fin w (pc + 1) L (.long v :: st)) : jx_At G X fin w pc L (.int y :: .long x :: st) :=
  fun H locs ls hP hD hS hl => lv_lshr hX.1 hX.2.1 hd hv (k H locs ls hP hD hS hl)
theorem jx_lushr (hX : jx_Ok G X cc own ret nL lv) {x v : Int64} {y : Int32} (hd : decode cc pc = .ok (.lushr, 1)) (hv : (x.toUInt64 >>> (y.toInt64.toUInt64 &&& Int64.toUInt64 63)).toInt64 = v) (k : jx_At G X fin w (pc + 1) L (.long v :: st)) : jx_At G X fin w pc L (.int y :: .long x :: st) :=
  fun H locs ls hP hD hS hl => lv_lushr hX.1 hX.2.1 hd hv (k H locs ls hP hD hS hl)
theorem jx_i2l (hX : jx_Ok G X cc own ret nL lv) {x : Int32} {v : Int64} (hd : decode cc pc = .ok (.i2l, 1)) (hv : x.toInt64 = v) (k : jx_At G X fin w (pc + 1) L (.long v :: st)) : jx_At G X fin w pc L (.int x :: st) :=
  fun H locs ls hP hD hS hl => lv_i2l hX.1 hX.2.1 hd hv (k H locs ls hP hD hS hl)
theorem jx_l2i (hX : jx_Ok G X cc own ret nL lv) {x : Int64} {v : Int32} (hd : decode cc pc = .ok (.l2i, 1)) (hv : x.toInt32 = v) (k : jx_At G X fin w (pc + 1) L (.int v :: st)) : jx_At G X fin w pc L (.long x :: st) :=
  fun H locs ls hP hD hS hl => lv_l2i hX.1 hX.2.1 hd hv (k H locs ls hP hD hS hl)
theorem jx_i2c (hX : jx_Ok G X cc own ret nL lv) {x v : Int32} (hd : decode cc pc = .ok (.i2c, 1)) (hv : (x.toUInt32 % 65536).toInt32 = v) (k : jx_At G X fin w (pc + 1) L (.int v :: st)) : jx_At G X fin w pc L (.int x :: st) :=
  fun H locs ls hP hD hS hl => lv_i2c hX.1 hX.2.1 hd hv (k H locs ls hP hD hS hl)
theorem jx_lcmp (hX : jx_Ok G X cc own ret nL lv) {x y : Int64} (hd : decode cc pc = .ok (.lcmp, 1))  (k : jx_At G X fin w (pc + 1) L (.int (lg_cmp x y) :: st)) : jx_At G X fin w pc L (.long y :: .long x :: st) :=
  fun H locs ls hP hD hS hl => W.lcmp hX.1 hX.2.1 hd (k H locs ls hP hD hS hl)
theorem jx_dup (hX : jx_Ok G X cc own ret nL lv) {v : Value} (hd : decode cc pc = .ok (.dup, 1)) (hv : v.category = 1) (k : jx_At G X fin w (pc + 1) L (v :: v :: st)) : jx_At G X fin w pc L (v :: st) :=
  fun H locs ls hP hD hS hl => lv_dup hX.1 hX.2.1 hd hv (k H locs ls hP hD hS hl)
theorem jx_pop (hX : jx_Ok G X cc own ret nL lv) {v : Value} (hd : decode cc pc = .ok (.pop, 1)) (hv : v.category = 1) (k : jx_At G X fin w (pc + 1) L st) : jx_At G X fin w pc L (v :: st) :=
  fun H locs ls hP hD hS hl => lv_pop hX.1 hX.2.1 hd hv (k H locs ls hP hD hS hl)
theorem jx_dup2 (hX : jx_Ok G X cc own ret nL lv) {v u : Value} (hd : decode cc pc = .ok (.dup2, 1)) (hv : v.category = 1) (hu : u.category = 1) (k : jx_At G X fin w (pc + 1) L (v :: u :: v :: u :: st)) : jx_At G X fin w pc L (v :: u :: st) :=
  fun H locs ls hP hD hS hl => lv_dup2_11 hX.1 hX.2.1 hd hv hu (k H locs ls hP hD hS hl)
theorem jx_icmp_eq (hX : jx_Ok G X cc own ret nL lv) {x y : Int32} {off : Int} {tgt : Nat} (hd : decode cc pc = .ok (.if_icmp .eq off, 3)) (ht : (pc : Int) + off = (tgt : Int)) (kt : x = y → jx_At G X fin w tgt L st) (kf : ¬ x = y → jx_At G X fin w (pc + 3) L st) : jx_At G X fin w pc L (.int y :: .int x :: st) :=
  fun H locs ls hP hD hS hl => lv_icmp_eq hX.1 hX.2.1 hd ht (fun h => kt h H locs ls hP hD hS hl) (fun h => kf h H locs ls hP hD hS hl)
theorem jx_if_eq (hX : jx_Ok G X cc own ret nL lv) {x : Int32} {off : Int} {tgt : Nat} (hd : decode cc pc = .ok (.ifCond .eq off, 3)) (ht : (pc : Int) + off = (tgt : Int)) (kt : x = 0 → jx_At G X fin w tgt L st) (kf : ¬ x = 0 → jx_At G X fin w (pc + 3) L st) : jx_At G X fin w pc L (.int x :: st) :=
  fun H locs ls hP hD hS hl => lv_if_eq hX.1 hX.2.1 hd ht (fun h => kt h H locs ls hP hD hS hl) (fun h => kf h H locs ls hP hD hS hl)
theorem jx_icmp_ne (hX : jx_Ok G X cc own ret nL lv) {x y : Int32} {off : Int} {tgt : Nat} (hd : decode cc pc = .ok (.if_icmp .ne off, 3)) (ht : (pc : Int) + off = (tgt : Int)) (kt : ¬ x = y → jx_At G X fin w tgt L st) (kf : x = y → jx_At G X fin w (pc + 3) L st) : jx_At G X fin w pc L (.int y :: .int x :: st) :=
  fun H locs ls hP hD hS hl => lv_icmp_ne hX.1 hX.2.1 hd ht (fun h => kt h H locs ls hP hD hS hl) (fun h => kf h H locs ls hP hD hS hl)
theorem jx_if_ne (hX : jx_Ok G X cc own ret nL lv) {x : Int32} {off : Int} {tgt : Nat} (hd : decode cc pc = .ok (.ifCond .ne off, 3)) (ht : (pc : Int) + off = (tgt : Int)) (kt : ¬ x = 0 → jx_At G X fin w tgt L st) (kf : x = 0 → jx_At G X fin w (pc + 3) L st) : jx_At G X fin w pc L (.int x :: st) :=
  fun H locs ls hP hD hS hl => lv_if_ne hX.1 hX.2.1 hd ht (fun h => kt h H locs ls hP hD hS hl) (fun h => kf h H locs ls hP hD hS hl)
theorem jx_icmp_lt (hX : jx_Ok G X cc own ret nL lv) {x y : Int32} {off : Int} {tgt : Nat} (hd : decode cc pc = .ok (.if_icmp .lt off, 3)) (ht : (pc : Int) + off = (tgt : Int)) (kt : x < y → jx_At G X fin w tgt L st) (kf : ¬ x < y → jx_At G X fin w (pc + 3) L st) : jx_At G X fin w pc L (.int y :: .int x :: st) :=
  fun H locs ls hP hD hS hl => lv_icmp_lt hX.1 hX.2.1 hd ht (fun h => kt h H locs ls hP hD hS hl) (fun h => kf h H locs ls hP hD hS hl)
theorem jx_if_lt (hX : jx_Ok G X cc own ret nL lv) {x : Int32} {off : Int} {tgt : Nat} (hd : decode cc pc = .ok (.ifCond .lt off, 3)) (ht : (pc : Int) + off = (tgt : Int)) (kt : x < 0 → jx_At G X fin w tgt L st) (kf : ¬ x < 0 → jx_At G X fin w (pc + 3) L st) : jx_At G X fin w pc L (.int x :: st) :=
  fun H locs ls hP hD hS hl => lv_if_lt hX.1 hX.2.1 hd ht (fun h => kt h H locs ls hP hD hS hl) (fun h => kf h H locs ls hP hD hS hl)
theorem jx_icmp_ge (hX : jx_Ok G X cc own ret nL lv) {x y : Int32} {off : Int} {tgt : Nat} (hd : decode cc pc = .ok (.if_icmp .ge off, 3)) (ht : (pc : Int) + off = (tgt : Int)) (kt : y ≤ x → jx_At G X fin w tgt L st) (kf : ¬ y ≤ x → jx_At G X fin w (pc + 3) L st) : jx_At G X fin w pc L (.int y :: .int x :: st) :=
  fun H locs ls hP hD hS hl => lv_icmp_ge hX.1 hX.2.1 hd ht (fun h => kt h H locs ls hP hD hS hl) (fun h => kf h H locs ls hP hD hS hl)
theorem jx_if_ge (hX : jx_Ok G X cc own ret nL lv) {x : Int32} {off : Int} {tgt : Nat} (hd : decode cc pc = .ok (.ifCond .ge off, 3)) (ht : (pc : Int) + off = (tgt : Int)) (kt : 0 ≤ x → jx_At G X fin w tgt L st) (kf : ¬ 0 ≤ x → jx_At G X fin w (pc + 3) L st) : jx_At G X fin w pc L (.int x :: st) :=
  fun H locs ls hP hD hS hl => lv_if_ge hX.1 hX.2.1 hd ht (fun h => kt h H locs ls hP hD hS hl) (fun h => kf h H locs ls hP hD hS hl)
theorem jx_icmp_gt (hX : jx_Ok G X cc own ret nL lv) {x y : Int32} {off : Int} {tgt : Nat} (hd : decode cc pc = .ok (.if_icmp .gt off, 3)) (ht : (pc : Int) + off = (tgt : Int)) (kt : y < x → jx_At G X fin w tgt L st) (kf : ¬ y < x → jx_At G X fin w (pc + 3) L st) : jx_At G X fin w pc L (.int y :: .int x :: st) :=
  fun H locs ls hP hD hS hl => lv_icmp_gt hX.1 hX.2.1 hd ht (fun h => kt h H locs ls hP hD hS hl) (fun h => kf h H locs ls hP hD hS hl)
theorem jx_if_gt (hX : jx_Ok G X cc own ret nL lv) {x : Int32} {off : Int} {tgt : Nat} (hd : decode cc pc = .ok (.ifCond .gt off, 3)) (ht : (pc : Int) + off = (tgt : Int)) (kt : 0 < x → jx_At G X fin w tgt L st) (kf : ¬ 0 < x → jx_At G X fin w (pc + 3) L st) : jx_At G X fin w pc L (.int x :: st) :=
  fun H locs ls hP hD hS hl => lv_if_gt hX.1 hX.2.1 hd ht (fun h => kt h H locs ls hP hD hS hl) (fun h => kf h H locs ls hP hD hS hl)
theorem jx_icmp_le (hX : jx_Ok G X cc own ret nL lv) {x y : Int32} {off : Int} {tgt : Nat} (hd : decode cc pc = .ok (.if_icmp .le off, 3)) (ht : (pc : Int) + off = (tgt : Int)) (kt : x ≤ y → jx_At G X fin w tgt L st) (kf : ¬ x ≤ y → jx_At G X fin w (pc + 3) L st) : jx_At G X fin w pc L (.int y :: .int x :: st) :=
  fun H locs ls hP hD hS hl => lv_icmp_le hX.1 hX.2.1 hd ht (fun h => kt h H locs ls hP hD hS hl) (fun h => kf h H locs ls hP hD hS hl)
theorem jx_if_le (hX : jx_Ok G X cc own ret nL lv) {x : Int32} {off : Int} {tgt : Nat} (hd : decode cc pc = .ok (.ifCond .le off, 3)) (ht : (pc : Int) + off = (tgt : Int)) (kt : x ≤ 0 → jx_At G X fin w tgt L st) (kf : ¬ x ≤ 0 → jx_At G X fin w (pc + 3) L st) : jx_At G X fin w pc L (.int x :: st) :=
  fun H locs ls hP hD hS hl => lv_if_le hX.1 hX.2.1 hd ht (fun h => kt h H locs ls hP hD hS hl) (fun h => kf h H locs ls hP hD hS hl)
theorem jx_goto (hX : jx_Ok G X cc own ret nL lv) {off : Int} {tgt : Nat} (hd : decode cc pc = .ok (.goto off, 3)) (ht : (pc : Int) + off = (tgt : Int)) (k : jx_At G X fin w tgt L st) : jx_At G X fin w pc L st :=
  fun H locs ls hP hD hS hl => lv_goto hX.1 hX.2.1 hd ht (k H locs ls hP hD hS hl)
theorem jx_end (hX : jx_Ok G X cc own ret nL lv) {H : Heap} {locs : List Loc} {r : Option Value} (hP : va_P G.1 jx_cl w H) (hD : va_D (jx_A X) w) (hS : va_S (jx_A X) (jx_s X).heap H locs) : ∀ t : State, t.heap = H → (jx_s X).WarmedH t.vm → jx_Q G (jx_A X) (r, w) (jx_a X) (jx_s X) (.returned r) t :=
  fun t ht hW => ⟨⟨rfl, by rw [ht]; exact hP, va_K.moved hW.alike hX.2.2.2.2.2.1, hD⟩, hS.F ht⟩
theorem jx_iret (hX : jx_Ok G X cc own (some .int) nL lv) {v : Int32} (hd : decode cc pc = .ok (.ireturn, 1)) : jx_At G X (some (.int v), w) w pc L [.int v] :=
  fun H locs ls hP hD hS hl => W.iret hX.1 hX.2.1 hX.2.2.2.2.2.2.2.2.1 (jx_end hX hP hD hS) hS.2.2 hd hX.2.2.2.2.2.2.2.1
theorem jx_zret {ty : FieldType} (hX : jx_Ok G X cc own (some ty) nL lv) {v : Int32} (hd : decode cc pc = .ok (.ireturn, 1)) (hn : narrow ty (.int v) = .int v) : jx_At G X (some (.int v), w) w pc L [.int v] :=
  fun H locs ls hP hD hS hl => W.zret hX.1 hX.2.1 hX.2.2.2.2.2.2.2.2.1 hn (jx_end hX hP hD hS) hS.2.2 hd hX.2.2.2.2.2.2.2.1
theorem jx_lret (hX : jx_Ok G X cc own (some .long) nL lv) {v : Int64} (hd : decode cc pc = .ok (.lreturn, 1)) : jx_At G X (some (.long v), w) w pc L [.long v] :=
  fun H locs ls hP hD hS hl => W.lret hX.1 hX.2.1 hX.2.2.2.2.2.2.2.2.1 (jx_end hX hP hD hS) hS.2.2 hd hX.2.2.2.2.2.2.2.1
theorem jx_vret (hX : jx_Ok G X cc own none nL lv) (hd : decode cc pc = .ok (.return_, 1)) : jx_At G X (none, w) w pc L [] :=
  fun H locs ls hP hD hS hl => W.vret hX.1 hX.2.1 hX.2.2.2.2.2.2.2.2.1 (jx_end hX hP hD hS) hS.2.2 hd hX.2.2.2.2.2.2.2.1
theorem jx_get (hX : jx_Ok G X cc own ret nL lv) {C : String} {T : u_T} {N ci index a : Nat} (hin : ∀ w ∈ u_ws C T N, w ∈ jx_W) (q0 : Nat) {fs : List Value} (he : w[q0]? = some (a, .inr (ci, fs))) (hc : jx_cl[ci]? = some (C, T, N)) (j : Nat) (hj : j < N) (h1 : (T j).1 = C) (hlink : Cond.fieldLink own index C (T j).2.1 (T j).2.2.1 ∈ jx_W) {v : Value} (hv : fs[j]? = some v) (hd : decode cc pc = .ok (.getfield index, 3)) (k : jx_At G X fin w (pc + 3) L (v :: st)) : jx_At G X fin w pc L (.ref a :: st) :=
  fun H locs ls hP hD hS hl => va_get hX.1 hX.2.1 hX.2.2.2.2.1 hin hX.2.2.2.1 hX.2.2.2.2.2.1 hP q0 he hc j hj (hX.2.2.2.2.1 _ hlink) (fun x hx => by rw [h1] at hx; exact hx) hv hd (k H locs ls hP hD hS hl)
theorem jx_getN (hX : jx_Ok G X cc own ret nL lv) {C host : String} {T : u_T} {N ci index a : Nat} (hin : ∀ w ∈ u_ws C T N, w ∈ jx_W) (q0 : Nat) {fs : List Value} (he : w[q0]? = some (a, .inr (ci, fs))) (hc : jx_cl[ci]? = some (C, T, N)) (j : Nat) (hj : j < N) (h1 : (T j).1 = C) (hlink : Cond.fieldLinkNest own index C (T j).2.1 (T j).2.2.1 host ∈ jx_Z) {v : Value} (hv : fs[j]? = some v) (hd : decode cc pc = .ok (.getfield index, 3)) (k : jx_At G X fin w (pc + 3) L (v :: st)) : jx_At G X fin w pc L (.ref a :: st) :=
  fun H locs ls hP hD hS hl => va_getN hX.1 hX.2.1 hX.2.2.2.2.1 hin hX.2.2.2.1 hX.2.2.2.2.2.1 hP q0 he hc j hj (va_Nw.use rfl (hX.2.2.2.2.2.2.1 _ hlink)) (fun x hx => by rw [h1] at hx; exact hx) hv hd (k H locs ls hP hD hS hl)
theorem jx_put (hX : jx_Ok G X cc own ret nL lv) {C : String} {T : u_T} {N ci index a : Nat} (hin : ∀ w ∈ u_ws C T N, w ∈ jx_W) (ty0 : Nat → FieldType) (hty : ∀ k, k < N → parseFieldDescriptor (T k).2.2.1 = some (ty0 k)) (hnm : ∀ a, a < N → ∀ b, b < N → a ≠ b → (T a).2.1 ≠ (T b).2.1) (q0 : Nat) {fs : List Value} (he : w[q0]? = some (a, .inr (ci, fs))) (hc : jx_cl[ci]? = some (C, T, N)) (j : Nat) (hj : j < N) (h1 : (T j).1 = C) (hlink : Cond.fieldLink own index C (T j).2.1 (T j).2.2.1 ∈ jx_W) (hfin : (T j).2.2.2 = false) {v : Value} {ty : FieldType} (ht : ty0 j = ty) (hn : narrow ty v = v) (hfit : fits ty v = true) (hl0 : j < fs.length) {w2 : va_W} (hw : w.set q0 (a, .inr (ci, fs.set j v)) = w2) (hd : decode cc pc = .ok (.putfield index, 3)) (k : jx_At G X fin w2 (pc + 3) L st) : jx_At G X fin w pc L (v :: .ref a :: st) :=
  fun H locs ls hP hD hS hl => va_put hX.1 hX.2.1 hX.2.2.2.2.1 hin ty0 hty hnm hX.2.2.2.1 hX.2.2.2.2.2.1 hP hD hS q0 he hc j hj (hX.2.2.2.2.1 _ hlink) (fun x hx => by rw [h1] at hx; exact hx) hfin (by rw [← ht]; exact hty j hj) hn hfit hl0 hd (fun H1 locs1 hP hD hS => k H1 locs1 ls (by rw [hw] at hP; exact hP) (by rw [hw] at hD; exact hD) hS hl)
theorem jx_putN (hX : jx_Ok G X cc own ret nL lv) {C host : String} {T : u_T} {N ci index a : Nat} (hin : ∀ w ∈ u_ws C T N, w ∈ jx_W) (ty0 : Nat → FieldType) (hty : ∀ k, k < N → parseFieldDescriptor (T k).2.2.1 = some (ty0 k)) (hnm : ∀ a, a < N → ∀ b, b < N → a ≠ b → (T a).2.1 ≠ (T b).2.1) (q0 : Nat) {fs : List Value} (he : w[q0]? = some (a, .inr (ci, fs))) (hc : jx_cl[ci]? = some (C, T, N)) (j : Nat) (hj : j < N) (h1 : (T j).1 = C) (hlink : Cond.fieldLinkNest own index C (T j).2.1 (T j).2.2.1 host ∈ jx_Z) (hfin : (T j).2.2.2 = false) {v : Value} {ty : FieldType} (ht : ty0 j = ty) (hn : narrow ty v = v) (hfit : fits ty v = true) (hl0 : j < fs.length) {w2 : va_W} (hw : w.set q0 (a, .inr (ci, fs.set j v)) = w2) (hd : decode cc pc = .ok (.putfield index, 3)) (k : jx_At G X fin w2 (pc + 3) L st) : jx_At G X fin w pc L (v :: .ref a :: st) :=
  fun H locs ls hP hD hS hl => va_putN hX.1 hX.2.1 hX.2.2.2.2.1 hin ty0 hty hnm hX.2.2.2.1 hX.2.2.2.2.2.1 hP hD hS q0 he hc j hj (va_Nw.use rfl (hX.2.2.2.2.2.2.1 _ hlink)) (fun x hx => by rw [h1] at hx; exact hx) hfin (by rw [← ht]; exact hty j hj) hn hfit hl0 hd (fun H1 locs1 hP hD hS => k H1 locs1 ls (by rw [hw] at hP; exact hP) (by rw [hw] at hD; exact hD) hS hl)
theorem jx_iald (hX : jx_Ok G X cc own ret nL lv) {a : Nat} (q0 : Nat) {n : Nat} {f : Nat → Int32} (ha : w[q0]? = some (a, .inl (jx_ca G 0, n, .inl f))) {i : Int32} (hin : jx_in i n = true) (hd : decode cc pc = .ok (.iaload, 1)) (k : jx_At G X fin w (pc + 1) L (.int (f i.toNatClampNeg) :: st)) : jx_At G X fin w pc L (.int i :: .ref a :: st) :=
  fun H locs ls hP hD hS hl => va_iald hX.1 hX.2.1 hX.2.2.2.2.2.1 hP q0 0 ha rfl (jx_in_ok hin) hd (k H locs ls hP hD hS hl)
theorem jx_cald (hX : jx_Ok G X cc own ret nL lv) {a : Nat} (q0 : Nat) {n : Nat} {f : Nat → Int32} (ha : w[q0]? = some (a, .inl (jx_ca G 1, n, .inl f))) {i : Int32} (hin : jx_in i n = true) (hd : decode cc pc = .ok (.caload, 1)) (k : jx_At G X fin w (pc + 1) L (.int (f i.toNatClampNeg) :: st)) : jx_At G X fin w pc L (.int i :: .ref a :: st) :=
  fun H locs ls hP hD hS hl => va_cald hX.1 hX.2.1 hX.2.2.2.2.2.1 hP q0 1 ha rfl (jx_in_ok hin) hd (k H locs ls hP hD hS hl)
theorem jx_iast (hX : jx_Ok G X cc own ret nL lv) {a : Nat} (q0 : Nat) {n : Nat} {f : Nat → Int32} (ha : w[q0]? = some (a, .inl (jx_ca G 0, n, .inl f))) {i x : Int32} (hin : jx_in i n = true) {w2 : va_W} (hw : w.set q0 (a, .inl (jx_ca G 0, n, .inl (upd f i.toNatClampNeg x))) = w2) (hd : decode cc pc = .ok (.iastore, 1)) (k : jx_At G X fin w2 (pc + 1) L st) : jx_At G X fin w pc L (.int x :: .int i :: .ref a :: st) :=
  fun H locs ls hP hD hS hl => va_iast hX.1 hX.2.1 hX.2.2.2.2.2.1 hP hD hS q0 0 ha rfl (jx_in_ok hin) hd (fun H1 locs1 hP hD hS => k H1 locs1 ls (by rw [hw] at hP; exact hP) (by rw [hw] at hD; exact hD) hS hl)
theorem jx_cast (hX : jx_Ok G X cc own ret nL lv) {a : Nat} (q0 : Nat) {n : Nat} {f : Nat → Int32} (ha : w[q0]? = some (a, .inl (jx_ca G 1, n, .inl f))) {i x : Int32} (hin : jx_in i n = true) {w2 : va_W} (hw : w.set q0 (a, .inl (jx_ca G 1, n, .inl (upd f i.toNatClampNeg (vp_nar .char x)))) = w2) (hd : decode cc pc = .ok (.castore, 1)) (k : jx_At G X fin w2 (pc + 1) L st) : jx_At G X fin w pc L (.int x :: .int i :: .ref a :: st) :=
  fun H locs ls hP hD hS hl => va_cast hX.1 hX.2.1 hX.2.2.2.2.2.1 hP hD hS q0 1 ha rfl (jx_in_ok hin) hd (fun H1 locs1 hP hD hS => k H1 locs1 ls (by rw [hw] at hP; exact hP) (by rw [hw] at hD; exact hD) hS hl)
theorem jx_zald (hX : jx_Ok G X cc own ret nL lv) {a : Nat} (q0 : Nat) {n : Nat} {f : Nat → Int32} (ha : w[q0]? = some (a, .inl (jx_ca G 2, n, .inl f))) {i : Int32} (hin : jx_in i n = true) (hd : decode cc pc = .ok (.baload, 1)) (k : jx_At G X fin w (pc + 1) L (.int (f i.toNatClampNeg) :: st)) : jx_At G X fin w pc L (.int i :: .ref a :: st) :=
  fun H locs ls hP hD hS hl => va_zald hX.1 hX.2.1 hX.2.2.2.2.2.1 hP q0 2 ha rfl (jx_in_ok hin) hd (k H locs ls hP hD hS hl)
theorem jx_zast (hX : jx_Ok G X cc own ret nL lv) {a : Nat} (q0 : Nat) {n : Nat} {f : Nat → Int32} (ha : w[q0]? = some (a, .inl (jx_ca G 2, n, .inl f))) {i x : Int32} (hin : jx_in i n = true) {w2 : va_W} (hw : w.set q0 (a, .inl (jx_ca G 2, n, .inl (upd f i.toNatClampNeg (vp_nar .boolean x)))) = w2) (hd : decode cc pc = .ok (.bastore, 1)) (k : jx_At G X fin w2 (pc + 1) L st) : jx_At G X fin w pc L (.int x :: .int i :: .ref a :: st) :=
  fun H locs ls hP hD hS hl => va_zast hX.1 hX.2.1 hX.2.2.2.2.2.1 hP hD hS q0 2 ha rfl (jx_in_ok hin) hd (fun H1 locs1 hP hD hS => k H1 locs1 ls (by rw [hw] at hP; exact hP) (by rw [hw] at hD; exact hD) hS hl)
theorem jx_lald (hX : jx_Ok G X cc own ret nL lv) {a : Nat} (q0 : Nat) {n : Nat} {f : Nat → Int64} (ha : w[q0]? = some (a, .inl (jx_ca G 3, n, .inr (.inl f)))) {i : Int32} (hin : jx_in i n = true) (hd : decode cc pc = .ok (.laload, 1)) (k : jx_At G X fin w (pc + 1) L (.long (f i.toNatClampNeg) :: st)) : jx_At G X fin w pc L (.int i :: .ref a :: st) :=
  fun H locs ls hP hD hS hl => va_lald hX.1 hX.2.1 hX.2.2.2.2.2.1 hP q0 3 ha rfl (jx_in_ok hin) hd (k H locs ls hP hD hS hl)
theorem jx_last (hX : jx_Ok G X cc own ret nL lv) {a : Nat} (q0 : Nat) {n : Nat} {f : Nat → Int64} (ha : w[q0]? = some (a, .inl (jx_ca G 3, n, .inr (.inl f)))) {i : Int32} {x : Int64} (hin : jx_in i n = true) {w2 : va_W} (hw : w.set q0 (a, .inl (jx_ca G 3, n, .inr (.inl (vp_updL f i.toNatClampNeg x)))) = w2) (hd : decode cc pc = .ok (.lastore, 1)) (k : jx_At G X fin w2 (pc + 1) L st) : jx_At G X fin w pc L (.long x :: .int i :: .ref a :: st) :=
  fun H locs ls hP hD hS hl => va_last hX.1 hX.2.1 hX.2.2.2.2.2.1 hP hD hS q0 3 ha rfl (jx_in_ok hin) hd (fun H1 locs1 hP hD hS => k H1 locs1 ls (by rw [hw] at hP; exact hP) (by rw [hw] at hD; exact hD) hS hl)
theorem jx_ldc2 (hX : jx_Ok G X cc own ret nL lv) {index : Nat} {v : Int64} (hc : Cond.constantLong own index v ∈ jx_W) (hd : decode cc pc = .ok (.ldc2_w index, 3)) (k : jx_At G X fin w (pc + 3) L (.long v :: st)) : jx_At G X fin w pc L st :=
  fun H locs ls hP hD hS hl => lv_ldc2 hX.1 hX.2.1 hX.2.2.2.1 (hX.2.2.2.2.1 _ hc) hd (k H locs ls hP hD hS hl)
theorem jx_ai_r (hX : jx_Ok G X cc own ret nL lv) {index : Nat} {x : Int32} (hlink : Cond.methodLink own index Lib.Math.abs.name ∈ jx_W) (hd : decode cc pc = .ok (.invokestatic index, 3)) (hr : (st.map fun v => v.category).sum ≤ 8) (hlv : 0 < lv) (k : jx_At G X fin w (pc + 3) L (.int (jx_ai x) :: st)) : jx_At G X fin w pc L (.int x :: st) :=
  fun H locs ls hP hD hS hl => va_mabs hX.1 hX.2.1 hl.1.symm hX.2.2.2.1 (hX.2.2.2.2.1 _ hlink) (hX.2.2.2.2.1 _ jw_absS) (hX.2.2.2.2.1 _ jw_MathI) (hX.2.2.2.2.1 _ jw_absC) (by rw [hX.2.2.2.2.2.2.2.2.2.2]; exact hlv) (by rw [hX.2.2.2.2.2.2.2.2.2.2]; simp only [jx_rm]; omega) (Nat.zero_le _) (Nat.zero_le _) hd (k H locs ls hP hD hS hl)
theorem jx_mx_r (hX : jx_Ok G X cc own ret nL lv) {index : Nat} {x y : Int32} (hlink : Cond.methodLink own index Lib.Math.max.name ∈ jx_W) (hd : decode cc pc = .ok (.invokestatic index, 3)) (hr : (st.map fun v => v.category).sum ≤ 8) (hlv : 0 < lv) (k : jx_At G X fin w (pc + 3) L (.int (jx_mx x y) :: st)) : jx_At G X fin w pc L (.int y :: .int x :: st) :=
  fun H locs ls hP hD hS hl => va_mmax hX.1 hX.2.1 hl.1.symm hX.2.2.2.1 (hX.2.2.2.2.1 _ hlink) (hX.2.2.2.2.1 _ jw_maxS) (hX.2.2.2.2.1 _ jw_MathI) (hX.2.2.2.2.1 _ jw_maxC) (by rw [hX.2.2.2.2.2.2.2.2.2.2]; exact hlv) (by rw [hX.2.2.2.2.2.2.2.2.2.2]; simp only [jx_rm]; omega) (Nat.zero_le _) (Nat.zero_le _) hd (k H locs ls hP hD hS hl)
theorem jx_al_r (hX : jx_Ok G X cc own ret nL lv) {index : Nat} {x : Int64} (hlink : Cond.methodLink own index Lib.MathLoose.abs_long.x ∈ jx_W) (hd : decode cc pc = .ok (.invokestatic index, 3)) (hr : (st.map fun v => v.category).sum ≤ 8) (hlv : 0 < lv) (k : jx_At G X fin w (pc + 3) L (.long (jx_al x) :: st)) : jx_At G X fin w pc L (.long x :: st) :=
  fun H locs ls hP hD hS hl => va_mabs_long hX.1 hX.2.1 hl.1.symm hX.2.2.2.1 (hX.2.2.2.2.1 _ hlink) (hX.2.2.2.2.1 _ jw_abslS) (hX.2.2.2.2.1 _ jw_MathI) (hX.2.2.2.2.1 _ jw_abslC) (by rw [hX.2.2.2.2.2.2.2.2.2.2]; exact hlv) (by rw [hX.2.2.2.2.2.2.2.2.2.2]; simp only [jx_rm]; omega) (Nat.zero_le _) (Nat.zero_le _) hd (k H locs ls hP hD hS hl)
end JX
def jx_M (l : Launch) (y : MethodName) (b : ByteArray) (nL : Nat) (ret : Option FieldType) (lv : Nat) (G : jx_G) (av : List Value) (w0 : va_W) (fin : Option Value × va_W) : Prop :=
  ∀ sz : Nat, Met l y (Cond.code y b nL ret :: jx_W) (jx_rm lv) (va_Pc av (fun U => U.heap.size = sz ∧ va_P G.1 jx_cl w0 U.heap ∧ va_K G.1 jx_cl (jx_ty G) U ∧ va_D (fun _ => True) w0 ∧ ∀ w ∈ jx_Z, va_Nw w U)) (jx_Q G (va_A w0 sz) fin) 0 0 (va_A w0 sz)
theorem jx_met {l : Launch} {y : MethodName} {b : ByteArray} {nL : Nat} {ret : Option FieldType} {lv : Nat} {G : jx_G} {av : List Value} {w0 : va_W} {fin : Option Value × va_W} {own : String} (hy : plainName y.cls = true) (ho : y.cls = own) (hlen : (lg_sl av).length ≤ nL)
    (h : ∀ X : jx_C, jx_Ok G X b own ret nL lv → jx_l X = l → jx_At G X fin w0 0 (lv_args 0 av) []) : jx_M l y b nL ret lv G av w0 fin := by
  intro sz
  refine Met.ofW (cc := b) (maxL := nL) (ret := ret) hy rfl ?_
  intro p e s m args below meth c s₁ B hml hv
  obtain ⟨rfl, hsz, hP, hK, hD0, hZ⟩ := hv
  subst hsz
  have hts := atoms_spec (ws := Cond.code y b nL ret :: jx_W) B.pre
  have hD := hD0.self (sz := s.heap.size)
  have hl := lv_entry av (n := nL) hlen
  rw [lg_entry_eq]
  have hX : jx_Ok G (p, l, e, jx_rm lv, s, m, av.toArray, below, meth, c, va_A w0 s.heap.size) b own ret nL lv :=
    ⟨B.exec, B.bytes, hml, by rw [← ho]; exact findClass_of_methodNamed B.named, fun w hw => hts w (List.mem_cons_of_mem _ hw), hK, hZ, B.notSynchronized, B.returns, fun q h => Or.inr h, rfl⟩
  exact h (p, l, e, jx_rm lv, s, m, av.toArray, below, meth, c, va_A w0 s.heap.size) hX rfl s.heap [] _ hP hD va_S.rf (by show lv_has _ c.maxLocals _; rw [hml]; exact hl)
theorem jx_Zw {s U : State} (hW : s.WarmedH U.vm) (h : ∀ w ∈ jx_Z, va_Nw w s) : ∀ w ∈ jx_Z, va_Nw w U := by
  intro w hw
  have h1 : jx_isN w = true := List.all_eq_true.mp jx_Zn w hw
  have h2 := h w hw
  cases w <;> first | (simp [jx_isN] at h1; done) | exact va_Nw.warmF hW h2 | exact va_Nw.warmM hW h2
theorem jx_Zs {s U : State} (hvm : s.vm = U.vm) (h : ∀ w ∈ jx_Z, va_Nw w s) : ∀ w ∈ jx_Z, va_Nw w U := by
  intro w hw
  have h1 : jx_isN w = true := List.all_eq_true.mp jx_Zn w hw
  have h2 := h w hw
  cases w <;> first | (simp [jx_isN] at h1; done) | exact va_Nw.same rfl hvm h2
theorem jx_goodW {y : MethodName} {b : ByteArray} {nL : Nat} {ret : Option FieldType} (hc : Cond.code y b nL ret ∈ jx_W) : GoodIn jx_W (Cond.code y b nL ret :: jx_W) := by
  intro w hw
  have hm : w ∈ jx_W := by
    rcases List.mem_cons.mp hw with h | h
    · rw [h]; exact hc
    · exact h
  exact ⟨hm, good_of_word (List.all_eq_true.mp jx_Wg w hm)⟩
section JXC
variable {G : jx_G} {X : jx_C} {cc : ByteArray} {own : String} {ret : Option FieldType} {nL lv : Nat} {fin fin1 : Option Value × va_W} {w : va_W} {pc : Nat} {L : List (Nat × Value)} {st rest : List Value}
theorem jx_behind (hX : jx_Ok G X cc own ret nL lv) {H : Heap} {locs : List Loc} {ls : Array Slot} {a : Array Value} (hD : va_D (jx_A X) w) (hS : va_S (jx_A X) (jx_s X).heap H locs) (hl : lv_has ls (jx_c X).maxLocals L)
    (hr : va_Run (jx_p X) (jx_l X) (jx_e X) (jx_R X) (jx_s X) (jx_m X) (jx_a X) (jx_b X) (jx_h X) (jx_c X) H locs 0 0 0 0 (F0 (jx_m X) pc ls st) rest (jx_Q G (va_A w H.size) fin1 a) (va_A w H.size))
    (k : jx_At G X fin fin1.2 (pc + 3) L (fin1.1.toList ++ rest)) : W (jx_p X) (jx_l X) (jx_e X) (jx_R X) (jx_s X) (jx_m X) (jx_a X) (jx_b X) (jx_h X) (jx_c X) H locs 0 0 (MQ (jx_b X) (jx_Q G (jx_A X) fin) (jx_a X) (jx_s X) 0 0 (jx_A X)) (F0 (jx_m X) pc ls st) := by
  intro T hT X9
  obtain ⟨v, st₀, t, T', L9, h0, X', hL, e1, e2, ⟨⟨hv, hP1, hK1, hD1⟩, hz, hk⟩, stp⟩ := hr T hT X9
  have hv2 : v = fin1.1 := Outcome.returned.inj hv
  subst hv2
  rw [h0] at hz hk
  have hF : ∀ q, va_A w H.size q → jx_A X q := by
    intro q h
    rcases h with ⟨j, e, h⟩ | h
    · exact hD.2 j _ h
    · exact hX.2.2.2.2.2.2.2.2.2.1 q (Nat.le_trans hS.1 h)
  obtain ⟨t2, a1, b1⟩ := k T'.heap (locs ++ L9) ls (by rw [e1]; exact hP1) (hD1.weaken (fun _ q _ h => hF q.1 h))
    ⟨Nat.le_trans hS.1 (by rw [e1]; exact hz), fun q h1 h2 => by rw [e1, hk q (Nat.lt_of_lt_of_le h1 hS.1) (fun z => h2 (hF q z))]; exact hS.2.1 q h1 h2, fun q hq => by
      rcases List.mem_append.mp hq with h | h
      · exact hS.2.2 q h
      · exact hF _ (hL q h)⟩ hl T' rfl X'
  exact ⟨t2, stp t2 a1, b1⟩
variable {y : MethodName} {b : ByteArray} {nL' lv' index n : Nat} {ret' : Option FieldType} {As : List Value}
theorem jx_pre (hX : jx_Ok G X cc own ret nL lv) {H : Heap} (hP : va_P G.1 jx_cl w H) (hD : va_D (jx_A X) w) {av : List Value} : PreS (jx_s X) H (va_Pc av (fun U => U.heap.size = H.size ∧ va_P G.1 jx_cl w U.heap ∧ va_K G.1 jx_cl (jx_ty G) U ∧ va_D (fun _ => True) w ∧ ∀ w ∈ jx_Z, va_Nw w U)) av :=
  ⟨fun a U g mk q => by obtain ⟨q0, q1, qP, qK, qD, qZ⟩ := q; exact ⟨q0, q1, qP, va_K.moved (u := U) (U := U.calling g mk a) (Vm.Alike.refl U.vm) qK, qD, jx_Zs (s := U) (U := U.calling g mk a) rfl qZ⟩,
    fun U hU hW => ⟨rfl, by rw [hU], by rw [hU]; exact hP, va_K.moved hW.alike hX.2.2.2.2.2.1, hD.weaken (fun _ _ _ _ => trivial), jx_Zw hW hX.2.2.2.2.2.2.1⟩⟩
theorem jx_callB (hX : jx_Ok G X cc own ret nL lv) (hcode : Cond.code y b nL' ret' ∈ jx_W) (hini : Cond.initialized y.cls ∈ jx_W) (hlink : Cond.methodLink own index y ∈ jx_W) (hd : y.cls ≠ "java/lang/invoke/MethodHandle" ∧ y.cls ≠ "java/lang/invoke/VarHandle" ∧ (parseMethodDescriptor y.desc).map (fun d => d.parameters.length) = some n) (hlv : lv' < lv) (hn : nL' ≤ 33) :
    CallB (jx_R X) (jx_s X) (jx_a X) own index y b nL' ret' (Cond.code y b nL' ret' :: jx_W) (jx_rm lv') 0 0 n :=
  callB_of n hX.2.2.2.2.1 (jx_goodW hcode) rfl rfl rfl (hX.2.2.2.2.1 _ hini) (hX.2.2.2.2.1 _ hlink) hd (by rw [hX.2.2.2.2.2.2.2.2.2.2]; simp only [jx_rm]; omega)
theorem jx_callV (hX : jx_Ok G X cc own ret nL lv) {C : String} {T : u_T} {N ci a : Nat} {fs : List Value} (hM : jx_M (jx_l X) y b nL' ret' lv' G (.ref a :: As) w fin1) (hcode : Cond.code y b nL' ret' ∈ jx_W) (hini : Cond.initialized y.cls ∈ jx_W) (hlink : Cond.methodLink own index y ∈ jx_W) (hinst : Cond.instanceMethod y ∈ jx_W) (hsel : Cond.selects C y y ∈ jx_W) (hdd : y.cls ≠ "java/lang/invoke/MethodHandle" ∧ y.cls ≠ "java/lang/invoke/VarHandle" ∧ (parseMethodDescriptor y.desc).map (fun d => d.parameters.length) = some n) (q0 : Nat) (he : w[q0]? = some (a, .inr (ci, fs))) (hc : jx_cl[ci]? = some (C, T, N)) (hn : As.length = n) (hst : st = As.reverse ++ .ref a :: rest) (hnL : nL' ≤ 33) (hd : decode cc pc = .ok (.invokevirtual index, 3)) (hlv : lv' < lv) (hroom : (rest.map fun v => v.category).sum ≤ 8)
    (k : jx_At G X fin fin1.2 (pc + 3) L (fin1.1.toList ++ rest)) : jx_At G X fin w pc L st :=
  fun H locs ls hP hD hS hl => jx_behind hX hD hS hl (va_runV (As := As) (rest := rest) (C := C) ⟨hX.1, hX.2.1, rfl, hX.2.2.2.1, hX.2.2.2.2.1⟩ (hM H.size) ⟨jx_callB hX hcode hini hlink hdd hlv hnL, hX.2.2.2.2.1 _ hinst, hX.2.2.2.2.1 _ hsel⟩ ⟨(jx_pre hX hP hD).1, va_recv hX.2.2.2.2.2.1 hP hc he, (jx_pre hX hP hD).2⟩ rfl hn hl.1 hst (lv_room hroom) hd ⟨Nat.zero_le _, Nat.zero_le _⟩) k
theorem jx_callS (hX : jx_Ok G X cc own ret nL lv) (hM : jx_M (jx_l X) y b nL' ret' lv' G As w fin1) (hcode : Cond.code y b nL' ret' ∈ jx_W) (hini : Cond.initialized y.cls ∈ jx_W) (hlink : Cond.methodLink own index y ∈ jx_W) (hstat : Cond.static y ∈ jx_W) (hdd : y.cls ≠ "java/lang/invoke/MethodHandle" ∧ y.cls ≠ "java/lang/invoke/VarHandle" ∧ (parseMethodDescriptor y.desc).map (fun d => d.parameters.length) = some n) (hn : As.length = n) (hst : st = As.reverse ++ rest) (hnL : nL' ≤ 33) (hd : decode cc pc = .ok (.invokestatic index, 3)) (hlv : lv' < lv) (hroom : (rest.map fun v => v.category).sum ≤ 8)
    (k : jx_At G X fin fin1.2 (pc + 3) L (fin1.1.toList ++ rest)) : jx_At G X fin w pc L st :=
  fun H locs ls hP hD hS hl => jx_behind hX hD hS hl (va_runS (As := As) (rest := rest) ⟨hX.1, hX.2.1, rfl, hX.2.2.2.1, hX.2.2.2.2.1⟩ (hM H.size) ⟨jx_callB hX hcode hini hlink hdd hlv hnL, hX.2.2.2.2.1 _ hstat⟩ (jx_pre hX hP hD) rfl hn hl.1 hst (lv_room hroom) hd ⟨Nat.zero_le _, Nat.zero_le _⟩) k
end JXC
end
section
def jx_w (G : jx_G) (S : jx_S) : va_W := [(jx_ad G 0, .inr (0, [.ref (jx_ad G 1), .ref (jx_ad G 2), .ref (jx_ad G 3), .int (S.1 0), .int (S.1 1), .int (S.1 2)])),
  (jx_ad G 1, .inr (1, [.ref (jx_ad G 6), .ref (jx_ad G 7), .ref (jx_ad G 8), .int (S.1 3), .int (S.1 4), .int (S.1 5), .int (S.1 6)])),
  (jx_ad G 2, .inr (2, [.ref (jx_ad G 1), .ref (jx_ad G 9), .ref (jx_ad G 10), .ref (jx_ad G 11), .int (S.1 7), .int (S.1 8), .int (S.1 9), .int (S.1 10), .int (S.1 11)])),
  (jx_ad G 3, .inr (3, [.ref (jx_ad G 1), .ref (jx_ad G 4), .ref (jx_ad G 5), .ref (jx_ad G 15), .ref (jx_ad G 16), .ref (jx_ad G 17), .int (S.1 12)])),
  (jx_ad G 4, .inr (4, [.ref (jx_ad G 12), .ref (jx_ad G 13), .ref (jx_ad G 14), .int (S.1 13)])),
  (jx_ad G 5, .inr (5, [.int (S.1 14), .int (S.1 15), .int (S.1 16)])),
  (jx_ad G 6, .inl (jx_ca G 0, 32, .inl (S.2.1 0))),
  (jx_ad G 7, .inl (jx_ca G 1, 8, .inl (S.2.1 1))),
  (jx_ad G 8, .inl (jx_ca G 0, 80, .inl (S.2.1 2))),
  (jx_ad G 9, .inl (jx_ca G 1, 80, .inl (S.2.1 3))),
  (jx_ad G 10, .inl (jx_ca G 0, 80, .inl (S.2.1 4))),
  (jx_ad G 11, .inl (jx_ca G 0, 4, .inl (S.2.1 5))),
  (jx_ad G 12, .inl (jx_ca G 0, 72, .inl (S.2.1 6))),
  (jx_ad G 13, .inl (jx_ca G 0, 72, .inl (S.2.1 7))),
  (jx_ad G 14, .inl (jx_ca G 0, 72, .inl (S.2.1 8))),
  (jx_ad G 15, .inl (jx_ca G 0, 8, .inl (S.2.1 9))),
  (jx_ad G 16, .inl (jx_ca G 0, 8, .inl (S.2.1 10))),
  (jx_ad G 17, .inl (jx_ca G 0, 8, .inl (S.2.1 11)))]
section FR
variable {G : jx_G} {X : jx_C} {cc : ByteArray} {ret : Option FieldType} {nL lv : Nat} {fin : Option Value × va_W} {pc : Nat} {L : List (Nat × Value)} {st : List Value} {S : jx_S}
theorem gf_P_12 (hX : jx_Ok G X cc "PlaneCells" ret nL lv) (hd : decode cc pc = .ok (.getfield 12, 3)) (k : jx_At G X fin (jx_w G S) (pc + 3) L (.ref (jx_ad G 1) :: st)) : jx_At G X fin (jx_w G S) pc L (.ref (jx_ad G 0) :: st) := by
  exact jx_get hX jn_in_P 0 rfl rfl 0 (by decide) rfl wm_160 rfl hd k
theorem gf_P_21 (hX : jx_Ok G X cc "PlaneCells" ret nL lv) (hd : decode cc pc = .ok (.getfield 21, 3)) (k : jx_At G X fin (jx_w G S) (pc + 3) L (.ref (jx_ad G 2) :: st)) : jx_At G X fin (jx_w G S) pc L (.ref (jx_ad G 0) :: st) := by
  exact jx_get hX jn_in_P 0 rfl rfl 1 (by decide) rfl wm_161 rfl hd k
theorem gf_P_28 (hX : jx_Ok G X cc "PlaneCells" ret nL lv) (hd : decode cc pc = .ok (.getfield 28, 3)) (k : jx_At G X fin (jx_w G S) (pc + 3) L (.ref (jx_ad G 3) :: st)) : jx_At G X fin (jx_w G S) pc L (.ref (jx_ad G 0) :: st) := by
  exact jx_get hX jn_in_P 0 rfl rfl 2 (by decide) rfl wm_162 rfl hd k
theorem gf_P_32 (hX : jx_Ok G X cc "PlaneCells" ret nL lv) (hd : decode cc pc = .ok (.getfield 32, 3)) {x : Int32} (hx : S.1 0 = x) (k : jx_At G X fin (jx_w G S) (pc + 3) L (.int x :: st)) : jx_At G X fin (jx_w G S) pc L (.ref (jx_ad G 0) :: st) := by
  subst hx
  exact jx_get hX jn_in_P 0 rfl rfl 3 (by decide) rfl wm_163 rfl hd k
theorem gf_P_36 (hX : jx_Ok G X cc "PlaneCells" ret nL lv) (hd : decode cc pc = .ok (.getfield 36, 3)) {x : Int32} (hx : S.1 1 = x) (k : jx_At G X fin (jx_w G S) (pc + 3) L (.int x :: st)) : jx_At G X fin (jx_w G S) pc L (.ref (jx_ad G 0) :: st) := by
  subst hx
  exact jx_get hX jn_in_P 0 rfl rfl 4 (by decide) rfl wm_164 rfl hd k
theorem gf_P_39 (hX : jx_Ok G X cc "PlaneCells" ret nL lv) (hd : decode cc pc = .ok (.getfield 39, 3)) {x : Int32} (hx : S.1 2 = x) (k : jx_At G X fin (jx_w G S) (pc + 3) L (.int x :: st)) : jx_At G X fin (jx_w G S) pc L (.ref (jx_ad G 0) :: st) := by
  subst hx
  exact jx_get hX jn_in_P 0 rfl rfl 5 (by decide) rfl wm_165 rfl hd k
theorem gf_P_68 (hX : jx_Ok G X cc "PlaneCells" ret nL lv) (hd : decode cc pc = .ok (.getfield 68, 3)) {x : Int32} (hx : S.1 5 = x) (k : jx_At G X fin (jx_w G S) (pc + 3) L (.int x :: st)) : jx_At G X fin (jx_w G S) pc L (.ref (jx_ad G 1) :: st) := by
  subst hx
  exact jx_getN hX jn_in_S 1 rfl rfl 5 (by decide) rfl wm_35 rfl hd k
theorem gf_P_78 (hX : jx_Ok G X cc "PlaneCells" ret nL lv) (hd : decode cc pc = .ok (.getfield 78, 3)) {x : Int32} (hx : S.1 9 = x) (k : jx_At G X fin (jx_w G S) (pc + 3) L (.int x :: st)) : jx_At G X fin (jx_w G S) pc L (.ref (jx_ad G 2) :: st) := by
  subst hx
  exact jx_getN hX jn_in_R 2 rfl rfl 6 (by decide) rfl wm_68 rfl hd k
theorem gf_P_84 (hX : jx_Ok G X cc "PlaneCells" ret nL lv) (hd : decode cc pc = .ok (.getfield 84, 3)) {x : Int32} (hx : S.1 4 = x) (k : jx_At G X fin (jx_w G S) (pc + 3) L (.int x :: st)) : jx_At G X fin (jx_w G S) pc L (.ref (jx_ad G 1) :: st) := by
  subst hx
  exact jx_getN hX jn_in_S 1 rfl rfl 4 (by decide) rfl wm_34 rfl hd k
theorem gf_P_98 (hX : jx_Ok G X cc "PlaneCells" ret nL lv) (hd : decode cc pc = .ok (.getfield 98, 3)) {x : Int32} (hx : S.1 12 = x) (k : jx_At G X fin (jx_w G S) (pc + 3) L (.int x :: st)) : jx_At G X fin (jx_w G S) pc L (.ref (jx_ad G 3) :: st) := by
  subst hx
  exact jx_getN hX jn_in_Q 3 rfl rfl 6 (by decide) rfl wm_144 rfl hd k
theorem gf_P_113 (hX : jx_Ok G X cc "PlaneCells" ret nL lv) (hd : decode cc pc = .ok (.getfield 113, 3)) (k : jx_At G X fin (jx_w G S) (pc + 3) L (.ref (jx_ad G 4) :: st)) : jx_At G X fin (jx_w G S) pc L (.ref (jx_ad G 3) :: st) := by
  exact jx_getN hX jn_in_Q 3 rfl rfl 1 (by decide) rfl wm_138 rfl hd k
theorem gf_C_9 (hX : jx_Ok G X cc "PlaneCells$CriticalNumbers" ret nL lv) (hd : decode cc pc = .ok (.getfield 9, 3)) (k : jx_At G X fin (jx_w G S) (pc + 3) L (.ref (jx_ad G 12) :: st)) : jx_At G X fin (jx_w G S) pc L (.ref (jx_ad G 4) :: st) := by
  exact jx_get hX jn_in_C 4 rfl rfl 0 (by decide) rfl wm_103 rfl hd k
theorem gf_C_15 (hX : jx_Ok G X cc "PlaneCells$CriticalNumbers" ret nL lv) (hd : decode cc pc = .ok (.getfield 15, 3)) (k : jx_At G X fin (jx_w G S) (pc + 3) L (.ref (jx_ad G 13) :: st)) : jx_At G X fin (jx_w G S) pc L (.ref (jx_ad G 4) :: st) := by
  exact jx_get hX jn_in_C 4 rfl rfl 1 (by decide) rfl wm_104 rfl hd k
theorem gf_C_18 (hX : jx_Ok G X cc "PlaneCells$CriticalNumbers" ret nL lv) (hd : decode cc pc = .ok (.getfield 18, 3)) (k : jx_At G X fin (jx_w G S) (pc + 3) L (.ref (jx_ad G 14) :: st)) : jx_At G X fin (jx_w G S) pc L (.ref (jx_ad G 4) :: st) := by
  exact jx_get hX jn_in_C 4 rfl rfl 2 (by decide) rfl wm_105 rfl hd k
theorem gf_C_21 (hX : jx_Ok G X cc "PlaneCells$CriticalNumbers" ret nL lv) (hd : decode cc pc = .ok (.getfield 21, 3)) {x : Int32} (hx : S.1 13 = x) (k : jx_At G X fin (jx_w G S) (pc + 3) L (.int x :: st)) : jx_At G X fin (jx_w G S) pc L (.ref (jx_ad G 4) :: st) := by
  subst hx
  exact jx_get hX jn_in_C 4 rfl rfl 3 (by decide) rfl wm_106 rfl hd k
theorem gf_C_25 (hX : jx_Ok G X cc "PlaneCells$CriticalNumbers" ret nL lv) (hd : decode cc pc = .ok (.getfield 25, 3)) {x : Int32} (hx : S.1 16 = x) (k : jx_At G X fin (jx_w G S) (pc + 3) L (.int x :: st)) : jx_At G X fin (jx_w G S) pc L (.ref (jx_ad G 5) :: st) := by
  subst hx
  exact jx_getN hX jn_in_F 5 rfl rfl 2 (by decide) rfl wm_128 rfl hd k
theorem gf_C_30 (hX : jx_Ok G X cc "PlaneCells$CriticalNumbers" ret nL lv) (hd : decode cc pc = .ok (.getfield 30, 3)) {x : Int32} (hx : S.1 15 = x) (k : jx_At G X fin (jx_w G S) (pc + 3) L (.int x :: st)) : jx_At G X fin (jx_w G S) pc L (.ref (jx_ad G 5) :: st) := by
  subst hx
  exact jx_getN hX jn_in_F 5 rfl rfl 1 (by decide) rfl wm_126 rfl hd k
theorem gf_C_33 (hX : jx_Ok G X cc "PlaneCells$CriticalNumbers" ret nL lv) (hd : decode cc pc = .ok (.getfield 33, 3)) {x : Int32} (hx : S.1 14 = x) (k : jx_At G X fin (jx_w G S) (pc + 3) L (.int x :: st)) : jx_At G X fin (jx_w G S) pc L (.ref (jx_ad G 5) :: st) := by
  subst hx
  exact jx_getN hX jn_in_F 5 rfl rfl 0 (by decide) rfl wm_124 rfl hd k
theorem gf_Q_12 (hX : jx_Ok G X cc "PlaneCells$Plane" ret nL lv) (hd : decode cc pc = .ok (.getfield 12, 3)) (k : jx_At G X fin (jx_w G S) (pc + 3) L (.ref (jx_ad G 4) :: st)) : jx_At G X fin (jx_w G S) pc L (.ref (jx_ad G 3) :: st) := by
  exact jx_get hX jn_in_Q 3 rfl rfl 1 (by decide) rfl wm_137 rfl hd k
theorem gf_Q_21 (hX : jx_Ok G X cc "PlaneCells$Plane" ret nL lv) (hd : decode cc pc = .ok (.getfield 21, 3)) (k : jx_At G X fin (jx_w G S) (pc + 3) L (.ref (jx_ad G 5) :: st)) : jx_At G X fin (jx_w G S) pc L (.ref (jx_ad G 3) :: st) := by
  exact jx_get hX jn_in_Q 3 rfl rfl 2 (by decide) rfl wm_139 rfl hd k
theorem gf_Q_25 (hX : jx_Ok G X cc "PlaneCells$Plane" ret nL lv) (hd : decode cc pc = .ok (.getfield 25, 3)) (k : jx_At G X fin (jx_w G S) (pc + 3) L (.ref (jx_ad G 15) :: st)) : jx_At G X fin (jx_w G S) pc L (.ref (jx_ad G 3) :: st) := by
  exact jx_get hX jn_in_Q 3 rfl rfl 3 (by decide) rfl wm_140 rfl hd k
theorem gf_Q_29 (hX : jx_Ok G X cc "PlaneCells$Plane" ret nL lv) (hd : decode cc pc = .ok (.getfield 29, 3)) (k : jx_At G X fin (jx_w G S) (pc + 3) L (.ref (jx_ad G 16) :: st)) : jx_At G X fin (jx_w G S) pc L (.ref (jx_ad G 3) :: st) := by
  exact jx_get hX jn_in_Q 3 rfl rfl 4 (by decide) rfl wm_141 rfl hd k
theorem gf_Q_32 (hX : jx_Ok G X cc "PlaneCells$Plane" ret nL lv) (hd : decode cc pc = .ok (.getfield 32, 3)) (k : jx_At G X fin (jx_w G S) (pc + 3) L (.ref (jx_ad G 17) :: st)) : jx_At G X fin (jx_w G S) pc L (.ref (jx_ad G 3) :: st) := by
  exact jx_get hX jn_in_Q 3 rfl rfl 5 (by decide) rfl wm_142 rfl hd k
theorem gf_Q_35 (hX : jx_Ok G X cc "PlaneCells$Plane" ret nL lv) (hd : decode cc pc = .ok (.getfield 35, 3)) (k : jx_At G X fin (jx_w G S) (pc + 3) L (.ref (jx_ad G 1) :: st)) : jx_At G X fin (jx_w G S) pc L (.ref (jx_ad G 3) :: st) := by
  exact jx_get hX jn_in_Q 3 rfl rfl 0 (by decide) rfl wm_136 rfl hd k
theorem gf_Q_42 (hX : jx_Ok G X cc "PlaneCells$Plane" ret nL lv) (hd : decode cc pc = .ok (.getfield 42, 3)) {x : Int32} (hx : S.1 4 = x) (k : jx_At G X fin (jx_w G S) (pc + 3) L (.int x :: st)) : jx_At G X fin (jx_w G S) pc L (.ref (jx_ad G 1) :: st) := by
  subst hx
  exact jx_getN hX jn_in_S 1 rfl rfl 4 (by decide) rfl wm_33 rfl hd k
theorem gf_Q_63 (hX : jx_Ok G X cc "PlaneCells$Plane" ret nL lv) (hd : decode cc pc = .ok (.getfield 63, 3)) {x : Int32} (hx : S.1 13 = x) (k : jx_At G X fin (jx_w G S) (pc + 3) L (.int x :: st)) : jx_At G X fin (jx_w G S) pc L (.ref (jx_ad G 4) :: st) := by
  subst hx
  exact jx_getN hX jn_in_C 4 rfl rfl 3 (by decide) rfl wm_107 rfl hd k
theorem gf_Q_66 (hX : jx_Ok G X cc "PlaneCells$Plane" ret nL lv) (hd : decode cc pc = .ok (.getfield 66, 3)) {x : Int32} (hx : S.1 12 = x) (k : jx_At G X fin (jx_w G S) (pc + 3) L (.int x :: st)) : jx_At G X fin (jx_w G S) pc L (.ref (jx_ad G 3) :: st) := by
  subst hx
  exact jx_get hX jn_in_Q 3 rfl rfl 6 (by decide) rfl wm_143 rfl hd k
theorem gf_Q_89 (hX : jx_Ok G X cc "PlaneCells$Plane" ret nL lv) (hd : decode cc pc = .ok (.getfield 89, 3)) {x : Int32} (hx : S.1 3 = x) (k : jx_At G X fin (jx_w G S) (pc + 3) L (.int x :: st)) : jx_At G X fin (jx_w G S) pc L (.ref (jx_ad G 1) :: st) := by
  subst hx
  exact jx_getN hX jn_in_S 1 rfl rfl 3 (by decide) rfl wm_31 rfl hd k
theorem gf_Q_92 (hX : jx_Ok G X cc "PlaneCells$Plane" ret nL lv) (hd : decode cc pc = .ok (.getfield 92, 3)) (k : jx_At G X fin (jx_w G S) (pc + 3) L (.ref (jx_ad G 8) :: st)) : jx_At G X fin (jx_w G S) pc L (.ref (jx_ad G 1) :: st) := by
  exact jx_getN hX jn_in_S 1 rfl rfl 2 (by decide) rfl wm_29 rfl hd k
theorem gf_Q_106 (hX : jx_Ok G X cc "PlaneCells$Plane" ret nL lv) (hd : decode cc pc = .ok (.getfield 106, 3)) {x : Int32} (hx : S.1 6 = x) (k : jx_At G X fin (jx_w G S) (pc + 3) L (.int x :: st)) : jx_At G X fin (jx_w G S) pc L (.ref (jx_ad G 1) :: st) := by
  subst hx
  exact jx_getN hX jn_in_S 1 rfl rfl 6 (by decide) rfl wm_38 rfl hd k
theorem gf_R_9 (hX : jx_Ok G X cc "PlaneCells$Reader" ret nL lv) (hd : decode cc pc = .ok (.getfield 9, 3)) (k : jx_At G X fin (jx_w G S) (pc + 3) L (.ref (jx_ad G 9) :: st)) : jx_At G X fin (jx_w G S) pc L (.ref (jx_ad G 2) :: st) := by
  exact jx_get hX jn_in_R 2 rfl rfl 1 (by decide) rfl wm_63 rfl hd k
theorem gf_R_15 (hX : jx_Ok G X cc "PlaneCells$Reader" ret nL lv) (hd : decode cc pc = .ok (.getfield 15, 3)) (k : jx_At G X fin (jx_w G S) (pc + 3) L (.ref (jx_ad G 10) :: st)) : jx_At G X fin (jx_w G S) pc L (.ref (jx_ad G 2) :: st) := by
  exact jx_get hX jn_in_R 2 rfl rfl 2 (by decide) rfl wm_64 rfl hd k
theorem gf_R_19 (hX : jx_Ok G X cc "PlaneCells$Reader" ret nL lv) (hd : decode cc pc = .ok (.getfield 19, 3)) (k : jx_At G X fin (jx_w G S) (pc + 3) L (.ref (jx_ad G 11) :: st)) : jx_At G X fin (jx_w G S) pc L (.ref (jx_ad G 2) :: st) := by
  exact jx_get hX jn_in_R 2 rfl rfl 3 (by decide) rfl wm_65 rfl hd k
theorem gf_R_22 (hX : jx_Ok G X cc "PlaneCells$Reader" ret nL lv) (hd : decode cc pc = .ok (.getfield 22, 3)) (k : jx_At G X fin (jx_w G S) (pc + 3) L (.ref (jx_ad G 1) :: st)) : jx_At G X fin (jx_w G S) pc L (.ref (jx_ad G 2) :: st) := by
  exact jx_get hX jn_in_R 2 rfl rfl 0 (by decide) rfl wm_62 rfl hd k
theorem gf_R_26 (hX : jx_Ok G X cc "PlaneCells$Reader" ret nL lv) (hd : decode cc pc = .ok (.getfield 26, 3)) {x : Int32} (hx : S.1 7 = x) (k : jx_At G X fin (jx_w G S) (pc + 3) L (.int x :: st)) : jx_At G X fin (jx_w G S) pc L (.ref (jx_ad G 2) :: st) := by
  subst hx
  exact jx_get hX jn_in_R 2 rfl rfl 4 (by decide) rfl wm_66 rfl hd k
theorem gf_R_30 (hX : jx_Ok G X cc "PlaneCells$Reader" ret nL lv) (hd : decode cc pc = .ok (.getfield 30, 3)) {x : Int32} (hx : S.1 8 = x) (k : jx_At G X fin (jx_w G S) (pc + 3) L (.int x :: st)) : jx_At G X fin (jx_w G S) pc L (.ref (jx_ad G 2) :: st) := by
  subst hx
  exact jx_get hX jn_in_R 2 rfl rfl 5 (by decide) rfl wm_67 rfl hd k
theorem gf_R_33 (hX : jx_Ok G X cc "PlaneCells$Reader" ret nL lv) (hd : decode cc pc = .ok (.getfield 33, 3)) {x : Int32} (hx : S.1 9 = x) (k : jx_At G X fin (jx_w G S) (pc + 3) L (.int x :: st)) : jx_At G X fin (jx_w G S) pc L (.ref (jx_ad G 2) :: st) := by
  subst hx
  exact jx_get hX jn_in_R 2 rfl rfl 6 (by decide) rfl wm_69 rfl hd k
theorem gf_R_36 (hX : jx_Ok G X cc "PlaneCells$Reader" ret nL lv) (hd : decode cc pc = .ok (.getfield 36, 3)) {x : Int32} (hx : S.1 10 = x) (k : jx_At G X fin (jx_w G S) (pc + 3) L (.int x :: st)) : jx_At G X fin (jx_w G S) pc L (.ref (jx_ad G 2) :: st) := by
  subst hx
  exact jx_get hX jn_in_R 2 rfl rfl 7 (by decide) rfl wm_70 rfl hd k
theorem gf_R_39 (hX : jx_Ok G X cc "PlaneCells$Reader" ret nL lv) (hd : decode cc pc = .ok (.getfield 39, 3)) {x : Int32} (hx : S.1 11 = x) (k : jx_At G X fin (jx_w G S) (pc + 3) L (.int x :: st)) : jx_At G X fin (jx_w G S) pc L (.ref (jx_ad G 2) :: st) := by
  subst hx
  exact jx_get hX jn_in_R 2 rfl rfl 8 (by decide) rfl wm_71 rfl hd k
theorem gf_S_9 (hX : jx_Ok G X cc "PlaneCells$Sentence" ret nL lv) (hd : decode cc pc = .ok (.getfield 9, 3)) (k : jx_At G X fin (jx_w G S) (pc + 3) L (.ref (jx_ad G 6) :: st)) : jx_At G X fin (jx_w G S) pc L (.ref (jx_ad G 1) :: st) := by
  exact jx_get hX jn_in_S 1 rfl rfl 0 (by decide) rfl wm_26 rfl hd k
theorem gf_S_15 (hX : jx_Ok G X cc "PlaneCells$Sentence" ret nL lv) (hd : decode cc pc = .ok (.getfield 15, 3)) (k : jx_At G X fin (jx_w G S) (pc + 3) L (.ref (jx_ad G 7) :: st)) : jx_At G X fin (jx_w G S) pc L (.ref (jx_ad G 1) :: st) := by
  exact jx_get hX jn_in_S 1 rfl rfl 1 (by decide) rfl wm_27 rfl hd k
theorem gf_S_19 (hX : jx_Ok G X cc "PlaneCells$Sentence" ret nL lv) (hd : decode cc pc = .ok (.getfield 19, 3)) (k : jx_At G X fin (jx_w G S) (pc + 3) L (.ref (jx_ad G 8) :: st)) : jx_At G X fin (jx_w G S) pc L (.ref (jx_ad G 1) :: st) := by
  exact jx_get hX jn_in_S 1 rfl rfl 2 (by decide) rfl wm_28 rfl hd k
theorem gf_S_22 (hX : jx_Ok G X cc "PlaneCells$Sentence" ret nL lv) (hd : decode cc pc = .ok (.getfield 22, 3)) {x : Int32} (hx : S.1 3 = x) (k : jx_At G X fin (jx_w G S) (pc + 3) L (.int x :: st)) : jx_At G X fin (jx_w G S) pc L (.ref (jx_ad G 1) :: st) := by
  subst hx
  exact jx_get hX jn_in_S 1 rfl rfl 3 (by decide) rfl wm_30 rfl hd k
theorem gf_S_26 (hX : jx_Ok G X cc "PlaneCells$Sentence" ret nL lv) (hd : decode cc pc = .ok (.getfield 26, 3)) {x : Int32} (hx : S.1 4 = x) (k : jx_At G X fin (jx_w G S) (pc + 3) L (.int x :: st)) : jx_At G X fin (jx_w G S) pc L (.ref (jx_ad G 1) :: st) := by
  subst hx
  exact jx_get hX jn_in_S 1 rfl rfl 4 (by decide) rfl wm_32 rfl hd k
theorem pf_P_32 (hX : jx_Ok G X cc "PlaneCells" ret nL lv) {x : Int32} (hd : decode cc pc = .ok (.putfield 32, 3)) (k : jx_At G X fin (jx_w G (jx_f S 0 x)) (pc + 3) L st) : jx_At G X fin (jx_w G S) pc L (.int x :: .ref (jx_ad G 0) :: st) :=
  jx_put hX jn_in_P jn_t_P jn_tok_P jn_nm_P 0 rfl rfl 3 (by decide) rfl wm_163 rfl rfl rfl rfl (Nat.le_of_ble_eq_true rfl) (w2 := jx_w G (jx_f S 0 x)) rfl hd k
theorem pf_P_36 (hX : jx_Ok G X cc "PlaneCells" ret nL lv) {x : Int32} (hd : decode cc pc = .ok (.putfield 36, 3)) (k : jx_At G X fin (jx_w G (jx_f S 1 x)) (pc + 3) L st) : jx_At G X fin (jx_w G S) pc L (.int x :: .ref (jx_ad G 0) :: st) :=
  jx_put hX jn_in_P jn_t_P jn_tok_P jn_nm_P 0 rfl rfl 4 (by decide) rfl wm_164 rfl rfl rfl rfl (Nat.le_of_ble_eq_true rfl) (w2 := jx_w G (jx_f S 1 x)) rfl hd k
theorem pf_P_39 (hX : jx_Ok G X cc "PlaneCells" ret nL lv) {x : Int32} (hd : decode cc pc = .ok (.putfield 39, 3)) (k : jx_At G X fin (jx_w G (jx_f S 2 x)) (pc + 3) L st) : jx_At G X fin (jx_w G S) pc L (.int x :: .ref (jx_ad G 0) :: st) :=
  jx_put hX jn_in_P jn_t_P jn_tok_P jn_nm_P 0 rfl rfl 5 (by decide) rfl wm_165 rfl rfl rfl rfl (Nat.le_of_ble_eq_true rfl) (w2 := jx_w G (jx_f S 2 x)) rfl hd k
theorem pf_C_21 (hX : jx_Ok G X cc "PlaneCells$CriticalNumbers" ret nL lv) {x : Int32} (hd : decode cc pc = .ok (.putfield 21, 3)) (k : jx_At G X fin (jx_w G (jx_f S 13 x)) (pc + 3) L st) : jx_At G X fin (jx_w G S) pc L (.int x :: .ref (jx_ad G 4) :: st) :=
  jx_put hX jn_in_C jn_t_C jn_tok_C jn_nm_C 4 rfl rfl 3 (by decide) rfl wm_106 rfl rfl rfl rfl (Nat.le_of_ble_eq_true rfl) (w2 := jx_w G (jx_f S 13 x)) rfl hd k
theorem pf_F_13 (hX : jx_Ok G X cc "PlaneCells$Form" ret nL lv) {x : Int32} (hd : decode cc pc = .ok (.putfield 13, 3)) (k : jx_At G X fin (jx_w G (jx_f S 14 x)) (pc + 3) L st) : jx_At G X fin (jx_w G S) pc L (.int x :: .ref (jx_ad G 5) :: st) :=
  jx_put hX jn_in_F jn_t_F jn_tok_F jn_nm_F 5 rfl rfl 0 (by decide) rfl wm_123 rfl rfl rfl rfl (Nat.le_of_ble_eq_true rfl) (w2 := jx_w G (jx_f S 14 x)) rfl hd k
theorem pf_F_19 (hX : jx_Ok G X cc "PlaneCells$Form" ret nL lv) {x : Int32} (hd : decode cc pc = .ok (.putfield 19, 3)) (k : jx_At G X fin (jx_w G (jx_f S 15 x)) (pc + 3) L st) : jx_At G X fin (jx_w G S) pc L (.int x :: .ref (jx_ad G 5) :: st) :=
  jx_put hX jn_in_F jn_t_F jn_tok_F jn_nm_F 5 rfl rfl 1 (by decide) rfl wm_125 rfl rfl rfl rfl (Nat.le_of_ble_eq_true rfl) (w2 := jx_w G (jx_f S 15 x)) rfl hd k
theorem pf_F_22 (hX : jx_Ok G X cc "PlaneCells$Form" ret nL lv) {x : Int32} (hd : decode cc pc = .ok (.putfield 22, 3)) (k : jx_At G X fin (jx_w G (jx_f S 16 x)) (pc + 3) L st) : jx_At G X fin (jx_w G S) pc L (.int x :: .ref (jx_ad G 5) :: st) :=
  jx_put hX jn_in_F jn_t_F jn_tok_F jn_nm_F 5 rfl rfl 2 (by decide) rfl wm_127 rfl rfl rfl rfl (Nat.le_of_ble_eq_true rfl) (w2 := jx_w G (jx_f S 16 x)) rfl hd k
theorem pf_Q_66 (hX : jx_Ok G X cc "PlaneCells$Plane" ret nL lv) {x : Int32} (hd : decode cc pc = .ok (.putfield 66, 3)) (k : jx_At G X fin (jx_w G (jx_f S 12 x)) (pc + 3) L st) : jx_At G X fin (jx_w G S) pc L (.int x :: .ref (jx_ad G 3) :: st) :=
  jx_put hX jn_in_Q jn_t_Q jn_tok_Q jn_nm_Q 3 rfl rfl 6 (by decide) rfl wm_143 rfl rfl rfl rfl (Nat.le_of_ble_eq_true rfl) (w2 := jx_w G (jx_f S 12 x)) rfl hd k
theorem pf_R_26 (hX : jx_Ok G X cc "PlaneCells$Reader" ret nL lv) {x : Int32} (hd : decode cc pc = .ok (.putfield 26, 3)) (k : jx_At G X fin (jx_w G (jx_f S 7 x)) (pc + 3) L st) : jx_At G X fin (jx_w G S) pc L (.int x :: .ref (jx_ad G 2) :: st) :=
  jx_put hX jn_in_R jn_t_R jn_tok_R jn_nm_R 2 rfl rfl 4 (by decide) rfl wm_66 rfl rfl rfl rfl (Nat.le_of_ble_eq_true rfl) (w2 := jx_w G (jx_f S 7 x)) rfl hd k
theorem pf_R_30 (hX : jx_Ok G X cc "PlaneCells$Reader" ret nL lv) {x : Int32} (hd : decode cc pc = .ok (.putfield 30, 3)) (k : jx_At G X fin (jx_w G (jx_f S 8 x)) (pc + 3) L st) : jx_At G X fin (jx_w G S) pc L (.int x :: .ref (jx_ad G 2) :: st) :=
  jx_put hX jn_in_R jn_t_R jn_tok_R jn_nm_R 2 rfl rfl 5 (by decide) rfl wm_67 rfl rfl rfl rfl (Nat.le_of_ble_eq_true rfl) (w2 := jx_w G (jx_f S 8 x)) rfl hd k
theorem pf_R_33 (hX : jx_Ok G X cc "PlaneCells$Reader" ret nL lv) {x : Int32} (hd : decode cc pc = .ok (.putfield 33, 3)) (k : jx_At G X fin (jx_w G (jx_f S 9 x)) (pc + 3) L st) : jx_At G X fin (jx_w G S) pc L (.int x :: .ref (jx_ad G 2) :: st) :=
  jx_put hX jn_in_R jn_t_R jn_tok_R jn_nm_R 2 rfl rfl 6 (by decide) rfl wm_69 rfl rfl rfl rfl (Nat.le_of_ble_eq_true rfl) (w2 := jx_w G (jx_f S 9 x)) rfl hd k
theorem pf_R_36 (hX : jx_Ok G X cc "PlaneCells$Reader" ret nL lv) {x : Int32} (hd : decode cc pc = .ok (.putfield 36, 3)) (k : jx_At G X fin (jx_w G (jx_f S 10 x)) (pc + 3) L st) : jx_At G X fin (jx_w G S) pc L (.int x :: .ref (jx_ad G 2) :: st) :=
  jx_put hX jn_in_R jn_t_R jn_tok_R jn_nm_R 2 rfl rfl 7 (by decide) rfl wm_70 rfl rfl rfl rfl (Nat.le_of_ble_eq_true rfl) (w2 := jx_w G (jx_f S 10 x)) rfl hd k
theorem pf_R_39 (hX : jx_Ok G X cc "PlaneCells$Reader" ret nL lv) {x : Int32} (hd : decode cc pc = .ok (.putfield 39, 3)) (k : jx_At G X fin (jx_w G (jx_f S 11 x)) (pc + 3) L st) : jx_At G X fin (jx_w G S) pc L (.int x :: .ref (jx_ad G 2) :: st) :=
  jx_put hX jn_in_R jn_t_R jn_tok_R jn_nm_R 2 rfl rfl 8 (by decide) rfl wm_71 rfl rfl rfl rfl (Nat.le_of_ble_eq_true rfl) (w2 := jx_w G (jx_f S 11 x)) rfl hd k
theorem pf_R_71 (hX : jx_Ok G X cc "PlaneCells$Reader" ret nL lv) {x : Int32} (hd : decode cc pc = .ok (.putfield 71, 3)) (h01 : jx_01 x) (k : jx_At G X fin (jx_w G (jx_f S 5 x)) (pc + 3) L st) : jx_At G X fin (jx_w G S) pc L (.int x :: .ref (jx_ad G 1) :: st) :=
  jx_putN hX jn_in_S jn_t_S jn_tok_S jn_nm_S 1 rfl rfl 5 (by decide) rfl wm_36 rfl rfl (jx_01n h01) (jx_01f h01) (Nat.le_of_ble_eq_true rfl) (w2 := jx_w G (jx_f S 5 x)) rfl hd k
theorem pf_R_82 (hX : jx_Ok G X cc "PlaneCells$Reader" ret nL lv) {x : Int32} (hd : decode cc pc = .ok (.putfield 82, 3)) (h01 : jx_01 x) (k : jx_At G X fin (jx_w G (jx_f S 6 x)) (pc + 3) L st) : jx_At G X fin (jx_w G S) pc L (.int x :: .ref (jx_ad G 1) :: st) :=
  jx_putN hX jn_in_S jn_t_S jn_tok_S jn_nm_S 1 rfl rfl 6 (by decide) rfl wm_37 rfl rfl (jx_01n h01) (jx_01f h01) (Nat.le_of_ble_eq_true rfl) (w2 := jx_w G (jx_f S 6 x)) rfl hd k
theorem pf_S_22 (hX : jx_Ok G X cc "PlaneCells$Sentence" ret nL lv) {x : Int32} (hd : decode cc pc = .ok (.putfield 22, 3)) (k : jx_At G X fin (jx_w G (jx_f S 3 x)) (pc + 3) L st) : jx_At G X fin (jx_w G S) pc L (.int x :: .ref (jx_ad G 1) :: st) :=
  jx_put hX jn_in_S jn_t_S jn_tok_S jn_nm_S 1 rfl rfl 3 (by decide) rfl wm_30 rfl rfl rfl rfl (Nat.le_of_ble_eq_true rfl) (w2 := jx_w G (jx_f S 3 x)) rfl hd k
theorem pf_S_26 (hX : jx_Ok G X cc "PlaneCells$Sentence" ret nL lv) {x : Int32} (hd : decode cc pc = .ok (.putfield 26, 3)) (k : jx_At G X fin (jx_w G (jx_f S 4 x)) (pc + 3) L st) : jx_At G X fin (jx_w G S) pc L (.int x :: .ref (jx_ad G 1) :: st) :=
  jx_put hX jn_in_S jn_t_S jn_tok_S jn_nm_S 1 rfl rfl 4 (by decide) rfl wm_32 rfl rfl rfl rfl (Nat.le_of_ble_eq_true rfl) (w2 := jx_w G (jx_f S 4 x)) rfl hd k
theorem al_0 {own : String} (hX : jx_Ok G X cc own ret nL lv) {i : Int32} (hd : decode cc pc = .ok (.iaload, 1)) {f : Nat → Int32} (hf : S.2.1 0 = f) (hin : jx_in i 32 = true) (k : jx_At G X fin (jx_w G S) (pc + 1) L (.int (f i.toNatClampNeg) :: st)) : jx_At G X fin (jx_w G S) pc L (.int i :: .ref (jx_ad G 6) :: st) := by
  subst hf
  exact jx_iald hX 6 rfl hin hd k
theorem as_0 {own : String} (hX : jx_Ok G X cc own ret nL lv) {i : Int32} {x : Int32} (hd : decode cc pc = .ok (.iastore, 1)) {f : Nat → Int32} (hf : S.2.1 0 = f) (hin : jx_in i 32 = true) (k : jx_At G X fin (jx_w G (jx_g S 0 (upd f i.toNatClampNeg x))) (pc + 1) L st) : jx_At G X fin (jx_w G S) pc L (.int x :: .int i :: .ref (jx_ad G 6) :: st) := by
  subst hf
  exact jx_iast hX 6 rfl hin (w2 := jx_w G (jx_g S 0 (upd (S.2.1 0) i.toNatClampNeg x))) rfl hd k
theorem al_1 {own : String} (hX : jx_Ok G X cc own ret nL lv) {i : Int32} (hd : decode cc pc = .ok (.caload, 1)) {f : Nat → Int32} (hf : S.2.1 1 = f) (hin : jx_in i 8 = true) (k : jx_At G X fin (jx_w G S) (pc + 1) L (.int (f i.toNatClampNeg) :: st)) : jx_At G X fin (jx_w G S) pc L (.int i :: .ref (jx_ad G 7) :: st) := by
  subst hf
  exact jx_cald hX 7 rfl hin hd k
theorem as_1 {own : String} (hX : jx_Ok G X cc own ret nL lv) {i : Int32} {x : Int32} (hd : decode cc pc = .ok (.castore, 1)) {f : Nat → Int32} (hf : S.2.1 1 = f) (hin : jx_in i 8 = true) (k : jx_At G X fin (jx_w G (jx_g S 1 (upd f i.toNatClampNeg (vp_nar .char x)))) (pc + 1) L st) : jx_At G X fin (jx_w G S) pc L (.int x :: .int i :: .ref (jx_ad G 7) :: st) := by
  subst hf
  exact jx_cast hX 7 rfl hin (w2 := jx_w G (jx_g S 1 (upd (S.2.1 1) i.toNatClampNeg (vp_nar .char x)))) rfl hd k
theorem al_2 {own : String} (hX : jx_Ok G X cc own ret nL lv) {i : Int32} (hd : decode cc pc = .ok (.iaload, 1)) {f : Nat → Int32} (hf : S.2.1 2 = f) (hin : jx_in i 80 = true) (k : jx_At G X fin (jx_w G S) (pc + 1) L (.int (f i.toNatClampNeg) :: st)) : jx_At G X fin (jx_w G S) pc L (.int i :: .ref (jx_ad G 8) :: st) := by
  subst hf
  exact jx_iald hX 8 rfl hin hd k
theorem as_2 {own : String} (hX : jx_Ok G X cc own ret nL lv) {i : Int32} {x : Int32} (hd : decode cc pc = .ok (.iastore, 1)) {f : Nat → Int32} (hf : S.2.1 2 = f) (hin : jx_in i 80 = true) (k : jx_At G X fin (jx_w G (jx_g S 2 (upd f i.toNatClampNeg x))) (pc + 1) L st) : jx_At G X fin (jx_w G S) pc L (.int x :: .int i :: .ref (jx_ad G 8) :: st) := by
  subst hf
  exact jx_iast hX 8 rfl hin (w2 := jx_w G (jx_g S 2 (upd (S.2.1 2) i.toNatClampNeg x))) rfl hd k
theorem al_3 {own : String} (hX : jx_Ok G X cc own ret nL lv) {i : Int32} (hd : decode cc pc = .ok (.caload, 1)) {f : Nat → Int32} (hf : S.2.1 3 = f) (hin : jx_in i 80 = true) (k : jx_At G X fin (jx_w G S) (pc + 1) L (.int (f i.toNatClampNeg) :: st)) : jx_At G X fin (jx_w G S) pc L (.int i :: .ref (jx_ad G 9) :: st) := by
  subst hf
  exact jx_cald hX 9 rfl hin hd k
theorem as_3 {own : String} (hX : jx_Ok G X cc own ret nL lv) {i : Int32} {x : Int32} (hd : decode cc pc = .ok (.castore, 1)) {f : Nat → Int32} (hf : S.2.1 3 = f) (hin : jx_in i 80 = true) (k : jx_At G X fin (jx_w G (jx_g S 3 (upd f i.toNatClampNeg (vp_nar .char x)))) (pc + 1) L st) : jx_At G X fin (jx_w G S) pc L (.int x :: .int i :: .ref (jx_ad G 9) :: st) := by
  subst hf
  exact jx_cast hX 9 rfl hin (w2 := jx_w G (jx_g S 3 (upd (S.2.1 3) i.toNatClampNeg (vp_nar .char x)))) rfl hd k
theorem al_4 {own : String} (hX : jx_Ok G X cc own ret nL lv) {i : Int32} (hd : decode cc pc = .ok (.iaload, 1)) {f : Nat → Int32} (hf : S.2.1 4 = f) (hin : jx_in i 80 = true) (k : jx_At G X fin (jx_w G S) (pc + 1) L (.int (f i.toNatClampNeg) :: st)) : jx_At G X fin (jx_w G S) pc L (.int i :: .ref (jx_ad G 10) :: st) := by
  subst hf
  exact jx_iald hX 10 rfl hin hd k
theorem as_4 {own : String} (hX : jx_Ok G X cc own ret nL lv) {i : Int32} {x : Int32} (hd : decode cc pc = .ok (.iastore, 1)) {f : Nat → Int32} (hf : S.2.1 4 = f) (hin : jx_in i 80 = true) (k : jx_At G X fin (jx_w G (jx_g S 4 (upd f i.toNatClampNeg x))) (pc + 1) L st) : jx_At G X fin (jx_w G S) pc L (.int x :: .int i :: .ref (jx_ad G 10) :: st) := by
  subst hf
  exact jx_iast hX 10 rfl hin (w2 := jx_w G (jx_g S 4 (upd (S.2.1 4) i.toNatClampNeg x))) rfl hd k
theorem al_5 {own : String} (hX : jx_Ok G X cc own ret nL lv) {i : Int32} (hd : decode cc pc = .ok (.iaload, 1)) {f : Nat → Int32} (hf : S.2.1 5 = f) (hin : jx_in i 4 = true) (k : jx_At G X fin (jx_w G S) (pc + 1) L (.int (f i.toNatClampNeg) :: st)) : jx_At G X fin (jx_w G S) pc L (.int i :: .ref (jx_ad G 11) :: st) := by
  subst hf
  exact jx_iald hX 11 rfl hin hd k
theorem as_5 {own : String} (hX : jx_Ok G X cc own ret nL lv) {i : Int32} {x : Int32} (hd : decode cc pc = .ok (.iastore, 1)) {f : Nat → Int32} (hf : S.2.1 5 = f) (hin : jx_in i 4 = true) (k : jx_At G X fin (jx_w G (jx_g S 5 (upd f i.toNatClampNeg x))) (pc + 1) L st) : jx_At G X fin (jx_w G S) pc L (.int x :: .int i :: .ref (jx_ad G 11) :: st) := by
  subst hf
  exact jx_iast hX 11 rfl hin (w2 := jx_w G (jx_g S 5 (upd (S.2.1 5) i.toNatClampNeg x))) rfl hd k
theorem al_6 {own : String} (hX : jx_Ok G X cc own ret nL lv) {i : Int32} (hd : decode cc pc = .ok (.iaload, 1)) {f : Nat → Int32} (hf : S.2.1 6 = f) (hin : jx_in i 72 = true) (k : jx_At G X fin (jx_w G S) (pc + 1) L (.int (f i.toNatClampNeg) :: st)) : jx_At G X fin (jx_w G S) pc L (.int i :: .ref (jx_ad G 12) :: st) := by
  subst hf
  exact jx_iald hX 12 rfl hin hd k
theorem as_6 {own : String} (hX : jx_Ok G X cc own ret nL lv) {i : Int32} {x : Int32} (hd : decode cc pc = .ok (.iastore, 1)) {f : Nat → Int32} (hf : S.2.1 6 = f) (hin : jx_in i 72 = true) (k : jx_At G X fin (jx_w G (jx_g S 6 (upd f i.toNatClampNeg x))) (pc + 1) L st) : jx_At G X fin (jx_w G S) pc L (.int x :: .int i :: .ref (jx_ad G 12) :: st) := by
  subst hf
  exact jx_iast hX 12 rfl hin (w2 := jx_w G (jx_g S 6 (upd (S.2.1 6) i.toNatClampNeg x))) rfl hd k
theorem al_7 {own : String} (hX : jx_Ok G X cc own ret nL lv) {i : Int32} (hd : decode cc pc = .ok (.iaload, 1)) {f : Nat → Int32} (hf : S.2.1 7 = f) (hin : jx_in i 72 = true) (k : jx_At G X fin (jx_w G S) (pc + 1) L (.int (f i.toNatClampNeg) :: st)) : jx_At G X fin (jx_w G S) pc L (.int i :: .ref (jx_ad G 13) :: st) := by
  subst hf
  exact jx_iald hX 13 rfl hin hd k
theorem as_7 {own : String} (hX : jx_Ok G X cc own ret nL lv) {i : Int32} {x : Int32} (hd : decode cc pc = .ok (.iastore, 1)) {f : Nat → Int32} (hf : S.2.1 7 = f) (hin : jx_in i 72 = true) (k : jx_At G X fin (jx_w G (jx_g S 7 (upd f i.toNatClampNeg x))) (pc + 1) L st) : jx_At G X fin (jx_w G S) pc L (.int x :: .int i :: .ref (jx_ad G 13) :: st) := by
  subst hf
  exact jx_iast hX 13 rfl hin (w2 := jx_w G (jx_g S 7 (upd (S.2.1 7) i.toNatClampNeg x))) rfl hd k
theorem al_8 {own : String} (hX : jx_Ok G X cc own ret nL lv) {i : Int32} (hd : decode cc pc = .ok (.iaload, 1)) {f : Nat → Int32} (hf : S.2.1 8 = f) (hin : jx_in i 72 = true) (k : jx_At G X fin (jx_w G S) (pc + 1) L (.int (f i.toNatClampNeg) :: st)) : jx_At G X fin (jx_w G S) pc L (.int i :: .ref (jx_ad G 14) :: st) := by
  subst hf
  exact jx_iald hX 14 rfl hin hd k
theorem as_8 {own : String} (hX : jx_Ok G X cc own ret nL lv) {i : Int32} {x : Int32} (hd : decode cc pc = .ok (.iastore, 1)) {f : Nat → Int32} (hf : S.2.1 8 = f) (hin : jx_in i 72 = true) (k : jx_At G X fin (jx_w G (jx_g S 8 (upd f i.toNatClampNeg x))) (pc + 1) L st) : jx_At G X fin (jx_w G S) pc L (.int x :: .int i :: .ref (jx_ad G 14) :: st) := by
  subst hf
  exact jx_iast hX 14 rfl hin (w2 := jx_w G (jx_g S 8 (upd (S.2.1 8) i.toNatClampNeg x))) rfl hd k
theorem al_9 {own : String} (hX : jx_Ok G X cc own ret nL lv) {i : Int32} (hd : decode cc pc = .ok (.iaload, 1)) {f : Nat → Int32} (hf : S.2.1 9 = f) (hin : jx_in i 8 = true) (k : jx_At G X fin (jx_w G S) (pc + 1) L (.int (f i.toNatClampNeg) :: st)) : jx_At G X fin (jx_w G S) pc L (.int i :: .ref (jx_ad G 15) :: st) := by
  subst hf
  exact jx_iald hX 15 rfl hin hd k
theorem as_9 {own : String} (hX : jx_Ok G X cc own ret nL lv) {i : Int32} {x : Int32} (hd : decode cc pc = .ok (.iastore, 1)) {f : Nat → Int32} (hf : S.2.1 9 = f) (hin : jx_in i 8 = true) (k : jx_At G X fin (jx_w G (jx_g S 9 (upd f i.toNatClampNeg x))) (pc + 1) L st) : jx_At G X fin (jx_w G S) pc L (.int x :: .int i :: .ref (jx_ad G 15) :: st) := by
  subst hf
  exact jx_iast hX 15 rfl hin (w2 := jx_w G (jx_g S 9 (upd (S.2.1 9) i.toNatClampNeg x))) rfl hd k
theorem al_10 {own : String} (hX : jx_Ok G X cc own ret nL lv) {i : Int32} (hd : decode cc pc = .ok (.iaload, 1)) {f : Nat → Int32} (hf : S.2.1 10 = f) (hin : jx_in i 8 = true) (k : jx_At G X fin (jx_w G S) (pc + 1) L (.int (f i.toNatClampNeg) :: st)) : jx_At G X fin (jx_w G S) pc L (.int i :: .ref (jx_ad G 16) :: st) := by
  subst hf
  exact jx_iald hX 16 rfl hin hd k
theorem as_10 {own : String} (hX : jx_Ok G X cc own ret nL lv) {i : Int32} {x : Int32} (hd : decode cc pc = .ok (.iastore, 1)) {f : Nat → Int32} (hf : S.2.1 10 = f) (hin : jx_in i 8 = true) (k : jx_At G X fin (jx_w G (jx_g S 10 (upd f i.toNatClampNeg x))) (pc + 1) L st) : jx_At G X fin (jx_w G S) pc L (.int x :: .int i :: .ref (jx_ad G 16) :: st) := by
  subst hf
  exact jx_iast hX 16 rfl hin (w2 := jx_w G (jx_g S 10 (upd (S.2.1 10) i.toNatClampNeg x))) rfl hd k
theorem al_11 {own : String} (hX : jx_Ok G X cc own ret nL lv) {i : Int32} (hd : decode cc pc = .ok (.iaload, 1)) {f : Nat → Int32} (hf : S.2.1 11 = f) (hin : jx_in i 8 = true) (k : jx_At G X fin (jx_w G S) (pc + 1) L (.int (f i.toNatClampNeg) :: st)) : jx_At G X fin (jx_w G S) pc L (.int i :: .ref (jx_ad G 17) :: st) := by
  subst hf
  exact jx_iald hX 17 rfl hin hd k
theorem as_11 {own : String} (hX : jx_Ok G X cc own ret nL lv) {i : Int32} {x : Int32} (hd : decode cc pc = .ok (.iastore, 1)) {f : Nat → Int32} (hf : S.2.1 11 = f) (hin : jx_in i 8 = true) (k : jx_At G X fin (jx_w G (jx_g S 11 (upd f i.toNatClampNeg x))) (pc + 1) L st) : jx_At G X fin (jx_w G S) pc L (.int x :: .int i :: .ref (jx_ad G 17) :: st) := by
  subst hf
  exact jx_iast hX 17 rfl hin (w2 := jx_w G (jx_g S 11 (upd (S.2.1 11) i.toNatClampNeg x))) rfl hd k
end FR
section CR
variable {G : jx_G} {X : jx_C} {cc : ByteArray} {ret : Option FieldType} {nL lv : Nat} {fin : Option Value × va_W} {pc : Nat} {L : List (Nat × Value)} {rest : List Value} {S : jx_S}
theorem cs_P_42 (hX : jx_Ok G X cc "PlaneCells" ret nL lv) {v1 : Value} {r : Int32} {w1 : va_W} (hM : jx_M (jx_l X) y_R_append b_R_append 2 (some .boolean) 0 G [.ref (jx_ad G 2), v1] (jx_w G S) (some (.int r), w1)) (hd : decode cc pc = .ok (.invokevirtual 42, 3)) (hlv : 0 < lv) (hroom : (rest.map fun v => v.category).sum ≤ 8) (k : jx_At G X fin w1 (pc + 3) L (.int r :: rest)) : jx_At G X fin (jx_w G S) pc L (v1 :: .ref (jx_ad G 2) :: rest) :=
  jx_callV hX (n := 1) (As := [v1]) hM wm_186 wm_3 wm_183 wm_184 wm_185 (by decide) 2 rfl rfl rfl rfl (by decide) hd hlv hroom k
theorem cs_P_46 (hX : jx_Ok G X cc "PlaneCells" ret nL lv) {r : Int32} {w1 : va_W} (hM : jx_M (jx_l X) y_P_readText b_P_readText 1 (some .int) 5 G [.ref (jx_ad G 0)] (jx_w G S) (some (.int r), w1)) (hd : decode cc pc = .ok (.invokevirtual 46, 3)) (hlv : 5 < lv) (hroom : (rest.map fun v => v.category).sum ≤ 8) (k : jx_At G X fin w1 (pc + 3) L (.int r :: rest)) : jx_At G X fin (jx_w G S) pc L (.ref (jx_ad G 0) :: rest) :=
  jx_callV hX (n := 0) (As := []) hM wm_194 wm_1 wm_191 wm_193 ws_0 (by decide) 0 rfl rfl rfl rfl (by decide) hd hlv hroom k
theorem cs_P_50 (hX : jx_Ok G X cc "PlaneCells" ret nL lv) {w1 : va_W} (hM : jx_M (jx_l X) y_R_clear b_R_clear 1 none 0 G [.ref (jx_ad G 2)] (jx_w G S) (none, w1)) (hd : decode cc pc = .ok (.invokevirtual 50, 3)) (hlv : 0 < lv) (hroom : (rest.map fun v => v.category).sum ≤ 8) (k : jx_At G X fin w1 (pc + 3) L rest) : jx_At G X fin (jx_w G S) pc L (.ref (jx_ad G 2) :: rest) :=
  jx_callV hX (n := 0) (As := []) hM wm_277 wm_3 wm_274 wm_275 wm_276 (by decide) 2 rfl rfl rfl rfl (by decide) hd hlv hroom k
theorem cs_P_53 (hX : jx_Ok G X cc "PlaneCells" ret nL lv) {w1 : va_W} (hM : jx_M (jx_l X) y_S_clear b_S_clear 1 none 0 G [.ref (jx_ad G 1)] (jx_w G S) (none, w1)) (hd : decode cc pc = .ok (.invokevirtual 53, 3)) (hlv : 0 < lv) (hroom : (rest.map fun v => v.category).sum ≤ 8) (k : jx_At G X fin w1 (pc + 3) L rest) : jx_At G X fin (jx_w G S) pc L (.ref (jx_ad G 1) :: rest) :=
  jx_callV hX (n := 0) (As := []) hM wm_206 wm_2 wm_278 wm_204 wm_205 (by decide) 1 rfl rfl rfl rfl (by decide) hd hlv hroom k
theorem cs_P_54 (hX : jx_Ok G X cc "PlaneCells" ret nL lv) {w1 : va_W} (hM : jx_M (jx_l X) y_Q_cut b_Q_cut 3 none 5 G [.ref (jx_ad G 3)] (jx_w G S) (none, w1)) (hd : decode cc pc = .ok (.invokevirtual 54, 3)) (hlv : 5 < lv) (hroom : (rest.map fun v => v.category).sum ≤ 8) (k : jx_At G X fin w1 (pc + 3) L rest) : jx_At G X fin (jx_w G S) pc L (.ref (jx_ad G 3) :: rest) :=
  jx_callV hX (n := 0) (As := []) hM wm_282 wm_4 wm_279 wm_280 wm_281 (by decide) 3 rfl rfl rfl rfl (by decide) hd hlv hroom k
theorem cs_P_57 (hX : jx_Ok G X cc "PlaneCells" ret nL lv) {r : Int32} {w1 : va_W} (hM : jx_M (jx_l X) y_Q_countColumns b_Q_countColumns 1 (some .int) 0 G [.ref (jx_ad G 3)] (jx_w G S) (some (.int r), w1)) (hd : decode cc pc = .ok (.invokevirtual 57, 3)) (hlv : 0 < lv) (hroom : (rest.map fun v => v.category).sum ≤ 8) (k : jx_At G X fin w1 (pc + 3) L (.int r :: rest)) : jx_At G X fin (jx_w G S) pc L (.ref (jx_ad G 3) :: rest) :=
  jx_callV hX (n := 0) (As := []) hM wm_335 wm_4 wm_332 wm_333 wm_334 (by decide) 3 rfl rfl rfl rfl (by decide) hd hlv hroom k
theorem cs_P_60 (hX : jx_Ok G X cc "PlaneCells" ret nL lv) {v1 : Value} {w1 : va_W} (hM : jx_M (jx_l X) y_Q_enter b_Q_enter 3 none 4 G [.ref (jx_ad G 3), v1] (jx_w G S) (none, w1)) (hd : decode cc pc = .ok (.invokevirtual 60, 3)) (hlv : 4 < lv) (hroom : (rest.map fun v => v.category).sum ≤ 8) (k : jx_At G X fin w1 (pc + 3) L rest) : jx_At G X fin (jx_w G S) pc L (v1 :: .ref (jx_ad G 3) :: rest) :=
  jx_callV hX (n := 1) (As := [v1]) hM wm_339 wm_4 wm_336 wm_337 wm_338 (by decide) 3 rfl rfl rfl rfl (by decide) hd hlv hroom k
theorem cs_P_64 (hX : jx_Ok G X cc "PlaneCells" ret nL lv) {r : Int32} {w1 : va_W} (hM : jx_M (jx_l X) y_Q_columnHolds b_Q_columnHolds 2 (some .boolean) 3 G [.ref (jx_ad G 3)] (jx_w G S) (some (.int r), w1)) (hd : decode cc pc = .ok (.invokevirtual 64, 3)) (hlv : 3 < lv) (hroom : (rest.map fun v => v.category).sum ≤ 8) (k : jx_At G X fin w1 (pc + 3) L (.int r :: rest)) : jx_At G X fin (jx_w G S) pc L (.ref (jx_ad G 3) :: rest) :=
  jx_callV hX (n := 0) (As := []) hM wm_365 wm_4 wm_362 wm_363 wm_364 (by decide) 3 rfl rfl rfl rfl (by decide) hd hlv hroom k
theorem cs_P_72 (hX : jx_Ok G X cc "PlaneCells" ret nL lv) {r : Int32} {w1 : va_W} (hM : jx_M (jx_l X) y_R_countOpenings b_R_countOpenings 3 (some .int) 0 G [.ref (jx_ad G 2)] (jx_w G S) (some (.int r), w1)) (hd : decode cc pc = .ok (.invokevirtual 72, 3)) (hlv : 0 < lv) (hroom : (rest.map fun v => v.category).sum ≤ 8) (k : jx_At G X fin w1 (pc + 3) L (.int r :: rest)) : jx_At G X fin (jx_w G S) pc L (.ref (jx_ad G 2) :: rest) :=
  jx_callV hX (n := 0) (As := []) hM wm_198 wm_3 wm_195 wm_196 wm_197 (by decide) 2 rfl rfl rfl rfl (by decide) hd hlv hroom k
theorem cs_P_75 (hX : jx_Ok G X cc "PlaneCells" ret nL lv) {r : Int32} {w1 : va_W} (hM : jx_M (jx_l X) y_R_readSentence b_R_readSentence 2 (some .boolean) 4 G [.ref (jx_ad G 2)] (jx_w G S) (some (.int r), w1)) (hd : decode cc pc = .ok (.invokevirtual 75, 3)) (hlv : 4 < lv) (hroom : (rest.map fun v => v.category).sum ≤ 8) (k : jx_At G X fin w1 (pc + 3) L (.int r :: rest)) : jx_At G X fin (jx_w G S) pc L (.ref (jx_ad G 2) :: rest) :=
  jx_callV hX (n := 0) (As := []) hM wm_202 wm_3 wm_199 wm_200 wm_201 (by decide) 2 rfl rfl rfl rfl (by decide) hd hlv hroom k
theorem cs_P_81 (hX : jx_Ok G X cc "PlaneCells" ret nL lv) {r : Int32} {w1 : va_W} (hM : jx_M (jx_l X) y_S_fits b_S_fits 2 (some .boolean) 0 G [.ref (jx_ad G 1)] (jx_w G S) (some (.int r), w1)) (hd : decode cc pc = .ok (.invokevirtual 81, 3)) (hlv : 0 < lv) (hroom : (rest.map fun v => v.category).sum ≤ 8) (k : jx_At G X fin w1 (pc + 3) L (.int r :: rest)) : jx_At G X fin (jx_w G S) pc L (.ref (jx_ad G 1) :: rest) :=
  jx_callV hX (n := 0) (As := []) hM wm_273 wm_2 wm_270 wm_271 wm_272 (by decide) 1 rfl rfl rfl rfl (by decide) hd hlv hroom k
theorem cs_P_87 (hX : jx_Ok G X cc "PlaneCells" ret nL lv) {v1 : Value} {r : Int32} {w1 : va_W} (hM : jx_M (jx_l X) y_P_hasPolynomial b_P_hasPolynomial 2 (some .boolean) 0 G [.ref (jx_ad G 0), v1] (jx_w G S) (some (.int r), w1)) (hd : decode cc pc = .ok (.invokevirtual 87, 3)) (hlv : 0 < lv) (hroom : (rest.map fun v => v.category).sum ≤ 8) (k : jx_At G X fin w1 (pc + 3) L (.int r :: rest)) : jx_At G X fin (jx_w G S) pc L (v1 :: .ref (jx_ad G 0) :: rest) :=
  jx_callV hX (n := 1) (As := [v1]) hM wm_394 wm_1 wm_391 wm_393 ws_17 (by decide) 0 rfl rfl rfl rfl (by decide) hd hlv hroom k
theorem cs_P_91 (hX : jx_Ok G X cc "PlaneCells" ret nL lv) {v1 v2 : Value} {r : Int32} {w1 : va_W} (hM : jx_M (jx_l X) y_S_number b_S_number 3 (some .int) 0 G [.ref (jx_ad G 1), v1, v2] (jx_w G S) (some (.int r), w1)) (hd : decode cc pc = .ok (.invokevirtual 91, 3)) (hlv : 0 < lv) (hroom : (rest.map fun v => v.category).sum ≤ 8) (k : jx_At G X fin w1 (pc + 3) L (.int r :: rest)) : jx_At G X fin (jx_w G S) pc L (v2 :: v1 :: .ref (jx_ad G 1) :: rest) :=
  jx_callV hX (n := 2) (As := [v1, v2]) hM wm_294 wm_2 wm_395 wm_292 wm_293 (by decide) 1 rfl rfl rfl rfl (by decide) hd hlv hroom k
theorem cs_P_95 (hX : jx_Ok G X cc "PlaneCells" ret nL lv) {v1 : Value} {r : Int32} {w1 : va_W} (hM : jx_M (jx_l X) y_P_enterColumn b_P_enterColumn 2 (some .boolean) 5 G [.ref (jx_ad G 0), v1] (jx_w G S) (some (.int r), w1)) (hd : decode cc pc = .ok (.invokevirtual 95, 3)) (hlv : 5 < lv) (hroom : (rest.map fun v => v.category).sum ≤ 8) (k : jx_At G X fin w1 (pc + 3) L (.int r :: rest)) : jx_At G X fin (jx_w G S) pc L (v1 :: .ref (jx_ad G 0) :: rest) :=
  jx_callV hX (n := 1) (As := [v1]) hM wm_407 wm_1 wm_404 wm_406 ws_18 (by decide) 0 rfl rfl rfl rfl (by decide) hd hlv hroom k
theorem cs_P_101 (hX : jx_Ok G X cc "PlaneCells" ret nL lv) {v1 : Value} {r : Int32} {w1 : va_W} (hM : jx_M (jx_l X) y_P_hasCell b_P_hasCell 2 (some .boolean) 0 G [.ref (jx_ad G 0), v1] (jx_w G S) (some (.int r), w1)) (hd : decode cc pc = .ok (.invokevirtual 101, 3)) (hlv : 0 < lv) (hroom : (rest.map fun v => v.category).sum ≤ 8) (k : jx_At G X fin w1 (pc + 3) L (.int r :: rest)) : jx_At G X fin (jx_w G S) pc L (v1 :: .ref (jx_ad G 0) :: rest) :=
  jx_callV hX (n := 1) (As := [v1]) hM wm_419 wm_1 wm_416 wm_418 ws_20 (by decide) 0 rfl rfl rfl rfl (by decide) hd hlv hroom k
theorem cs_P_104 (hX : jx_Ok G X cc "PlaneCells" ret nL lv) {v1 v2 : Value} {r : Int32} {w1 : va_W} (hM : jx_M (jx_l X) y_Q_signIn b_Q_signIn 3 (some .int) 1 G [.ref (jx_ad G 3), v1, v2] (jx_w G S) (some (.int r), w1)) (hd : decode cc pc = .ok (.invokevirtual 104, 3)) (hlv : 1 < lv) (hroom : (rest.map fun v => v.category).sum ≤ 8) (k : jx_At G X fin w1 (pc + 3) L (.int r :: rest)) : jx_At G X fin (jx_w G S) pc L (v2 :: v1 :: .ref (jx_ad G 3) :: rest) :=
  jx_callV hX (n := 2) (As := [v1, v2]) hM wm_373 wm_4 wm_420 wm_371 wm_372 (by decide) 3 rfl rfl rfl rfl (by decide) hd hlv hroom k
theorem cs_P_107 (hX : jx_Ok G X cc "PlaneCells" ret nL lv) {v1 : Value} {r : Int32} {w1 : va_W} (hM : jx_M (jx_l X) y_Q_trueIn b_Q_trueIn 6 (some .boolean) 2 G [.ref (jx_ad G 3), v1] (jx_w G S) (some (.int r), w1)) (hd : decode cc pc = .ok (.invokevirtual 107, 3)) (hlv : 2 < lv) (hroom : (rest.map fun v => v.category).sum ≤ 8) (k : jx_At G X fin w1 (pc + 3) L (.int r :: rest)) : jx_At G X fin (jx_w G S) pc L (v1 :: .ref (jx_ad G 3) :: rest) :=
  jx_callV hX (n := 1) (As := [v1]) hM wm_369 wm_4 wm_425 wm_367 wm_368 (by decide) 3 rfl rfl rfl rfl (by decide) hd hlv hroom k
theorem cs_P_110 (hX : jx_Ok G X cc "PlaneCells" ret nL lv) {v1 : Value} {r : Int32} {w1 : va_W} (hM : jx_M (jx_l X) y_P_hasColumn b_P_hasColumn 2 (some .boolean) 0 G [.ref (jx_ad G 0), v1] (jx_w G S) (some (.int r), w1)) (hd : decode cc pc = .ok (.invokevirtual 110, 3)) (hlv : 0 < lv) (hroom : (rest.map fun v => v.category).sum ≤ 8) (k : jx_At G X fin w1 (pc + 3) L (.int r :: rest)) : jx_At G X fin (jx_w G S) pc L (v1 :: .ref (jx_ad G 0) :: rest) :=
  jx_callV hX (n := 1) (As := [v1]) hM wm_411 wm_1 wm_408 wm_410 ws_19 (by decide) 0 rfl rfl rfl rfl (by decide) hd hlv hroom k
theorem cs_P_117 (hX : jx_Ok G X cc "PlaneCells" ret nL lv) {v1 v2 v3 v4 : Value} {r : Int32} {w1 : va_W} (hM : jx_M (jx_l X) y_C_signAt b_C_signAt 18 (some .int) 1 G [.ref (jx_ad G 4), v1, v2, v3, v4] (jx_w G S) (some (.int r), w1)) (hd : decode cc pc = .ok (.invokevirtual 117, 3)) (hlv : 1 < lv) (hroom : (rest.map fun v => v.category).sum ≤ 8) (k : jx_At G X fin w1 (pc + 3) L (.int r :: rest)) : jx_At G X fin (jx_w G S) pc L (v4 :: v3 :: v2 :: v1 :: .ref (jx_ad G 4) :: rest) :=
  jx_callV hX (n := 4) (As := [v1, v2, v3, v4]) hM wm_353 wm_5 wm_438 wm_351 wm_352 (by decide) 4 rfl rfl rfl rfl (by decide) hd hlv hroom k
theorem cs_C_42 (hX : jx_Ok G X cc "PlaneCells$CriticalNumbers" ret nL lv) {v1 v2 v3 : Value} {w1 : va_W} (hM : jx_M (jx_l X) y_C_add b_C_add 6 none 3 G [.ref (jx_ad G 4), v1, v2, v3] (jx_w G S) (none, w1)) (hd : decode cc pc = .ok (.invokevirtual 42, 3)) (hlv : 3 < lv) (hroom : (rest.map fun v => v.category).sum ≤ 8) (k : jx_At G X fin w1 (pc + 3) L rest) : jx_At G X fin (jx_w G S) pc L (v3 :: v2 :: v1 :: .ref (jx_ad G 4) :: rest) :=
  jx_callV hX (n := 3) (As := [v1, v2, v3]) hM wm_305 wm_5 wm_302 wm_304 ws_13 (by decide) 4 rfl rfl rfl rfl (by decide) hd hlv hroom k
theorem cs_C_46 (hX : jx_Ok G X cc "PlaneCells$CriticalNumbers" ret nL lv) {v1 v2 v3 v4 : Value} {r : Int32} {w1 : va_W} (hM : jx_M (jx_l X) y_C_signOfDifference b_C_signOfDifference 11 (some .int) 2 G [.ref (jx_ad G 4), v1, v2, v3, v4] (jx_w G S) (some (.int r), w1)) (hd : decode cc pc = .ok (.invokevirtual 46, 3)) (hlv : 2 < lv) (hroom : (rest.map fun v => v.category).sum ≤ 8) (k : jx_At G X fin w1 (pc + 3) L (.int r :: rest)) : jx_At G X fin (jx_w G S) pc L (v4 :: v3 :: v2 :: v1 :: .ref (jx_ad G 4) :: rest) :=
  jx_callV hX (n := 4) (As := [v1, v2, v3, v4]) hM wm_309 wm_5 wm_306 wm_308 ws_14 (by decide) 4 rfl rfl rfl rfl (by decide) hd hlv hroom k
theorem cs_C_50 (hX : jx_Ok G X cc "PlaneCells$CriticalNumbers" ret nL lv) {v1 v2 v3 v4 : Value} {w1 : va_W} (hM : jx_M (jx_l X) y_C_insert b_C_insert 6 none 0 G [.ref (jx_ad G 4), v1, v2, v3, v4] (jx_w G S) (none, w1)) (hd : decode cc pc = .ok (.invokevirtual 50, 3)) (hlv : 0 < lv) (hroom : (rest.map fun v => v.category).sum ≤ 8) (k : jx_At G X fin w1 (pc + 3) L rest) : jx_At G X fin (jx_w G S) pc L (v4 :: v3 :: v2 :: v1 :: .ref (jx_ad G 4) :: rest) :=
  jx_callV hX (n := 4) (As := [v1, v2, v3, v4]) hM wm_323 wm_5 wm_320 wm_322 ws_15 (by decide) 4 rfl rfl rfl rfl (by decide) hd hlv hroom k
theorem cs_C_54 (hX : jx_Ok G X cc "PlaneCells$CriticalNumbers" ret nL lv) {v1 v2 v3 : Value} {r : Int32} {w1 : va_W} (hM : jx_M (jx_l X) y_C_signWithRoots b_C_signWithRoots 10 (some .int) 1 G [v1, v2, v3] (jx_w G S) (some (.int r), w1)) (hd : decode cc pc = .ok (.invokestatic 54, 3)) (hlv : 1 < lv) (hroom : (rest.map fun v => v.category).sum ≤ 8) (k : jx_At G X fin w1 (pc + 3) L (.int r :: rest)) : jx_At G X fin (jx_w G S) pc L (v3 :: v2 :: v1 :: rest) :=
  jx_callS hX (n := 3) (As := [v1, v2, v3]) hM wm_312 wm_5 wm_310 wm_311 (by decide) rfl rfl (by decide) hd hlv hroom k
theorem cs_C_69 (hX : jx_Ok G X cc "PlaneCells$CriticalNumbers" ret nL lv) {v1 : Value} {r : Int32} {w1 : va_W} (hM : jx_M (jx_l X) y_C_signBelowAll b_C_signBelowAll 1 (some .int) 1 G [v1] (jx_w G S) (some (.int r), w1)) (hd : decode cc pc = .ok (.invokestatic 69, 3)) (hlv : 1 < lv) (hroom : (rest.map fun v => v.category).sum ≤ 8) (k : jx_At G X fin w1 (pc + 3) L (.int r :: rest)) : jx_At G X fin (jx_w G S) pc L (v1 :: rest) :=
  jx_callS hX (n := 1) (As := [v1]) hM wm_346 wm_5 wm_344 wm_345 (by decide) rfl rfl (by decide) hd hlv hroom k
theorem cs_C_73 (hX : jx_Ok G X cc "PlaneCells$CriticalNumbers" ret nL lv) {v1 v2 v3 v4 : Value} {r : Int32} {w1 : va_W} (hM : jx_M (jx_l X) y_C_signAt b_C_signAt 18 (some .int) 1 G [.ref (jx_ad G 4), v1, v2, v3, v4] (jx_w G S) (some (.int r), w1)) (hd : decode cc pc = .ok (.invokevirtual 73, 3)) (hlv : 1 < lv) (hroom : (rest.map fun v => v.category).sum ≤ 8) (k : jx_At G X fin w1 (pc + 3) L (.int r :: rest)) : jx_At G X fin (jx_w G S) pc L (v4 :: v3 :: v2 :: v1 :: .ref (jx_ad G 4) :: rest) :=
  jx_callV hX (n := 4) (As := [v1, v2, v3, v4]) hM wm_353 wm_5 wm_350 wm_351 wm_352 (by decide) 4 rfl rfl rfl rfl (by decide) hd hlv hroom k
theorem cs_F_7 (hX : jx_Ok G X cc "PlaneCells$Form" ret nL lv) {v1 v2 : Value} {r : Int32} {w1 : va_W} (hM : jx_M (jx_l X) y_S_number b_S_number 3 (some .int) 0 G [.ref (jx_ad G 1), v1, v2] (jx_w G S) (some (.int r), w1)) (hd : decode cc pc = .ok (.invokevirtual 7, 3)) (hlv : 0 < lv) (hroom : (rest.map fun v => v.category).sum ≤ 8) (k : jx_At G X fin w1 (pc + 3) L (.int r :: rest)) : jx_At G X fin (jx_w G S) pc L (v2 :: v1 :: .ref (jx_ad G 1) :: rest) :=
  jx_callV hX (n := 2) (As := [v1, v2]) hM wm_294 wm_2 wm_291 wm_292 wm_293 (by decide) 1 rfl rfl rfl rfl (by decide) hd hlv hroom k
theorem cs_Q_39 (hX : jx_Ok G X cc "PlaneCells$Plane" ret nL lv) {w1 : va_W} (hM : jx_M (jx_l X) y_C_clear b_C_clear 1 none 0 G [.ref (jx_ad G 4)] (jx_w G S) (none, w1)) (hd : decode cc pc = .ok (.invokevirtual 39, 3)) (hlv : 0 < lv) (hroom : (rest.map fun v => v.category).sum ≤ 8) (k : jx_At G X fin w1 (pc + 3) L rest) : jx_At G X fin (jx_w G S) pc L (.ref (jx_ad G 4) :: rest) :=
  jx_callV hX (n := 0) (As := []) hM wm_286 wm_5 wm_283 wm_284 wm_285 (by decide) 4 rfl rfl rfl rfl (by decide) hd hlv hroom k
theorem cs_Q_48 (hX : jx_Ok G X cc "PlaneCells$Plane" ret nL lv) {v1 v2 : Value} {w1 : va_W} (hM : jx_M (jx_l X) y_F_setA b_F_setA 3 none 1 G [.ref (jx_ad G 5), v1, v2] (jx_w G S) (none, w1)) (hd : decode cc pc = .ok (.invokevirtual 48, 3)) (hlv : 1 < lv) (hroom : (rest.map fun v => v.category).sum ≤ 8) (k : jx_At G X fin w1 (pc + 3) L rest) : jx_At G X fin (jx_w G S) pc L (v2 :: v1 :: .ref (jx_ad G 5) :: rest) :=
  jx_callV hX (n := 2) (As := [v1, v2]) hM wm_290 wm_6 wm_287 wm_288 wm_289 (by decide) 5 rfl rfl rfl rfl (by decide) hd hlv hroom k
theorem cs_Q_52 (hX : jx_Ok G X cc "PlaneCells$Plane" ret nL lv) {v1 : Value} {w1 : va_W} (hM : jx_M (jx_l X) y_C_addZerosOf b_C_addZerosOf 4 none 4 G [.ref (jx_ad G 4), v1] (jx_w G S) (none, w1)) (hd : decode cc pc = .ok (.invokevirtual 52, 3)) (hlv : 4 < lv) (hroom : (rest.map fun v => v.category).sum ≤ 8) (k : jx_At G X fin w1 (pc + 3) L rest) : jx_At G X fin (jx_w G S) pc L (v1 :: .ref (jx_ad G 4) :: rest) :=
  jx_callV hX (n := 1) (As := [v1]) hM wm_298 wm_5 wm_295 wm_296 wm_297 (by decide) 4 rfl rfl rfl rfl (by decide) hd hlv hroom k
theorem cs_Q_56 (hX : jx_Ok G X cc "PlaneCells$Plane" ret nL lv) {v1 v2 : Value} {w1 : va_W} (hM : jx_M (jx_l X) y_F_setB b_F_setB 3 none 1 G [.ref (jx_ad G 5), v1, v2] (jx_w G S) (none, w1)) (hd : decode cc pc = .ok (.invokevirtual 56, 3)) (hlv : 1 < lv) (hroom : (rest.map fun v => v.category).sum ≤ 8) (k : jx_At G X fin w1 (pc + 3) L rest) : jx_At G X fin (jx_w G S) pc L (v2 :: v1 :: .ref (jx_ad G 5) :: rest) :=
  jx_callV hX (n := 2) (As := [v1, v2]) hM wm_327 wm_6 wm_324 wm_325 wm_326 (by decide) 5 rfl rfl rfl rfl (by decide) hd hlv hroom k
theorem cs_Q_59 (hX : jx_Ok G X cc "PlaneCells$Plane" ret nL lv) {v1 v2 v3 : Value} {w1 : va_W} (hM : jx_M (jx_l X) y_F_setPair b_F_setPair 4 none 1 G [.ref (jx_ad G 5), v1, v2, v3] (jx_w G S) (none, w1)) (hd : decode cc pc = .ok (.invokevirtual 59, 3)) (hlv : 1 < lv) (hroom : (rest.map fun v => v.category).sum ≤ 8) (k : jx_At G X fin w1 (pc + 3) L rest) : jx_At G X fin (jx_w G S) pc L (v3 :: v2 :: v1 :: .ref (jx_ad G 5) :: rest) :=
  jx_callV hX (n := 3) (As := [v1, v2, v3]) hM wm_331 wm_6 wm_328 wm_329 wm_330 (by decide) 5 rfl rfl rfl rfl (by decide) hd hlv hroom k
theorem cs_Q_69 (hX : jx_Ok G X cc "PlaneCells$Plane" ret nL lv) {v1 v2 : Value} {r : Int32} {w1 : va_W} (hM : jx_M (jx_l X) y_C_signInColumn b_C_signInColumn 6 (some .int) 2 G [.ref (jx_ad G 4), v1, v2] (jx_w G S) (some (.int r), w1)) (hd : decode cc pc = .ok (.invokevirtual 69, 3)) (hlv : 2 < lv) (hroom : (rest.map fun v => v.category).sum ≤ 8) (k : jx_At G X fin w1 (pc + 3) L (.int r :: rest)) : jx_At G X fin (jx_w G S) pc L (v2 :: v1 :: .ref (jx_ad G 4) :: rest) :=
  jx_callV hX (n := 2) (As := [v1, v2]) hM wm_343 wm_5 wm_340 wm_341 wm_342 (by decide) 4 rfl rfl rfl rfl (by decide) hd hlv hroom k
theorem cs_Q_73 (hX : jx_Ok G X cc "PlaneCells$Plane" ret nL lv) {v1 v2 : Value} {w1 : va_W} (hM : jx_M (jx_l X) y_Q_addZero b_Q_addZero 6 none 3 G [.ref (jx_ad G 3), v1, v2] (jx_w G S) (none, w1)) (hd : decode cc pc = .ok (.invokevirtual 73, 3)) (hlv : 3 < lv) (hroom : (rest.map fun v => v.category).sum ≤ 8) (k : jx_At G X fin w1 (pc + 3) L rest) : jx_At G X fin (jx_w G S) pc L (v2 :: v1 :: .ref (jx_ad G 3) :: rest) :=
  jx_callV hX (n := 2) (As := [v1, v2]) hM wm_358 wm_4 wm_355 wm_357 ws_16 (by decide) 3 rfl rfl rfl rfl (by decide) hd hlv hroom k
theorem cs_Q_95 (hX : jx_Ok G X cc "PlaneCells$Plane" ret nL lv) {v1 v2 : Value} {r : Int32} {w1 : va_W} (hM : jx_M (jx_l X) y_Q_signIn b_Q_signIn 3 (some .int) 1 G [.ref (jx_ad G 3), v1, v2] (jx_w G S) (some (.int r), w1)) (hd : decode cc pc = .ok (.invokevirtual 95, 3)) (hlv : 1 < lv) (hroom : (rest.map fun v => v.category).sum ≤ 8) (k : jx_At G X fin w1 (pc + 3) L (.int r :: rest)) : jx_At G X fin (jx_w G S) pc L (v2 :: v1 :: .ref (jx_ad G 3) :: rest) :=
  jx_callV hX (n := 2) (As := [v1, v2]) hM wm_373 wm_4 wm_370 wm_371 wm_372 (by decide) 3 rfl rfl rfl rfl (by decide) hd hlv hroom k
theorem cs_Q_98 (hX : jx_Ok G X cc "PlaneCells$Plane" ret nL lv) {v1 v2 : Value} {r : Int32} {w1 : va_W} (hM : jx_M (jx_l X) y_S_atomIsTrue b_S_atomIsTrue 3 (some .boolean) 0 G [.ref (jx_ad G 1), v1, v2] (jx_w G S) (some (.int r), w1)) (hd : decode cc pc = .ok (.invokevirtual 98, 3)) (hlv : 0 < lv) (hroom : (rest.map fun v => v.category).sum ≤ 8) (k : jx_At G X fin w1 (pc + 3) L (.int r :: rest)) : jx_At G X fin (jx_w G S) pc L (v2 :: v1 :: .ref (jx_ad G 1) :: rest) :=
  jx_callV hX (n := 2) (As := [v1, v2]) hM wm_378 wm_2 wm_375 wm_376 wm_377 (by decide) 1 rfl rfl rfl rfl (by decide) hd hlv hroom k
theorem cs_Q_102 (hX : jx_Ok G X cc "PlaneCells$Plane" ret nL lv) {v1 : Value} {r : Int32} {w1 : va_W} (hM : jx_M (jx_l X) y_Q_trueIn b_Q_trueIn 6 (some .boolean) 2 G [.ref (jx_ad G 3), v1] (jx_w G S) (some (.int r), w1)) (hd : decode cc pc = .ok (.invokevirtual 102, 3)) (hlv : 2 < lv) (hroom : (rest.map fun v => v.category).sum ≤ 8) (k : jx_At G X fin w1 (pc + 3) L (.int r :: rest)) : jx_At G X fin (jx_w G S) pc L (v1 :: .ref (jx_ad G 3) :: rest) :=
  jx_callV hX (n := 1) (As := [v1]) hM wm_369 wm_4 wm_366 wm_367 wm_368 (by decide) 3 rfl rfl rfl rfl (by decide) hd hlv hroom k
theorem cs_R_42 (hX : jx_Ok G X cc "PlaneCells$Reader" ret nL lv) {w1 : va_W} (hM : jx_M (jx_l X) y_S_clear b_S_clear 1 none 0 G [.ref (jx_ad G 1)] (jx_w G S) (none, w1)) (hd : decode cc pc = .ok (.invokevirtual 42, 3)) (hlv : 0 < lv) (hroom : (rest.map fun v => v.category).sum ≤ 8) (k : jx_At G X fin w1 (pc + 3) L rest) : jx_At G X fin (jx_w G S) pc L (.ref (jx_ad G 1) :: rest) :=
  jx_callV hX (n := 0) (As := []) hM wm_206 wm_2 wm_203 wm_204 wm_205 (by decide) 1 rfl rfl rfl rfl (by decide) hd hlv hroom k
theorem cs_R_47 (hX : jx_Ok G X cc "PlaneCells$Reader" ret nL lv) {r : Int32} {w1 : va_W} (hM : jx_M (jx_l X) y_R_takeHead b_R_takeHead 1 (some .boolean) 3 G [.ref (jx_ad G 2)] (jx_w G S) (some (.int r), w1)) (hd : decode cc pc = .ok (.invokevirtual 47, 3)) (hlv : 3 < lv) (hroom : (rest.map fun v => v.category).sum ≤ 8) (k : jx_At G X fin w1 (pc + 3) L (.int r :: rest)) : jx_At G X fin (jx_w G S) pc L (.ref (jx_ad G 2) :: rest) :=
  jx_callV hX (n := 0) (As := []) hM wm_210 wm_3 wm_207 wm_209 ws_1 (by decide) 2 rfl rfl rfl rfl (by decide) hd hlv hroom k
theorem cs_R_51 (hX : jx_Ok G X cc "PlaneCells$Reader" ret nL lv) {w1 : va_W} (hM : jx_M (jx_l X) y_R_takeOpenings b_R_takeOpenings 1 none 1 G [.ref (jx_ad G 2)] (jx_w G S) (none, w1)) (hd : decode cc pc = .ok (.invokevirtual 51, 3)) (hlv : 1 < lv) (hroom : (rest.map fun v => v.category).sum ≤ 8) (k : jx_At G X fin w1 (pc + 3) L rest) : jx_At G X fin (jx_w G S) pc L (.ref (jx_ad G 2) :: rest) :=
  jx_callV hX (n := 0) (As := []) hM wm_226 wm_3 wm_223 wm_225 ws_5 (by decide) 2 rfl rfl rfl rfl (by decide) hd hlv hroom k
theorem cs_R_54 (hX : jx_Ok G X cc "PlaneCells$Reader" ret nL lv) {r : Int32} {w1 : va_W} (hM : jx_M (jx_l X) y_R_takeAtom b_R_takeAtom 3 (some .boolean) 3 G [.ref (jx_ad G 2)] (jx_w G S) (some (.int r), w1)) (hd : decode cc pc = .ok (.invokevirtual 54, 3)) (hlv : 3 < lv) (hroom : (rest.map fun v => v.category).sum ≤ 8) (k : jx_At G X fin w1 (pc + 3) L (.int r :: rest)) : jx_At G X fin (jx_w G S) pc L (.ref (jx_ad G 2) :: rest) :=
  jx_callV hX (n := 0) (As := []) hM wm_234 wm_3 wm_231 wm_233 ws_7 (by decide) 2 rfl rfl rfl rfl (by decide) hd hlv hroom k
theorem cs_R_57 (hX : jx_Ok G X cc "PlaneCells$Reader" ret nL lv) {w1 : va_W} (hM : jx_M (jx_l X) y_R_takeClosings b_R_takeClosings 1 none 2 G [.ref (jx_ad G 2)] (jx_w G S) (none, w1)) (hd : decode cc pc = .ok (.invokevirtual 57, 3)) (hlv : 2 < lv) (hroom : (rest.map fun v => v.category).sum ≤ 8) (k : jx_At G X fin w1 (pc + 3) L rest) : jx_At G X fin (jx_w G S) pc L (.ref (jx_ad G 2) :: rest) :=
  jx_callV hX (n := 0) (As := []) hM wm_260 wm_3 wm_257 wm_259 ws_10 (by decide) 2 rfl rfl rfl rfl (by decide) hd hlv hroom k
theorem cs_R_60 (hX : jx_Ok G X cc "PlaneCells$Reader" ret nL lv) {r : Int32} {w1 : va_W} (hM : jx_M (jx_l X) y_R_takeJoint b_R_takeJoint 2 (some .boolean) 2 G [.ref (jx_ad G 2)] (jx_w G S) (some (.int r), w1)) (hd : decode cc pc = .ok (.invokevirtual 60, 3)) (hlv : 2 < lv) (hroom : (rest.map fun v => v.category).sum ≤ 8) (k : jx_At G X fin w1 (pc + 3) L (.int r :: rest)) : jx_At G X fin (jx_w G S) pc L (.ref (jx_ad G 2) :: rest) :=
  jx_callV hX (n := 0) (As := []) hM wm_269 wm_3 wm_266 wm_268 ws_12 (by decide) 2 rfl rfl rfl rfl (by decide) hd hlv hroom k
theorem cs_R_63 (hX : jx_Ok G X cc "PlaneCells$Reader" ret nL lv) {v1 : Value} {w1 : va_W} (hM : jx_M (jx_l X) y_R_release b_R_release 2 none 1 G [.ref (jx_ad G 2), v1] (jx_w G S) (none, w1)) (hd : decode cc pc = .ok (.invokevirtual 63, 3)) (hlv : 1 < lv) (hroom : (rest.map fun v => v.category).sum ≤ 8) (k : jx_At G X fin w1 (pc + 3) L rest) : jx_At G X fin (jx_w G S) pc L (v1 :: .ref (jx_ad G 2) :: rest) :=
  jx_callV hX (n := 1) (As := [v1]) hM wm_264 wm_3 wm_261 wm_263 ws_11 (by decide) 2 rfl rfl rfl rfl (by decide) hd hlv hroom k
theorem cs_R_67 (hX : jx_Ok G X cc "PlaneCells$Reader" ret nL lv) {r : Int32} {w1 : va_W} (hM : jx_M (jx_l X) y_R_peek b_R_peek 1 (some .char) 0 G [.ref (jx_ad G 2)] (jx_w G S) (some (.int r), w1)) (hd : decode cc pc = .ok (.invokevirtual 67, 3)) (hlv : 0 < lv) (hroom : (rest.map fun v => v.category).sum ≤ 8) (k : jx_At G X fin w1 (pc + 3) L (.int r :: rest)) : jx_At G X fin (jx_w G S) pc L (.ref (jx_ad G 2) :: rest) :=
  jx_callV hX (n := 0) (As := []) hM wm_214 wm_3 wm_211 wm_213 ws_2 (by decide) 2 rfl rfl rfl rfl (by decide) hd hlv hroom k
theorem cs_R_75 (hX : jx_Ok G X cc "PlaneCells$Reader" ret nL lv) {r : Int32} {w1 : va_W} (hM : jx_M (jx_l X) y_R_takeQuantifier b_R_takeQuantifier 1 (some .boolean) 2 G [.ref (jx_ad G 2)] (jx_w G S) (some (.int r), w1)) (hd : decode cc pc = .ok (.invokevirtual 75, 3)) (hlv : 2 < lv) (hroom : (rest.map fun v => v.category).sum ≤ 8) (k : jx_At G X fin w1 (pc + 3) L (.int r :: rest)) : jx_At G X fin (jx_w G S) pc L (.ref (jx_ad G 2) :: rest) :=
  jx_callV hX (n := 0) (As := []) hM wm_218 wm_3 wm_215 wm_217 ws_3 (by decide) 2 rfl rfl rfl rfl (by decide) hd hlv hroom k
theorem cs_R_78 (hX : jx_Ok G X cc "PlaneCells$Reader" ret nL lv) {v1 : Value} {r : Int32} {w1 : va_W} (hM : jx_M (jx_l X) y_R_take b_R_take 2 (some .boolean) 1 G [.ref (jx_ad G 2), v1] (jx_w G S) (some (.int r), w1)) (hd : decode cc pc = .ok (.invokevirtual 78, 3)) (hlv : 1 < lv) (hroom : (rest.map fun v => v.category).sum ≤ 8) (k : jx_At G X fin w1 (pc + 3) L (.int r :: rest)) : jx_At G X fin (jx_w G S) pc L (v1 :: .ref (jx_ad G 2) :: rest) :=
  jx_callV hX (n := 1) (As := [v1]) hM wm_222 wm_3 wm_219 wm_221 ws_4 (by decide) 2 rfl rfl rfl rfl (by decide) hd hlv hroom k
theorem cs_R_85 (hX : jx_Ok G X cc "PlaneCells$Reader" ret nL lv) {v1 : Value} {w1 : va_W} (hM : jx_M (jx_l X) y_R_hold b_R_hold 2 none 0 G [.ref (jx_ad G 2), v1] (jx_w G S) (none, w1)) (hd : decode cc pc = .ok (.invokevirtual 85, 3)) (hlv : 0 < lv) (hroom : (rest.map fun v => v.category).sum ≤ 8) (k : jx_At G X fin w1 (pc + 3) L rest) : jx_At G X fin (jx_w G S) pc L (v1 :: .ref (jx_ad G 2) :: rest) :=
  jx_callV hX (n := 1) (As := [v1]) hM wm_230 wm_3 wm_227 wm_229 ws_6 (by decide) 2 rfl rfl rfl rfl (by decide) hd hlv hroom k
theorem cs_R_88 (hX : jx_Ok G X cc "PlaneCells$Reader" ret nL lv) {v1 : Value} {w1 : va_W} (hM : jx_M (jx_l X) y_S_addStep b_S_addStep 2 none 0 G [.ref (jx_ad G 1), v1] (jx_w G S) (none, w1)) (hd : decode cc pc = .ok (.invokevirtual 88, 3)) (hlv : 0 < lv) (hroom : (rest.map fun v => v.category).sum ≤ 8) (k : jx_At G X fin w1 (pc + 3) L rest) : jx_At G X fin (jx_w G S) pc L (v1 :: .ref (jx_ad G 1) :: rest) :=
  jx_callV hX (n := 1) (As := [v1]) hM wm_256 wm_2 wm_265 wm_254 wm_255 (by decide) 1 rfl rfl rfl rfl (by decide) hd hlv hroom k
theorem cs_R_91 (hX : jx_Ok G X cc "PlaneCells$Reader" ret nL lv) {v1 : Value} {r : Int32} {w1 : va_W} (hM : jx_M (jx_l X) y_R_takeSum b_R_takeSum 4 (some .boolean) 2 G [.ref (jx_ad G 2), v1] (jx_w G S) (some (.int r), w1)) (hd : decode cc pc = .ok (.invokevirtual 91, 3)) (hlv : 2 < lv) (hroom : (rest.map fun v => v.category).sum ≤ 8) (k : jx_At G X fin w1 (pc + 3) L (.int r :: rest)) : jx_At G X fin (jx_w G S) pc L (v1 :: .ref (jx_ad G 2) :: rest) :=
  jx_callV hX (n := 1) (As := [v1]) hM wm_238 wm_3 wm_235 wm_237 ws_8 (by decide) 2 rfl rfl rfl rfl (by decide) hd hlv hroom k
theorem cs_R_95 (hX : jx_Ok G X cc "PlaneCells$Reader" ret nL lv) {v1 v2 : Value} {w1 : va_W} (hM : jx_M (jx_l X) y_S_addAtom b_S_addAtom 3 none 1 G [.ref (jx_ad G 1), v1, v2] (jx_w G S) (none, w1)) (hd : decode cc pc = .ok (.invokevirtual 95, 3)) (hlv : 1 < lv) (hroom : (rest.map fun v => v.category).sum ≤ 8) (k : jx_At G X fin w1 (pc + 3) L rest) : jx_At G X fin (jx_w G S) pc L (v2 :: v1 :: .ref (jx_ad G 1) :: rest) :=
  jx_callV hX (n := 2) (As := [v1, v2]) hM wm_249 wm_2 wm_246 wm_247 wm_248 (by decide) 1 rfl rfl rfl rfl (by decide) hd hlv hroom k
theorem cs_R_99 (hX : jx_Ok G X cc "PlaneCells$Reader" ret nL lv) {v1 : Value} {r : Int32} {w1 : va_W} (hM : jx_M (jx_l X) y_R_takeTerm b_R_takeTerm 8 (some .boolean) 1 G [.ref (jx_ad G 2), v1] (jx_w G S) (some (.int r), w1)) (hd : decode cc pc = .ok (.invokevirtual 99, 3)) (hlv : 1 < lv) (hroom : (rest.map fun v => v.category).sum ≤ 8) (k : jx_At G X fin w1 (pc + 3) L (.int r :: rest)) : jx_At G X fin (jx_w G S) pc L (v1 :: .ref (jx_ad G 2) :: rest) :=
  jx_callV hX (n := 1) (As := [v1]) hM wm_242 wm_3 wm_239 wm_241 ws_9 (by decide) 2 rfl rfl rfl rfl (by decide) hd hlv hroom k
theorem cs_R_102 (hX : jx_Ok G X cc "PlaneCells$Reader" ret nL lv) {v1 : Value} {r : Int32} {w1 : va_W} (hM : jx_M (jx_l X) y_R_numberOfLetter b_R_numberOfLetter 1 (some .int) 0 G [v1] (jx_w G S) (some (.int r), w1)) (hd : decode cc pc = .ok (.invokestatic 102, 3)) (hlv : 0 < lv) (hroom : (rest.map fun v => v.category).sum ≤ 8) (k : jx_At G X fin w1 (pc + 3) L (.int r :: rest)) : jx_At G X fin (jx_w G S) pc L (v1 :: rest) :=
  jx_callS hX (n := 1) (As := [v1]) hM wm_245 wm_3 wm_243 wm_244 (by decide) rfl rfl (by decide) hd hlv hroom k
theorem cs_S_35 (hX : jx_Ok G X cc "PlaneCells$Sentence" ret nL lv) {v1 : Value} {w1 : va_W} (hM : jx_M (jx_l X) y_S_addStep b_S_addStep 2 none 0 G [.ref (jx_ad G 1), v1] (jx_w G S) (none, w1)) (hd : decode cc pc = .ok (.invokevirtual 35, 3)) (hlv : 0 < lv) (hroom : (rest.map fun v => v.category).sum ≤ 8) (k : jx_At G X fin w1 (pc + 3) L rest) : jx_At G X fin (jx_w G S) pc L (v1 :: .ref (jx_ad G 1) :: rest) :=
  jx_callV hX (n := 1) (As := [v1]) hM wm_256 wm_2 wm_253 wm_254 wm_255 (by decide) 1 rfl rfl rfl rfl (by decide) hd hlv hroom k
end CR
end
section
abbrev b_JI : ByteArray := prog_9_method_56_code
def y_JI : MethodName := ⟨"java/lang/Integer", "signum", "(I)I"⟩
abbrev b_JL : ByteArray := prog_10_method_57_code
def y_JL : MethodName := ⟨"java/lang/Long", "signum", "(J)I"⟩
theorem d_JI_0 : decode b_JI 0 = .ok (.iload_n 0, 1) := by decide +kernel
theorem d_JI_1 : decode b_JI 1 = .ok (.bipush 31, 2) := by decide +kernel
theorem d_JI_3 : decode b_JI 3 = .ok (.ishr, 1) := by decide +kernel
theorem d_JI_4 : decode b_JI 4 = .ok (.iload_n 0, 1) := by decide +kernel
theorem d_JI_5 : decode b_JI 5 = .ok (.ineg, 1) := by decide +kernel
theorem d_JI_6 : decode b_JI 6 = .ok (.bipush 31, 2) := by decide +kernel
theorem d_JI_8 : decode b_JI 8 = .ok (.iushr, 1) := by decide +kernel
theorem d_JI_9 : decode b_JI 9 = .ok (.ior, 1) := by decide +kernel
theorem d_JI_10 : decode b_JI 10 = .ok (.ireturn, 1) := by decide +kernel
theorem d_JL_0 : decode b_JL 0 = .ok (.lload_n 0, 1) := by decide +kernel
theorem d_JL_1 : decode b_JL 1 = .ok (.bipush 63, 2) := by decide +kernel
theorem d_JL_3 : decode b_JL 3 = .ok (.lshr, 1) := by decide +kernel
theorem d_JL_4 : decode b_JL 4 = .ok (.lload_n 0, 1) := by decide +kernel
theorem d_JL_5 : decode b_JL 5 = .ok (.lneg, 1) := by decide +kernel
theorem d_JL_6 : decode b_JL 6 = .ok (.bipush 63, 2) := by decide +kernel
theorem d_JL_8 : decode b_JL 8 = .ok (.lushr, 1) := by decide +kernel
theorem d_JL_9 : decode b_JL 9 = .ok (.lor, 1) := by decide +kernel
theorem d_JL_10 : decode b_JL 10 = .ok (.l2i, 1) := by decide +kernel
theorem d_JL_11 : decode b_JL 11 = .ok (.ireturn, 1) := by decide +kernel
theorem c_JI (l : Launch) (G : jx_G) (w : va_W) (x : Int32) : jx_M l y_JI b_JI 1 (some .int) 0 G [.int x] w (some (.int (jx_si x)), w) := by
  refine jx_met (own := "java/lang/Integer") (by decide) rfl (Nat.le_of_ble_eq_true rfl) (fun X hX hl => ?_)
  refine jx_L (L2 := [(0, .int x)]) rfl ?_
  refine jx_iload_n hX d_JI_0 0 rfl rfl ?_
  refine jx_bipush (v := 31) hX d_JI_1 (by decide) ?_
  refine jx_ishr hX d_JI_3 ?_
  refine jx_iload_n hX d_JI_4 0 rfl rfl ?_
  refine jx_ineg hX d_JI_5 ?_
  refine jx_bipush (v := 31) hX d_JI_6 (by decide) ?_
  refine jx_iushr hX d_JI_8 rfl ?_
  refine jx_ior hX d_JI_9 ?_
  exact jx_iret hX d_JI_10
theorem c_JL (l : Launch) (G : jx_G) (w : va_W) (x : Int64) : jx_M l y_JL b_JL 2 (some .int) 0 G [.long x] w (some (.int (jx_sl x)), w) := by
  refine jx_met (own := "java/lang/Long") (by decide) rfl (Nat.le_of_ble_eq_true rfl) (fun X hX hl => ?_)
  refine jx_L (L2 := [(0, .long x)]) rfl ?_
  refine jx_lload_n hX d_JL_0 0 rfl rfl ?_
  refine jx_bipush (v := 63) hX d_JL_1 (by decide) ?_
  refine jx_lshr hX d_JL_3 rfl ?_
  refine jx_lload_n hX d_JL_4 0 rfl rfl ?_
  refine jx_lneg hX d_JL_5 ?_
  refine jx_bipush (v := 63) hX d_JL_6 (by decide) ?_
  refine jx_lushr hX d_JL_8 rfl ?_
  refine jx_lor hX d_JL_9 ?_
  refine jx_l2i hX d_JL_10 rfl ?_
  exact jx_iret hX d_JL_11
section JS
variable {G : jx_G} {X : jx_C} {cc : ByteArray} {own : String} {ret : Option FieldType} {nL lv : Nat} {fin : Option Value × va_W} {w : va_W} {pc : Nat} {L : List (Nat × Value)} {st : List Value} {S : jx_S}
theorem jx_si_r (hX : jx_Ok G X cc own ret nL lv) {index : Nat} {x : Int32} (hlink : Cond.methodLink own index y_JI ∈ jx_W) (hd : decode cc pc = .ok (.invokestatic index, 3)) (hr : (st.map fun v => v.category).sum ≤ 8) (hlv : 0 < lv) (k : jx_At G X fin w (pc + 3) L (.int (jx_si x) :: st)) : jx_At G X fin w pc L (.int x :: st) :=
  jx_callS hX (n := 1) (As := [.int x]) (c_JI (jx_l X) G w x) jw_JIC jw_JII hlink jw_JIS (by decide) rfl rfl (by decide) hd hlv hr k
theorem jx_sl_r (hX : jx_Ok G X cc own ret nL lv) {index : Nat} {x : Int64} (hlink : Cond.methodLink own index y_JL ∈ jx_W) (hd : decode cc pc = .ok (.invokestatic index, 3)) (hr : (st.map fun v => v.category).sum ≤ 8) (hlv : 0 < lv) (k : jx_At G X fin w (pc + 3) L (.int (jx_sl x) :: st)) : jx_At G X fin w pc L (.long x :: st) :=
  jx_callS hX (n := 1) (As := [.long x]) (c_JL (jx_l X) G w x) jw_JLC jw_JLI hlink jw_JLS (by decide) rfl rfl (by decide) hd hlv hr k
theorem jx_copy (hX : jx_Ok G X cc own ret nL lv) {index : Nat} (hlink : Cond.methodLink own index arraycopyName ∈ jx_W) (q0 q1 : Nat) {a0 a1 n0 n1 : Nat} {f g : Nat → Int32} (h0 : w[q0]? = some (a0, .inl (jx_ca G 0, n0, .inl f))) (h1 : w[q1]? = some (a1, .inl (jx_ca G 0, n1, .inl g))) {sp dp n : Int32} (hg : jx_ck sp dp n n0 n1 = true) (hr : (st.map fun v => v.category).sum ≤ 8) (hlv : 0 < lv) {w2 : va_W} (hw : w.set q1 (a1, .inl (jx_ca G 0, n1, .inl (va_cpy f g sp.toNatClampNeg dp.toNatClampNeg n.toNatClampNeg))) = w2) (hd : decode cc pc = .ok (.invokestatic index, 3)) (k : jx_At G X fin w2 (pc + 3) L st) : jx_At G X fin w pc L (.int n :: .int dp :: .ref a1 :: .int sp :: .ref a0 :: st) :=
  fun H locs ls hP hD hS hl => by
    have hg := of_decide_eq_true hg
    refine va_copyi hX.1 hX.2.1 hl.1.symm hX.2.2.2.1 (hX.2.2.2.2.1 _ hlink) (hX.2.2.2.2.1 _ jw_acN) (hX.2.2.2.2.1 _ jw_acS) (hX.2.2.2.2.1 _ jw_acI) hX.2.2.2.2.2.1 hP hD hS q0 q1 0 0 h0 h1 rfl rfl rfl hg.1 hg.2.1 hg.2.2.1 hg.2.2.2.1 hg.2.2.2.2 (fun _ _ => rfl) (by rw [hX.2.2.2.2.2.2.2.2.2.2]; exact hlv) ?_ hd (fun H1 locs1 hP hD hS => k H1 locs1 ls (by rw [hw] at hP; exact hP) (by rw [hw] at hD; exact hD) hS hl)
    rw [hX.2.2.2.2.2.2.2.2.2.2]
    have e : nativeFrameWords "java/lang/System" "arraycopy" 5 + 11 ≤ 40 := by decide
    simp only [jx_rm]
    omega
theorem ac_5_0 (hX : jx_Ok G X cc "PlaneCells$Sentence" ret nL lv) {sp dp n : Int32} (hd : decode cc pc = .ok (.invokestatic 29, 3)) (hg : jx_ck sp dp n 4 32 = true) (hr : (st.map fun v => v.category).sum ≤ 8) (hlv : 0 < lv) (k : jx_At G X fin (jx_w G (jx_g S 0 (va_cpy (S.2.1 5) (S.2.1 0) sp.toNatClampNeg dp.toNatClampNeg n.toNatClampNeg))) (pc + 3) L st) : jx_At G X fin (jx_w G S) pc L (.int n :: .int dp :: .ref (jx_ad G 6) :: .int sp :: .ref (jx_ad G 11) :: st) :=
  jx_copy hX jw_acL 11 6 rfl rfl hg hr hlv (w2 := jx_w G (jx_g S 0 (va_cpy (S.2.1 5) (S.2.1 0) sp.toNatClampNeg dp.toNatClampNeg n.toNatClampNeg))) rfl hd k
end JS
end
