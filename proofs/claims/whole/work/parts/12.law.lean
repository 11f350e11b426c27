theorem wm_12 : (Cond.classLink "PlaneCellsLaw" 7 "PlaneCells") ∈ jx_W := jx_mem 12 (by decide +kernel) rfl
theorem wm_13 : (Cond.instantiable "PlaneCells" 6) ∈ jx_W := jx_mem 13 (by decide +kernel) rfl
theorem wm_14 : (Cond.methodLink "PlaneCellsLaw" 9 ⟨"PlaneCells", "<init>", "()V"⟩) ∈ jx_W := jx_mem 14 (by decide +kernel) rfl
theorem wm_15 : (Cond.instanceMethod ⟨"PlaneCells", "<init>", "()V"⟩) ∈ jx_W := jx_mem 15 (by decide +kernel) rfl
set_option maxRecDepth 20000 in
theorem wm_16 : (Cond.code y_P_init b_P_init 1 none) ∈ jx_W := jx_mem 16 rfl rfl
theorem wm_179 : (Cond.methodLink "PlaneCellsLaw" 13 ⟨"PlaneCells", "write", "(C)Z"⟩) ∈ jx_W := jx_mem 179 (by decide +kernel) rfl
theorem wm_180 : (Cond.instanceMethod ⟨"PlaneCells", "write", "(C)Z"⟩) ∈ jx_W := jx_mem 180 (by decide +kernel) rfl
theorem wm_181 : (Cond.selects "PlaneCells" ⟨"PlaneCells", "write", "(C)Z"⟩ ⟨"PlaneCells", "write", "(C)Z"⟩) ∈ jx_W := jx_mem 181 (by decide +kernel) rfl
set_option maxRecDepth 20000 in
theorem wm_182 : (Cond.code y_P_write b_P_write 2 (some .boolean)) ∈ jx_W := jx_mem 182 rfl rfl
theorem wm_187 : (Cond.methodLink "PlaneCellsLaw" 18 ⟨"PlaneCells", "decide", "()I"⟩) ∈ jx_W := jx_mem 187 (by decide +kernel) rfl
theorem wm_188 : (Cond.instanceMethod ⟨"PlaneCells", "decide", "()I"⟩) ∈ jx_W := jx_mem 188 (by decide +kernel) rfl
theorem wm_189 : (Cond.selects "PlaneCells" ⟨"PlaneCells", "decide", "()I"⟩ ⟨"PlaneCells", "decide", "()I"⟩) ∈ jx_W := jx_mem 189 (by decide +kernel) rfl
set_option maxRecDepth 20000 in
theorem wm_190 : (Cond.code y_P_decide b_P_decide 3 (some .int)) ∈ jx_W := jx_mem 190 rfl rfl
theorem wm_379 : (Cond.methodLink "PlaneCellsLaw" 23 ⟨"PlaneCells", "place", "()I"⟩) ∈ jx_W := jx_mem 379 (by decide +kernel) rfl
theorem wm_380 : (Cond.instanceMethod ⟨"PlaneCells", "place", "()I"⟩) ∈ jx_W := jx_mem 380 (by decide +kernel) rfl
theorem wm_381 : (Cond.selects "PlaneCells" ⟨"PlaneCells", "place", "()I"⟩ ⟨"PlaneCells", "place", "()I"⟩) ∈ jx_W := jx_mem 381 (by decide +kernel) rfl
set_option maxRecDepth 20000 in
theorem wm_382 : (Cond.code y_P_place b_P_place 1 (some .int)) ∈ jx_W := jx_mem 382 rfl rfl
theorem wm_383 : (Cond.methodLink "PlaneCellsLaw" 27 ⟨"PlaneCells", "polynomials", "()I"⟩) ∈ jx_W := jx_mem 383 (by decide +kernel) rfl
theorem wm_384 : (Cond.instanceMethod ⟨"PlaneCells", "polynomials", "()I"⟩) ∈ jx_W := jx_mem 384 (by decide +kernel) rfl
theorem wm_385 : (Cond.selects "PlaneCells" ⟨"PlaneCells", "polynomials", "()I"⟩ ⟨"PlaneCells", "polynomials", "()I"⟩) ∈ jx_W := jx_mem 385 (by decide +kernel) rfl
set_option maxRecDepth 20000 in
theorem wm_386 : (Cond.code y_P_polynomials b_P_polynomials 1 (some .int)) ∈ jx_W := jx_mem 386 rfl rfl
theorem wm_387 : (Cond.methodLink "PlaneCellsLaw" 31 ⟨"PlaneCells", "coefficient", "(II)I"⟩) ∈ jx_W := jx_mem 387 (by decide +kernel) rfl
theorem wm_388 : (Cond.instanceMethod ⟨"PlaneCells", "coefficient", "(II)I"⟩) ∈ jx_W := jx_mem 388 (by decide +kernel) rfl
theorem wm_389 : (Cond.selects "PlaneCells" ⟨"PlaneCells", "coefficient", "(II)I"⟩ ⟨"PlaneCells", "coefficient", "(II)I"⟩) ∈ jx_W := jx_mem 389 (by decide +kernel) rfl
set_option maxRecDepth 20000 in
theorem wm_390 : (Cond.code y_P_coefficient b_P_coefficient 3 (some .int)) ∈ jx_W := jx_mem 390 rfl rfl
theorem wm_396 : (Cond.methodLink "PlaneCellsLaw" 36 ⟨"PlaneCells", "columns", "()I"⟩) ∈ jx_W := jx_mem 396 (by decide +kernel) rfl
theorem wm_397 : (Cond.instanceMethod ⟨"PlaneCells", "columns", "()I"⟩) ∈ jx_W := jx_mem 397 (by decide +kernel) rfl
theorem wm_398 : (Cond.selects "PlaneCells" ⟨"PlaneCells", "columns", "()I"⟩ ⟨"PlaneCells", "columns", "()I"⟩) ∈ jx_W := jx_mem 398 (by decide +kernel) rfl
set_option maxRecDepth 20000 in
theorem wm_399 : (Cond.code y_P_columns b_P_columns 1 (some .int)) ∈ jx_W := jx_mem 399 rfl rfl
theorem wm_400 : (Cond.methodLink "PlaneCellsLaw" 40 ⟨"PlaneCells", "cells", "(I)I"⟩) ∈ jx_W := jx_mem 400 (by decide +kernel) rfl
theorem wm_401 : (Cond.instanceMethod ⟨"PlaneCells", "cells", "(I)I"⟩) ∈ jx_W := jx_mem 401 (by decide +kernel) rfl
theorem wm_402 : (Cond.selects "PlaneCells" ⟨"PlaneCells", "cells", "(I)I"⟩ ⟨"PlaneCells", "cells", "(I)I"⟩) ∈ jx_W := jx_mem 402 (by decide +kernel) rfl
set_option maxRecDepth 20000 in
theorem wm_403 : (Cond.code y_P_cells b_P_cells 2 (some .int)) ∈ jx_W := jx_mem 403 rfl rfl
theorem wm_412 : (Cond.methodLink "PlaneCellsLaw" 45 ⟨"PlaneCells", "sign", "(III)I"⟩) ∈ jx_W := jx_mem 412 (by decide +kernel) rfl
theorem wm_413 : (Cond.instanceMethod ⟨"PlaneCells", "sign", "(III)I"⟩) ∈ jx_W := jx_mem 413 (by decide +kernel) rfl
theorem wm_414 : (Cond.selects "PlaneCells" ⟨"PlaneCells", "sign", "(III)I"⟩ ⟨"PlaneCells", "sign", "(III)I"⟩) ∈ jx_W := jx_mem 414 (by decide +kernel) rfl
set_option maxRecDepth 20000 in
theorem wm_415 : (Cond.code y_P_sign b_P_sign 4 (some .int)) ∈ jx_W := jx_mem 415 rfl rfl
theorem wm_421 : (Cond.methodLink "PlaneCellsLaw" 50 ⟨"PlaneCells", "truth", "(II)I"⟩) ∈ jx_W := jx_mem 421 (by decide +kernel) rfl
theorem wm_422 : (Cond.instanceMethod ⟨"PlaneCells", "truth", "(II)I"⟩) ∈ jx_W := jx_mem 422 (by decide +kernel) rfl
theorem wm_423 : (Cond.selects "PlaneCells" ⟨"PlaneCells", "truth", "(II)I"⟩ ⟨"PlaneCells", "truth", "(II)I"⟩) ∈ jx_W := jx_mem 423 (by decide +kernel) rfl
set_option maxRecDepth 20000 in
theorem wm_424 : (Cond.code y_P_truth b_P_truth 3 (some .int)) ∈ jx_W := jx_mem 424 rfl rfl
theorem wm_426 : (Cond.methodLink "PlaneCellsLaw" 54 ⟨"PlaneCells", "holds", "(I)I"⟩) ∈ jx_W := jx_mem 426 (by decide +kernel) rfl
theorem wm_427 : (Cond.instanceMethod ⟨"PlaneCells", "holds", "(I)I"⟩) ∈ jx_W := jx_mem 427 (by decide +kernel) rfl
theorem wm_428 : (Cond.selects "PlaneCells" ⟨"PlaneCells", "holds", "(I)I"⟩ ⟨"PlaneCells", "holds", "(I)I"⟩) ∈ jx_W := jx_mem 428 (by decide +kernel) rfl
set_option maxRecDepth 20000 in
theorem wm_429 : (Cond.code y_P_holds b_P_holds 2 (some .int)) ∈ jx_W := jx_mem 429 rfl rfl
theorem wm_430 : (Cond.methodLink "PlaneCellsLaw" 58 ⟨"PlaneCells", "witness", "()I"⟩) ∈ jx_W := jx_mem 430 (by decide +kernel) rfl
theorem wm_431 : (Cond.instanceMethod ⟨"PlaneCells", "witness", "()I"⟩) ∈ jx_W := jx_mem 431 (by decide +kernel) rfl
theorem wm_432 : (Cond.selects "PlaneCells" ⟨"PlaneCells", "witness", "()I"⟩ ⟨"PlaneCells", "witness", "()I"⟩) ∈ jx_W := jx_mem 432 (by decide +kernel) rfl
set_option maxRecDepth 20000 in
theorem wm_433 : (Cond.code y_P_witness b_P_witness 1 (some .int)) ∈ jx_W := jx_mem 433 rfl rfl
theorem wm_434 : (Cond.methodLink "PlaneCellsLaw" 62 ⟨"PlaneCells", "compare", "(III)I"⟩) ∈ jx_W := jx_mem 434 (by decide +kernel) rfl
theorem wm_435 : (Cond.instanceMethod ⟨"PlaneCells", "compare", "(III)I"⟩) ∈ jx_W := jx_mem 435 (by decide +kernel) rfl
theorem wm_436 : (Cond.selects "PlaneCells" ⟨"PlaneCells", "compare", "(III)I"⟩ ⟨"PlaneCells", "compare", "(III)I"⟩) ∈ jx_W := jx_mem 436 (by decide +kernel) rfl
set_option maxRecDepth 20000 in
theorem wm_437 : (Cond.code y_P_compare b_P_compare 5 (some .int)) ∈ jx_W := jx_mem 437 rfl rfl
theorem wm_439 : (Cond.classLink "PlaneCellsLaw" 10 "PlaneCellsModel") ∈ jx_W := jx_mem 439 (by decide +kernel) rfl
theorem wm_440 : (Cond.instantiable "PlaneCellsModel" 25) ∈ jx_W := jx_mem 440 (by decide +kernel) rfl
theorem wm_441 : (Cond.methodLink "PlaneCellsLaw" 12 ⟨"PlaneCellsModel", "<init>", "()V"⟩) ∈ jx_W := jx_mem 441 (by decide +kernel) rfl
theorem wm_442 : (Cond.instanceMethod ⟨"PlaneCellsModel", "<init>", "()V"⟩) ∈ jx_W := jx_mem 442 (by decide +kernel) rfl
set_option maxRecDepth 20000 in
theorem wm_443 : (Cond.code y_M_init b_M_init 1 none) ∈ jx_W := jx_mem 443 rfl rfl
theorem wm_523 : (Cond.methodLink "PlaneCellsLaw" 17 ⟨"PlaneCellsModel", "write", "(C)Z"⟩) ∈ jx_W := jx_mem 523 (by decide +kernel) rfl
theorem wm_524 : (Cond.instanceMethod ⟨"PlaneCellsModel", "write", "(C)Z"⟩) ∈ jx_W := jx_mem 524 (by decide +kernel) rfl
theorem wm_525 : (Cond.selects "PlaneCellsModel" ⟨"PlaneCellsModel", "write", "(C)Z"⟩ ⟨"PlaneCellsModel", "write", "(C)Z"⟩) ∈ jx_W := jx_mem 525 (by decide +kernel) rfl
set_option maxRecDepth 20000 in
theorem wm_526 : (Cond.code y_M_write b_M_write 2 (some .boolean)) ∈ jx_W := jx_mem 526 rfl rfl
theorem wm_527 : (Cond.methodLink "PlaneCellsLaw" 22 ⟨"PlaneCellsModel", "decide", "()I"⟩) ∈ jx_W := jx_mem 527 (by decide +kernel) rfl
theorem wm_528 : (Cond.instanceMethod ⟨"PlaneCellsModel", "decide", "()I"⟩) ∈ jx_W := jx_mem 528 (by decide +kernel) rfl
theorem wm_529 : (Cond.selects "PlaneCellsModel" ⟨"PlaneCellsModel", "decide", "()I"⟩ ⟨"PlaneCellsModel", "decide", "()I"⟩) ∈ jx_W := jx_mem 529 (by decide +kernel) rfl
set_option maxRecDepth 20000 in
theorem wm_530 : (Cond.code y_M_decide b_M_decide 6 (some .int)) ∈ jx_W := jx_mem 530 rfl rfl
theorem wm_662 : (Cond.methodLink "PlaneCellsLaw" 26 ⟨"PlaneCellsModel", "place", "()I"⟩) ∈ jx_W := jx_mem 662 (by decide +kernel) rfl
theorem wm_663 : (Cond.instanceMethod ⟨"PlaneCellsModel", "place", "()I"⟩) ∈ jx_W := jx_mem 663 (by decide +kernel) rfl
theorem wm_664 : (Cond.selects "PlaneCellsModel" ⟨"PlaneCellsModel", "place", "()I"⟩ ⟨"PlaneCellsModel", "place", "()I"⟩) ∈ jx_W := jx_mem 664 (by decide +kernel) rfl
set_option maxRecDepth 20000 in
theorem wm_665 : (Cond.code y_M_place b_M_place 1 (some .int)) ∈ jx_W := jx_mem 665 rfl rfl
theorem wm_666 : (Cond.methodLink "PlaneCellsLaw" 30 ⟨"PlaneCellsModel", "polynomials", "()I"⟩) ∈ jx_W := jx_mem 666 (by decide +kernel) rfl
theorem wm_667 : (Cond.instanceMethod ⟨"PlaneCellsModel", "polynomials", "()I"⟩) ∈ jx_W := jx_mem 667 (by decide +kernel) rfl
theorem wm_668 : (Cond.selects "PlaneCellsModel" ⟨"PlaneCellsModel", "polynomials", "()I"⟩ ⟨"PlaneCellsModel", "polynomials", "()I"⟩) ∈ jx_W := jx_mem 668 (by decide +kernel) rfl
set_option maxRecDepth 20000 in
theorem wm_669 : (Cond.code y_M_polynomials b_M_polynomials 1 (some .int)) ∈ jx_W := jx_mem 669 rfl rfl
theorem wm_670 : (Cond.methodLink "PlaneCellsLaw" 35 ⟨"PlaneCellsModel", "coefficient", "(II)I"⟩) ∈ jx_W := jx_mem 670 (by decide +kernel) rfl
theorem wm_671 : (Cond.instanceMethod ⟨"PlaneCellsModel", "coefficient", "(II)I"⟩) ∈ jx_W := jx_mem 671 (by decide +kernel) rfl
theorem wm_672 : (Cond.selects "PlaneCellsModel" ⟨"PlaneCellsModel", "coefficient", "(II)I"⟩ ⟨"PlaneCellsModel", "coefficient", "(II)I"⟩) ∈ jx_W := jx_mem 672 (by decide +kernel) rfl
set_option maxRecDepth 20000 in
theorem wm_673 : (Cond.code y_M_coefficient b_M_coefficient 3 (some .int)) ∈ jx_W := jx_mem 673 rfl rfl
theorem wm_674 : (Cond.methodLink "PlaneCellsLaw" 39 ⟨"PlaneCellsModel", "columns", "()I"⟩) ∈ jx_W := jx_mem 674 (by decide +kernel) rfl
theorem wm_675 : (Cond.instanceMethod ⟨"PlaneCellsModel", "columns", "()I"⟩) ∈ jx_W := jx_mem 675 (by decide +kernel) rfl
theorem wm_676 : (Cond.selects "PlaneCellsModel" ⟨"PlaneCellsModel", "columns", "()I"⟩ ⟨"PlaneCellsModel", "columns", "()I"⟩) ∈ jx_W := jx_mem 676 (by decide +kernel) rfl
set_option maxRecDepth 20000 in
theorem wm_677 : (Cond.code y_M_columns b_M_columns 1 (some .int)) ∈ jx_W := jx_mem 677 rfl rfl
theorem wm_678 : (Cond.methodLink "PlaneCellsLaw" 44 ⟨"PlaneCellsModel", "cells", "(I)I"⟩) ∈ jx_W := jx_mem 678 (by decide +kernel) rfl
theorem wm_679 : (Cond.instanceMethod ⟨"PlaneCellsModel", "cells", "(I)I"⟩) ∈ jx_W := jx_mem 679 (by decide +kernel) rfl
theorem wm_680 : (Cond.selects "PlaneCellsModel" ⟨"PlaneCellsModel", "cells", "(I)I"⟩ ⟨"PlaneCellsModel", "cells", "(I)I"⟩) ∈ jx_W := jx_mem 680 (by decide +kernel) rfl
set_option maxRecDepth 20000 in
theorem wm_681 : (Cond.code y_M_cells b_M_cells 2 (some .int)) ∈ jx_W := jx_mem 681 rfl rfl
theorem wm_686 : (Cond.methodLink "PlaneCellsLaw" 49 ⟨"PlaneCellsModel", "sign", "(III)I"⟩) ∈ jx_W := jx_mem 686 (by decide +kernel) rfl
theorem wm_687 : (Cond.instanceMethod ⟨"PlaneCellsModel", "sign", "(III)I"⟩) ∈ jx_W := jx_mem 687 (by decide +kernel) rfl
theorem wm_688 : (Cond.selects "PlaneCellsModel" ⟨"PlaneCellsModel", "sign", "(III)I"⟩ ⟨"PlaneCellsModel", "sign", "(III)I"⟩) ∈ jx_W := jx_mem 688 (by decide +kernel) rfl
set_option maxRecDepth 20000 in
theorem wm_689 : (Cond.code y_M_sign b_M_sign 4 (some .int)) ∈ jx_W := jx_mem 689 rfl rfl
theorem wm_694 : (Cond.methodLink "PlaneCellsLaw" 53 ⟨"PlaneCellsModel", "truth", "(II)I"⟩) ∈ jx_W := jx_mem 694 (by decide +kernel) rfl
theorem wm_695 : (Cond.instanceMethod ⟨"PlaneCellsModel", "truth", "(II)I"⟩) ∈ jx_W := jx_mem 695 (by decide +kernel) rfl
theorem wm_696 : (Cond.selects "PlaneCellsModel" ⟨"PlaneCellsModel", "truth", "(II)I"⟩ ⟨"PlaneCellsModel", "truth", "(II)I"⟩) ∈ jx_W := jx_mem 696 (by decide +kernel) rfl
set_option maxRecDepth 20000 in
theorem wm_697 : (Cond.code y_M_truth b_M_truth 3 (some .int)) ∈ jx_W := jx_mem 697 rfl rfl
theorem wm_698 : (Cond.methodLink "PlaneCellsLaw" 57 ⟨"PlaneCellsModel", "holds", "(I)I"⟩) ∈ jx_W := jx_mem 698 (by decide +kernel) rfl
theorem wm_699 : (Cond.instanceMethod ⟨"PlaneCellsModel", "holds", "(I)I"⟩) ∈ jx_W := jx_mem 699 (by decide +kernel) rfl
theorem wm_700 : (Cond.selects "PlaneCellsModel" ⟨"PlaneCellsModel", "holds", "(I)I"⟩ ⟨"PlaneCellsModel", "holds", "(I)I"⟩) ∈ jx_W := jx_mem 700 (by decide +kernel) rfl
set_option maxRecDepth 20000 in
theorem wm_701 : (Cond.code y_M_holds b_M_holds 2 (some .int)) ∈ jx_W := jx_mem 701 rfl rfl
theorem wm_702 : (Cond.methodLink "PlaneCellsLaw" 61 ⟨"PlaneCellsModel", "witness", "()I"⟩) ∈ jx_W := jx_mem 702 (by decide +kernel) rfl
theorem wm_703 : (Cond.instanceMethod ⟨"PlaneCellsModel", "witness", "()I"⟩) ∈ jx_W := jx_mem 703 (by decide +kernel) rfl
theorem wm_704 : (Cond.selects "PlaneCellsModel" ⟨"PlaneCellsModel", "witness", "()I"⟩ ⟨"PlaneCellsModel", "witness", "()I"⟩) ∈ jx_W := jx_mem 704 (by decide +kernel) rfl
set_option maxRecDepth 20000 in
theorem wm_705 : (Cond.code y_M_witness b_M_witness 2 (some .int)) ∈ jx_W := jx_mem 705 rfl rfl
theorem wm_706 : (Cond.methodLink "PlaneCellsLaw" 65 ⟨"PlaneCellsModel", "compare", "(III)I"⟩) ∈ jx_W := jx_mem 706 (by decide +kernel) rfl
theorem wm_707 : (Cond.instanceMethod ⟨"PlaneCellsModel", "compare", "(III)I"⟩) ∈ jx_W := jx_mem 707 (by decide +kernel) rfl
theorem wm_708 : (Cond.selects "PlaneCellsModel" ⟨"PlaneCellsModel", "compare", "(III)I"⟩ ⟨"PlaneCellsModel", "compare", "(III)I"⟩) ∈ jx_W := jx_mem 708 (by decide +kernel) rfl
set_option maxRecDepth 20000 in
theorem wm_709 : (Cond.code y_M_compare b_M_compare 4 (some .int)) ∈ jx_W := jx_mem 709 rfl rfl
theorem d_L_0 : decode code 0 = .ok (.new 7, 3) := by decide +kernel
theorem d_L_3 : decode code 3 = .ok (.dup, 1) := by decide +kernel
theorem d_L_4 : decode code 4 = .ok (.invokespecial 9, 3) := by decide +kernel
theorem d_L_7 : decode code 7 = .ok (.astore_n 1, 1) := by decide +kernel
theorem d_L_8 : decode code 8 = .ok (.new 10, 3) := by decide +kernel
theorem d_L_11 : decode code 11 = .ok (.dup, 1) := by decide +kernel
theorem d_L_12 : decode code 12 = .ok (.invokespecial 12, 3) := by decide +kernel
theorem d_L_15 : decode code 15 = .ok (.astore_n 2, 1) := by decide +kernel
theorem d_L_16 : decode code 16 = .ok (.iconst 0, 1) := by decide +kernel
theorem d_L_17 : decode code 17 = .ok (.istore_n 3, 1) := by decide +kernel
theorem d_L_18 : decode code 18 = .ok (.iload_n 3, 1) := by decide +kernel
theorem d_L_19 : decode code 19 = .ok (.aload_n 0, 1) := by decide +kernel
theorem d_L_20 : decode code 20 = .ok (.arraylength, 1) := by decide +kernel
theorem d_L_21 : decode code 21 = .ok (.iconst 4, 1) := by decide +kernel
theorem d_L_22 : decode code 22 = .ok (.isub, 1) := by decide +kernel
theorem d_L_23 : decode code 23 = .ok (.if_icmp .gt 367, 3) := by decide +kernel
theorem d_L_26 : decode code 26 = .ok (.aload_n 0, 1) := by decide +kernel
theorem d_L_27 : decode code 27 = .ok (.iload_n 3, 1) := by decide +kernel
theorem d_L_28 : decode code 28 = .ok (.iaload, 1) := by decide +kernel
theorem d_L_29 : decode code 29 = .ok (.bipush 15, 2) := by decide +kernel
theorem d_L_31 : decode code 31 = .ok (.iand, 1) := by decide +kernel
theorem d_L_32 : decode code 32 = .ok (.tableswitch 352 0 11 #[64, 89, 102, 115, 128, 161, 174, 197, 240, 273, 296, 309], 64) := by decide +kernel
theorem d_L_96 : decode code 96 = .ok (.aload_n 1, 1) := by decide +kernel
theorem d_L_97 : decode code 97 = .ok (.aload_n 0, 1) := by decide +kernel
theorem d_L_98 : decode code 98 = .ok (.iload_n 3, 1) := by decide +kernel
theorem d_L_99 : decode code 99 = .ok (.iconst 1, 1) := by decide +kernel
theorem d_L_100 : decode code 100 = .ok (.iadd, 1) := by decide +kernel
theorem d_L_101 : decode code 101 = .ok (.iaload, 1) := by decide +kernel
theorem d_L_102 : decode code 102 = .ok (.i2c, 1) := by decide +kernel
theorem d_L_103 : decode code 103 = .ok (.invokevirtual 13, 3) := by decide +kernel
theorem d_L_106 : decode code 106 = .ok (.aload_n 2, 1) := by decide +kernel
theorem d_L_107 : decode code 107 = .ok (.aload_n 0, 1) := by decide +kernel
theorem d_L_108 : decode code 108 = .ok (.iload_n 3, 1) := by decide +kernel
theorem d_L_109 : decode code 109 = .ok (.iconst 1, 1) := by decide +kernel
theorem d_L_110 : decode code 110 = .ok (.iadd, 1) := by decide +kernel
theorem d_L_111 : decode code 111 = .ok (.iaload, 1) := by decide +kernel
theorem d_L_112 : decode code 112 = .ok (.i2c, 1) := by decide +kernel
theorem d_L_113 : decode code 113 = .ok (.invokevirtual 17, 3) := by decide +kernel
theorem d_L_116 : decode code 116 = .ok (.if_icmp .eq 268, 3) := by decide +kernel
theorem d_L_119 : decode code 119 = .ok (.iconst 0, 1) := by decide +kernel
theorem d_L_120 : decode code 120 = .ok (.ireturn, 1) := by decide +kernel
theorem d_L_121 : decode code 121 = .ok (.aload_n 1, 1) := by decide +kernel
theorem d_L_122 : decode code 122 = .ok (.invokevirtual 18, 3) := by decide +kernel
theorem d_L_125 : decode code 125 = .ok (.aload_n 2, 1) := by decide +kernel
theorem d_L_126 : decode code 126 = .ok (.invokevirtual 22, 3) := by decide +kernel
theorem d_L_129 : decode code 129 = .ok (.if_icmp .eq 255, 3) := by decide +kernel
theorem d_L_132 : decode code 132 = .ok (.iconst 0, 1) := by decide +kernel
theorem d_L_133 : decode code 133 = .ok (.ireturn, 1) := by decide +kernel
theorem d_L_134 : decode code 134 = .ok (.aload_n 1, 1) := by decide +kernel
theorem d_L_135 : decode code 135 = .ok (.invokevirtual 23, 3) := by decide +kernel
theorem d_L_138 : decode code 138 = .ok (.aload_n 2, 1) := by decide +kernel
theorem d_L_139 : decode code 139 = .ok (.invokevirtual 26, 3) := by decide +kernel
theorem d_L_142 : decode code 142 = .ok (.if_icmp .eq 242, 3) := by decide +kernel
theorem d_L_145 : decode code 145 = .ok (.iconst 0, 1) := by decide +kernel
theorem d_L_146 : decode code 146 = .ok (.ireturn, 1) := by decide +kernel
theorem d_L_147 : decode code 147 = .ok (.aload_n 1, 1) := by decide +kernel
theorem d_L_148 : decode code 148 = .ok (.invokevirtual 27, 3) := by decide +kernel
theorem d_L_151 : decode code 151 = .ok (.aload_n 2, 1) := by decide +kernel
theorem d_L_152 : decode code 152 = .ok (.invokevirtual 30, 3) := by decide +kernel
theorem d_L_155 : decode code 155 = .ok (.if_icmp .eq 229, 3) := by decide +kernel
theorem d_L_158 : decode code 158 = .ok (.iconst 0, 1) := by decide +kernel
theorem d_L_159 : decode code 159 = .ok (.ireturn, 1) := by decide +kernel
theorem d_L_160 : decode code 160 = .ok (.aload_n 1, 1) := by decide +kernel
theorem d_L_161 : decode code 161 = .ok (.aload_n 0, 1) := by decide +kernel
theorem d_L_162 : decode code 162 = .ok (.iload_n 3, 1) := by decide +kernel
theorem d_L_163 : decode code 163 = .ok (.iconst 1, 1) := by decide +kernel
theorem d_L_164 : decode code 164 = .ok (.iadd, 1) := by decide +kernel
theorem d_L_165 : decode code 165 = .ok (.iaload, 1) := by decide +kernel
theorem d_L_166 : decode code 166 = .ok (.aload_n 0, 1) := by decide +kernel
theorem d_L_167 : decode code 167 = .ok (.iload_n 3, 1) := by decide +kernel
theorem d_L_168 : decode code 168 = .ok (.iconst 2, 1) := by decide +kernel
theorem d_L_169 : decode code 169 = .ok (.iadd, 1) := by decide +kernel
theorem d_L_170 : decode code 170 = .ok (.iaload, 1) := by decide +kernel
theorem d_L_171 : decode code 171 = .ok (.invokevirtual 31, 3) := by decide +kernel
theorem d_L_174 : decode code 174 = .ok (.aload_n 2, 1) := by decide +kernel
theorem d_L_175 : decode code 175 = .ok (.aload_n 0, 1) := by decide +kernel
theorem d_L_176 : decode code 176 = .ok (.iload_n 3, 1) := by decide +kernel
theorem d_L_177 : decode code 177 = .ok (.iconst 1, 1) := by decide +kernel
theorem d_L_178 : decode code 178 = .ok (.iadd, 1) := by decide +kernel
theorem d_L_179 : decode code 179 = .ok (.iaload, 1) := by decide +kernel
theorem d_L_180 : decode code 180 = .ok (.aload_n 0, 1) := by decide +kernel
theorem d_L_181 : decode code 181 = .ok (.iload_n 3, 1) := by decide +kernel
theorem d_L_182 : decode code 182 = .ok (.iconst 2, 1) := by decide +kernel
theorem d_L_183 : decode code 183 = .ok (.iadd, 1) := by decide +kernel
theorem d_L_184 : decode code 184 = .ok (.iaload, 1) := by decide +kernel
theorem d_L_185 : decode code 185 = .ok (.invokevirtual 35, 3) := by decide +kernel
theorem d_L_188 : decode code 188 = .ok (.if_icmp .eq 196, 3) := by decide +kernel
theorem d_L_191 : decode code 191 = .ok (.iconst 0, 1) := by decide +kernel
theorem d_L_192 : decode code 192 = .ok (.ireturn, 1) := by decide +kernel
theorem d_L_193 : decode code 193 = .ok (.aload_n 1, 1) := by decide +kernel
theorem d_L_194 : decode code 194 = .ok (.invokevirtual 36, 3) := by decide +kernel
theorem d_L_197 : decode code 197 = .ok (.aload_n 2, 1) := by decide +kernel
theorem d_L_198 : decode code 198 = .ok (.invokevirtual 39, 3) := by decide +kernel
theorem d_L_201 : decode code 201 = .ok (.if_icmp .eq 183, 3) := by decide +kernel
theorem d_L_204 : decode code 204 = .ok (.iconst 0, 1) := by decide +kernel
theorem d_L_205 : decode code 205 = .ok (.ireturn, 1) := by decide +kernel
theorem d_L_206 : decode code 206 = .ok (.aload_n 1, 1) := by decide +kernel
theorem d_L_207 : decode code 207 = .ok (.aload_n 0, 1) := by decide +kernel
theorem d_L_208 : decode code 208 = .ok (.iload_n 3, 1) := by decide +kernel
theorem d_L_209 : decode code 209 = .ok (.iconst 1, 1) := by decide +kernel
theorem d_L_210 : decode code 210 = .ok (.iadd, 1) := by decide +kernel
theorem d_L_211 : decode code 211 = .ok (.iaload, 1) := by decide +kernel
theorem d_L_212 : decode code 212 = .ok (.invokevirtual 40, 3) := by decide +kernel
theorem d_L_215 : decode code 215 = .ok (.aload_n 2, 1) := by decide +kernel
theorem d_L_216 : decode code 216 = .ok (.aload_n 0, 1) := by decide +kernel
theorem d_L_217 : decode code 217 = .ok (.iload_n 3, 1) := by decide +kernel
theorem d_L_218 : decode code 218 = .ok (.iconst 1, 1) := by decide +kernel
theorem d_L_219 : decode code 219 = .ok (.iadd, 1) := by decide +kernel
theorem d_L_220 : decode code 220 = .ok (.iaload, 1) := by decide +kernel
theorem d_L_221 : decode code 221 = .ok (.invokevirtual 44, 3) := by decide +kernel
theorem d_L_224 : decode code 224 = .ok (.if_icmp .eq 160, 3) := by decide +kernel
theorem d_L_227 : decode code 227 = .ok (.iconst 0, 1) := by decide +kernel
theorem d_L_228 : decode code 228 = .ok (.ireturn, 1) := by decide +kernel
theorem d_L_229 : decode code 229 = .ok (.aload_n 1, 1) := by decide +kernel
theorem d_L_230 : decode code 230 = .ok (.aload_n 0, 1) := by decide +kernel
theorem d_L_231 : decode code 231 = .ok (.iload_n 3, 1) := by decide +kernel
theorem d_L_232 : decode code 232 = .ok (.iconst 1, 1) := by decide +kernel
theorem d_L_233 : decode code 233 = .ok (.iadd, 1) := by decide +kernel
theorem d_L_234 : decode code 234 = .ok (.iaload, 1) := by decide +kernel
theorem d_L_235 : decode code 235 = .ok (.aload_n 0, 1) := by decide +kernel
theorem d_L_236 : decode code 236 = .ok (.iload_n 3, 1) := by decide +kernel
theorem d_L_237 : decode code 237 = .ok (.iconst 2, 1) := by decide +kernel
theorem d_L_238 : decode code 238 = .ok (.iadd, 1) := by decide +kernel
theorem d_L_239 : decode code 239 = .ok (.iaload, 1) := by decide +kernel
theorem d_L_240 : decode code 240 = .ok (.aload_n 0, 1) := by decide +kernel
theorem d_L_241 : decode code 241 = .ok (.iload_n 3, 1) := by decide +kernel
theorem d_L_242 : decode code 242 = .ok (.iconst 3, 1) := by decide +kernel
theorem d_L_243 : decode code 243 = .ok (.iadd, 1) := by decide +kernel
theorem d_L_244 : decode code 244 = .ok (.iaload, 1) := by decide +kernel
theorem d_L_245 : decode code 245 = .ok (.invokevirtual 45, 3) := by decide +kernel
theorem d_L_248 : decode code 248 = .ok (.aload_n 2, 1) := by decide +kernel
theorem d_L_249 : decode code 249 = .ok (.aload_n 0, 1) := by decide +kernel
theorem d_L_250 : decode code 250 = .ok (.iload_n 3, 1) := by decide +kernel
theorem d_L_251 : decode code 251 = .ok (.iconst 1, 1) := by decide +kernel
theorem d_L_252 : decode code 252 = .ok (.iadd, 1) := by decide +kernel
theorem d_L_253 : decode code 253 = .ok (.iaload, 1) := by decide +kernel
theorem d_L_254 : decode code 254 = .ok (.aload_n 0, 1) := by decide +kernel
theorem d_L_255 : decode code 255 = .ok (.iload_n 3, 1) := by decide +kernel
theorem d_L_256 : decode code 256 = .ok (.iconst 2, 1) := by decide +kernel
theorem d_L_257 : decode code 257 = .ok (.iadd, 1) := by decide +kernel
theorem d_L_258 : decode code 258 = .ok (.iaload, 1) := by decide +kernel
theorem d_L_259 : decode code 259 = .ok (.aload_n 0, 1) := by decide +kernel
theorem d_L_260 : decode code 260 = .ok (.iload_n 3, 1) := by decide +kernel
theorem d_L_261 : decode code 261 = .ok (.iconst 3, 1) := by decide +kernel
theorem d_L_262 : decode code 262 = .ok (.iadd, 1) := by decide +kernel
theorem d_L_263 : decode code 263 = .ok (.iaload, 1) := by decide +kernel
theorem d_L_264 : decode code 264 = .ok (.invokevirtual 49, 3) := by decide +kernel
theorem d_L_267 : decode code 267 = .ok (.if_icmp .eq 117, 3) := by decide +kernel
theorem d_L_270 : decode code 270 = .ok (.iconst 0, 1) := by decide +kernel
theorem d_L_271 : decode code 271 = .ok (.ireturn, 1) := by decide +kernel
theorem d_L_272 : decode code 272 = .ok (.aload_n 1, 1) := by decide +kernel
theorem d_L_273 : decode code 273 = .ok (.aload_n 0, 1) := by decide +kernel
theorem d_L_274 : decode code 274 = .ok (.iload_n 3, 1) := by decide +kernel
theorem d_L_275 : decode code 275 = .ok (.iconst 1, 1) := by decide +kernel
theorem d_L_276 : decode code 276 = .ok (.iadd, 1) := by decide +kernel
theorem d_L_277 : decode code 277 = .ok (.iaload, 1) := by decide +kernel
theorem d_L_278 : decode code 278 = .ok (.aload_n 0, 1) := by decide +kernel
theorem d_L_279 : decode code 279 = .ok (.iload_n 3, 1) := by decide +kernel
theorem d_L_280 : decode code 280 = .ok (.iconst 2, 1) := by decide +kernel
theorem d_L_281 : decode code 281 = .ok (.iadd, 1) := by decide +kernel
theorem d_L_282 : decode code 282 = .ok (.iaload, 1) := by decide +kernel
theorem d_L_283 : decode code 283 = .ok (.invokevirtual 50, 3) := by decide +kernel
theorem d_L_286 : decode code 286 = .ok (.aload_n 2, 1) := by decide +kernel
theorem d_L_287 : decode code 287 = .ok (.aload_n 0, 1) := by decide +kernel
theorem d_L_288 : decode code 288 = .ok (.iload_n 3, 1) := by decide +kernel
theorem d_L_289 : decode code 289 = .ok (.iconst 1, 1) := by decide +kernel
theorem d_L_290 : decode code 290 = .ok (.iadd, 1) := by decide +kernel
theorem d_L_291 : decode code 291 = .ok (.iaload, 1) := by decide +kernel
theorem d_L_292 : decode code 292 = .ok (.aload_n 0, 1) := by decide +kernel
theorem d_L_293 : decode code 293 = .ok (.iload_n 3, 1) := by decide +kernel
theorem d_L_294 : decode code 294 = .ok (.iconst 2, 1) := by decide +kernel
theorem d_L_295 : decode code 295 = .ok (.iadd, 1) := by decide +kernel
theorem d_L_296 : decode code 296 = .ok (.iaload, 1) := by decide +kernel
theorem d_L_297 : decode code 297 = .ok (.invokevirtual 53, 3) := by decide +kernel
theorem d_L_300 : decode code 300 = .ok (.if_icmp .eq 84, 3) := by decide +kernel
theorem d_L_303 : decode code 303 = .ok (.iconst 0, 1) := by decide +kernel
theorem d_L_304 : decode code 304 = .ok (.ireturn, 1) := by decide +kernel
theorem d_L_305 : decode code 305 = .ok (.aload_n 1, 1) := by decide +kernel
theorem d_L_306 : decode code 306 = .ok (.aload_n 0, 1) := by decide +kernel
theorem d_L_307 : decode code 307 = .ok (.iload_n 3, 1) := by decide +kernel
theorem d_L_308 : decode code 308 = .ok (.iconst 1, 1) := by decide +kernel
theorem d_L_309 : decode code 309 = .ok (.iadd, 1) := by decide +kernel
theorem d_L_310 : decode code 310 = .ok (.iaload, 1) := by decide +kernel
theorem d_L_311 : decode code 311 = .ok (.invokevirtual 54, 3) := by decide +kernel
theorem d_L_314 : decode code 314 = .ok (.aload_n 2, 1) := by decide +kernel
theorem d_L_315 : decode code 315 = .ok (.aload_n 0, 1) := by decide +kernel
theorem d_L_316 : decode code 316 = .ok (.iload_n 3, 1) := by decide +kernel
theorem d_L_317 : decode code 317 = .ok (.iconst 1, 1) := by decide +kernel
theorem d_L_318 : decode code 318 = .ok (.iadd, 1) := by decide +kernel
theorem d_L_319 : decode code 319 = .ok (.iaload, 1) := by decide +kernel
theorem d_L_320 : decode code 320 = .ok (.invokevirtual 57, 3) := by decide +kernel
theorem d_L_323 : decode code 323 = .ok (.if_icmp .eq 61, 3) := by decide +kernel
theorem d_L_326 : decode code 326 = .ok (.iconst 0, 1) := by decide +kernel
theorem d_L_327 : decode code 327 = .ok (.ireturn, 1) := by decide +kernel
theorem d_L_328 : decode code 328 = .ok (.aload_n 1, 1) := by decide +kernel
theorem d_L_329 : decode code 329 = .ok (.invokevirtual 58, 3) := by decide +kernel
theorem d_L_332 : decode code 332 = .ok (.aload_n 2, 1) := by decide +kernel
theorem d_L_333 : decode code 333 = .ok (.invokevirtual 61, 3) := by decide +kernel
theorem d_L_336 : decode code 336 = .ok (.if_icmp .eq 48, 3) := by decide +kernel
theorem d_L_339 : decode code 339 = .ok (.iconst 0, 1) := by decide +kernel
theorem d_L_340 : decode code 340 = .ok (.ireturn, 1) := by decide +kernel
theorem d_L_341 : decode code 341 = .ok (.aload_n 1, 1) := by decide +kernel
theorem d_L_342 : decode code 342 = .ok (.aload_n 0, 1) := by decide +kernel
theorem d_L_343 : decode code 343 = .ok (.iload_n 3, 1) := by decide +kernel
theorem d_L_344 : decode code 344 = .ok (.iconst 1, 1) := by decide +kernel
theorem d_L_345 : decode code 345 = .ok (.iadd, 1) := by decide +kernel
theorem d_L_346 : decode code 346 = .ok (.iaload, 1) := by decide +kernel
theorem d_L_347 : decode code 347 = .ok (.aload_n 0, 1) := by decide +kernel
theorem d_L_348 : decode code 348 = .ok (.iload_n 3, 1) := by decide +kernel
theorem d_L_349 : decode code 349 = .ok (.iconst 2, 1) := by decide +kernel
theorem d_L_350 : decode code 350 = .ok (.iadd, 1) := by decide +kernel
theorem d_L_351 : decode code 351 = .ok (.iaload, 1) := by decide +kernel
theorem d_L_352 : decode code 352 = .ok (.aload_n 0, 1) := by decide +kernel
theorem d_L_353 : decode code 353 = .ok (.iload_n 3, 1) := by decide +kernel
theorem d_L_354 : decode code 354 = .ok (.iconst 3, 1) := by decide +kernel
theorem d_L_355 : decode code 355 = .ok (.iadd, 1) := by decide +kernel
theorem d_L_356 : decode code 356 = .ok (.iaload, 1) := by decide +kernel
theorem d_L_357 : decode code 357 = .ok (.invokevirtual 62, 3) := by decide +kernel
theorem d_L_360 : decode code 360 = .ok (.aload_n 2, 1) := by decide +kernel
theorem d_L_361 : decode code 361 = .ok (.aload_n 0, 1) := by decide +kernel
theorem d_L_362 : decode code 362 = .ok (.iload_n 3, 1) := by decide +kernel
theorem d_L_363 : decode code 363 = .ok (.iconst 1, 1) := by decide +kernel
theorem d_L_364 : decode code 364 = .ok (.iadd, 1) := by decide +kernel
theorem d_L_365 : decode code 365 = .ok (.iaload, 1) := by decide +kernel
theorem d_L_366 : decode code 366 = .ok (.aload_n 0, 1) := by decide +kernel
theorem d_L_367 : decode code 367 = .ok (.iload_n 3, 1) := by decide +kernel
theorem d_L_368 : decode code 368 = .ok (.iconst 2, 1) := by decide +kernel
theorem d_L_369 : decode code 369 = .ok (.iadd, 1) := by decide +kernel
theorem d_L_370 : decode code 370 = .ok (.iaload, 1) := by decide +kernel
theorem d_L_371 : decode code 371 = .ok (.aload_n 0, 1) := by decide +kernel
theorem d_L_372 : decode code 372 = .ok (.iload_n 3, 1) := by decide +kernel
theorem d_L_373 : decode code 373 = .ok (.iconst 3, 1) := by decide +kernel
theorem d_L_374 : decode code 374 = .ok (.iadd, 1) := by decide +kernel
theorem d_L_375 : decode code 375 = .ok (.iaload, 1) := by decide +kernel
theorem d_L_376 : decode code 376 = .ok (.invokevirtual 65, 3) := by decide +kernel
theorem d_L_379 : decode code 379 = .ok (.if_icmp .eq 5, 3) := by decide +kernel
theorem d_L_382 : decode code 382 = .ok (.iconst 0, 1) := by decide +kernel
theorem d_L_383 : decode code 383 = .ok (.ireturn, 1) := by decide +kernel
theorem d_L_384 : decode code 384 = .ok (.iinc 3 4, 3) := by decide +kernel
theorem d_L_387 : decode code 387 = .ok (.goto (-369), 3) := by decide +kernel
theorem d_L_390 : decode code 390 = .ok (.iconst 1, 1) := by decide +kernel
theorem d_L_391 : decode code 391 = .ok (.ireturn, 1) := by decide +kernel
def jz_S0 : jx_S := (fun k => match k with | 0 => -1 | 2 => -1 | _ => 0, fun _ _ => 0, fun _ _ => 0)
def jz_T0 : jx_S := (fun k => match k with | 2 => -1 | 9 => -1 | _ => 0, fun _ _ => 0, fun _ _ => 0)
/-- what the law asks of a relation between the two states -/
def jz_Good (Rel : jx_S → jx_S → Prop) : Prop := Rel jz_S0 jz_T0 ∧ ∀ S T, Rel S T →
  (∀ x : Int32, ∃ r S' T', f_P_write S ((x.toUInt32 % 65536).toInt32) = some (r, S') ∧ f_M_write T ((x.toUInt32 % 65536).toInt32) = some (r, T') ∧ Rel S' T') ∧
  (∃ r S' T', f_P_decide S = some (r, S') ∧ f_M_decide T = some (r, T') ∧ Rel S' T') ∧
  (∃ r, f_P_place S = some r ∧ f_M_place T = some r) ∧
  (∃ r, f_P_polynomials S = some r ∧ f_M_polynomials T = some r) ∧
  (∀ a b, ∃ r, f_P_coefficient S a b = some r ∧ f_M_coefficient T a b = some r) ∧
  (∃ r, f_P_columns S = some r ∧ f_M_columns T = some r) ∧
  (∀ a, ∃ r S' T', f_P_cells S a = some (r, S') ∧ f_M_cells T a = some (r, T') ∧ Rel S' T') ∧
  (∀ a b c, ∃ r S' T', f_P_sign S a b c = some (r, S') ∧ f_M_sign T a b c = some (r, T') ∧ Rel S' T') ∧
  (∀ a b, ∃ r S' T', f_P_truth S a b = some (r, S') ∧ f_M_truth T a b = some (r, T') ∧ Rel S' T') ∧
  (∀ a, ∃ r S' T', f_P_holds S a = some (r, S') ∧ f_M_holds T a = some (r, T') ∧ Rel S' T') ∧
  (∃ r T', f_P_witness S = some r ∧ f_M_witness T = some (r, T') ∧ Rel S T') ∧
  (∀ a b c, ∃ r, f_P_compare S a b c = some r ∧ f_M_compare T a b c = some r)
section JLR
variable {G : jx_G} {X : jx_C} {cc : ByteArray} {own : String} {nL : Nat} {R : Room} {Q : State → Prop} {k n0 : Nat} {w : va_W} {pc : Nat} {L : List (Nat × Value)} {st : List Value}
theorem jc_sld (hX : jc_Ok G X cc own nL R) {b N : Nat} {xs : Nat → Int32} (hx : va_X b N xs (jx_s X) (jx_s X).heap) (hb : b < (jx_s X).heap.size) (hbA : ¬ jx_A X b) {i : Int32} (hin : vp_in i N) (hd : decode cc pc = .ok (.iaload, 1)) (kk : jc_At G X Q k n0 w (pc + 1) L (.int (xs i.toNatClampNeg) :: st)) : jc_At G X Q k n0 w pc L (.int i :: .ref b :: st) :=
  fun H locs ls hP hD hS hl => va_sld hX.1 hX.2.1 hx hb hbA hS hin hd (kk H locs ls hP hD hS hl)
theorem jc_slen (hX : jc_Ok G X cc own nL R) {b N : Nat} {xs : Nat → Int32} (hx : va_X b N xs (jx_s X) (jx_s X).heap) (hb : b < (jx_s X).heap.size) (hbA : ¬ jx_A X b) (hd : decode cc pc = .ok (.arraylength, 1)) (kk : jc_At G X Q k n0 w (pc + 1) L (.int (Int32.ofNat N) :: st)) : jc_At G X Q k n0 w pc L (.ref b :: st) :=
  fun H locs ls hP hD hS hl => va_slen hX.1 hX.2.1 hx hb hbA hS hd (kk H locs ls hP hD hS hl)
end JLR
theorem jl_in {j N k : Nat} {v : Int32} (hv : v = nI k) (hk : k < 4) (h : 4 * j + 4 ≤ N) (hN : N ≤ 2048) : vp_in (nI (4 * j) + v) N := by
  subst hv
  rw [nI_add]
  exact vp_in_nI (by omega) (by omega)
theorem jl_in0 {j N : Nat} (h : 4 * j + 4 ≤ N) (hN : N ≤ 2048) : vp_in (nI (4 * j)) N := vp_in_nI (by omega) (by omega)
theorem jl_gt {j N : Nat} (hN : N ≤ 2048) (hj : 4 * j ≤ N) (h : ¬ (Int32.ofNat N - 4 < nI (4 * j))) : 4 * j + 4 ≤ N := by
  have e : (Int32.ofNat N - 4).toInt = (N : Int) - 4 := pk_sub_toInt (a := N) (b := 4) (by omega) (by omega)
  rw [Int32.lt_iff_toInt_lt, e, nI_toInt (by omega)] at h
  omega
set_option maxHeartbeats 4000000 in
set_option maxRecDepth 100000 in
theorem jl_loop {G : jx_G} {X : jx_C} {Q : State → Prop} {Rel : jx_S → jx_S → Prop} (HR : jz_Good Rel) (hX : jc_Ok G X code "PlaneCellsLaw" 4 room_1) {b N : Nat} {xs : Nat → Int32} (hN : N ≤ 2048) (hx : va_X b N xs (jx_s X) (jx_s X).heap) (hb : b < (jx_s X).heap.size) (hbA : ¬ jx_A X b) (hend : ∀ w L, jc_At G X Q 32 1391 w 391 L [.int 1]) : ∀ (f j : Nat) (S T : jx_S), 4 * j ≤ N → N + 1 ≤ 4 * j + f → Rel S T → jc_At G X Q 32 1391 (jx_w G S ++ jr_w G T) 18 [(0, .ref b), (1, .ref (jx_ad G 0)), (2, .ref (jx_ad G 18)), (3, .int (nI (4 * j)))] [] := by
  intro f
  induction f with
  | zero => intro j S T h1 h2; omega
  | succ f ih0 =>
    intro j S T hj hf hR
    have ih : ∀ (j2 : Nat) (S T : jx_S), 4 * j2 ≤ N → N + 1 ≤ 4 * j2 + f → Rel S T → jc_At G X Q 32 1391 (jx_w G S ++ jr_w G T) 18 [(0, .ref b), (1, .ref (jx_ad G 0)), (2, .ref (jx_ad G 18)), (3, .int (nI (4 * j2)))] [] := fun j2 S T a b c => ih0 j2 S T a b c
    refine jc_iload_n hX d_L_18 3 rfl rfl ?_
    refine jc_aload_n hX d_L_19 0 rfl rfl ?_
    refine jc_slen hX hx hb hbA d_L_20 ?_
    refine jc_iconst (v := 4) hX d_L_21 (by decide) ?_
    refine jc_isub hX d_L_22 ?_
    refine jc_icmp_gt hX d_L_23 rfl (fun hc => ?_) (fun hc => ?_)
    · refine jc_iconst (v := 1) hX d_L_390 (by decide) ?_
      exact hend _ _
    · have h4 := jl_gt hN hj hc
      refine jc_aload_n hX d_L_26 0 rfl rfl ?_
      refine jc_iload_n hX d_L_27 3 rfl rfl ?_
      refine jc_sld hX hx hb hbA (jl_in0 h4 hN) d_L_28 ?_
      refine jc_bipush (v := 15) hX d_L_29 (by decide) ?_
      refine jc_iand hX d_L_31 ?_
      obtain ⟨t, ht, et⟩ := pk_andE (xs (nI (4 * j)).toNatClampNeg) (m := 15) 4 rfl
      rw [et]
      obtain ⟨gW, gD, gP, gO, gC, gN, gL, gS, gT, gH, gI, gM⟩ := HR.2 S T hR
      have nxt : ∀ S2 T2, Rel S2 T2 → jc_At G X Q 32 1391 (jx_w G S2 ++ jr_w G T2) 384 [(0, .ref b), (1, .ref (jx_ad G 0)), (2, .ref (jx_ad G 18)), (3, .int (nI (4 * j)))] [] := by
        intro S2 T2 hR2
        refine jc_iinc (v := nI (4 * (j + 1))) hX d_L_384 3 rfl (by rw [show (4 * (j + 1)) = 4 * j + 4 by omega, ← nI_add]; rfl) (by decide) (L2 := [(3, .int (nI (4 * (j + 1)))), (0, .ref b), (1, .ref (jx_ad G 0)), (2, .ref (jx_ad G 18))]) rfl ?_
        refine jc_goto hX d_L_387 rfl ?_
        refine jc_sub (L2 := [(0, .ref b), (1, .ref (jx_ad G 0)), (2, .ref (jx_ad G 18)), (3, .int (nI (4 * (j + 1))))]) [1, 2, 3, 0] rfl ?_
        exact ih (j + 1) S2 T2 (by omega) (by omega) hR2
      rcases (show t = 0 ∨ t = 1 ∨ t = 2 ∨ t = 3 ∨ t = 4 ∨ t = 5 ∨ t = 6 ∨ t = 7 ∨ t = 8 ∨ t = 9 ∨ t = 10 ∨ t = 11 ∨ t = 12 ∨ t = 13 ∨ t = 14 ∨ t = 15 by omega) with rfl | rfl | rfl | rfl | rfl | rfl | rfl | rfl | rfl | rfl | rfl | rfl | rfl | rfl | rfl | rfl
      · refine jc_tin hX d_L_32 (j := 0) (by decide) (by decide) (by decide) rfl rfl ?_
        obtain ⟨r, S2, T2, e1, e2, hR2⟩ := gW (xs (nI (4 * j) + 1).toNatClampNeg)
        refine jc_aload_n hX d_L_96 1 rfl rfl ?_
        refine jc_aload_n hX d_L_97 0 rfl rfl ?_
        refine jc_iload_n hX d_L_98 3 rfl rfl ?_
        refine jc_iconst (v := 1) hX d_L_99 (by decide) ?_
        refine jc_iadd hX d_L_100 ?_
        refine jc_sld hX hx hb hbA (jl_in (k := 1) rfl (by decide) h4 hN) d_L_101 ?_
        refine jc_i2c hX d_L_102 rfl ?_
        refine jc_callV (n := 1) (wc := jx_w G S) (wr := jr_w G T) (fin1 := (some (.int r), jx_w G S2)) (As := [.int (((xs (nI (4 * j) + 1).toNatClampNeg).toUInt32 % 65536).toInt32)]) hX (c_P_write (jx_l X) G S (((xs (nI (4 * j) + 1).toNatClampNeg).toUInt32 % 65536).toInt32) (r, S2) e1) wm_182 wm_1 wm_179 wm_180 wm_181 (by decide) 0 rfl rfl rfl rfl d_L_103 (by decide) (by decide) (Nat.le_of_ble_eq_true rfl) ?_
        refine jc_aload_n hX d_L_106 2 rfl rfl ?_
        refine jc_aload_n hX d_L_107 0 rfl rfl ?_
        refine jc_iload_n hX d_L_108 3 rfl rfl ?_
        refine jc_iconst (v := 1) hX d_L_109 (by decide) ?_
        refine jc_iadd hX d_L_110 ?_
        refine jc_sld hX hx hb hbA (jl_in (k := 1) rfl (by decide) h4 hN) d_L_111 ?_
        refine jc_i2c hX d_L_112 rfl ?_
        refine jc_callV (n := 1) (wc := jr_w G T) (wr := jx_w G S2) (fin1 := (some (.int r), jr_w G T2)) (As := [.int (((xs (nI (4 * j) + 1).toNatClampNeg).toUInt32 % 65536).toInt32)]) hX (c_M_write (jx_l X) G T (((xs (nI (4 * j) + 1).toNatClampNeg).toUInt32 % 65536).toInt32) (r, T2) e2) wm_526 wm_7 wm_523 wm_524 wm_525 (by decide) 0 rfl rfl rfl rfl d_L_113 (by decide) (by decide) (Nat.le_of_ble_eq_true rfl) ?_
        refine jc_icmp_eq hX d_L_116 rfl (fun _ => ?_) (fun hn => absurd rfl hn)
        exact nxt S2 T2 hR2
      · refine jc_tin hX d_L_32 (j := 1) (by decide) (by decide) (by decide) rfl rfl ?_
        obtain ⟨r, S2, T2, e1, e2, hR2⟩ := gD 
        refine jc_aload_n hX d_L_121 1 rfl rfl ?_
        refine jc_callV (n := 0) (wc := jx_w G S) (wr := jr_w G T) (fin1 := (some (.int r), jx_w G S2)) (As := []) hX (c_P_decide (jx_l X) G S  (r, S2) e1) wm_190 wm_1 wm_187 wm_188 wm_189 (by decide) 0 rfl rfl rfl rfl d_L_122 (by decide) (by decide) (Nat.le_of_ble_eq_true rfl) ?_
        refine jc_aload_n hX d_L_125 2 rfl rfl ?_
        refine jc_callV (n := 0) (wc := jr_w G T) (wr := jx_w G S2) (fin1 := (some (.int r), jr_w G T2)) (As := []) hX (c_M_decide (jx_l X) G T  (r, T2) e2) wm_530 wm_7 wm_527 wm_528 wm_529 (by decide) 0 rfl rfl rfl rfl d_L_126 (by decide) (by decide) (Nat.le_of_ble_eq_true rfl) ?_
        refine jc_icmp_eq hX d_L_129 rfl (fun _ => ?_) (fun hn => absurd rfl hn)
        exact nxt S2 T2 hR2
      · refine jc_tin hX d_L_32 (j := 2) (by decide) (by decide) (by decide) rfl rfl ?_
        obtain ⟨r, e1, e2⟩ := gP 
        refine jc_aload_n hX d_L_134 1 rfl rfl ?_
        refine jc_callV (n := 0) (wc := jx_w G S) (wr := jr_w G T) (fin1 := (some (.int r), jx_w G S)) (As := []) hX (c_P_place (jx_l X) G S  r e1) wm_382 wm_1 wm_379 wm_380 wm_381 (by decide) 0 rfl rfl rfl rfl d_L_135 (by decide) (by decide) (Nat.le_of_ble_eq_true rfl) ?_
        refine jc_aload_n hX d_L_138 2 rfl rfl ?_
        refine jc_callV (n := 0) (wc := jr_w G T) (wr := jx_w G S) (fin1 := (some (.int r), jr_w G T)) (As := []) hX (c_M_place (jx_l X) G T  r e2) wm_665 wm_7 wm_662 wm_663 wm_664 (by decide) 0 rfl rfl rfl rfl d_L_139 (by decide) (by decide) (Nat.le_of_ble_eq_true rfl) ?_
        refine jc_icmp_eq hX d_L_142 rfl (fun _ => ?_) (fun hn => absurd rfl hn)
        exact nxt S T hR
      · refine jc_tin hX d_L_32 (j := 3) (by decide) (by decide) (by decide) rfl rfl ?_
        obtain ⟨r, e1, e2⟩ := gO 
        refine jc_aload_n hX d_L_147 1 rfl rfl ?_
        refine jc_callV (n := 0) (wc := jx_w G S) (wr := jr_w G T) (fin1 := (some (.int r), jx_w G S)) (As := []) hX (c_P_polynomials (jx_l X) G S  r e1) wm_386 wm_1 wm_383 wm_384 wm_385 (by decide) 0 rfl rfl rfl rfl d_L_148 (by decide) (by decide) (Nat.le_of_ble_eq_true rfl) ?_
        refine jc_aload_n hX d_L_151 2 rfl rfl ?_
        refine jc_callV (n := 0) (wc := jr_w G T) (wr := jx_w G S) (fin1 := (some (.int r), jr_w G T)) (As := []) hX (c_M_polynomials (jx_l X) G T  r e2) wm_669 wm_7 wm_666 wm_667 wm_668 (by decide) 0 rfl rfl rfl rfl d_L_152 (by decide) (by decide) (Nat.le_of_ble_eq_true rfl) ?_
        refine jc_icmp_eq hX d_L_155 rfl (fun _ => ?_) (fun hn => absurd rfl hn)
        exact nxt S T hR
      · refine jc_tin hX d_L_32 (j := 4) (by decide) (by decide) (by decide) rfl rfl ?_
        obtain ⟨r, e1, e2⟩ := gC (xs (nI (4 * j) + 1).toNatClampNeg) (xs (nI (4 * j) + 2).toNatClampNeg)
        refine jc_aload_n hX d_L_160 1 rfl rfl ?_
        refine jc_aload_n hX d_L_161 0 rfl rfl ?_
        refine jc_iload_n hX d_L_162 3 rfl rfl ?_
        refine jc_iconst (v := 1) hX d_L_163 (by decide) ?_
        refine jc_iadd hX d_L_164 ?_
        refine jc_sld hX hx hb hbA (jl_in (k := 1) rfl (by decide) h4 hN) d_L_165 ?_
        refine jc_aload_n hX d_L_166 0 rfl rfl ?_
        refine jc_iload_n hX d_L_167 3 rfl rfl ?_
        refine jc_iconst (v := 2) hX d_L_168 (by decide) ?_
        refine jc_iadd hX d_L_169 ?_
        refine jc_sld hX hx hb hbA (jl_in (k := 2) rfl (by decide) h4 hN) d_L_170 ?_
        refine jc_callV (n := 2) (wc := jx_w G S) (wr := jr_w G T) (fin1 := (some (.int r), jx_w G S)) (As := [.int (xs (nI (4 * j) + 1).toNatClampNeg), .int (xs (nI (4 * j) + 2).toNatClampNeg)]) hX (c_P_coefficient (jx_l X) G S (xs (nI (4 * j) + 1).toNatClampNeg) (xs (nI (4 * j) + 2).toNatClampNeg) r e1) wm_390 wm_1 wm_387 wm_388 wm_389 (by decide) 0 rfl rfl rfl rfl d_L_171 (by decide) (by decide) (Nat.le_of_ble_eq_true rfl) ?_
        refine jc_aload_n hX d_L_174 2 rfl rfl ?_
        refine jc_aload_n hX d_L_175 0 rfl rfl ?_
        refine jc_iload_n hX d_L_176 3 rfl rfl ?_
        refine jc_iconst (v := 1) hX d_L_177 (by decide) ?_
        refine jc_iadd hX d_L_178 ?_
        refine jc_sld hX hx hb hbA (jl_in (k := 1) rfl (by decide) h4 hN) d_L_179 ?_
        refine jc_aload_n hX d_L_180 0 rfl rfl ?_
        refine jc_iload_n hX d_L_181 3 rfl rfl ?_
        refine jc_iconst (v := 2) hX d_L_182 (by decide) ?_
        refine jc_iadd hX d_L_183 ?_
        refine jc_sld hX hx hb hbA (jl_in (k := 2) rfl (by decide) h4 hN) d_L_184 ?_
        refine jc_callV (n := 2) (wc := jr_w G T) (wr := jx_w G S) (fin1 := (some (.int r), jr_w G T)) (As := [.int (xs (nI (4 * j) + 1).toNatClampNeg), .int (xs (nI (4 * j) + 2).toNatClampNeg)]) hX (c_M_coefficient (jx_l X) G T (xs (nI (4 * j) + 1).toNatClampNeg) (xs (nI (4 * j) + 2).toNatClampNeg) r e2) wm_673 wm_7 wm_670 wm_671 wm_672 (by decide) 0 rfl rfl rfl rfl d_L_185 (by decide) (by decide) (Nat.le_of_ble_eq_true rfl) ?_
        refine jc_icmp_eq hX d_L_188 rfl (fun _ => ?_) (fun hn => absurd rfl hn)
        exact nxt S T hR
      · refine jc_tin hX d_L_32 (j := 5) (by decide) (by decide) (by decide) rfl rfl ?_
        obtain ⟨r, e1, e2⟩ := gN 
        refine jc_aload_n hX d_L_193 1 rfl rfl ?_
        refine jc_callV (n := 0) (wc := jx_w G S) (wr := jr_w G T) (fin1 := (some (.int r), jx_w G S)) (As := []) hX (c_P_columns (jx_l X) G S  r e1) wm_399 wm_1 wm_396 wm_397 wm_398 (by decide) 0 rfl rfl rfl rfl d_L_194 (by decide) (by decide) (Nat.le_of_ble_eq_true rfl) ?_
        refine jc_aload_n hX d_L_197 2 rfl rfl ?_
        refine jc_callV (n := 0) (wc := jr_w G T) (wr := jx_w G S) (fin1 := (some (.int r), jr_w G T)) (As := []) hX (c_M_columns (jx_l X) G T  r e2) wm_677 wm_7 wm_674 wm_675 wm_676 (by decide) 0 rfl rfl rfl rfl d_L_198 (by decide) (by decide) (Nat.le_of_ble_eq_true rfl) ?_
        refine jc_icmp_eq hX d_L_201 rfl (fun _ => ?_) (fun hn => absurd rfl hn)
        exact nxt S T hR
      · refine jc_tin hX d_L_32 (j := 6) (by decide) (by decide) (by decide) rfl rfl ?_
        obtain ⟨r, S2, T2, e1, e2, hR2⟩ := gL (xs (nI (4 * j) + 1).toNatClampNeg)
        refine jc_aload_n hX d_L_206 1 rfl rfl ?_
        refine jc_aload_n hX d_L_207 0 rfl rfl ?_
        refine jc_iload_n hX d_L_208 3 rfl rfl ?_
        refine jc_iconst (v := 1) hX d_L_209 (by decide) ?_
        refine jc_iadd hX d_L_210 ?_
        refine jc_sld hX hx hb hbA (jl_in (k := 1) rfl (by decide) h4 hN) d_L_211 ?_
        refine jc_callV (n := 1) (wc := jx_w G S) (wr := jr_w G T) (fin1 := (some (.int r), jx_w G S2)) (As := [.int (xs (nI (4 * j) + 1).toNatClampNeg)]) hX (c_P_cells (jx_l X) G S (xs (nI (4 * j) + 1).toNatClampNeg) (r, S2) e1) wm_403 wm_1 wm_400 wm_401 wm_402 (by decide) 0 rfl rfl rfl rfl d_L_212 (by decide) (by decide) (Nat.le_of_ble_eq_true rfl) ?_
        refine jc_aload_n hX d_L_215 2 rfl rfl ?_
        refine jc_aload_n hX d_L_216 0 rfl rfl ?_
        refine jc_iload_n hX d_L_217 3 rfl rfl ?_
        refine jc_iconst (v := 1) hX d_L_218 (by decide) ?_
        refine jc_iadd hX d_L_219 ?_
        refine jc_sld hX hx hb hbA (jl_in (k := 1) rfl (by decide) h4 hN) d_L_220 ?_
        refine jc_callV (n := 1) (wc := jr_w G T) (wr := jx_w G S2) (fin1 := (some (.int r), jr_w G T2)) (As := [.int (xs (nI (4 * j) + 1).toNatClampNeg)]) hX (c_M_cells (jx_l X) G T (xs (nI (4 * j) + 1).toNatClampNeg) (r, T2) e2) wm_681 wm_7 wm_678 wm_679 wm_680 (by decide) 0 rfl rfl rfl rfl d_L_221 (by decide) (by decide) (Nat.le_of_ble_eq_true rfl) ?_
        refine jc_icmp_eq hX d_L_224 rfl (fun _ => ?_) (fun hn => absurd rfl hn)
        exact nxt S2 T2 hR2
      · refine jc_tin hX d_L_32 (j := 7) (by decide) (by decide) (by decide) rfl rfl ?_
        obtain ⟨r, S2, T2, e1, e2, hR2⟩ := gS (xs (nI (4 * j) + 1).toNatClampNeg) (xs (nI (4 * j) + 2).toNatClampNeg) (xs (nI (4 * j) + 3).toNatClampNeg)
        refine jc_aload_n hX d_L_229 1 rfl rfl ?_
        refine jc_aload_n hX d_L_230 0 rfl rfl ?_
        refine jc_iload_n hX d_L_231 3 rfl rfl ?_
        refine jc_iconst (v := 1) hX d_L_232 (by decide) ?_
        refine jc_iadd hX d_L_233 ?_
        refine jc_sld hX hx hb hbA (jl_in (k := 1) rfl (by decide) h4 hN) d_L_234 ?_
        refine jc_aload_n hX d_L_235 0 rfl rfl ?_
        refine jc_iload_n hX d_L_236 3 rfl rfl ?_
        refine jc_iconst (v := 2) hX d_L_237 (by decide) ?_
        refine jc_iadd hX d_L_238 ?_
        refine jc_sld hX hx hb hbA (jl_in (k := 2) rfl (by decide) h4 hN) d_L_239 ?_
        refine jc_aload_n hX d_L_240 0 rfl rfl ?_
        refine jc_iload_n hX d_L_241 3 rfl rfl ?_
        refine jc_iconst (v := 3) hX d_L_242 (by decide) ?_
        refine jc_iadd hX d_L_243 ?_
        refine jc_sld hX hx hb hbA (jl_in (k := 3) rfl (by decide) h4 hN) d_L_244 ?_
        refine jc_callV (n := 3) (wc := jx_w G S) (wr := jr_w G T) (fin1 := (some (.int r), jx_w G S2)) (As := [.int (xs (nI (4 * j) + 1).toNatClampNeg), .int (xs (nI (4 * j) + 2).toNatClampNeg), .int (xs (nI (4 * j) + 3).toNatClampNeg)]) hX (c_P_sign (jx_l X) G S (xs (nI (4 * j) + 1).toNatClampNeg) (xs (nI (4 * j) + 2).toNatClampNeg) (xs (nI (4 * j) + 3).toNatClampNeg) (r, S2) e1) wm_415 wm_1 wm_412 wm_413 wm_414 (by decide) 0 rfl rfl rfl rfl d_L_245 (by decide) (by decide) (Nat.le_of_ble_eq_true rfl) ?_
        refine jc_aload_n hX d_L_248 2 rfl rfl ?_
        refine jc_aload_n hX d_L_249 0 rfl rfl ?_
        refine jc_iload_n hX d_L_250 3 rfl rfl ?_
        refine jc_iconst (v := 1) hX d_L_251 (by decide) ?_
        refine jc_iadd hX d_L_252 ?_
        refine jc_sld hX hx hb hbA (jl_in (k := 1) rfl (by decide) h4 hN) d_L_253 ?_
        refine jc_aload_n hX d_L_254 0 rfl rfl ?_
        refine jc_iload_n hX d_L_255 3 rfl rfl ?_
        refine jc_iconst (v := 2) hX d_L_256 (by decide) ?_
        refine jc_iadd hX d_L_257 ?_
        refine jc_sld hX hx hb hbA (jl_in (k := 2) rfl (by decide) h4 hN) d_L_258 ?_
        refine jc_aload_n hX d_L_259 0 rfl rfl ?_
        refine jc_iload_n hX d_L_260 3 rfl rfl ?_
        refine jc_iconst (v := 3) hX d_L_261 (by decide) ?_
        refine jc_iadd hX d_L_262 ?_
        refine jc_sld hX hx hb hbA (jl_in (k := 3) rfl (by decide) h4 hN) d_L_263 ?_
        refine jc_callV (n := 3) (wc := jr_w G T) (wr := jx_w G S2) (fin1 := (some (.int r), jr_w G T2)) (As := [.int (xs (nI (4 * j) + 1).toNatClampNeg), .int (xs (nI (4 * j) + 2).toNatClampNeg), .int (xs (nI (4 * j) + 3).toNatClampNeg)]) hX (c_M_sign (jx_l X) G T (xs (nI (4 * j) + 1).toNatClampNeg) (xs (nI (4 * j) + 2).toNatClampNeg) (xs (nI (4 * j) + 3).toNatClampNeg) (r, T2) e2) wm_689 wm_7 wm_686 wm_687 wm_688 (by decide) 0 rfl rfl rfl rfl d_L_264 (by decide) (by decide) (Nat.le_of_ble_eq_true rfl) ?_
        refine jc_icmp_eq hX d_L_267 rfl (fun _ => ?_) (fun hn => absurd rfl hn)
        exact nxt S2 T2 hR2
      · refine jc_tin hX d_L_32 (j := 8) (by decide) (by decide) (by decide) rfl rfl ?_
        obtain ⟨r, S2, T2, e1, e2, hR2⟩ := gT (xs (nI (4 * j) + 1).toNatClampNeg) (xs (nI (4 * j) + 2).toNatClampNeg)
        refine jc_aload_n hX d_L_272 1 rfl rfl ?_
        refine jc_aload_n hX d_L_273 0 rfl rfl ?_
        refine jc_iload_n hX d_L_274 3 rfl rfl ?_
        refine jc_iconst (v := 1) hX d_L_275 (by decide) ?_
        refine jc_iadd hX d_L_276 ?_
        refine jc_sld hX hx hb hbA (jl_in (k := 1) rfl (by decide) h4 hN) d_L_277 ?_
        refine jc_aload_n hX d_L_278 0 rfl rfl ?_
        refine jc_iload_n hX d_L_279 3 rfl rfl ?_
        refine jc_iconst (v := 2) hX d_L_280 (by decide) ?_
        refine jc_iadd hX d_L_281 ?_
        refine jc_sld hX hx hb hbA (jl_in (k := 2) rfl (by decide) h4 hN) d_L_282 ?_
        refine jc_callV (n := 2) (wc := jx_w G S) (wr := jr_w G T) (fin1 := (some (.int r), jx_w G S2)) (As := [.int (xs (nI (4 * j) + 1).toNatClampNeg), .int (xs (nI (4 * j) + 2).toNatClampNeg)]) hX (c_P_truth (jx_l X) G S (xs (nI (4 * j) + 1).toNatClampNeg) (xs (nI (4 * j) + 2).toNatClampNeg) (r, S2) e1) wm_424 wm_1 wm_421 wm_422 wm_423 (by decide) 0 rfl rfl rfl rfl d_L_283 (by decide) (by decide) (Nat.le_of_ble_eq_true rfl) ?_
        refine jc_aload_n hX d_L_286 2 rfl rfl ?_
        refine jc_aload_n hX d_L_287 0 rfl rfl ?_
        refine jc_iload_n hX d_L_288 3 rfl rfl ?_
        refine jc_iconst (v := 1) hX d_L_289 (by decide) ?_
        refine jc_iadd hX d_L_290 ?_
        refine jc_sld hX hx hb hbA (jl_in (k := 1) rfl (by decide) h4 hN) d_L_291 ?_
        refine jc_aload_n hX d_L_292 0 rfl rfl ?_
        refine jc_iload_n hX d_L_293 3 rfl rfl ?_
        refine jc_iconst (v := 2) hX d_L_294 (by decide) ?_
        refine jc_iadd hX d_L_295 ?_
        refine jc_sld hX hx hb hbA (jl_in (k := 2) rfl (by decide) h4 hN) d_L_296 ?_
        refine jc_callV (n := 2) (wc := jr_w G T) (wr := jx_w G S2) (fin1 := (some (.int r), jr_w G T2)) (As := [.int (xs (nI (4 * j) + 1).toNatClampNeg), .int (xs (nI (4 * j) + 2).toNatClampNeg)]) hX (c_M_truth (jx_l X) G T (xs (nI (4 * j) + 1).toNatClampNeg) (xs (nI (4 * j) + 2).toNatClampNeg) (r, T2) e2) wm_697 wm_7 wm_694 wm_695 wm_696 (by decide) 0 rfl rfl rfl rfl d_L_297 (by decide) (by decide) (Nat.le_of_ble_eq_true rfl) ?_
        refine jc_icmp_eq hX d_L_300 rfl (fun _ => ?_) (fun hn => absurd rfl hn)
        exact nxt S2 T2 hR2
      · refine jc_tin hX d_L_32 (j := 9) (by decide) (by decide) (by decide) rfl rfl ?_
        obtain ⟨r, S2, T2, e1, e2, hR2⟩ := gH (xs (nI (4 * j) + 1).toNatClampNeg)
        refine jc_aload_n hX d_L_305 1 rfl rfl ?_
        refine jc_aload_n hX d_L_306 0 rfl rfl ?_
        refine jc_iload_n hX d_L_307 3 rfl rfl ?_
        refine jc_iconst (v := 1) hX d_L_308 (by decide) ?_
        refine jc_iadd hX d_L_309 ?_
        refine jc_sld hX hx hb hbA (jl_in (k := 1) rfl (by decide) h4 hN) d_L_310 ?_
        refine jc_callV (n := 1) (wc := jx_w G S) (wr := jr_w G T) (fin1 := (some (.int r), jx_w G S2)) (As := [.int (xs (nI (4 * j) + 1).toNatClampNeg)]) hX (c_P_holds (jx_l X) G S (xs (nI (4 * j) + 1).toNatClampNeg) (r, S2) e1) wm_429 wm_1 wm_426 wm_427 wm_428 (by decide) 0 rfl rfl rfl rfl d_L_311 (by decide) (by decide) (Nat.le_of_ble_eq_true rfl) ?_
        refine jc_aload_n hX d_L_314 2 rfl rfl ?_
        refine jc_aload_n hX d_L_315 0 rfl rfl ?_
        refine jc_iload_n hX d_L_316 3 rfl rfl ?_
        refine jc_iconst (v := 1) hX d_L_317 (by decide) ?_
        refine jc_iadd hX d_L_318 ?_
        refine jc_sld hX hx hb hbA (jl_in (k := 1) rfl (by decide) h4 hN) d_L_319 ?_
        refine jc_callV (n := 1) (wc := jr_w G T) (wr := jx_w G S2) (fin1 := (some (.int r), jr_w G T2)) (As := [.int (xs (nI (4 * j) + 1).toNatClampNeg)]) hX (c_M_holds (jx_l X) G T (xs (nI (4 * j) + 1).toNatClampNeg) (r, T2) e2) wm_701 wm_7 wm_698 wm_699 wm_700 (by decide) 0 rfl rfl rfl rfl d_L_320 (by decide) (by decide) (Nat.le_of_ble_eq_true rfl) ?_
        refine jc_icmp_eq hX d_L_323 rfl (fun _ => ?_) (fun hn => absurd rfl hn)
        exact nxt S2 T2 hR2
      · refine jc_tin hX d_L_32 (j := 10) (by decide) (by decide) (by decide) rfl rfl ?_
        obtain ⟨r, T2, e1, e2, hR2⟩ := gI
        refine jc_aload_n hX d_L_328 1 rfl rfl ?_
        refine jc_callV (n := 0) (wc := jx_w G S) (wr := jr_w G T) (fin1 := (some (.int r), jx_w G S)) (As := []) hX (c_P_witness (jx_l X) G S  r e1) wm_433 wm_1 wm_430 wm_431 wm_432 (by decide) 0 rfl rfl rfl rfl d_L_329 (by decide) (by decide) (Nat.le_of_ble_eq_true rfl) ?_
        refine jc_aload_n hX d_L_332 2 rfl rfl ?_
        refine jc_callV (n := 0) (wc := jr_w G T) (wr := jx_w G S) (fin1 := (some (.int r), jr_w G T2)) (As := []) hX (c_M_witness (jx_l X) G T  (r, T2) e2) wm_705 wm_7 wm_702 wm_703 wm_704 (by decide) 0 rfl rfl rfl rfl d_L_333 (by decide) (by decide) (Nat.le_of_ble_eq_true rfl) ?_
        refine jc_icmp_eq hX d_L_336 rfl (fun _ => ?_) (fun hn => absurd rfl hn)
        exact nxt S T2 hR2
      · refine jc_tin hX d_L_32 (j := 11) (by decide) (by decide) (by decide) rfl rfl ?_
        obtain ⟨r, e1, e2⟩ := gM (xs (nI (4 * j) + 1).toNatClampNeg) (xs (nI (4 * j) + 2).toNatClampNeg) (xs (nI (4 * j) + 3).toNatClampNeg)
        refine jc_aload_n hX d_L_341 1 rfl rfl ?_
        refine jc_aload_n hX d_L_342 0 rfl rfl ?_
        refine jc_iload_n hX d_L_343 3 rfl rfl ?_
        refine jc_iconst (v := 1) hX d_L_344 (by decide) ?_
        refine jc_iadd hX d_L_345 ?_
        refine jc_sld hX hx hb hbA (jl_in (k := 1) rfl (by decide) h4 hN) d_L_346 ?_
        refine jc_aload_n hX d_L_347 0 rfl rfl ?_
        refine jc_iload_n hX d_L_348 3 rfl rfl ?_
        refine jc_iconst (v := 2) hX d_L_349 (by decide) ?_
        refine jc_iadd hX d_L_350 ?_
        refine jc_sld hX hx hb hbA (jl_in (k := 2) rfl (by decide) h4 hN) d_L_351 ?_
        refine jc_aload_n hX d_L_352 0 rfl rfl ?_
        refine jc_iload_n hX d_L_353 3 rfl rfl ?_
        refine jc_iconst (v := 3) hX d_L_354 (by decide) ?_
        refine jc_iadd hX d_L_355 ?_
        refine jc_sld hX hx hb hbA (jl_in (k := 3) rfl (by decide) h4 hN) d_L_356 ?_
        refine jc_callV (n := 3) (wc := jx_w G S) (wr := jr_w G T) (fin1 := (some (.int r), jx_w G S)) (As := [.int (xs (nI (4 * j) + 1).toNatClampNeg), .int (xs (nI (4 * j) + 2).toNatClampNeg), .int (xs (nI (4 * j) + 3).toNatClampNeg)]) hX (c_P_compare (jx_l X) G S (xs (nI (4 * j) + 1).toNatClampNeg) (xs (nI (4 * j) + 2).toNatClampNeg) (xs (nI (4 * j) + 3).toNatClampNeg) r e1) wm_437 wm_1 wm_434 wm_435 wm_436 (by decide) 0 rfl rfl rfl rfl d_L_357 (by decide) (by decide) (Nat.le_of_ble_eq_true rfl) ?_
        refine jc_aload_n hX d_L_360 2 rfl rfl ?_
        refine jc_aload_n hX d_L_361 0 rfl rfl ?_
        refine jc_iload_n hX d_L_362 3 rfl rfl ?_
        refine jc_iconst (v := 1) hX d_L_363 (by decide) ?_
        refine jc_iadd hX d_L_364 ?_
        refine jc_sld hX hx hb hbA (jl_in (k := 1) rfl (by decide) h4 hN) d_L_365 ?_
        refine jc_aload_n hX d_L_366 0 rfl rfl ?_
        refine jc_iload_n hX d_L_367 3 rfl rfl ?_
        refine jc_iconst (v := 2) hX d_L_368 (by decide) ?_
        refine jc_iadd hX d_L_369 ?_
        refine jc_sld hX hx hb hbA (jl_in (k := 2) rfl (by decide) h4 hN) d_L_370 ?_
        refine jc_aload_n hX d_L_371 0 rfl rfl ?_
        refine jc_iload_n hX d_L_372 3 rfl rfl ?_
        refine jc_iconst (v := 3) hX d_L_373 (by decide) ?_
        refine jc_iadd hX d_L_374 ?_
        refine jc_sld hX hx hb hbA (jl_in (k := 3) rfl (by decide) h4 hN) d_L_375 ?_
        refine jc_callV (n := 3) (wc := jr_w G T) (wr := jx_w G S) (fin1 := (some (.int r), jr_w G T)) (As := [.int (xs (nI (4 * j) + 1).toNatClampNeg), .int (xs (nI (4 * j) + 2).toNatClampNeg), .int (xs (nI (4 * j) + 3).toNatClampNeg)]) hX (c_M_compare (jx_l X) G T (xs (nI (4 * j) + 1).toNatClampNeg) (xs (nI (4 * j) + 2).toNatClampNeg) (xs (nI (4 * j) + 3).toNatClampNeg) r e2) wm_709 wm_7 wm_706 wm_707 wm_708 (by decide) 0 rfl rfl rfl rfl d_L_376 (by decide) (by decide) (Nat.le_of_ble_eq_true rfl) ?_
        refine jc_icmp_eq hX d_L_379 rfl (fun _ => ?_) (fun hn => absurd rfl hn)
        exact nxt S T hR
      · refine jc_tout hX d_L_32 (Or.inr (by decide)) rfl ?_
        exact nxt S T hR
      · refine jc_tout hX d_L_32 (Or.inr (by decide)) rfl ?_
        exact nxt S T hR
      · refine jc_tout hX d_L_32 (Or.inr (by decide)) rfl ?_
        exact nxt S T hR
      · refine jc_tout hX d_L_32 (Or.inr (by decide)) rfl ?_
        exact nxt S T hR

