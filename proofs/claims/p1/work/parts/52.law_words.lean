theorem k_519 : Cond.classLink "CellDecideLaw" 8 "CellDecide" ∈ zg_tbl := zt_1 (List.mem_of_getElem? (i := 33) rfl) rfl
theorem k_520 : Cond.code ⟨"CellDecide", "<init>", "()V"⟩ prog_1_method_1_code 1 (Option.none : Option Jvm.ClassFile.FieldType) ∈ zg_tbl := zt_1 (List.mem_of_getElem? (i := 37) rfl) rfl
theorem k_521 : Cond.methodLink "CellDecideLaw" 21 ⟨"CellDecide", "<init>", "()V"⟩ ∈ zg_tbl := zt_1 (List.mem_of_getElem? (i := 35) rfl) rfl
theorem k_522 : Cond.instanceMethod ⟨"CellDecide", "<init>", "()V"⟩ ∈ zg_tbl := zt_1 (List.mem_of_getElem? (i := 36) rfl) rfl
theorem k_523 : Cond.classLink "CellDecideLaw" 22 "CellDecideModel" ∈ zg_tbl := zt_9 (List.mem_of_getElem? (i := 110) rfl) rfl
theorem k_524 : Cond.code ⟨"CellDecideModel", "<init>", "()V"⟩ prog_13_method_1_code 1 (Option.none : Option Jvm.ClassFile.FieldType) ∈ zg_tbl := zt_9 (List.mem_of_getElem? (i := 114) rfl) rfl
theorem k_525 : Cond.methodLink "CellDecideLaw" 24 ⟨"CellDecideModel", "<init>", "()V"⟩ ∈ zg_tbl := zt_9 (List.mem_of_getElem? (i := 112) rfl) rfl
theorem k_526 : Cond.instanceMethod ⟨"CellDecideModel", "<init>", "()V"⟩ ∈ zg_tbl := zt_9 (List.mem_of_getElem? (i := 113) rfl) rfl
theorem k_527 : Cond.code ⟨"CellDecide", "fault", "()I"⟩ prog_1_method_6_code 1 (Option.some Jvm.ClassFile.FieldType.int) ∈ zg_tbl := zt_4 (List.mem_of_getElem? (i := 126) rfl) rfl
theorem k_528 : Cond.methodLink "CellDecideLaw" 43 ⟨"CellDecide", "fault", "()I"⟩ ∈ zg_tbl := zt_4 (List.mem_of_getElem? (i := 123) rfl) rfl
theorem k_529 : Cond.instanceMethod ⟨"CellDecide", "fault", "()I"⟩ ∈ zg_tbl := zt_4 (List.mem_of_getElem? (i := 124) rfl) rfl
theorem k_530 : Cond.selects "CellDecide" ⟨"CellDecide", "fault", "()I"⟩ ⟨"CellDecide", "fault", "()I"⟩ ∈ zg_tbl := zt_4 (List.mem_of_getElem? (i := 125) rfl) rfl
theorem k_531 : Cond.code ⟨"CellDecideModel", "fault", "()I"⟩ prog_13_method_163_code 1 (Option.some Jvm.ClassFile.FieldType.int) ∈ zg_tbl := zt_11 (List.mem_of_getElem? (i := 143) rfl) rfl
theorem k_532 : Cond.methodLink "CellDecideLaw" 46 ⟨"CellDecideModel", "fault", "()I"⟩ ∈ zg_tbl := zt_11 (List.mem_of_getElem? (i := 140) rfl) rfl
theorem k_533 : Cond.instanceMethod ⟨"CellDecideModel", "fault", "()I"⟩ ∈ zg_tbl := zt_11 (List.mem_of_getElem? (i := 141) rfl) rfl
theorem k_534 : Cond.selects "CellDecideModel" ⟨"CellDecideModel", "fault", "()I"⟩ ⟨"CellDecideModel", "fault", "()I"⟩ ∈ zg_tbl := zt_11 (List.mem_of_getElem? (i := 142) rfl) rfl
theorem k_535 : Cond.code ⟨"CellDecide", "decide", "()I"⟩ prog_1_method_7_code 2 (Option.some Jvm.ClassFile.FieldType.int) ∈ zg_tbl := zt_4 (List.mem_of_getElem? (i := 130) rfl) rfl
theorem k_536 : Cond.methodLink "CellDecideLaw" 47 ⟨"CellDecide", "decide", "()I"⟩ ∈ zg_tbl := zt_4 (List.mem_of_getElem? (i := 127) rfl) rfl
theorem k_537 : Cond.instanceMethod ⟨"CellDecide", "decide", "()I"⟩ ∈ zg_tbl := zt_4 (List.mem_of_getElem? (i := 128) rfl) rfl
theorem k_538 : Cond.selects "CellDecide" ⟨"CellDecide", "decide", "()I"⟩ ⟨"CellDecide", "decide", "()I"⟩ ∈ zg_tbl := zt_4 (List.mem_of_getElem? (i := 129) rfl) rfl
theorem k_539 : Cond.code ⟨"CellDecideModel", "decide", "()I"⟩ prog_13_method_165_code 1 (Option.some Jvm.ClassFile.FieldType.int) ∈ zg_tbl := zt_11 (List.mem_of_getElem? (i := 147) rfl) rfl
theorem k_540 : Cond.methodLink "CellDecideLaw" 50 ⟨"CellDecideModel", "decide", "()I"⟩ ∈ zg_tbl := zt_11 (List.mem_of_getElem? (i := 144) rfl) rfl
theorem k_541 : Cond.instanceMethod ⟨"CellDecideModel", "decide", "()I"⟩ ∈ zg_tbl := zt_11 (List.mem_of_getElem? (i := 145) rfl) rfl
theorem k_542 : Cond.selects "CellDecideModel" ⟨"CellDecideModel", "decide", "()I"⟩ ⟨"CellDecideModel", "decide", "()I"⟩ ∈ zg_tbl := zt_11 (List.mem_of_getElem? (i := 146) rfl) rfl
theorem k_543 : Cond.code ⟨"CellDecide", "holds", "(IIII)I"⟩ prog_1_method_8_code 8 (Option.some Jvm.ClassFile.FieldType.int) ∈ zg_tbl := zt_8 (List.mem_of_getElem? (i := 107) rfl) rfl
theorem k_544 : Cond.methodLink "CellDecideLaw" 51 ⟨"CellDecide", "holds", "(IIII)I"⟩ ∈ zg_tbl := zt_8 (List.mem_of_getElem? (i := 104) rfl) rfl
theorem k_545 : Cond.instanceMethod ⟨"CellDecide", "holds", "(IIII)I"⟩ ∈ zg_tbl := zt_8 (List.mem_of_getElem? (i := 105) rfl) rfl
theorem k_546 : Cond.selects "CellDecide" ⟨"CellDecide", "holds", "(IIII)I"⟩ ⟨"CellDecide", "holds", "(IIII)I"⟩ ∈ zg_tbl := zt_8 (List.mem_of_getElem? (i := 106) rfl) rfl
theorem k_547 : Cond.code ⟨"CellDecideModel", "holds", "(IIII)I"⟩ prog_13_method_168_code 6 (Option.some Jvm.ClassFile.FieldType.int) ∈ zg_tbl := zt_13 (List.mem_of_getElem? (i := 177) rfl) rfl
theorem k_548 : Cond.methodLink "CellDecideLaw" 55 ⟨"CellDecideModel", "holds", "(IIII)I"⟩ ∈ zg_tbl := zt_13 (List.mem_of_getElem? (i := 174) rfl) rfl
theorem k_549 : Cond.instanceMethod ⟨"CellDecideModel", "holds", "(IIII)I"⟩ ∈ zg_tbl := zt_13 (List.mem_of_getElem? (i := 175) rfl) rfl
theorem k_550 : Cond.selects "CellDecideModel" ⟨"CellDecideModel", "holds", "(IIII)I"⟩ ⟨"CellDecideModel", "holds", "(IIII)I"⟩ ∈ zg_tbl := zt_13 (List.mem_of_getElem? (i := 176) rfl) rfl
theorem k_551 : Cond.code ⟨"CellDecide", "solve", "()I"⟩ prog_1_method_11_code 6 (Option.some Jvm.ClassFile.FieldType.int) ∈ zg_tbl := zt_8 (List.mem_of_getElem? (i := 125) rfl) rfl
theorem k_552 : Cond.methodLink "CellDecideLaw" 56 ⟨"CellDecide", "solve", "()I"⟩ ∈ zg_tbl := zt_8 (List.mem_of_getElem? (i := 122) rfl) rfl
theorem k_553 : Cond.instanceMethod ⟨"CellDecide", "solve", "()I"⟩ ∈ zg_tbl := zt_8 (List.mem_of_getElem? (i := 123) rfl) rfl
theorem k_554 : Cond.selects "CellDecide" ⟨"CellDecide", "solve", "()I"⟩ ⟨"CellDecide", "solve", "()I"⟩ ∈ zg_tbl := zt_8 (List.mem_of_getElem? (i := 124) rfl) rfl
theorem k_555 : Cond.code ⟨"CellDecideModel", "solve", "()I"⟩ prog_13_method_170_code 5 (Option.some Jvm.ClassFile.FieldType.int) ∈ zg_tbl := zt_13 (List.mem_of_getElem? (i := 191) rfl) rfl
theorem k_556 : Cond.methodLink "CellDecideLaw" 59 ⟨"CellDecideModel", "solve", "()I"⟩ ∈ zg_tbl := zt_13 (List.mem_of_getElem? (i := 188) rfl) rfl
theorem k_557 : Cond.instanceMethod ⟨"CellDecideModel", "solve", "()I"⟩ ∈ zg_tbl := zt_13 (List.mem_of_getElem? (i := 189) rfl) rfl
theorem k_558 : Cond.selects "CellDecideModel" ⟨"CellDecideModel", "solve", "()I"⟩ ⟨"CellDecideModel", "solve", "()I"⟩ ∈ zg_tbl := zt_13 (List.mem_of_getElem? (i := 190) rfl) rfl
theorem k_559 : Cond.code ⟨"CellDecide", "interval", "(II)I"⟩ prog_1_method_13_code 4 (Option.some Jvm.ClassFile.FieldType.int) ∈ zg_tbl := zt_8 (List.mem_of_getElem? (i := 138) rfl) rfl
theorem k_560 : Cond.methodLink "CellDecideLaw" 60 ⟨"CellDecide", "interval", "(II)I"⟩ ∈ zg_tbl := zt_8 (List.mem_of_getElem? (i := 135) rfl) rfl
theorem k_561 : Cond.instanceMethod ⟨"CellDecide", "interval", "(II)I"⟩ ∈ zg_tbl := zt_8 (List.mem_of_getElem? (i := 136) rfl) rfl
theorem k_562 : Cond.selects "CellDecide" ⟨"CellDecide", "interval", "(II)I"⟩ ⟨"CellDecide", "interval", "(II)I"⟩ ∈ zg_tbl := zt_8 (List.mem_of_getElem? (i := 137) rfl) rfl
theorem k_563 : Cond.code ⟨"CellDecideModel", "interval", "(II)I"⟩ prog_13_method_172_code 4 (Option.some Jvm.ClassFile.FieldType.int) ∈ zg_tbl := zt_13 (List.mem_of_getElem? (i := 203) rfl) rfl
theorem k_564 : Cond.methodLink "CellDecideLaw" 64 ⟨"CellDecideModel", "interval", "(II)I"⟩ ∈ zg_tbl := zt_13 (List.mem_of_getElem? (i := 200) rfl) rfl
theorem k_565 : Cond.instanceMethod ⟨"CellDecideModel", "interval", "(II)I"⟩ ∈ zg_tbl := zt_13 (List.mem_of_getElem? (i := 201) rfl) rfl
theorem k_566 : Cond.selects "CellDecideModel" ⟨"CellDecideModel", "interval", "(II)I"⟩ ⟨"CellDecideModel", "interval", "(II)I"⟩ ∈ zg_tbl := zt_13 (List.mem_of_getElem? (i := 202) rfl) rfl
theorem k_567 : Cond.code ⟨"CellDecide", "members", "()I"⟩ prog_1_method_14_code 2 (Option.some Jvm.ClassFile.FieldType.int) ∈ zg_tbl := zt_8 (List.mem_of_getElem? (i := 143) rfl) rfl
theorem k_568 : Cond.methodLink "CellDecideLaw" 65 ⟨"CellDecide", "members", "()I"⟩ ∈ zg_tbl := zt_8 (List.mem_of_getElem? (i := 140) rfl) rfl
theorem k_569 : Cond.instanceMethod ⟨"CellDecide", "members", "()I"⟩ ∈ zg_tbl := zt_8 (List.mem_of_getElem? (i := 141) rfl) rfl
theorem k_570 : Cond.selects "CellDecide" ⟨"CellDecide", "members", "()I"⟩ ⟨"CellDecide", "members", "()I"⟩ ∈ zg_tbl := zt_8 (List.mem_of_getElem? (i := 142) rfl) rfl
theorem k_571 : Cond.code ⟨"CellDecideModel", "members", "()I"⟩ prog_13_method_173_code 4 (Option.some Jvm.ClassFile.FieldType.int) ∈ zg_tbl := zt_13 (List.mem_of_getElem? (i := 212) rfl) rfl
theorem k_572 : Cond.methodLink "CellDecideLaw" 68 ⟨"CellDecideModel", "members", "()I"⟩ ∈ zg_tbl := zt_13 (List.mem_of_getElem? (i := 209) rfl) rfl
theorem k_573 : Cond.instanceMethod ⟨"CellDecideModel", "members", "()I"⟩ ∈ zg_tbl := zt_13 (List.mem_of_getElem? (i := 210) rfl) rfl
theorem k_574 : Cond.selects "CellDecideModel" ⟨"CellDecideModel", "members", "()I"⟩ ⟨"CellDecideModel", "members", "()I"⟩ ∈ zg_tbl := zt_13 (List.mem_of_getElem? (i := 211) rfl) rfl
theorem k_575 : Cond.code ⟨"CellDecide", "point", "(II)I"⟩ prog_1_method_19_code 4 (Option.some Jvm.ClassFile.FieldType.int) ∈ zg_tbl := zt_8 (List.mem_of_getElem? (i := 194) rfl) rfl
theorem k_576 : Cond.methodLink "CellDecideLaw" 73 ⟨"CellDecide", "point", "(II)I"⟩ ∈ zg_tbl := zt_8 (List.mem_of_getElem? (i := 191) rfl) rfl
theorem k_577 : Cond.instanceMethod ⟨"CellDecide", "point", "(II)I"⟩ ∈ zg_tbl := zt_8 (List.mem_of_getElem? (i := 192) rfl) rfl
theorem k_578 : Cond.selects "CellDecide" ⟨"CellDecide", "point", "(II)I"⟩ ⟨"CellDecide", "point", "(II)I"⟩ ∈ zg_tbl := zt_8 (List.mem_of_getElem? (i := 193) rfl) rfl
theorem k_579 : Cond.code ⟨"CellDecideModel", "point", "(II)I"⟩ prog_13_method_180_code 4 (Option.some Jvm.ClassFile.FieldType.int) ∈ zg_tbl := zt_14 (List.mem_of_getElem? (i := 0) rfl) rfl
theorem k_580 : Cond.methodLink "CellDecideLaw" 76 ⟨"CellDecideModel", "point", "(II)I"⟩ ∈ zg_tbl := zt_13 (List.mem_of_getElem? (i := 237) rfl) rfl
theorem k_581 : Cond.instanceMethod ⟨"CellDecideModel", "point", "(II)I"⟩ ∈ zg_tbl := zt_13 (List.mem_of_getElem? (i := 238) rfl) rfl
theorem k_582 : Cond.selects "CellDecideModel" ⟨"CellDecideModel", "point", "(II)I"⟩ ⟨"CellDecideModel", "point", "(II)I"⟩ ∈ zg_tbl := zt_13 (List.mem_of_getElem? (i := 239) rfl) rfl
theorem k_583 : Cond.code ⟨"CellDecide", "write", "(III)I"⟩ prog_1_method_20_code 5 (Option.some Jvm.ClassFile.FieldType.int) ∈ zg_tbl := zt_8 (List.mem_of_getElem? (i := 198) rfl) rfl
theorem k_584 : Cond.methodLink "CellDecideLaw" 77 ⟨"CellDecide", "write", "(III)I"⟩ ∈ zg_tbl := zt_8 (List.mem_of_getElem? (i := 195) rfl) rfl
theorem k_585 : Cond.instanceMethod ⟨"CellDecide", "write", "(III)I"⟩ ∈ zg_tbl := zt_8 (List.mem_of_getElem? (i := 196) rfl) rfl
theorem k_586 : Cond.selects "CellDecide" ⟨"CellDecide", "write", "(III)I"⟩ ⟨"CellDecide", "write", "(III)I"⟩ ∈ zg_tbl := zt_8 (List.mem_of_getElem? (i := 197) rfl) rfl
theorem k_587 : Cond.code ⟨"CellDecideModel", "write", "(III)I"⟩ prog_13_method_186_code 4 (Option.some Jvm.ClassFile.FieldType.int) ∈ zg_tbl := zt_14 (List.mem_of_getElem? (i := 5) rfl) rfl
theorem k_588 : Cond.methodLink "CellDecideLaw" 81 ⟨"CellDecideModel", "write", "(III)I"⟩ ∈ zg_tbl := zt_14 (List.mem_of_getElem? (i := 2) rfl) rfl
theorem k_589 : Cond.instanceMethod ⟨"CellDecideModel", "write", "(III)I"⟩ ∈ zg_tbl := zt_14 (List.mem_of_getElem? (i := 3) rfl) rfl
theorem k_590 : Cond.selects "CellDecideModel" ⟨"CellDecideModel", "write", "(III)I"⟩ ⟨"CellDecideModel", "write", "(III)I"⟩ ∈ zg_tbl := zt_14 (List.mem_of_getElem? (i := 4) rfl) rfl
theorem k_591 : Cond.code ⟨"CellDecide", "writeLeast", "(II)I"⟩ prog_1_method_21_code 4 (Option.some Jvm.ClassFile.FieldType.int) ∈ zg_tbl := zt_9 (List.mem_of_getElem? (i := 38) rfl) rfl
theorem k_592 : Cond.methodLink "CellDecideLaw" 82 ⟨"CellDecide", "writeLeast", "(II)I"⟩ ∈ zg_tbl := zt_9 (List.mem_of_getElem? (i := 35) rfl) rfl
theorem k_593 : Cond.instanceMethod ⟨"CellDecide", "writeLeast", "(II)I"⟩ ∈ zg_tbl := zt_9 (List.mem_of_getElem? (i := 36) rfl) rfl
theorem k_594 : Cond.selects "CellDecide" ⟨"CellDecide", "writeLeast", "(II)I"⟩ ⟨"CellDecide", "writeLeast", "(II)I"⟩ ∈ zg_tbl := zt_9 (List.mem_of_getElem? (i := 37) rfl) rfl
theorem k_595 : Cond.code ⟨"CellDecideModel", "writeLeast", "(II)I"⟩ prog_13_method_187_code 3 (Option.some Jvm.ClassFile.FieldType.int) ∈ zg_tbl := zt_14 (List.mem_of_getElem? (i := 28) rfl) rfl
theorem k_596 : Cond.methodLink "CellDecideLaw" 85 ⟨"CellDecideModel", "writeLeast", "(II)I"⟩ ∈ zg_tbl := zt_14 (List.mem_of_getElem? (i := 25) rfl) rfl
theorem k_597 : Cond.instanceMethod ⟨"CellDecideModel", "writeLeast", "(II)I"⟩ ∈ zg_tbl := zt_14 (List.mem_of_getElem? (i := 26) rfl) rfl
theorem k_598 : Cond.selects "CellDecideModel" ⟨"CellDecideModel", "writeLeast", "(II)I"⟩ ⟨"CellDecideModel", "writeLeast", "(II)I"⟩ ∈ zg_tbl := zt_14 (List.mem_of_getElem? (i := 27) rfl) rfl
theorem k_599 : Cond.code ⟨"CellDecide", "writePoint", "(III)I"⟩ prog_1_method_22_code 5 (Option.some Jvm.ClassFile.FieldType.int) ∈ zg_tbl := zt_9 (List.mem_of_getElem? (i := 57) rfl) rfl
theorem k_600 : Cond.methodLink "CellDecideLaw" 86 ⟨"CellDecide", "writePoint", "(III)I"⟩ ∈ zg_tbl := zt_9 (List.mem_of_getElem? (i := 54) rfl) rfl
theorem k_601 : Cond.instanceMethod ⟨"CellDecide", "writePoint", "(III)I"⟩ ∈ zg_tbl := zt_9 (List.mem_of_getElem? (i := 55) rfl) rfl
theorem k_602 : Cond.selects "CellDecide" ⟨"CellDecide", "writePoint", "(III)I"⟩ ⟨"CellDecide", "writePoint", "(III)I"⟩ ∈ zg_tbl := zt_9 (List.mem_of_getElem? (i := 56) rfl) rfl
theorem k_603 : Cond.code ⟨"CellDecideModel", "writePoint", "(III)I"⟩ prog_13_method_188_code 4 (Option.some Jvm.ClassFile.FieldType.int) ∈ zg_tbl := zt_14 (List.mem_of_getElem? (i := 36) rfl) rfl
theorem k_604 : Cond.methodLink "CellDecideLaw" 89 ⟨"CellDecideModel", "writePoint", "(III)I"⟩ ∈ zg_tbl := zt_14 (List.mem_of_getElem? (i := 33) rfl) rfl
theorem k_605 : Cond.instanceMethod ⟨"CellDecideModel", "writePoint", "(III)I"⟩ ∈ zg_tbl := zt_14 (List.mem_of_getElem? (i := 34) rfl) rfl
theorem k_606 : Cond.selects "CellDecideModel" ⟨"CellDecideModel", "writePoint", "(III)I"⟩ ⟨"CellDecideModel", "writePoint", "(III)I"⟩ ∈ zg_tbl := zt_14 (List.mem_of_getElem? (i := 35) rfl) rfl
theorem k_607 : Cond.code ⟨"CellDecide", "writePointLeast", "(II)I"⟩ prog_1_method_23_code 4 (Option.some Jvm.ClassFile.FieldType.int) ∈ zg_tbl := zt_9 (List.mem_of_getElem? (i := 65) rfl) rfl
theorem k_608 : Cond.methodLink "CellDecideLaw" 90 ⟨"CellDecide", "writePointLeast", "(II)I"⟩ ∈ zg_tbl := zt_9 (List.mem_of_getElem? (i := 62) rfl) rfl
theorem k_609 : Cond.instanceMethod ⟨"CellDecide", "writePointLeast", "(II)I"⟩ ∈ zg_tbl := zt_9 (List.mem_of_getElem? (i := 63) rfl) rfl
theorem k_610 : Cond.selects "CellDecide" ⟨"CellDecide", "writePointLeast", "(II)I"⟩ ⟨"CellDecide", "writePointLeast", "(II)I"⟩ ∈ zg_tbl := zt_9 (List.mem_of_getElem? (i := 64) rfl) rfl
theorem k_611 : Cond.code ⟨"CellDecideModel", "writePointLeast", "(II)I"⟩ prog_13_method_189_code 3 (Option.some Jvm.ClassFile.FieldType.int) ∈ zg_tbl := zt_14 (List.mem_of_getElem? (i := 40) rfl) rfl
theorem k_612 : Cond.methodLink "CellDecideLaw" 93 ⟨"CellDecideModel", "writePointLeast", "(II)I"⟩ ∈ zg_tbl := zt_14 (List.mem_of_getElem? (i := 37) rfl) rfl
theorem k_613 : Cond.instanceMethod ⟨"CellDecideModel", "writePointLeast", "(II)I"⟩ ∈ zg_tbl := zt_14 (List.mem_of_getElem? (i := 38) rfl) rfl
theorem k_614 : Cond.selects "CellDecideModel" ⟨"CellDecideModel", "writePointLeast", "(II)I"⟩ ⟨"CellDecideModel", "writePointLeast", "(II)I"⟩ ∈ zg_tbl := zt_14 (List.mem_of_getElem? (i := 39) rfl) rfl
theorem k_615 : Cond.code ⟨"CellDecide", "read", "()I"⟩ prog_1_method_5_code 1 (Option.some Jvm.ClassFile.FieldType.int) ∈ zg_tbl := zt_3 (List.mem_of_getElem? (i := 209) rfl) rfl
theorem k_616 : Cond.methodLink "CellDecideLaw" 39 ⟨"CellDecide", "read", "()I"⟩ ∈ zg_tbl := zt_3 (List.mem_of_getElem? (i := 206) rfl) rfl
theorem k_617 : Cond.instanceMethod ⟨"CellDecide", "read", "()I"⟩ ∈ zg_tbl := zt_3 (List.mem_of_getElem? (i := 207) rfl) rfl
theorem k_618 : Cond.selects "CellDecide" ⟨"CellDecide", "read", "()I"⟩ ⟨"CellDecide", "read", "()I"⟩ ∈ zg_tbl := zt_3 (List.mem_of_getElem? (i := 208) rfl) rfl
theorem k_619 : Cond.code ⟨"CellDecideModel", "read", "()I"⟩ prog_13_method_162_code 3 (Option.some Jvm.ClassFile.FieldType.int) ∈ zg_tbl := zt_10 (List.mem_of_getElem? (i := 237) rfl) rfl
theorem k_620 : Cond.methodLink "CellDecideLaw" 42 ⟨"CellDecideModel", "read", "()I"⟩ ∈ zg_tbl := zt_10 (List.mem_of_getElem? (i := 234) rfl) rfl
theorem k_621 : Cond.instanceMethod ⟨"CellDecideModel", "read", "()I"⟩ ∈ zg_tbl := zt_10 (List.mem_of_getElem? (i := 235) rfl) rfl
theorem k_622 : Cond.selects "CellDecideModel" ⟨"CellDecideModel", "read", "()I"⟩ ⟨"CellDecideModel", "read", "()I"⟩ ∈ zg_tbl := zt_10 (List.mem_of_getElem? (i := 236) rfl) rfl
theorem k_623 : Cond.code ⟨"CellDecide", "meet", "()I"⟩ prog_1_method_15_code 6 (Option.some Jvm.ClassFile.FieldType.int) ∈ zg_tbl := zt_8 (List.mem_of_getElem? (i := 147) rfl) rfl
theorem k_624 : Cond.methodLink "CellDecideLaw" 69 ⟨"CellDecide", "meet", "()I"⟩ ∈ zg_tbl := zt_8 (List.mem_of_getElem? (i := 144) rfl) rfl
theorem k_625 : Cond.instanceMethod ⟨"CellDecide", "meet", "()I"⟩ ∈ zg_tbl := zt_8 (List.mem_of_getElem? (i := 145) rfl) rfl
theorem k_626 : Cond.selects "CellDecide" ⟨"CellDecide", "meet", "()I"⟩ ⟨"CellDecide", "meet", "()I"⟩ ∈ zg_tbl := zt_8 (List.mem_of_getElem? (i := 146) rfl) rfl
theorem k_627 : Cond.code ⟨"CellDecideModel", "meet", "()I"⟩ prog_13_method_179_code 4 (Option.some Jvm.ClassFile.FieldType.int) ∈ zg_tbl := zt_13 (List.mem_of_getElem? (i := 216) rfl) rfl
theorem k_628 : Cond.methodLink "CellDecideLaw" 72 ⟨"CellDecideModel", "meet", "()I"⟩ ∈ zg_tbl := zt_13 (List.mem_of_getElem? (i := 213) rfl) rfl
theorem k_629 : Cond.instanceMethod ⟨"CellDecideModel", "meet", "()I"⟩ ∈ zg_tbl := zt_13 (List.mem_of_getElem? (i := 214) rfl) rfl
theorem k_630 : Cond.selects "CellDecideModel" ⟨"CellDecideModel", "meet", "()I"⟩ ⟨"CellDecideModel", "meet", "()I"⟩ ∈ zg_tbl := zt_13 (List.mem_of_getElem? (i := 215) rfl) rfl
theorem k_631 : Cond.codeWith ⟨"CellDecideLaw", "feed", "(LCellDecide;IIIII[J)I"⟩ method_3_code 8 (Option.some Jvm.ClassFile.FieldType.int) [(0, 16, 19, 13)] ∈ zg_tbl := zt_9 (List.mem_of_getElem? (i := 73) rfl) rfl
theorem k_632 : Cond.methodLink "CellDecideLaw" 25 ⟨"CellDecideLaw", "feed", "(LCellDecide;IIIII[J)I"⟩ ∈ zg_tbl := zt_9 (List.mem_of_getElem? (i := 71) rfl) rfl
theorem k_633 : Cond.static ⟨"CellDecideLaw", "feed", "(LCellDecide;IIIII[J)I"⟩ ∈ zg_tbl := zt_9 (List.mem_of_getElem? (i := 72) rfl) rfl
theorem k_634 : Cond.initialized "CellDecideLaw" ∈ zg_tbl := zt_1 (List.mem_of_getElem? (i := 0) rfl) rfl
theorem k_635 : Cond.code ⟨"CellDecideModel", "feed", "(IIIII)I"⟩ prog_13_method_191_code 8 (Option.some Jvm.ClassFile.FieldType.int) ∈ zg_tbl := zt_14 (List.mem_of_getElem? (i := 48) rfl) rfl
theorem k_636 : Cond.methodLink "CellDecideLaw" 30 ⟨"CellDecideModel", "feed", "(IIIII)I"⟩ ∈ zg_tbl := zt_14 (List.mem_of_getElem? (i := 45) rfl) rfl
theorem k_637 : Cond.instanceMethod ⟨"CellDecideModel", "feed", "(IIIII)I"⟩ ∈ zg_tbl := zt_14 (List.mem_of_getElem? (i := 46) rfl) rfl
theorem k_638 : Cond.selects "CellDecideModel" ⟨"CellDecideModel", "feed", "(IIIII)I"⟩ ⟨"CellDecideModel", "feed", "(IIIII)I"⟩ ∈ zg_tbl := zt_14 (List.mem_of_getElem? (i := 47) rfl) rfl
theorem k_639 : Cond.code ⟨"CellDecideModel", "thrown", "()I"⟩ prog_13_method_2_code 1 (Option.some Jvm.ClassFile.FieldType.int) ∈ zg_tbl := zt_10 (List.mem_of_getElem? (i := 233) rfl) rfl
theorem k_640 : Cond.methodLink "CellDecideLaw" 31 ⟨"CellDecideModel", "thrown", "()I"⟩ ∈ zg_tbl := zt_10 (List.mem_of_getElem? (i := 230) rfl) rfl
theorem k_641 : Cond.instanceMethod ⟨"CellDecideModel", "thrown", "()I"⟩ ∈ zg_tbl := zt_10 (List.mem_of_getElem? (i := 231) rfl) rfl
theorem k_642 : Cond.selects "CellDecideModel" ⟨"CellDecideModel", "thrown", "()I"⟩ ⟨"CellDecideModel", "thrown", "()I"⟩ ∈ zg_tbl := zt_10 (List.mem_of_getElem? (i := 232) rfl) rfl
theorem k_643 : Cond.codeWith ⟨"CellDecideLaw", "end", "(LCellDecide;I)I"⟩ method_4_code 3 (Option.some Jvm.ClassFile.FieldType.int) [(0, 5, 8, 19)] ∈ zg_tbl := zt_9 (List.mem_of_getElem? (i := 101) rfl) rfl
theorem k_644 : Cond.methodLink "CellDecideLaw" 35 ⟨"CellDecideLaw", "end", "(LCellDecide;I)I"⟩ ∈ zg_tbl := zt_9 (List.mem_of_getElem? (i := 99) rfl) rfl
theorem k_645 : Cond.static ⟨"CellDecideLaw", "end", "(LCellDecide;I)I"⟩ ∈ zg_tbl := zt_9 (List.mem_of_getElem? (i := 100) rfl) rfl
theorem k_646 : Cond.code ⟨"CellDecideModel", "end", "(I)V"⟩ prog_13_method_192_code 2 (Option.none : Option Jvm.ClassFile.FieldType) ∈ zg_tbl := zt_14 (List.mem_of_getElem? (i := 52) rfl) rfl
theorem k_647 : Cond.methodLink "CellDecideLaw" 38 ⟨"CellDecideModel", "end", "(I)V"⟩ ∈ zg_tbl := zt_14 (List.mem_of_getElem? (i := 49) rfl) rfl
theorem k_648 : Cond.instanceMethod ⟨"CellDecideModel", "end", "(I)V"⟩ ∈ zg_tbl := zt_14 (List.mem_of_getElem? (i := 50) rfl) rfl
theorem k_649 : Cond.selects "CellDecideModel" ⟨"CellDecideModel", "end", "(I)V"⟩ ⟨"CellDecideModel", "end", "(I)V"⟩ ∈ zg_tbl := zt_14 (List.mem_of_getElem? (i := 51) rfl) rfl
theorem k_650 : Cond.code ⟨"CellDecide", "at", "(I)I"⟩ prog_1_method_24_code 2 (Option.some Jvm.ClassFile.FieldType.int) ∈ zg_tbl := zt_9 (List.mem_of_getElem? (i := 69) rfl) rfl
theorem k_651 : Cond.methodLink "CellDecideLaw" 94 ⟨"CellDecide", "at", "(I)I"⟩ ∈ zg_tbl := zt_9 (List.mem_of_getElem? (i := 66) rfl) rfl
theorem k_652 : Cond.instanceMethod ⟨"CellDecide", "at", "(I)I"⟩ ∈ zg_tbl := zt_9 (List.mem_of_getElem? (i := 67) rfl) rfl
theorem k_653 : Cond.selects "CellDecide" ⟨"CellDecide", "at", "(I)I"⟩ ⟨"CellDecide", "at", "(I)I"⟩ ∈ zg_tbl := zt_9 (List.mem_of_getElem? (i := 68) rfl) rfl
theorem k_654 : Cond.code ⟨"CellDecideModel", "at", "(I)I"⟩ prog_13_method_190_code 2 (Option.some Jvm.ClassFile.FieldType.int) ∈ zg_tbl := zt_14 (List.mem_of_getElem? (i := 44) rfl) rfl
theorem k_655 : Cond.methodLink "CellDecideLaw" 98 ⟨"CellDecideModel", "at", "(I)I"⟩ ∈ zg_tbl := zt_14 (List.mem_of_getElem? (i := 41) rfl) rfl
theorem k_656 : Cond.instanceMethod ⟨"CellDecideModel", "at", "(I)I"⟩ ∈ zg_tbl := zt_14 (List.mem_of_getElem? (i := 42) rfl) rfl
theorem k_657 : Cond.selects "CellDecideModel" ⟨"CellDecideModel", "at", "(I)I"⟩ ⟨"CellDecideModel", "at", "(I)I"⟩ ∈ zg_tbl := zt_14 (List.mem_of_getElem? (i := 43) rfl) rfl
