theorem zu0l {k : Nat} {x : Int64} (h : x = 0) : vp_updL (fun _ => (0 : Int64)) k x = fun _ => 0 := by
  funext j
  subst h
  simp [vp_updL]
theorem zu1l {f : Nat → Int64} {i k : Nat} {x y : Int64} (hi : i = k) (hx : x = y) : vp_updL f i x = vp_updL f k y := by rw [hi, hx]
def y_Mod_look : MethodName := ⟨"CellDecideModel", "look", "()V"⟩
abbrev w_Mod_look : List Cond := Cond.code y_Mod_look prog_13_method_138_code 4 (Option.none : Option Jvm.ClassFile.FieldType) :: zg_tbl
def y_Mod_begin : MethodName := ⟨"CellDecideModel", "begin", "()V"⟩
abbrev w_Mod_begin : List Cond := Cond.code y_Mod_begin prog_13_method_159_code 2 (Option.none : Option Jvm.ClassFile.FieldType) :: zg_tbl
def y_Mod_isWord_I : MethodName := ⟨"CellDecideModel", "isWord", "(I)Z"⟩
abbrev w_Mod_isWord_I : List Cond := Cond.code y_Mod_isWord_I prog_13_method_140_code 2 (Option.some Jvm.ClassFile.FieldType.boolean) :: zg_tbl
def y_Mod_openStatement : MethodName := ⟨"CellDecideModel", "openStatement", "()V"⟩
abbrev w_Mod_openStatement : List Cond := Cond.code y_Mod_openStatement prog_13_method_153_code 3 (Option.none : Option Jvm.ClassFile.FieldType) :: zg_tbl
def y_Mod_isSign_I : MethodName := ⟨"CellDecideModel", "isSign", "(I)Z"⟩
abbrev w_Mod_isSign_I : List Cond := Cond.code y_Mod_isSign_I prog_13_method_139_code 2 (Option.some Jvm.ClassFile.FieldType.boolean) :: zg_tbl
def y_Mod_beginSum_I : MethodName := ⟨"CellDecideModel", "beginSum", "(I)V"⟩
abbrev w_Mod_beginSum_I : List Cond := Cond.code y_Mod_beginSum_I prog_13_method_147_code 3 (Option.none : Option Jvm.ClassFile.FieldType) :: zg_tbl
def y_Mod_fail_I : MethodName := ⟨"CellDecideModel", "fail", "(I)V"⟩
abbrev w_Mod_fail_I : List Cond := Cond.code y_Mod_fail_I prog_13_method_134_code 2 (Option.none : Option Jvm.ClassFile.FieldType) :: zg_tbl
def y_Mod_cannot : MethodName := ⟨"CellDecideModel", "cannot", "()V"⟩
abbrev w_Mod_cannot : List Cond := Cond.code y_Mod_cannot prog_13_method_135_code 1 (Option.none : Option Jvm.ClassFile.FieldType) :: zg_tbl
def y_Mod_readAtom : MethodName := ⟨"CellDecideModel", "readAtom", "()V"⟩
abbrev w_Mod_readAtom : List Cond := Cond.code y_Mod_readAtom prog_13_method_148_code 2 (Option.none : Option Jvm.ClassFile.FieldType) :: zg_tbl
def y_Mod_readSum : MethodName := ⟨"CellDecideModel", "readSum", "()V"⟩
abbrev w_Mod_readSum : List Cond := Cond.code y_Mod_readSum prog_13_method_149_code 5 (Option.none : Option Jvm.ClassFile.FieldType) :: zg_tbl
def y_Mod_readComparison : MethodName := ⟨"CellDecideModel", "readComparison", "()V"⟩
abbrev w_Mod_readComparison : List Cond := Cond.code y_Mod_readComparison prog_13_method_156_code 5 (Option.none : Option Jvm.ClassFile.FieldType) :: zg_tbl
def y_Mod_readOne : MethodName := ⟨"CellDecideModel", "readOne", "()V"⟩
abbrev w_Mod_readOne : List Cond := Cond.code y_Mod_readOne prog_13_method_157_code 2 (Option.none : Option Jvm.ClassFile.FieldType) :: zg_tbl
def y_Mod_readStatement : MethodName := ⟨"CellDecideModel", "readStatement", "()V"⟩
abbrev w_Mod_readStatement : List Cond := Cond.code y_Mod_readStatement prog_13_method_158_code 3 (Option.none : Option Jvm.ClassFile.FieldType) :: zg_tbl
def y_Mod_told : MethodName := ⟨"CellDecideModel", "told", "()I"⟩
abbrev w_Mod_told : List Cond := Cond.code y_Mod_told prog_13_method_160_code 1 (Option.some Jvm.ClassFile.FieldType.int) :: zg_tbl
def y_Mod_read : MethodName := ⟨"CellDecideModel", "read", "()I"⟩
abbrev w_Mod_read : List Cond := Cond.code y_Mod_read prog_13_method_162_code 3 (Option.some Jvm.ClassFile.FieldType.int) :: zg_tbl
def y_Mod_readCurve_I : MethodName := ⟨"CellDecideModel", "readCurve", "(I)V"⟩
abbrev w_Mod_readCurve_I : List Cond := Cond.code y_Mod_readCurve_I prog_13_method_174_code 4 (Option.none : Option Jvm.ClassFile.FieldType) :: zg_tbl
def y_Mod_take_I : MethodName := ⟨"CellDecideModel", "take", "(I)V"⟩
abbrev w_Mod_take_I : List Cond := Cond.code y_Mod_take_I prog_13_method_142_code 2 (Option.none : Option Jvm.ClassFile.FieldType) :: zg_tbl
def y_Mod_meet : MethodName := ⟨"CellDecideModel", "meet", "()I"⟩
abbrev w_Mod_meet : List Cond := Cond.code y_Mod_meet prog_13_method_179_code 4 (Option.some Jvm.ClassFile.FieldType.int) :: zg_tbl
theorem k_423 : Cond.fieldLink "CellDecideModel" 679 "CellDecideModel" "textSize" "I" ∈ zg_tbl := zt_9 (List.mem_of_getElem? (i := 187) rfl) rfl
theorem k_424 : Cond.fieldLink "CellDecideModel" 703 "CellDecideModel" "tokenAt" "I" ∈ zg_tbl := zt_9 (List.mem_of_getElem? (i := 188) rfl) rfl
theorem k_425 : Cond.fieldLink "CellDecideModel" 733 "CellDecideModel" "tokenSize" "I" ∈ zg_tbl := zt_9 (List.mem_of_getElem? (i := 189) rfl) rfl
theorem k_426 : Cond.fieldLink "CellDecideModel" 751 "CellDecideModel" "taken" "I" ∈ zg_tbl := zt_9 (List.mem_of_getElem? (i := 192) rfl) rfl
theorem k_427 : Cond.fieldLink "CellDecideModel" 766 "CellDecideModel" "open" "I" ∈ zg_tbl := zt_9 (List.mem_of_getElem? (i := 197) rfl) rfl
theorem k_428 : Cond.fieldLink "CellDecideModel" 697 "CellDecideModel" "faulty" "Z" ∈ zg_tbl := zt_9 (List.mem_of_getElem? (i := 193) rfl) rfl
theorem k_429 : Cond.fieldLink "CellDecideModel" 700 "CellDecideModel" "faultKind" "I" ∈ zg_tbl := zt_9 (List.mem_of_getElem? (i := 194) rfl) rfl
theorem k_430 : Cond.fieldLink "CellDecideModel" 839 "CellDecideModel" "greatAt" "I" ∈ zg_tbl := zt_9 (List.mem_of_getElem? (i := 219) rfl) rfl
theorem k_431 : Cond.fieldLink "CellDecideModel" 769 "CellDecideModel" "great" "Z" ∈ zg_tbl := zt_9 (List.mem_of_getElem? (i := 204) rfl) rfl
theorem k_432 : Cond.fieldLink "CellDecideModel" 736 "CellDecideModel" "tokenValue" "I" ∈ zg_tbl := zt_9 (List.mem_of_getElem? (i := 191) rfl) rfl
theorem k_433 : Cond.fieldLink "CellDecideModel" 709 "CellDecideModel" "token" "I" ∈ zg_tbl := zt_9 (List.mem_of_getElem? (i := 190) rfl) rfl
theorem k_434 : Cond.code ⟨"CellDecideModel", "look", "()V"⟩ prog_13_method_138_code 4 (Option.none : Option Jvm.ClassFile.FieldType) ∈ zg_tbl := zt_11 (List.mem_of_getElem? (i := 5) rfl) rfl
theorem k_435 : Cond.methodLink "CellDecideModel" 754 ⟨"CellDecideModel", "look", "()V"⟩ ∈ zg_tbl := zt_11 (List.mem_of_getElem? (i := 2) rfl) rfl
theorem k_436 : Cond.instanceMethod ⟨"CellDecideModel", "look", "()V"⟩ ∈ zg_tbl := zt_11 (List.mem_of_getElem? (i := 4) rfl) rfl
theorem k_437 : Cond.selects "CellDecideModel" ⟨"CellDecideModel", "look", "()V"⟩ ⟨"CellDecideModel", "look", "()V"⟩ ∈ zg_tbl := zs_6 (List.mem_of_getElem? (i := 4) rfl) rfl
theorem k_438 : Cond.code ⟨"CellDecideModel", "begin", "()V"⟩ prog_13_method_159_code 2 (Option.none : Option Jvm.ClassFile.FieldType) ∈ zg_tbl := zt_11 (List.mem_of_getElem? (i := 1) rfl) rfl
theorem k_439 : Cond.methodLink "CellDecideModel" 863 ⟨"CellDecideModel", "begin", "()V"⟩ ∈ zg_tbl := zt_10 (List.mem_of_getElem? (i := 238) rfl) rfl
theorem k_440 : Cond.instanceMethod ⟨"CellDecideModel", "begin", "()V"⟩ ∈ zg_tbl := zt_11 (List.mem_of_getElem? (i := 0) rfl) rfl
theorem k_441 : Cond.selects "CellDecideModel" ⟨"CellDecideModel", "begin", "()V"⟩ ⟨"CellDecideModel", "begin", "()V"⟩ ∈ zg_tbl := zs_6 (List.mem_of_getElem? (i := 3) rfl) rfl
theorem k_442 : Cond.fieldLink "CellDecideModel" 806 "CellDecideModel" "nodes" "I" ∈ zg_tbl := zt_9 (List.mem_of_getElem? (i := 163) rfl) rfl
theorem k_443 : Cond.fieldLink "CellDecideModel" 834 "CellDecideModel" "comparisons" "I" ∈ zg_tbl := zt_9 (List.mem_of_getElem? (i := 167) rfl) rfl
theorem k_444 : Cond.fieldLink "CellDecideModel" 812 "CellDecideModel" "aheads" "I" ∈ zg_tbl := zt_9 (List.mem_of_getElem? (i := 217) rfl) rfl
theorem k_445 : Cond.fieldLink "CellDecideModel" 809 "CellDecideModel" "depth" "I" ∈ zg_tbl := zt_9 (List.mem_of_getElem? (i := 214) rfl) rfl
theorem k_446 : Cond.code ⟨"CellDecideModel", "isWord", "(I)Z"⟩ prog_13_method_140_code 2 (Option.some Jvm.ClassFile.FieldType.boolean) ∈ zg_tbl := zt_11 (List.mem_of_getElem? (i := 51) rfl) rfl
theorem k_447 : Cond.methodLink "CellDecideModel" 782 ⟨"CellDecideModel", "isWord", "(I)Z"⟩ ∈ zg_tbl := zt_11 (List.mem_of_getElem? (i := 48) rfl) rfl
theorem k_448 : Cond.instanceMethod ⟨"CellDecideModel", "isWord", "(I)Z"⟩ ∈ zg_tbl := zt_11 (List.mem_of_getElem? (i := 50) rfl) rfl
theorem k_449 : Cond.selects "CellDecideModel" ⟨"CellDecideModel", "isWord", "(I)Z"⟩ ⟨"CellDecideModel", "isWord", "(I)Z"⟩ ∈ zg_tbl := zs_6 (List.mem_of_getElem? (i := 10) rfl) rfl
theorem k_450 : Cond.code ⟨"CellDecideModel", "openStatement", "()V"⟩ prog_13_method_153_code 3 (Option.none : Option Jvm.ClassFile.FieldType) ∈ zg_tbl := zt_11 (List.mem_of_getElem? (i := 47) rfl) rfl
theorem k_451 : Cond.methodLink "CellDecideModel" 845 ⟨"CellDecideModel", "openStatement", "()V"⟩ ∈ zg_tbl := zt_11 (List.mem_of_getElem? (i := 44) rfl) rfl
theorem k_452 : Cond.instanceMethod ⟨"CellDecideModel", "openStatement", "()V"⟩ ∈ zg_tbl := zt_11 (List.mem_of_getElem? (i := 46) rfl) rfl
theorem k_453 : Cond.selects "CellDecideModel" ⟨"CellDecideModel", "openStatement", "()V"⟩ ⟨"CellDecideModel", "openStatement", "()V"⟩ ∈ zg_tbl := zs_6 (List.mem_of_getElem? (i := 9) rfl) rfl
theorem k_454 : Cond.fieldLink "CellDecideModel" 824 "CellDecideModel" "ends" "Z" ∈ zg_tbl := zt_9 (List.mem_of_getElem? (i := 220) rfl) rfl
theorem k_455 : Cond.code ⟨"CellDecideModel", "isSign", "(I)Z"⟩ prog_13_method_139_code 2 (Option.some Jvm.ClassFile.FieldType.boolean) ∈ zg_tbl := zt_11 (List.mem_of_getElem? (i := 75) rfl) rfl
theorem k_456 : Cond.methodLink "CellDecideModel" 757 ⟨"CellDecideModel", "isSign", "(I)Z"⟩ ∈ zg_tbl := zt_11 (List.mem_of_getElem? (i := 72) rfl) rfl
theorem k_457 : Cond.instanceMethod ⟨"CellDecideModel", "isSign", "(I)Z"⟩ ∈ zg_tbl := zt_11 (List.mem_of_getElem? (i := 74) rfl) rfl
theorem k_458 : Cond.selects "CellDecideModel" ⟨"CellDecideModel", "isSign", "(I)Z"⟩ ⟨"CellDecideModel", "isSign", "(I)Z"⟩ ∈ zg_tbl := zs_7 (List.mem_of_getElem? (i := 0) rfl) rfl
theorem k_459 : Cond.code ⟨"CellDecideModel", "beginSum", "(I)V"⟩ prog_13_method_147_code 3 (Option.none : Option Jvm.ClassFile.FieldType) ∈ zg_tbl := zt_11 (List.mem_of_getElem? (i := 103) rfl) rfl
theorem k_460 : Cond.methodLink "CellDecideModel" 785 ⟨"CellDecideModel", "beginSum", "(I)V"⟩ ∈ zg_tbl := zt_11 (List.mem_of_getElem? (i := 100) rfl) rfl
theorem k_461 : Cond.instanceMethod ⟨"CellDecideModel", "beginSum", "(I)V"⟩ ∈ zg_tbl := zt_11 (List.mem_of_getElem? (i := 102) rfl) rfl
theorem k_462 : Cond.selects "CellDecideModel" ⟨"CellDecideModel", "beginSum", "(I)V"⟩ ⟨"CellDecideModel", "beginSum", "(I)V"⟩ ∈ zg_tbl := zs_7 (List.mem_of_getElem? (i := 7) rfl) rfl
theorem k_463 : Cond.fieldLink "CellDecideModel" 706 "CellDecideModel" "faultPlace" "I" ∈ zg_tbl := zt_9 (List.mem_of_getElem? (i := 195) rfl) rfl
theorem k_464 : Cond.code ⟨"CellDecideModel", "fail", "(I)V"⟩ prog_13_method_134_code 2 (Option.none : Option Jvm.ClassFile.FieldType) ∈ zg_tbl := zt_11 (List.mem_of_getElem? (i := 59) rfl) rfl
theorem k_465 : Cond.methodLink "CellDecideModel" 712 ⟨"CellDecideModel", "fail", "(I)V"⟩ ∈ zg_tbl := zt_11 (List.mem_of_getElem? (i := 56) rfl) rfl
theorem k_466 : Cond.instanceMethod ⟨"CellDecideModel", "fail", "(I)V"⟩ ∈ zg_tbl := zt_11 (List.mem_of_getElem? (i := 58) rfl) rfl
theorem k_467 : Cond.selects "CellDecideModel" ⟨"CellDecideModel", "fail", "(I)V"⟩ ⟨"CellDecideModel", "fail", "(I)V"⟩ ∈ zg_tbl := zs_6 (List.mem_of_getElem? (i := 12) rfl) rfl
theorem k_468 : Cond.code ⟨"CellDecideModel", "cannot", "()V"⟩ prog_13_method_135_code 1 (Option.none : Option Jvm.ClassFile.FieldType) ∈ zg_tbl := zt_11 (List.mem_of_getElem? (i := 67) rfl) rfl
theorem k_469 : Cond.methodLink "CellDecideModel" 763 ⟨"CellDecideModel", "cannot", "()V"⟩ ∈ zg_tbl := zt_11 (List.mem_of_getElem? (i := 64) rfl) rfl
theorem k_470 : Cond.instanceMethod ⟨"CellDecideModel", "cannot", "()V"⟩ ∈ zg_tbl := zt_11 (List.mem_of_getElem? (i := 66) rfl) rfl
theorem k_471 : Cond.selects "CellDecideModel" ⟨"CellDecideModel", "cannot", "()V"⟩ ⟨"CellDecideModel", "cannot", "()V"⟩ ∈ zg_tbl := zs_6 (List.mem_of_getElem? (i := 14) rfl) rfl
theorem k_472 : Cond.code ⟨"CellDecideModel", "readAtom", "()V"⟩ prog_13_method_148_code 2 (Option.none : Option Jvm.ClassFile.FieldType) ∈ zg_tbl := zt_11 (List.mem_of_getElem? (i := 107) rfl) rfl
theorem k_473 : Cond.methodLink "CellDecideModel" 791 ⟨"CellDecideModel", "readAtom", "()V"⟩ ∈ zg_tbl := zt_11 (List.mem_of_getElem? (i := 104) rfl) rfl
theorem k_474 : Cond.instanceMethod ⟨"CellDecideModel", "readAtom", "()V"⟩ ∈ zg_tbl := zt_11 (List.mem_of_getElem? (i := 106) rfl) rfl
theorem k_475 : Cond.selects "CellDecideModel" ⟨"CellDecideModel", "readAtom", "()V"⟩ ⟨"CellDecideModel", "readAtom", "()V"⟩ ∈ zg_tbl := zs_7 (List.mem_of_getElem? (i := 8) rfl) rfl
theorem k_476 : Cond.code ⟨"CellDecideModel", "readSum", "()V"⟩ prog_13_method_149_code 5 (Option.none : Option Jvm.ClassFile.FieldType) ∈ zg_tbl := zt_11 (List.mem_of_getElem? (i := 99) rfl) rfl
theorem k_477 : Cond.methodLink "CellDecideModel" 827 ⟨"CellDecideModel", "readSum", "()V"⟩ ∈ zg_tbl := zt_11 (List.mem_of_getElem? (i := 96) rfl) rfl
theorem k_478 : Cond.instanceMethod ⟨"CellDecideModel", "readSum", "()V"⟩ ∈ zg_tbl := zt_11 (List.mem_of_getElem? (i := 98) rfl) rfl
theorem k_479 : Cond.selects "CellDecideModel" ⟨"CellDecideModel", "readSum", "()V"⟩ ⟨"CellDecideModel", "readSum", "()V"⟩ ∈ zg_tbl := zs_7 (List.mem_of_getElem? (i := 6) rfl) rfl
theorem k_480 : Cond.code ⟨"CellDecideModel", "readComparison", "()V"⟩ prog_13_method_156_code 5 (Option.none : Option Jvm.ClassFile.FieldType) ∈ zg_tbl := zt_11 (List.mem_of_getElem? (i := 95) rfl) rfl
theorem k_481 : Cond.methodLink "CellDecideModel" 848 ⟨"CellDecideModel", "readComparison", "()V"⟩ ∈ zg_tbl := zt_11 (List.mem_of_getElem? (i := 92) rfl) rfl
theorem k_482 : Cond.instanceMethod ⟨"CellDecideModel", "readComparison", "()V"⟩ ∈ zg_tbl := zt_11 (List.mem_of_getElem? (i := 94) rfl) rfl
theorem k_483 : Cond.selects "CellDecideModel" ⟨"CellDecideModel", "readComparison", "()V"⟩ ⟨"CellDecideModel", "readComparison", "()V"⟩ ∈ zg_tbl := zs_7 (List.mem_of_getElem? (i := 5) rfl) rfl
theorem k_484 : Cond.code ⟨"CellDecideModel", "readOne", "()V"⟩ prog_13_method_157_code 2 (Option.none : Option Jvm.ClassFile.FieldType) ∈ zg_tbl := zt_11 (List.mem_of_getElem? (i := 79) rfl) rfl
theorem k_485 : Cond.methodLink "CellDecideModel" 851 ⟨"CellDecideModel", "readOne", "()V"⟩ ∈ zg_tbl := zt_11 (List.mem_of_getElem? (i := 76) rfl) rfl
theorem k_486 : Cond.instanceMethod ⟨"CellDecideModel", "readOne", "()V"⟩ ∈ zg_tbl := zt_11 (List.mem_of_getElem? (i := 78) rfl) rfl
theorem k_487 : Cond.selects "CellDecideModel" ⟨"CellDecideModel", "readOne", "()V"⟩ ⟨"CellDecideModel", "readOne", "()V"⟩ ∈ zg_tbl := zs_7 (List.mem_of_getElem? (i := 1) rfl) rfl
theorem k_488 : Cond.code ⟨"CellDecideModel", "readStatement", "()V"⟩ prog_13_method_158_code 3 (Option.none : Option Jvm.ClassFile.FieldType) ∈ zg_tbl := zt_11 (List.mem_of_getElem? (i := 43) rfl) rfl
theorem k_489 : Cond.methodLink "CellDecideModel" 869 ⟨"CellDecideModel", "readStatement", "()V"⟩ ∈ zg_tbl := zt_11 (List.mem_of_getElem? (i := 40) rfl) rfl
theorem k_490 : Cond.instanceMethod ⟨"CellDecideModel", "readStatement", "()V"⟩ ∈ zg_tbl := zt_11 (List.mem_of_getElem? (i := 42) rfl) rfl
theorem k_491 : Cond.selects "CellDecideModel" ⟨"CellDecideModel", "readStatement", "()V"⟩ ⟨"CellDecideModel", "readStatement", "()V"⟩ ∈ zg_tbl := zs_6 (List.mem_of_getElem? (i := 8) rfl) rfl
theorem k_492 : Cond.code ⟨"CellDecideModel", "told", "()I"⟩ prog_13_method_160_code 1 (Option.some Jvm.ClassFile.FieldType.int) ∈ zg_tbl := zt_11 (List.mem_of_getElem? (i := 139) rfl) rfl
theorem k_493 : Cond.methodLink "CellDecideModel" 875 ⟨"CellDecideModel", "told", "()I"⟩ ∈ zg_tbl := zt_11 (List.mem_of_getElem? (i := 136) rfl) rfl
theorem k_494 : Cond.instanceMethod ⟨"CellDecideModel", "told", "()I"⟩ ∈ zg_tbl := zt_11 (List.mem_of_getElem? (i := 138) rfl) rfl
theorem k_495 : Cond.selects "CellDecideModel" ⟨"CellDecideModel", "told", "()I"⟩ ⟨"CellDecideModel", "told", "()I"⟩ ∈ zg_tbl := zs_7 (List.mem_of_getElem? (i := 15) rfl) rfl
theorem k_496 : Cond.code ⟨"CellDecideModel", "readCurve", "(I)V"⟩ prog_13_method_174_code 4 (Option.none : Option Jvm.ClassFile.FieldType) ∈ zg_tbl := zt_13 (List.mem_of_getElem? (i := 220) rfl) rfl
theorem k_497 : Cond.methodLink "CellDecideModel" 921 ⟨"CellDecideModel", "readCurve", "(I)V"⟩ ∈ zg_tbl := zt_13 (List.mem_of_getElem? (i := 217) rfl) rfl
theorem k_498 : Cond.instanceMethod ⟨"CellDecideModel", "readCurve", "(I)V"⟩ ∈ zg_tbl := zt_13 (List.mem_of_getElem? (i := 219) rfl) rfl
theorem k_499 : Cond.selects "CellDecideModel" ⟨"CellDecideModel", "readCurve", "(I)V"⟩ ⟨"CellDecideModel", "readCurve", "(I)V"⟩ ∈ zg_tbl := zs_16 (List.mem_of_getElem? (i := 1) rfl) rfl
theorem k_500 : Cond.code ⟨"CellDecideModel", "take", "(I)V"⟩ prog_13_method_142_code 2 (Option.none : Option Jvm.ClassFile.FieldType) ∈ zg_tbl := zt_11 (List.mem_of_getElem? (i := 71) rfl) rfl
theorem k_501 : Cond.methodLink "CellDecideModel" 800 ⟨"CellDecideModel", "take", "(I)V"⟩ ∈ zg_tbl := zt_11 (List.mem_of_getElem? (i := 68) rfl) rfl
theorem k_502 : Cond.instanceMethod ⟨"CellDecideModel", "take", "(I)V"⟩ ∈ zg_tbl := zt_11 (List.mem_of_getElem? (i := 70) rfl) rfl
theorem k_503 : Cond.selects "CellDecideModel" ⟨"CellDecideModel", "take", "(I)V"⟩ ⟨"CellDecideModel", "take", "(I)V"⟩ ∈ zg_tbl := zs_6 (List.mem_of_getElem? (i := 15) rfl) rfl
