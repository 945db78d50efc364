def y_C_Root_init : MethodName := ⟨"CellDecide$Root", "<init>", "()V"⟩
abbrev w_C_Root_init : List Cond := Cond.code y_C_Root_init prog_7_method_1_code 1 (Option.none : Option Jvm.ClassFile.FieldType) :: zg_tbl
def y_C_Statement_init : MethodName := ⟨"CellDecide$Statement", "<init>", "()V"⟩
abbrev w_C_Statement_init : List Cond := Cond.code y_C_Statement_init prog_11_method_1_code 1 (Option.none : Option Jvm.ClassFile.FieldType) :: zg_tbl
def y_C_Reader_init_BLCellDe : MethodName := ⟨"CellDecide$Reader", "<init>", "([BLCellDecide$Statement;)V"⟩
abbrev w_C_Reader_init_BLCellDe : List Cond := Cond.code y_C_Reader_init_BLCellDe prog_6_method_1_code 3 (Option.none : Option Jvm.ClassFile.FieldType) :: zg_tbl
def y_AbstractStringBuilder_init_I : MethodName := ⟨"java/lang/AbstractStringBuilder", "<init>", "(I)V"⟩
abbrev w_AbstractStringBuilder_init_I : List Cond := Cond.code y_AbstractStringBuilder_init_I prog_15_method_2_code 2 (Option.none : Option Jvm.ClassFile.FieldType) :: zg_tbl
def y_StringBuilder_init : MethodName := ⟨"java/lang/StringBuilder", "<init>", "()V"⟩
abbrev w_StringBuilder_init : List Cond := Cond.code y_StringBuilder_init prog_25_method_1_code 1 (Option.none : Option Jvm.ClassFile.FieldType) :: zg_tbl
def y_C_Numbers_init_I : MethodName := ⟨"CellDecide$Numbers", "<init>", "(I)V"⟩
abbrev w_C_Numbers_init_I : List Cond := Cond.code y_C_Numbers_init_I prog_4_method_1_code 2 (Option.none : Option Jvm.ClassFile.FieldType) :: zg_tbl
def y_C_Polys_init_LCellDec : MethodName := ⟨"CellDecide$Polys", "<init>", "(LCellDecide$Numbers;)V"⟩
abbrev w_C_Polys_init_LCellDec : List Cond := Cond.code y_C_Polys_init_LCellDec prog_5_method_1_code 2 (Option.none : Option Jvm.ClassFile.FieldType) :: zg_tbl
def y_C_Splitter_init_LCellDec : MethodName := ⟨"CellDecide$Splitter", "<init>", "(LCellDecide$Polys;)V"⟩
abbrev w_C_Splitter_init_LCellDec : List Cond := Cond.code y_C_Splitter_init_LCellDec prog_9_method_1_code 2 (Option.none : Option Jvm.ClassFile.FieldType) :: zg_tbl
def y_C_Curves_init_LCellDec : MethodName := ⟨"CellDecide$Curves", "<init>", "(LCellDecide$Polys;)V"⟩
abbrev w_C_Curves_init_LCellDec : List Cond := Cond.code y_C_Curves_init_LCellDec prog_2_method_1_code 2 (Option.none : Option Jvm.ClassFile.FieldType) :: zg_tbl
def y_C_Spot_init_LCellDec : MethodName := ⟨"CellDecide$Spot", "<init>", "(LCellDecide$Polys;)V"⟩
abbrev w_C_Spot_init_LCellDec : List Cond := Cond.code y_C_Spot_init_LCellDec prog_10_method_1_code 2 (Option.none : Option Jvm.ClassFile.FieldType) :: zg_tbl
def y_C_Line_init_LCellDec : MethodName := ⟨"CellDecide$Line", "<init>", "(LCellDecide$Curves;LCellDecide$Spot;LCellDecide$Statement;)V"⟩
abbrev w_C_Line_init_LCellDec : List Cond := Cond.code y_C_Line_init_LCellDec prog_3_method_1_code 5 (Option.none : Option Jvm.ClassFile.FieldType) :: zg_tbl
def y_AbstractCollection_init : MethodName := ⟨"java/util/AbstractCollection", "<init>", "()V"⟩
abbrev w_AbstractCollection_init : List Cond := Cond.code y_AbstractCollection_init prog_30_method_1_code 1 (Option.none : Option Jvm.ClassFile.FieldType) :: zg_tbl
def y_AbstractList_init : MethodName := ⟨"java/util/AbstractList", "<init>", "()V"⟩
abbrev w_AbstractList_init : List Cond := Cond.code y_AbstractList_init prog_31_method_1_code 1 (Option.none : Option Jvm.ClassFile.FieldType) :: zg_tbl
def y_ArrayList_init : MethodName := ⟨"java/util/ArrayList", "<init>", "()V"⟩
abbrev w_ArrayList_init : List Cond := Cond.code y_ArrayList_init prog_32_method_2_code 1 (Option.none : Option Jvm.ClassFile.FieldType) :: zg_tbl
def y_C_Roots_init_LCellDec : MethodName := ⟨"CellDecide$Roots", "<init>", "(LCellDecide$Polys;LCellDecide$Splitter;)V"⟩
abbrev w_C_Roots_init_LCellDec : List Cond := Cond.code y_C_Roots_init_LCellDec prog_8_method_1_code 3 (Option.none : Option Jvm.ClassFile.FieldType) :: zg_tbl
def y_CD_init : MethodName := ⟨"CellDecide", "<init>", "()V"⟩
abbrev w_CD_init : List Cond := Cond.code y_CD_init prog_1_method_1_code 1 (Option.none : Option Jvm.ClassFile.FieldType) :: zg_tbl
theorem k_0 : Cond.methodLink "CellDecide$Root" 1 ⟨"java/lang/Object", "<init>", "()V"⟩ ∈ zg_tbl := zt_2 (List.mem_of_getElem? (i := 208) rfl) rfl
theorem k_1 : Cond.instanceMethod ⟨"java/lang/Object", "<init>", "()V"⟩ ∈ zg_tbl := zt_1 (List.mem_of_getElem? (i := 39) rfl) rfl
theorem k_2 : Cond.code ⟨"java/lang/Object", "<init>", "()V"⟩ object_method_1_code 1 (Option.none : Option Jvm.ClassFile.FieldType) ∈ zg_tbl := zt_1 (List.mem_of_getElem? (i := 40) rfl) rfl
theorem k_3 : Cond.arrayClass Jvm.ClassFile.FieldType.int ∈ zg_tbl := zt_1 (List.mem_of_getElem? (i := 136) rfl) rfl
theorem k_4 : Cond.fieldLink "CellDecide$Root" 7 "CellDecide$Root" "limb" "[I" ∈ zg_tbl := zt_2 (List.mem_of_getElem? (i := 223) rfl) rfl
theorem k_5 : Cond.methodLink "CellDecide" 1 ⟨"java/lang/Object", "<init>", "()V"⟩ ∈ zg_tbl := zt_1 (List.mem_of_getElem? (i := 38) rfl) rfl
theorem k_6 : Cond.arrayClass Jvm.ClassFile.FieldType.byte ∈ zg_tbl := zt_1 (List.mem_of_getElem? (i := 135) rfl) rfl
theorem k_7 : Cond.fieldLink "CellDecide" 9 "CellDecide" "tape" "[B" ∈ zg_tbl := zt_3 (List.mem_of_getElem? (i := 151) rfl) rfl
theorem k_8 : Cond.classLink "CellDecide" 13 "CellDecide$Statement" ∈ zg_tbl := zt_1 (List.mem_of_getElem? (i := 41) rfl) rfl
theorem k_9 : Cond.instantiable "CellDecide$Statement" 19 ∈ zg_tbl := zt_1 (List.mem_of_getElem? (i := 42) rfl) rfl
theorem k_10 : Cond.initialized "CellDecide$Statement" ∈ zg_tbl := zt_1 (List.mem_of_getElem? (i := 2) rfl) rfl
theorem k_11 : Cond.methodLink "CellDecide$Statement" 3 ⟨"java/lang/Object", "<init>", "()V"⟩ ∈ zg_tbl := zt_1 (List.mem_of_getElem? (i := 46) rfl) rfl
theorem k_12 : Cond.fieldLink "CellDecide$Statement" 9 "CellDecide$Statement" "answer" "I" ∈ zg_tbl := zt_1 (List.mem_of_getElem? (i := 55) rfl) rfl
theorem k_13 : Cond.fieldLink "CellDecide$Statement" 15 "CellDecide$Statement" "code" "[I" ∈ zg_tbl := zt_1 (List.mem_of_getElem? (i := 58) rfl) rfl
theorem k_14 : Cond.arrayClass Jvm.ClassFile.FieldType.boolean ∈ zg_tbl := zt_1 (List.mem_of_getElem? (i := 137) rfl) rfl
theorem k_15 : Cond.fieldLink "CellDecide$Statement" 19 "CellDecide$Statement" "stack" "[Z" ∈ zg_tbl := zt_1 (List.mem_of_getElem? (i := 59) rfl) rfl
theorem k_16 : Cond.classLink "CellDecide$Statement" 25 "[[I" ∈ zg_tbl := zt_1 (List.mem_of_getElem? (i := 47) rfl) rfl
theorem k_17 : Cond.fieldLink "CellDecide$Statement" 27 "CellDecide$Statement" "poly" "[[I" ∈ zg_tbl := zt_1 (List.mem_of_getElem? (i := 64) rfl) rfl
theorem k_18 : Cond.fieldLink "CellDecide$Statement" 30 "CellDecide$Statement" "relation" "[I" ∈ zg_tbl := zt_1 (List.mem_of_getElem? (i := 67) rfl) rfl
theorem k_19 : Cond.fieldLink "CellDecide$Statement" 33 "CellDecide$Statement" "holder" "[I" ∈ zg_tbl := zt_1 (List.mem_of_getElem? (i := 69) rfl) rfl
theorem k_20 : Cond.fieldLink "CellDecide$Statement" 36 "CellDecide$Statement" "sign" "[I" ∈ zg_tbl := zt_1 (List.mem_of_getElem? (i := 73) rfl) rfl
theorem k_21 : Cond.fieldLink "CellDecide$Statement" 39 "CellDecide$Statement" "some" "[Z" ∈ zg_tbl := zt_1 (List.mem_of_getElem? (i := 80) rfl) rfl
theorem k_22 : Cond.fieldLink "CellDecide$Statement" 42 "CellDecide$Statement" "variable" "[I" ∈ zg_tbl := zt_1 (List.mem_of_getElem? (i := 83) rfl) rfl
theorem k_23 : Cond.fieldLink "CellDecide$Statement" 45 "CellDecide$Statement" "variablePlace" "[I" ∈ zg_tbl := zt_1 (List.mem_of_getElem? (i := 86) rfl) rfl
theorem k_24 : Cond.fieldLink "CellDecide$Statement" 48 "CellDecide$Statement" "parent" "[I" ∈ zg_tbl := zt_1 (List.mem_of_getElem? (i := 88) rfl) rfl
theorem k_25 : Cond.fieldLink "CellDecide$Statement" 51 "CellDecide$Statement" "from" "[I" ∈ zg_tbl := zt_1 (List.mem_of_getElem? (i := 91) rfl) rfl
theorem k_26 : Cond.fieldLink "CellDecide$Statement" 54 "CellDecide$Statement" "till" "[I" ∈ zg_tbl := zt_1 (List.mem_of_getElem? (i := 92) rfl) rfl
theorem k_27 : Cond.fieldLink "CellDecide$Statement" 57 "CellDecide$Statement" "value" "[Z" ∈ zg_tbl := zt_1 (List.mem_of_getElem? (i := 93) rfl) rfl
theorem k_28 : Cond.code ⟨"CellDecide$Statement", "<init>", "()V"⟩ prog_11_method_1_code 1 (Option.none : Option Jvm.ClassFile.FieldType) ∈ zg_tbl := zt_1 (List.mem_of_getElem? (i := 45) rfl) rfl
theorem k_29 : Cond.instanceMethod ⟨"CellDecide$Statement", "<init>", "()V"⟩ ∈ zg_tbl := zt_1 (List.mem_of_getElem? (i := 44) rfl) rfl
theorem k_30 : Cond.fieldLink "CellDecide" 16 "CellDecide" "statement" "LCellDecide$Statement;" ∈ zg_tbl := zt_3 (List.mem_of_getElem? (i := 154) rfl) rfl
theorem k_31 : Cond.classLink "CellDecide" 20 "CellDecide$Reader" ∈ zg_tbl := zt_1 (List.mem_of_getElem? (i := 138) rfl) rfl
theorem k_32 : Cond.instantiable "CellDecide$Reader" 19 ∈ zg_tbl := zt_1 (List.mem_of_getElem? (i := 139) rfl) rfl
theorem k_33 : Cond.initialized "CellDecide$Reader" ∈ zg_tbl := zt_1 (List.mem_of_getElem? (i := 3) rfl) rfl
theorem k_34 : Cond.methodLink "CellDecide$Reader" 5 ⟨"java/lang/Object", "<init>", "()V"⟩ ∈ zg_tbl := zt_1 (List.mem_of_getElem? (i := 143) rfl) rfl
theorem k_35 : Cond.fieldLink "CellDecide$Reader" 11 "CellDecide$Reader" "bound" "[Z" ∈ zg_tbl := zt_1 (List.mem_of_getElem? (i := 161) rfl) rfl
theorem k_36 : Cond.classLink "CellDecide$Reader" 15 "[[I" ∈ zg_tbl := zt_1 (List.mem_of_getElem? (i := 144) rfl) rfl
theorem k_37 : Cond.fieldLink "CellDecide$Reader" 17 "CellDecide$Reader" "slot" "[[I" ∈ zg_tbl := zt_1 (List.mem_of_getElem? (i := 162) rfl) rfl
theorem k_38 : Cond.arrayClass Jvm.ClassFile.FieldType.long ∈ zg_tbl := zt_1 (List.mem_of_getElem? (i := 206) rfl) rfl
theorem k_39 : Cond.fieldLink "CellDecide$Reader" 20 "CellDecide$Reader" "product" "[J" ∈ zg_tbl := zt_1 (List.mem_of_getElem? (i := 163) rfl) rfl
theorem k_40 : Cond.fieldLink "CellDecide$Reader" 24 "CellDecide$Reader" "curve" "[[I" ∈ zg_tbl := zt_1 (List.mem_of_getElem? (i := 165) rfl) rfl
theorem k_41 : Cond.fieldLink "CellDecide$Reader" 27 "CellDecide$Reader" "tape" "[B" ∈ zg_tbl := zt_1 (List.mem_of_getElem? (i := 145) rfl) rfl
theorem k_42 : Cond.fieldLink "CellDecide$Reader" 31 "CellDecide$Reader" "statement" "LCellDecide$Statement;" ∈ zg_tbl := zt_1 (List.mem_of_getElem? (i := 164) rfl) rfl
theorem k_43 : Cond.code ⟨"CellDecide$Reader", "<init>", "([BLCellDecide$Statement;)V"⟩ prog_6_method_1_code 3 (Option.none : Option Jvm.ClassFile.FieldType) ∈ zg_tbl := zt_1 (List.mem_of_getElem? (i := 142) rfl) rfl
theorem k_44 : Cond.methodLink "CellDecide" 22 ⟨"CellDecide$Reader", "<init>", "([BLCellDecide$Statement;)V"⟩ ∈ zg_tbl := zt_1 (List.mem_of_getElem? (i := 140) rfl) rfl
theorem k_45 : Cond.instanceMethod ⟨"CellDecide$Reader", "<init>", "([BLCellDecide$Statement;)V"⟩ ∈ zg_tbl := zt_1 (List.mem_of_getElem? (i := 141) rfl) rfl
theorem k_46 : Cond.fieldLink "CellDecide" 25 "CellDecide" "reader" "LCellDecide$Reader;" ∈ zg_tbl := zt_3 (List.mem_of_getElem? (i := 155) rfl) rfl
theorem k_47 : Cond.classLink "CellDecide" 29 "CellDecide$Polys" ∈ zg_tbl := zt_1 (List.mem_of_getElem? (i := 207) rfl) rfl
theorem k_48 : Cond.instantiable "CellDecide$Polys" 1 ∈ zg_tbl := zt_1 (List.mem_of_getElem? (i := 208) rfl) rfl
theorem k_49 : Cond.initialized "CellDecide$Polys" ∈ zg_tbl := zt_1 (List.mem_of_getElem? (i := 4) rfl) rfl
theorem k_50 : Cond.classLink "CellDecide" 31 "CellDecide$Numbers" ∈ zg_tbl := zt_1 (List.mem_of_getElem? (i := 209) rfl) rfl
theorem k_51 : Cond.instantiable "CellDecide$Numbers" 4 ∈ zg_tbl := zt_1 (List.mem_of_getElem? (i := 210) rfl) rfl
theorem k_52 : Cond.initialized "CellDecide$Numbers" ∈ zg_tbl := zt_1 (List.mem_of_getElem? (i := 5) rfl) rfl
theorem k_53 : Cond.methodLink "CellDecide$Numbers" 5 ⟨"java/lang/Object", "<init>", "()V"⟩ ∈ zg_tbl := zt_1 (List.mem_of_getElem? (i := 214) rfl) rfl
theorem k_54 : Cond.fieldLink "CellDecide$Numbers" 11 "CellDecide$Numbers" "top" "I" ∈ zg_tbl := zt_2 (List.mem_of_getElem? (i := 15) rfl) rfl
theorem k_55 : Cond.classLink "CellDecide$Numbers" 15 "java/lang/StringBuilder" ∈ zg_tbl := zt_1 (List.mem_of_getElem? (i := 215) rfl) rfl
theorem k_56 : Cond.instantiable "java/lang/StringBuilder" 4 ∈ zg_tbl := zt_1 (List.mem_of_getElem? (i := 216) rfl) rfl
theorem k_57 : Cond.initialized "java/lang/StringBuilder" ∈ zg_tbl := zt_1 (List.mem_of_getElem? (i := 7) rfl) rfl
theorem k_58 : Cond.methodLink "java/lang/AbstractStringBuilder" 3 ⟨"java/lang/Object", "<init>", "()V"⟩ ∈ zg_tbl := zt_1 (List.mem_of_getElem? (i := 223) rfl) rfl
theorem k_59 : Cond.fieldLink "java/lang/AbstractStringBuilder" 18 "java/lang/String" "COMPACT_STRINGS" "Z" ∈ zg_tbl := zt_1 (List.mem_of_getElem? (i := 224) rfl) rfl
theorem k_60 : Cond.fieldLink "java/lang/AbstractStringBuilder" 15 "java/lang/AbstractStringBuilder" "value" "[B" ∈ zg_tbl := zt_1 (List.mem_of_getElem? (i := 233) rfl) rfl
theorem k_61 : Cond.fieldLink "java/lang/AbstractStringBuilder" 22 "java/lang/AbstractStringBuilder" "coder" "B" ∈ zg_tbl := zt_1 (List.mem_of_getElem? (i := 234) rfl) rfl
theorem k_62 : Cond.code ⟨"java/lang/AbstractStringBuilder", "<init>", "(I)V"⟩ prog_15_method_2_code 2 (Option.none : Option Jvm.ClassFile.FieldType) ∈ zg_tbl := zt_1 (List.mem_of_getElem? (i := 222) rfl) rfl
theorem k_63 : Cond.initialized "java/lang/AbstractStringBuilder" ∈ zg_tbl := zt_1 (List.mem_of_getElem? (i := 6) rfl) rfl
theorem k_64 : Cond.methodLink "java/lang/StringBuilder" 1 ⟨"java/lang/AbstractStringBuilder", "<init>", "(I)V"⟩ ∈ zg_tbl := zt_1 (List.mem_of_getElem? (i := 220) rfl) rfl
theorem k_65 : Cond.instanceMethod ⟨"java/lang/AbstractStringBuilder", "<init>", "(I)V"⟩ ∈ zg_tbl := zt_1 (List.mem_of_getElem? (i := 221) rfl) rfl
theorem k_66 : Cond.code ⟨"java/lang/StringBuilder", "<init>", "()V"⟩ prog_25_method_1_code 1 (Option.none : Option Jvm.ClassFile.FieldType) ∈ zg_tbl := zt_1 (List.mem_of_getElem? (i := 219) rfl) rfl
theorem k_67 : Cond.methodLink "CellDecide$Numbers" 17 ⟨"java/lang/StringBuilder", "<init>", "()V"⟩ ∈ zg_tbl := zt_1 (List.mem_of_getElem? (i := 217) rfl) rfl
theorem k_68 : Cond.instanceMethod ⟨"java/lang/StringBuilder", "<init>", "()V"⟩ ∈ zg_tbl := zt_1 (List.mem_of_getElem? (i := 218) rfl) rfl
theorem k_69 : Cond.fieldLink "CellDecide$Numbers" 18 "CellDecide$Numbers" "reversed" "Ljava/lang/StringBuilder;" ∈ zg_tbl := zt_2 (List.mem_of_getElem? (i := 26) rfl) rfl
theorem k_70 : Cond.methodLink "CellDecide$Numbers" 22 ⟨"java/lang/Math", "max", "(II)I"⟩ ∈ zg_tbl := zt_2 (List.mem_of_getElem? (i := 7) rfl) rfl
theorem k_71 : Cond.static ⟨"java/lang/Math", "max", "(II)I"⟩ ∈ zg_tbl := zt_2 (List.mem_of_getElem? (i := 8) rfl) rfl
theorem k_72 : Cond.initialized "java/lang/Math" ∈ zg_tbl := zt_1 (List.mem_of_getElem? (i := 10) rfl) rfl
theorem k_73 : Cond.code ⟨"java/lang/Math", "max", "(II)I"⟩ prog_22_method_65_code 2 (Option.some Jvm.ClassFile.FieldType.int) ∈ zg_tbl := zt_2 (List.mem_of_getElem? (i := 9) rfl) rfl
theorem k_74 : Cond.fieldLink "CellDecide$Numbers" 28 "CellDecide$Numbers" "w" "[I" ∈ zg_tbl := zt_2 (List.mem_of_getElem? (i := 10) rfl) rfl
theorem k_75 : Cond.code ⟨"CellDecide$Numbers", "<init>", "(I)V"⟩ prog_4_method_1_code 2 (Option.none : Option Jvm.ClassFile.FieldType) ∈ zg_tbl := zt_1 (List.mem_of_getElem? (i := 213) rfl) rfl
theorem k_76 : Cond.methodLink "CellDecide" 33 ⟨"CellDecide$Numbers", "<init>", "(I)V"⟩ ∈ zg_tbl := zt_1 (List.mem_of_getElem? (i := 211) rfl) rfl
theorem k_77 : Cond.instanceMethod ⟨"CellDecide$Numbers", "<init>", "(I)V"⟩ ∈ zg_tbl := zt_1 (List.mem_of_getElem? (i := 212) rfl) rfl
theorem k_78 : Cond.methodLink "CellDecide$Polys" 3 ⟨"java/lang/Object", "<init>", "()V"⟩ ∈ zg_tbl := zt_2 (List.mem_of_getElem? (i := 39) rfl) rfl
theorem k_79 : Cond.fieldLink "CellDecide$Polys" 9 "CellDecide$Polys" "numbers" "LCellDecide$Numbers;" ∈ zg_tbl := zt_2 (List.mem_of_getElem? (i := 40) rfl) rfl
theorem k_80 : Cond.code ⟨"CellDecide$Polys", "<init>", "(LCellDecide$Numbers;)V"⟩ prog_5_method_1_code 2 (Option.none : Option Jvm.ClassFile.FieldType) ∈ zg_tbl := zt_2 (List.mem_of_getElem? (i := 38) rfl) rfl
theorem k_81 : Cond.methodLink "CellDecide" 36 ⟨"CellDecide$Polys", "<init>", "(LCellDecide$Numbers;)V"⟩ ∈ zg_tbl := zt_2 (List.mem_of_getElem? (i := 36) rfl) rfl
theorem k_82 : Cond.instanceMethod ⟨"CellDecide$Polys", "<init>", "(LCellDecide$Numbers;)V"⟩ ∈ zg_tbl := zt_2 (List.mem_of_getElem? (i := 37) rfl) rfl
theorem k_83 : Cond.fieldLink "CellDecide" 39 "CellDecide" "polys" "LCellDecide$Polys;" ∈ zg_tbl := zt_3 (List.mem_of_getElem? (i := 156) rfl) rfl
theorem k_84 : Cond.classLink "CellDecide" 43 "CellDecide$Splitter" ∈ zg_tbl := zt_2 (List.mem_of_getElem? (i := 50) rfl) rfl
theorem k_85 : Cond.instantiable "CellDecide$Splitter" 20 ∈ zg_tbl := zt_2 (List.mem_of_getElem? (i := 51) rfl) rfl
theorem k_86 : Cond.initialized "CellDecide$Splitter" ∈ zg_tbl := zt_1 (List.mem_of_getElem? (i := 11) rfl) rfl
theorem k_87 : Cond.methodLink "CellDecide$Splitter" 5 ⟨"java/lang/Object", "<init>", "()V"⟩ ∈ zg_tbl := zt_2 (List.mem_of_getElem? (i := 55) rfl) rfl
theorem k_88 : Cond.fieldLink "CellDecide$Splitter" 11 "CellDecide$Splitter" "prime" "I" ∈ zg_tbl := zt_2 (List.mem_of_getElem? (i := 58) rfl) rfl
theorem k_89 : Cond.fieldLink "CellDecide$Splitter" 15 "CellDecide$Splitter" "inverse" "[I" ∈ zg_tbl := zt_2 (List.mem_of_getElem? (i := 59) rfl) rfl
theorem k_90 : Cond.fieldLink "CellDecide$Splitter" 19 "CellDecide$Splitter" "whole" "[I" ∈ zg_tbl := zt_2 (List.mem_of_getElem? (i := 61) rfl) rfl
theorem k_91 : Cond.classLink "CellDecide$Splitter" 22 "[[I" ∈ zg_tbl := zt_2 (List.mem_of_getElem? (i := 56) rfl) rfl
theorem k_92 : Cond.fieldLink "CellDecide$Splitter" 24 "CellDecide$Splitter" "part" "[[I" ∈ zg_tbl := zt_2 (List.mem_of_getElem? (i := 63) rfl) rfl
theorem k_93 : Cond.fieldLink "CellDecide$Splitter" 27 "CellDecide$Splitter" "size" "[I" ∈ zg_tbl := zt_2 (List.mem_of_getElem? (i := 64) rfl) rfl
theorem k_94 : Cond.fieldLink "CellDecide$Splitter" 30 "CellDecide$Splitter" "matrix" "[[I" ∈ zg_tbl := zt_2 (List.mem_of_getElem? (i := 65) rfl) rfl
theorem k_95 : Cond.fieldLink "CellDecide$Splitter" 33 "CellDecide$Splitter" "column" "[I" ∈ zg_tbl := zt_2 (List.mem_of_getElem? (i := 66) rfl) rfl
theorem k_96 : Cond.fieldLink "CellDecide$Splitter" 36 "CellDecide$Splitter" "fixed" "[I" ∈ zg_tbl := zt_2 (List.mem_of_getElem? (i := 67) rfl) rfl
theorem k_97 : Cond.fieldLink "CellDecide$Splitter" 39 "CellDecide$Splitter" "one" "[I" ∈ zg_tbl := zt_2 (List.mem_of_getElem? (i := 68) rfl) rfl
theorem k_98 : Cond.fieldLink "CellDecide$Splitter" 42 "CellDecide$Splitter" "two" "[I" ∈ zg_tbl := zt_2 (List.mem_of_getElem? (i := 69) rfl) rfl
theorem k_99 : Cond.fieldLink "CellDecide$Splitter" 45 "CellDecide$Splitter" "three" "[I" ∈ zg_tbl := zt_2 (List.mem_of_getElem? (i := 70) rfl) rfl
theorem k_100 : Cond.fieldLink "CellDecide$Splitter" 48 "CellDecide$Splitter" "four" "[I" ∈ zg_tbl := zt_2 (List.mem_of_getElem? (i := 71) rfl) rfl
theorem k_101 : Cond.fieldLink "CellDecide$Splitter" 51 "CellDecide$Splitter" "helper" "[[I" ∈ zg_tbl := zt_2 (List.mem_of_getElem? (i := 72) rfl) rfl
theorem k_102 : Cond.fieldLink "CellDecide$Splitter" 54 "CellDecide$Splitter" "lifted" "[I" ∈ zg_tbl := zt_2 (List.mem_of_getElem? (i := 73) rfl) rfl
theorem k_103 : Cond.fieldLink "CellDecide$Splitter" 57 "CellDecide$Splitter" "factor" "[I" ∈ zg_tbl := zt_2 (List.mem_of_getElem? (i := 77) rfl) rfl
theorem k_104 : Cond.fieldLink "CellDecide$Splitter" 60 "CellDecide$Splitter" "polys" "LCellDecide$Polys;" ∈ zg_tbl := zt_2 (List.mem_of_getElem? (i := 57) rfl) rfl
theorem k_105 : Cond.code ⟨"CellDecide$Splitter", "<init>", "(LCellDecide$Polys;)V"⟩ prog_9_method_1_code 2 (Option.none : Option Jvm.ClassFile.FieldType) ∈ zg_tbl := zt_2 (List.mem_of_getElem? (i := 54) rfl) rfl
theorem k_106 : Cond.methodLink "CellDecide" 45 ⟨"CellDecide$Splitter", "<init>", "(LCellDecide$Polys;)V"⟩ ∈ zg_tbl := zt_2 (List.mem_of_getElem? (i := 52) rfl) rfl
theorem k_107 : Cond.instanceMethod ⟨"CellDecide$Splitter", "<init>", "(LCellDecide$Polys;)V"⟩ ∈ zg_tbl := zt_2 (List.mem_of_getElem? (i := 53) rfl) rfl
theorem k_108 : Cond.fieldLink "CellDecide" 48 "CellDecide" "splitter" "LCellDecide$Splitter;" ∈ zg_tbl := zt_3 (List.mem_of_getElem? (i := 157) rfl) rfl
theorem k_109 : Cond.classLink "CellDecide" 52 "CellDecide$Curves" ∈ zg_tbl := zt_2 (List.mem_of_getElem? (i := 120) rfl) rfl
theorem k_110 : Cond.instantiable "CellDecide$Curves" 8 ∈ zg_tbl := zt_2 (List.mem_of_getElem? (i := 121) rfl) rfl
theorem k_111 : Cond.initialized "CellDecide$Curves" ∈ zg_tbl := zt_1 (List.mem_of_getElem? (i := 12) rfl) rfl
theorem k_112 : Cond.methodLink "CellDecide$Curves" 3 ⟨"java/lang/Object", "<init>", "()V"⟩ ∈ zg_tbl := zt_2 (List.mem_of_getElem? (i := 125) rfl) rfl
theorem k_113 : Cond.fieldLink "CellDecide$Curves" 11 "CellDecide$Curves" "coefficient" "[I" ∈ zg_tbl := zt_2 (List.mem_of_getElem? (i := 129) rfl) rfl
theorem k_114 : Cond.fieldLink "CellDecide$Curves" 15 "CellDecide$Curves" "degree" "[I" ∈ zg_tbl := zt_2 (List.mem_of_getElem? (i := 130) rfl) rfl
theorem k_115 : Cond.fieldLink "CellDecide$Curves" 18 "CellDecide$Curves" "meeting" "[I" ∈ zg_tbl := zt_2 (List.mem_of_getElem? (i := 133) rfl) rfl
theorem k_116 : Cond.fieldLink "CellDecide$Curves" 21 "CellDecide$Curves" "turn" "[I" ∈ zg_tbl := zt_2 (List.mem_of_getElem? (i := 134) rfl) rfl
theorem k_117 : Cond.fieldLink "CellDecide$Curves" 24 "CellDecide$Curves" "middle" "[I" ∈ zg_tbl := zt_2 (List.mem_of_getElem? (i := 135) rfl) rfl
theorem k_118 : Cond.fieldLink "CellDecide$Curves" 27 "CellDecide$Curves" "matrix" "[I" ∈ zg_tbl := zt_2 (List.mem_of_getElem? (i := 136) rfl) rfl
theorem k_119 : Cond.fieldLink "CellDecide$Curves" 30 "CellDecide$Curves" "polys" "LCellDecide$Polys;" ∈ zg_tbl := zt_2 (List.mem_of_getElem? (i := 126) rfl) rfl
theorem k_120 : Cond.fieldLink "CellDecide$Curves" 34 "CellDecide$Polys" "numbers" "LCellDecide$Numbers;" ∈ zg_tbl := zt_2 (List.mem_of_getElem? (i := 43) rfl) rfl
theorem k_121 : Cond.fieldLink "CellDecide$Curves" 40 "CellDecide$Curves" "numbers" "LCellDecide$Numbers;" ∈ zg_tbl := zt_2 (List.mem_of_getElem? (i := 128) rfl) rfl
theorem k_122 : Cond.code ⟨"CellDecide$Curves", "<init>", "(LCellDecide$Polys;)V"⟩ prog_2_method_1_code 2 (Option.none : Option Jvm.ClassFile.FieldType) ∈ zg_tbl := zt_2 (List.mem_of_getElem? (i := 124) rfl) rfl
theorem k_123 : Cond.methodLink "CellDecide" 54 ⟨"CellDecide$Curves", "<init>", "(LCellDecide$Polys;)V"⟩ ∈ zg_tbl := zt_2 (List.mem_of_getElem? (i := 122) rfl) rfl
theorem k_124 : Cond.instanceMethod ⟨"CellDecide$Curves", "<init>", "(LCellDecide$Polys;)V"⟩ ∈ zg_tbl := zt_2 (List.mem_of_getElem? (i := 123) rfl) rfl
theorem k_125 : Cond.fieldLink "CellDecide" 55 "CellDecide" "curves" "LCellDecide$Curves;" ∈ zg_tbl := zt_3 (List.mem_of_getElem? (i := 158) rfl) rfl
theorem k_126 : Cond.classLink "CellDecide" 59 "CellDecide$Spot" ∈ zg_tbl := zt_2 (List.mem_of_getElem? (i := 154) rfl) rfl
theorem k_127 : Cond.instantiable "CellDecide$Spot" 11 ∈ zg_tbl := zt_2 (List.mem_of_getElem? (i := 155) rfl) rfl
theorem k_128 : Cond.initialized "CellDecide$Spot" ∈ zg_tbl := zt_1 (List.mem_of_getElem? (i := 13) rfl) rfl
theorem k_129 : Cond.methodLink "CellDecide$Spot" 3 ⟨"java/lang/Object", "<init>", "()V"⟩ ∈ zg_tbl := zt_2 (List.mem_of_getElem? (i := 159) rfl) rfl
theorem k_130 : Cond.fieldLink "CellDecide$Spot" 9 "CellDecide$Spot" "polys" "LCellDecide$Polys;" ∈ zg_tbl := zt_2 (List.mem_of_getElem? (i := 160) rfl) rfl
theorem k_131 : Cond.fieldLink "CellDecide$Spot" 15 "CellDecide$Polys" "numbers" "LCellDecide$Numbers;" ∈ zg_tbl := zt_2 (List.mem_of_getElem? (i := 41) rfl) rfl
theorem k_132 : Cond.fieldLink "CellDecide$Spot" 21 "CellDecide$Spot" "numbers" "LCellDecide$Numbers;" ∈ zg_tbl := zt_2 (List.mem_of_getElem? (i := 161) rfl) rfl
theorem k_133 : Cond.code ⟨"CellDecide$Spot", "<init>", "(LCellDecide$Polys;)V"⟩ prog_10_method_1_code 2 (Option.none : Option Jvm.ClassFile.FieldType) ∈ zg_tbl := zt_2 (List.mem_of_getElem? (i := 158) rfl) rfl
theorem k_134 : Cond.methodLink "CellDecide" 61 ⟨"CellDecide$Spot", "<init>", "(LCellDecide$Polys;)V"⟩ ∈ zg_tbl := zt_2 (List.mem_of_getElem? (i := 156) rfl) rfl
theorem k_135 : Cond.instanceMethod ⟨"CellDecide$Spot", "<init>", "(LCellDecide$Polys;)V"⟩ ∈ zg_tbl := zt_2 (List.mem_of_getElem? (i := 157) rfl) rfl
theorem k_136 : Cond.fieldLink "CellDecide" 62 "CellDecide" "spot" "LCellDecide$Spot;" ∈ zg_tbl := zt_3 (List.mem_of_getElem? (i := 159) rfl) rfl
theorem k_137 : Cond.classLink "CellDecide" 66 "CellDecide$Line" ∈ zg_tbl := zt_2 (List.mem_of_getElem? (i := 196) rfl) rfl
theorem k_138 : Cond.instantiable "CellDecide$Line" 19 ∈ zg_tbl := zt_2 (List.mem_of_getElem? (i := 197) rfl) rfl
theorem k_139 : Cond.initialized "CellDecide$Line" ∈ zg_tbl := zt_1 (List.mem_of_getElem? (i := 14) rfl) rfl
theorem k_140 : Cond.methodLink "CellDecide$Line" 3 ⟨"java/lang/Object", "<init>", "()V"⟩ ∈ zg_tbl := zt_2 (List.mem_of_getElem? (i := 201) rfl) rfl
theorem k_141 : Cond.fieldLink "CellDecide$Line" 11 "CellDecide$Line" "curve" "[I" ∈ zg_tbl := zt_3 (List.mem_of_getElem? (i := 27) rfl) rfl
theorem k_142 : Cond.fieldLink "CellDecide$Line" 15 "CellDecide$Line" "degree" "[I" ∈ zg_tbl := zt_3 (List.mem_of_getElem? (i := 28) rfl) rfl
theorem k_143 : Cond.fieldLink "CellDecide$Line" 18 "CellDecide$Line" "lead" "[I" ∈ zg_tbl := zt_3 (List.mem_of_getElem? (i := 29) rfl) rfl
theorem k_144 : Cond.fieldLink "CellDecide$Line" 21 "CellDecide$Line" "single" "[Z" ∈ zg_tbl := zt_3 (List.mem_of_getElem? (i := 30) rfl) rfl
theorem k_145 : Cond.fieldLink "CellDecide$Line" 25 "CellDecide$Line" "quick" "[Z" ∈ zg_tbl := zt_3 (List.mem_of_getElem? (i := 31) rfl) rfl
theorem k_146 : Cond.arrayClass Jvm.ClassFile.FieldType.double ∈ zg_tbl := zt_3 (List.mem_of_getElem? (i := 20) rfl) rfl
theorem k_147 : Cond.fieldLink "CellDecide$Line" 28 "CellDecide$Line" "value" "[D" ∈ zg_tbl := zt_3 (List.mem_of_getElem? (i := 32) rfl) rfl
theorem k_148 : Cond.fieldLink "CellDecide$Line" 32 "CellDecide$Line" "error" "[D" ∈ zg_tbl := zt_3 (List.mem_of_getElem? (i := 33) rfl) rfl
theorem k_149 : Cond.classLink "CellDecide$Line" 35 "CellDecide$Root" ∈ zg_tbl := zt_2 (List.mem_of_getElem? (i := 202) rfl) rfl
theorem k_150 : Cond.fieldLink "CellDecide$Line" 37 "CellDecide$Line" "root" "[LCellDecide$Root;" ∈ zg_tbl := zt_3 (List.mem_of_getElem? (i := 36) rfl) rfl
theorem k_151 : Cond.fieldLink "CellDecide$Line" 41 "CellDecide$Line" "order" "[I" ∈ zg_tbl := zt_3 (List.mem_of_getElem? (i := 37) rfl) rfl
theorem k_152 : Cond.fieldLink "CellDecide$Line" 44 "CellDecide$Line" "close" "[Z" ∈ zg_tbl := zt_3 (List.mem_of_getElem? (i := 39) rfl) rfl
theorem k_153 : Cond.fieldLink "CellDecide$Line" 47 "CellDecide$Line" "shared" "[I" ∈ zg_tbl := zt_3 (List.mem_of_getElem? (i := 40) rfl) rfl
theorem k_154 : Cond.fieldLink "CellDecide$Line" 50 "CellDecide$Line" "pairs" "[I" ∈ zg_tbl := zt_3 (List.mem_of_getElem? (i := 41) rfl) rfl
theorem k_155 : Cond.fieldLink "CellDecide$Line" 53 "CellDecide$Line" "curves" "LCellDecide$Curves;" ∈ zg_tbl := zt_3 (List.mem_of_getElem? (i := 21) rfl) rfl
theorem k_156 : Cond.fieldLink "CellDecide$Line" 57 "CellDecide$Line" "spot" "LCellDecide$Spot;" ∈ zg_tbl := zt_3 (List.mem_of_getElem? (i := 22) rfl) rfl
theorem k_157 : Cond.fieldLink "CellDecide$Line" 61 "CellDecide$Line" "statement" "LCellDecide$Statement;" ∈ zg_tbl := zt_3 (List.mem_of_getElem? (i := 23) rfl) rfl
theorem k_158 : Cond.fieldLink "CellDecide$Line" 71 "CellDecide$Line" "polys" "LCellDecide$Polys;" ∈ zg_tbl := zt_3 (List.mem_of_getElem? (i := 24) rfl) rfl
theorem k_159 : Cond.fieldLink "CellDecide$Line" 72 "CellDecide$Polys" "numbers" "LCellDecide$Numbers;" ∈ zg_tbl := zt_2 (List.mem_of_getElem? (i := 44) rfl) rfl
theorem k_160 : Cond.fieldLink "CellDecide$Line" 78 "CellDecide$Line" "numbers" "LCellDecide$Numbers;" ∈ zg_tbl := zt_3 (List.mem_of_getElem? (i := 25) rfl) rfl
theorem k_161 : Cond.instantiable "CellDecide$Root" 13 ∈ zg_tbl := zt_2 (List.mem_of_getElem? (i := 204) rfl) rfl
theorem k_162 : Cond.initialized "CellDecide$Root" ∈ zg_tbl := zt_1 (List.mem_of_getElem? (i := 15) rfl) rfl
theorem k_163 : Cond.code ⟨"CellDecide$Root", "<init>", "()V"⟩ prog_7_method_1_code 1 (Option.none : Option Jvm.ClassFile.FieldType) ∈ zg_tbl := zt_2 (List.mem_of_getElem? (i := 207) rfl) rfl
theorem k_164 : Cond.instanceMethod ⟨"CellDecide$Root", "<init>", "()V"⟩ ∈ zg_tbl := zt_2 (List.mem_of_getElem? (i := 206) rfl) rfl
theorem k_165 : Cond.code ⟨"CellDecide$Line", "<init>", "(LCellDecide$Curves;LCellDecide$Spot;LCellDecide$Statement;)V"⟩ prog_3_method_1_code 5 (Option.none : Option Jvm.ClassFile.FieldType) ∈ zg_tbl := zt_2 (List.mem_of_getElem? (i := 200) rfl) rfl
theorem k_166 : Cond.methodLink "CellDecide" 68 ⟨"CellDecide$Line", "<init>", "(LCellDecide$Curves;LCellDecide$Spot;LCellDecide$Statement;)V"⟩ ∈ zg_tbl := zt_2 (List.mem_of_getElem? (i := 198) rfl) rfl
theorem k_167 : Cond.instanceMethod ⟨"CellDecide$Line", "<init>", "(LCellDecide$Curves;LCellDecide$Spot;LCellDecide$Statement;)V"⟩ ∈ zg_tbl := zt_2 (List.mem_of_getElem? (i := 199) rfl) rfl
theorem k_168 : Cond.fieldLink "CellDecide" 71 "CellDecide" "line" "LCellDecide$Line;" ∈ zg_tbl := zt_3 (List.mem_of_getElem? (i := 160) rfl) rfl
theorem k_169 : Cond.classLink "CellDecide" 75 "CellDecide$Roots" ∈ zg_tbl := zt_3 (List.mem_of_getElem? (i := 81) rfl) rfl
theorem k_170 : Cond.instantiable "CellDecide$Roots" 9 ∈ zg_tbl := zt_3 (List.mem_of_getElem? (i := 82) rfl) rfl
theorem k_171 : Cond.initialized "CellDecide$Roots" ∈ zg_tbl := zt_1 (List.mem_of_getElem? (i := 16) rfl) rfl
theorem k_172 : Cond.methodLink "CellDecide$Roots" 3 ⟨"java/lang/Object", "<init>", "()V"⟩ ∈ zg_tbl := zt_3 (List.mem_of_getElem? (i := 86) rfl) rfl
theorem k_173 : Cond.classLink "CellDecide$Roots" 9 "CellDecide$Polys" ∈ zg_tbl := zt_3 (List.mem_of_getElem? (i := 87) rfl) rfl
theorem k_174 : Cond.classLink "CellDecide$Roots" 11 "CellDecide$Numbers" ∈ zg_tbl := zt_3 (List.mem_of_getElem? (i := 88) rfl) rfl
theorem k_175 : Cond.methodLink "CellDecide$Roots" 13 ⟨"CellDecide$Numbers", "<init>", "(I)V"⟩ ∈ zg_tbl := zt_3 (List.mem_of_getElem? (i := 89) rfl) rfl
theorem k_176 : Cond.methodLink "CellDecide$Roots" 16 ⟨"CellDecide$Polys", "<init>", "(LCellDecide$Numbers;)V"⟩ ∈ zg_tbl := zt_3 (List.mem_of_getElem? (i := 90) rfl) rfl
theorem k_177 : Cond.fieldLink "CellDecide$Roots" 19 "CellDecide$Roots" "shelf" "LCellDecide$Polys;" ∈ zg_tbl := zt_3 (List.mem_of_getElem? (i := 120) rfl) rfl
theorem k_178 : Cond.classLink "CellDecide$Roots" 25 "java/util/ArrayList" ∈ zg_tbl := zt_3 (List.mem_of_getElem? (i := 91) rfl) rfl
theorem k_179 : Cond.instantiable "java/util/ArrayList" 3 ∈ zg_tbl := zt_3 (List.mem_of_getElem? (i := 92) rfl) rfl
theorem k_180 : Cond.initialized "java/util/ArrayList" ∈ zg_tbl := zt_1 (List.mem_of_getElem? (i := 19) rfl) rfl
theorem k_181 : Cond.methodLink "java/util/AbstractCollection" 1 ⟨"java/lang/Object", "<init>", "()V"⟩ ∈ zg_tbl := zt_3 (List.mem_of_getElem? (i := 102) rfl) rfl
theorem k_182 : Cond.code ⟨"java/util/AbstractCollection", "<init>", "()V"⟩ prog_30_method_1_code 1 (Option.none : Option Jvm.ClassFile.FieldType) ∈ zg_tbl := zt_3 (List.mem_of_getElem? (i := 101) rfl) rfl
theorem k_183 : Cond.initialized "java/util/AbstractCollection" ∈ zg_tbl := zt_1 (List.mem_of_getElem? (i := 17) rfl) rfl
theorem k_184 : Cond.methodLink "java/util/AbstractList" 1 ⟨"java/util/AbstractCollection", "<init>", "()V"⟩ ∈ zg_tbl := zt_3 (List.mem_of_getElem? (i := 99) rfl) rfl
theorem k_185 : Cond.instanceMethod ⟨"java/util/AbstractCollection", "<init>", "()V"⟩ ∈ zg_tbl := zt_3 (List.mem_of_getElem? (i := 100) rfl) rfl
theorem k_186 : Cond.fieldLink "java/util/AbstractList" 7 "java/util/AbstractList" "modCount" "I" ∈ zg_tbl := zt_3 (List.mem_of_getElem? (i := 107) rfl) rfl
theorem k_187 : Cond.code ⟨"java/util/AbstractList", "<init>", "()V"⟩ prog_31_method_1_code 1 (Option.none : Option Jvm.ClassFile.FieldType) ∈ zg_tbl := zt_3 (List.mem_of_getElem? (i := 98) rfl) rfl
theorem k_188 : Cond.initialized "java/util/AbstractList" ∈ zg_tbl := zt_1 (List.mem_of_getElem? (i := 18) rfl) rfl
theorem k_189 : Cond.methodLink "java/util/ArrayList" 1 ⟨"java/util/AbstractList", "<init>", "()V"⟩ ∈ zg_tbl := zt_3 (List.mem_of_getElem? (i := 96) rfl) rfl
theorem k_190 : Cond.instanceMethod ⟨"java/util/AbstractList", "<init>", "()V"⟩ ∈ zg_tbl := zt_3 (List.mem_of_getElem? (i := 97) rfl) rfl
theorem k_191 : Cond.fieldLink "java/util/ArrayList" 39 "java/util/ArrayList" "DEFAULTCAPACITY_EMPTY_ELEMENTDATA" "[Ljava/lang/Object;" ∈ zg_tbl := zt_3 (List.mem_of_getElem? (i := 103) rfl) rfl
theorem k_192 : Cond.fieldLink "java/util/ArrayList" 9 "java/util/ArrayList" "elementData" "[Ljava/lang/Object;" ∈ zg_tbl := zt_3 (List.mem_of_getElem? (i := 105) rfl) rfl
theorem k_193 : Cond.code ⟨"java/util/ArrayList", "<init>", "()V"⟩ prog_32_method_2_code 1 (Option.none : Option Jvm.ClassFile.FieldType) ∈ zg_tbl := zt_3 (List.mem_of_getElem? (i := 95) rfl) rfl
theorem k_194 : Cond.methodLink "CellDecide$Roots" 27 ⟨"java/util/ArrayList", "<init>", "()V"⟩ ∈ zg_tbl := zt_3 (List.mem_of_getElem? (i := 93) rfl) rfl
theorem k_195 : Cond.instanceMethod ⟨"java/util/ArrayList", "<init>", "()V"⟩ ∈ zg_tbl := zt_3 (List.mem_of_getElem? (i := 94) rfl) rfl
theorem k_196 : Cond.fieldLink "CellDecide$Roots" 28 "CellDecide$Roots" "list" "Ljava/util/ArrayList;" ∈ zg_tbl := zt_3 (List.mem_of_getElem? (i := 123) rfl) rfl
theorem k_197 : Cond.fieldLink "CellDecide$Roots" 32 "CellDecide$Roots" "known" "[I" ∈ zg_tbl := zt_3 (List.mem_of_getElem? (i := 126) rfl) rfl
theorem k_198 : Cond.fieldLink "CellDecide$Roots" 36 "CellDecide$Roots" "polys" "LCellDecide$Polys;" ∈ zg_tbl := zt_3 (List.mem_of_getElem? (i := 117) rfl) rfl
theorem k_199 : Cond.fieldLink "CellDecide$Roots" 39 "CellDecide$Roots" "splitter" "LCellDecide$Splitter;" ∈ zg_tbl := zt_3 (List.mem_of_getElem? (i := 119) rfl) rfl
theorem k_200 : Cond.fieldLink "CellDecide$Roots" 43 "CellDecide$Polys" "numbers" "LCellDecide$Numbers;" ∈ zg_tbl := zt_2 (List.mem_of_getElem? (i := 42) rfl) rfl
theorem k_201 : Cond.fieldLink "CellDecide$Roots" 47 "CellDecide$Roots" "numbers" "LCellDecide$Numbers;" ∈ zg_tbl := zt_3 (List.mem_of_getElem? (i := 118) rfl) rfl
theorem k_202 : Cond.code ⟨"CellDecide$Roots", "<init>", "(LCellDecide$Polys;LCellDecide$Splitter;)V"⟩ prog_8_method_1_code 3 (Option.none : Option Jvm.ClassFile.FieldType) ∈ zg_tbl := zt_3 (List.mem_of_getElem? (i := 85) rfl) rfl
theorem k_203 : Cond.methodLink "CellDecide" 77 ⟨"CellDecide$Roots", "<init>", "(LCellDecide$Polys;LCellDecide$Splitter;)V"⟩ ∈ zg_tbl := zt_3 (List.mem_of_getElem? (i := 83) rfl) rfl
theorem k_204 : Cond.instanceMethod ⟨"CellDecide$Roots", "<init>", "(LCellDecide$Polys;LCellDecide$Splitter;)V"⟩ ∈ zg_tbl := zt_3 (List.mem_of_getElem? (i := 84) rfl) rfl
theorem k_205 : Cond.fieldLink "CellDecide" 80 "CellDecide" "breaks" "LCellDecide$Roots;" ∈ zg_tbl := zt_3 (List.mem_of_getElem? (i := 161) rfl) rfl
theorem k_206 : Cond.fieldLink "CellDecide" 84 "CellDecide" "heights" "LCellDecide$Roots;" ∈ zg_tbl := zt_3 (List.mem_of_getElem? (i := 162) rfl) rfl
theorem k_207 : Cond.fieldLink "CellDecide" 87 "CellDecide" "ends" "LCellDecide$Roots;" ∈ zg_tbl := zt_3 (List.mem_of_getElem? (i := 163) rfl) rfl
theorem k_208 : Cond.fieldLink "CellDecide" 90 "CellDecide" "places" "LCellDecide$Roots;" ∈ zg_tbl := zt_3 (List.mem_of_getElem? (i := 164) rfl) rfl
theorem k_209 : Cond.fieldLink "CellDecide" 93 "CellDecide" "rows" "[I" ∈ zg_tbl := zt_3 (List.mem_of_getElem? (i := 165) rfl) rfl
theorem k_210 : Cond.fieldLink "CellDecide" 97 "CellDecide" "intervals" "I" ∈ zg_tbl := zt_3 (List.mem_of_getElem? (i := 166) rfl) rfl
theorem k_211 : Cond.fieldLink "CellDecide" 101 "CellDecide" "points" "I" ∈ zg_tbl := zt_3 (List.mem_of_getElem? (i := 167) rfl) rfl
theorem k_212 : Cond.classLink "CellDecide" 104 "java/lang/StringBuilder" ∈ zg_tbl := zt_3 (List.mem_of_getElem? (i := 149) rfl) rfl
theorem k_213 : Cond.methodLink "CellDecide" 106 ⟨"java/lang/StringBuilder", "<init>", "()V"⟩ ∈ zg_tbl := zt_3 (List.mem_of_getElem? (i := 150) rfl) rfl
theorem k_214 : Cond.fieldLink "CellDecide" 107 "CellDecide" "text" "Ljava/lang/StringBuilder;" ∈ zg_tbl := zt_3 (List.mem_of_getElem? (i := 168) rfl) rfl
theorem d_C_Root_init_0 : decode prog_7_method_1_code 0 = .ok (.aload_n 0, 1) := by decide +kernel
theorem d_C_Root_init_1 : decode prog_7_method_1_code 1 = .ok (.invokespecial 1, 3) := by decide +kernel
theorem d_C_Root_init_4 : decode prog_7_method_1_code 4 = .ok (.aload_n 0, 1) := by decide +kernel
theorem d_C_Root_init_5 : decode prog_7_method_1_code 5 = .ok (.iconst 4, 1) := by decide +kernel
theorem d_C_Root_init_6 : decode prog_7_method_1_code 6 = .ok (.newarray .int, 2) := by decide +kernel
theorem d_C_Root_init_8 : decode prog_7_method_1_code 8 = .ok (.putfield 7, 3) := by decide +kernel
theorem d_C_Root_init_11 : decode prog_7_method_1_code 11 = .ok (.return_, 1) := by decide +kernel
theorem d_CD_init_0 : decode prog_1_method_1_code 0 = .ok (.aload_n 0, 1) := by decide +kernel
theorem d_CD_init_1 : decode prog_1_method_1_code 1 = .ok (.invokespecial 1, 3) := by decide +kernel
theorem d_CD_init_4 : decode prog_1_method_1_code 4 = .ok (.aload_n 0, 1) := by decide +kernel
theorem d_CD_init_5 : decode prog_1_method_1_code 5 = .ok (.sipush 600, 3) := by decide +kernel
theorem d_CD_init_8 : decode prog_1_method_1_code 8 = .ok (.newarray .byte, 2) := by decide +kernel
theorem d_CD_init_10 : decode prog_1_method_1_code 10 = .ok (.putfield 9, 3) := by decide +kernel
theorem d_CD_init_13 : decode prog_1_method_1_code 13 = .ok (.aload_n 0, 1) := by decide +kernel
theorem d_CD_init_14 : decode prog_1_method_1_code 14 = .ok (.new 13, 3) := by decide +kernel
theorem d_CD_init_17 : decode prog_1_method_1_code 17 = .ok (.dup, 1) := by decide +kernel
theorem d_C_Statement_init_0 : decode prog_11_method_1_code 0 = .ok (.aload_n 0, 1) := by decide +kernel
theorem d_C_Statement_init_1 : decode prog_11_method_1_code 1 = .ok (.invokespecial 3, 3) := by decide +kernel
theorem d_C_Statement_init_4 : decode prog_11_method_1_code 4 = .ok (.aload_n 0, 1) := by decide +kernel
theorem d_C_Statement_init_5 : decode prog_11_method_1_code 5 = .ok (.iconst (-1), 1) := by decide +kernel
theorem d_C_Statement_init_6 : decode prog_11_method_1_code 6 = .ok (.putfield 9, 3) := by decide +kernel
theorem d_C_Statement_init_9 : decode prog_11_method_1_code 9 = .ok (.aload_n 0, 1) := by decide +kernel
theorem d_C_Statement_init_10 : decode prog_11_method_1_code 10 = .ok (.sipush 256, 3) := by decide +kernel
theorem d_C_Statement_init_13 : decode prog_11_method_1_code 13 = .ok (.newarray .int, 2) := by decide +kernel
theorem d_C_Statement_init_15 : decode prog_11_method_1_code 15 = .ok (.putfield 15, 3) := by decide +kernel
theorem d_C_Statement_init_18 : decode prog_11_method_1_code 18 = .ok (.aload_n 0, 1) := by decide +kernel
theorem d_C_Statement_init_19 : decode prog_11_method_1_code 19 = .ok (.sipush 256, 3) := by decide +kernel
theorem d_C_Statement_init_22 : decode prog_11_method_1_code 22 = .ok (.newarray .boolean, 2) := by decide +kernel
theorem d_C_Statement_init_24 : decode prog_11_method_1_code 24 = .ok (.putfield 19, 3) := by decide +kernel
theorem d_C_Statement_init_27 : decode prog_11_method_1_code 27 = .ok (.aload_n 0, 1) := by decide +kernel
theorem d_C_Statement_init_28 : decode prog_11_method_1_code 28 = .ok (.iconst 5, 1) := by decide +kernel
theorem d_C_Statement_init_29 : decode prog_11_method_1_code 29 = .ok (.bipush 16, 2) := by decide +kernel
theorem d_C_Statement_init_31 : decode prog_11_method_1_code 31 = .ok (.multianewarray 25 2, 4) := by decide +kernel
theorem d_C_Statement_init_35 : decode prog_11_method_1_code 35 = .ok (.putfield 27, 3) := by decide +kernel
theorem d_C_Statement_init_38 : decode prog_11_method_1_code 38 = .ok (.aload_n 0, 1) := by decide +kernel
theorem d_C_Statement_init_39 : decode prog_11_method_1_code 39 = .ok (.iconst 5, 1) := by decide +kernel
theorem d_C_Statement_init_40 : decode prog_11_method_1_code 40 = .ok (.newarray .int, 2) := by decide +kernel
theorem d_C_Statement_init_42 : decode prog_11_method_1_code 42 = .ok (.putfield 30, 3) := by decide +kernel
theorem d_C_Statement_init_45 : decode prog_11_method_1_code 45 = .ok (.aload_n 0, 1) := by decide +kernel
theorem d_C_Statement_init_46 : decode prog_11_method_1_code 46 = .ok (.iconst 5, 1) := by decide +kernel
theorem d_C_Statement_init_47 : decode prog_11_method_1_code 47 = .ok (.newarray .int, 2) := by decide +kernel
theorem d_C_Statement_init_49 : decode prog_11_method_1_code 49 = .ok (.putfield 33, 3) := by decide +kernel
theorem d_C_Statement_init_52 : decode prog_11_method_1_code 52 = .ok (.aload_n 0, 1) := by decide +kernel
theorem d_C_Statement_init_53 : decode prog_11_method_1_code 53 = .ok (.iconst 5, 1) := by decide +kernel
theorem d_C_Statement_init_54 : decode prog_11_method_1_code 54 = .ok (.newarray .int, 2) := by decide +kernel
theorem d_C_Statement_init_56 : decode prog_11_method_1_code 56 = .ok (.putfield 36, 3) := by decide +kernel
theorem d_C_Statement_init_59 : decode prog_11_method_1_code 59 = .ok (.aload_n 0, 1) := by decide +kernel
theorem d_C_Statement_init_60 : decode prog_11_method_1_code 60 = .ok (.bipush 64, 2) := by decide +kernel
theorem d_C_Statement_init_62 : decode prog_11_method_1_code 62 = .ok (.newarray .boolean, 2) := by decide +kernel
theorem d_C_Statement_init_64 : decode prog_11_method_1_code 64 = .ok (.putfield 39, 3) := by decide +kernel
theorem d_C_Statement_init_67 : decode prog_11_method_1_code 67 = .ok (.aload_n 0, 1) := by decide +kernel
theorem d_C_Statement_init_68 : decode prog_11_method_1_code 68 = .ok (.bipush 64, 2) := by decide +kernel
theorem d_C_Statement_init_70 : decode prog_11_method_1_code 70 = .ok (.newarray .int, 2) := by decide +kernel
theorem d_C_Statement_init_72 : decode prog_11_method_1_code 72 = .ok (.putfield 42, 3) := by decide +kernel
theorem d_C_Statement_init_75 : decode prog_11_method_1_code 75 = .ok (.aload_n 0, 1) := by decide +kernel
theorem d_C_Statement_init_76 : decode prog_11_method_1_code 76 = .ok (.bipush 64, 2) := by decide +kernel
theorem d_C_Statement_init_78 : decode prog_11_method_1_code 78 = .ok (.newarray .int, 2) := by decide +kernel
theorem d_C_Statement_init_80 : decode prog_11_method_1_code 80 = .ok (.putfield 45, 3) := by decide +kernel
theorem d_C_Statement_init_83 : decode prog_11_method_1_code 83 = .ok (.aload_n 0, 1) := by decide +kernel
theorem d_C_Statement_init_84 : decode prog_11_method_1_code 84 = .ok (.bipush 64, 2) := by decide +kernel
theorem d_C_Statement_init_86 : decode prog_11_method_1_code 86 = .ok (.newarray .int, 2) := by decide +kernel
theorem d_C_Statement_init_88 : decode prog_11_method_1_code 88 = .ok (.putfield 48, 3) := by decide +kernel
theorem d_C_Statement_init_91 : decode prog_11_method_1_code 91 = .ok (.aload_n 0, 1) := by decide +kernel
theorem d_C_Statement_init_92 : decode prog_11_method_1_code 92 = .ok (.bipush 64, 2) := by decide +kernel
theorem d_C_Statement_init_94 : decode prog_11_method_1_code 94 = .ok (.newarray .int, 2) := by decide +kernel
theorem d_C_Statement_init_96 : decode prog_11_method_1_code 96 = .ok (.putfield 51, 3) := by decide +kernel
theorem d_C_Statement_init_99 : decode prog_11_method_1_code 99 = .ok (.aload_n 0, 1) := by decide +kernel
theorem d_C_Statement_init_100 : decode prog_11_method_1_code 100 = .ok (.bipush 64, 2) := by decide +kernel
theorem d_C_Statement_init_102 : decode prog_11_method_1_code 102 = .ok (.newarray .int, 2) := by decide +kernel
theorem d_C_Statement_init_104 : decode prog_11_method_1_code 104 = .ok (.putfield 54, 3) := by decide +kernel
theorem d_C_Statement_init_107 : decode prog_11_method_1_code 107 = .ok (.aload_n 0, 1) := by decide +kernel
theorem d_C_Statement_init_108 : decode prog_11_method_1_code 108 = .ok (.bipush 64, 2) := by decide +kernel
theorem d_C_Statement_init_110 : decode prog_11_method_1_code 110 = .ok (.newarray .boolean, 2) := by decide +kernel
theorem d_C_Statement_init_112 : decode prog_11_method_1_code 112 = .ok (.putfield 57, 3) := by decide +kernel
theorem d_C_Statement_init_115 : decode prog_11_method_1_code 115 = .ok (.return_, 1) := by decide +kernel
theorem d_CD_init_18 : decode prog_1_method_1_code 18 = .ok (.invokespecial 15, 3) := by decide +kernel
theorem d_CD_init_21 : decode prog_1_method_1_code 21 = .ok (.putfield 16, 3) := by decide +kernel
theorem d_CD_init_24 : decode prog_1_method_1_code 24 = .ok (.aload_n 0, 1) := by decide +kernel
theorem d_CD_init_25 : decode prog_1_method_1_code 25 = .ok (.new 20, 3) := by decide +kernel
theorem d_CD_init_28 : decode prog_1_method_1_code 28 = .ok (.dup, 1) := by decide +kernel
theorem d_CD_init_29 : decode prog_1_method_1_code 29 = .ok (.aload_n 0, 1) := by decide +kernel
theorem d_CD_init_30 : decode prog_1_method_1_code 30 = .ok (.getfield 9, 3) := by decide +kernel
theorem d_CD_init_33 : decode prog_1_method_1_code 33 = .ok (.aload_n 0, 1) := by decide +kernel
theorem d_CD_init_34 : decode prog_1_method_1_code 34 = .ok (.getfield 16, 3) := by decide +kernel
theorem d_C_Reader_init_BLCellDe_0 : decode prog_6_method_1_code 0 = .ok (.aload_n 0, 1) := by decide +kernel
theorem d_C_Reader_init_BLCellDe_1 : decode prog_6_method_1_code 1 = .ok (.invokespecial 5, 3) := by decide +kernel
theorem d_C_Reader_init_BLCellDe_4 : decode prog_6_method_1_code 4 = .ok (.aload_n 0, 1) := by decide +kernel
theorem d_C_Reader_init_BLCellDe_5 : decode prog_6_method_1_code 5 = .ok (.iconst 2, 1) := by decide +kernel
theorem d_C_Reader_init_BLCellDe_6 : decode prog_6_method_1_code 6 = .ok (.newarray .boolean, 2) := by decide +kernel
theorem d_C_Reader_init_BLCellDe_8 : decode prog_6_method_1_code 8 = .ok (.putfield 11, 3) := by decide +kernel
theorem d_C_Reader_init_BLCellDe_11 : decode prog_6_method_1_code 11 = .ok (.aload_n 0, 1) := by decide +kernel
theorem d_C_Reader_init_BLCellDe_12 : decode prog_6_method_1_code 12 = .ok (.bipush 37, 2) := by decide +kernel
theorem d_C_Reader_init_BLCellDe_14 : decode prog_6_method_1_code 14 = .ok (.bipush 16, 2) := by decide +kernel
theorem d_C_Reader_init_BLCellDe_16 : decode prog_6_method_1_code 16 = .ok (.multianewarray 15 2, 4) := by decide +kernel
theorem d_C_Reader_init_BLCellDe_20 : decode prog_6_method_1_code 20 = .ok (.putfield 17, 3) := by decide +kernel
theorem d_C_Reader_init_BLCellDe_23 : decode prog_6_method_1_code 23 = .ok (.aload_n 0, 1) := by decide +kernel
theorem d_C_Reader_init_BLCellDe_24 : decode prog_6_method_1_code 24 = .ok (.bipush 16, 2) := by decide +kernel
theorem d_C_Reader_init_BLCellDe_26 : decode prog_6_method_1_code 26 = .ok (.newarray .long, 2) := by decide +kernel
theorem d_C_Reader_init_BLCellDe_28 : decode prog_6_method_1_code 28 = .ok (.putfield 20, 3) := by decide +kernel
theorem d_C_Reader_init_BLCellDe_31 : decode prog_6_method_1_code 31 = .ok (.aload_n 0, 1) := by decide +kernel
theorem d_C_Reader_init_BLCellDe_32 : decode prog_6_method_1_code 32 = .ok (.iconst 2, 1) := by decide +kernel
theorem d_C_Reader_init_BLCellDe_33 : decode prog_6_method_1_code 33 = .ok (.bipush 16, 2) := by decide +kernel
theorem d_C_Reader_init_BLCellDe_35 : decode prog_6_method_1_code 35 = .ok (.multianewarray 15 2, 4) := by decide +kernel
theorem d_C_Reader_init_BLCellDe_39 : decode prog_6_method_1_code 39 = .ok (.putfield 24, 3) := by decide +kernel
theorem d_C_Reader_init_BLCellDe_42 : decode prog_6_method_1_code 42 = .ok (.aload_n 0, 1) := by decide +kernel
theorem d_C_Reader_init_BLCellDe_43 : decode prog_6_method_1_code 43 = .ok (.aload_n 1, 1) := by decide +kernel
theorem d_C_Reader_init_BLCellDe_44 : decode prog_6_method_1_code 44 = .ok (.putfield 27, 3) := by decide +kernel
theorem d_C_Reader_init_BLCellDe_47 : decode prog_6_method_1_code 47 = .ok (.aload_n 0, 1) := by decide +kernel
theorem d_C_Reader_init_BLCellDe_48 : decode prog_6_method_1_code 48 = .ok (.aload_n 2, 1) := by decide +kernel
theorem d_C_Reader_init_BLCellDe_49 : decode prog_6_method_1_code 49 = .ok (.putfield 31, 3) := by decide +kernel
theorem d_C_Reader_init_BLCellDe_52 : decode prog_6_method_1_code 52 = .ok (.return_, 1) := by decide +kernel
theorem d_CD_init_37 : decode prog_1_method_1_code 37 = .ok (.invokespecial 22, 3) := by decide +kernel
theorem d_CD_init_40 : decode prog_1_method_1_code 40 = .ok (.putfield 25, 3) := by decide +kernel
theorem d_CD_init_43 : decode prog_1_method_1_code 43 = .ok (.aload_n 0, 1) := by decide +kernel
theorem d_CD_init_44 : decode prog_1_method_1_code 44 = .ok (.new 29, 3) := by decide +kernel
theorem d_CD_init_47 : decode prog_1_method_1_code 47 = .ok (.dup, 1) := by decide +kernel
theorem d_CD_init_48 : decode prog_1_method_1_code 48 = .ok (.new 31, 3) := by decide +kernel
theorem d_CD_init_51 : decode prog_1_method_1_code 51 = .ok (.dup, 1) := by decide +kernel
theorem d_CD_init_52 : decode prog_1_method_1_code 52 = .ok (.sipush 3000, 3) := by decide +kernel
theorem d_C_Numbers_init_I_0 : decode prog_4_method_1_code 0 = .ok (.aload_n 0, 1) := by decide +kernel
theorem d_C_Numbers_init_I_1 : decode prog_4_method_1_code 1 = .ok (.invokespecial 5, 3) := by decide +kernel
theorem d_C_Numbers_init_I_4 : decode prog_4_method_1_code 4 = .ok (.aload_n 0, 1) := by decide +kernel
theorem d_C_Numbers_init_I_5 : decode prog_4_method_1_code 5 = .ok (.iconst 1, 1) := by decide +kernel
theorem d_C_Numbers_init_I_6 : decode prog_4_method_1_code 6 = .ok (.putfield 11, 3) := by decide +kernel
theorem d_C_Numbers_init_I_9 : decode prog_4_method_1_code 9 = .ok (.aload_n 0, 1) := by decide +kernel
theorem d_C_Numbers_init_I_10 : decode prog_4_method_1_code 10 = .ok (.new 15, 3) := by decide +kernel
theorem d_C_Numbers_init_I_13 : decode prog_4_method_1_code 13 = .ok (.dup, 1) := by decide +kernel
theorem d_StringBuilder_init_0 : decode prog_25_method_1_code 0 = .ok (.aload_n 0, 1) := by decide +kernel
theorem d_StringBuilder_init_1 : decode prog_25_method_1_code 1 = .ok (.bipush 16, 2) := by decide +kernel
theorem d_AbstractStringBuilder_init_I_0 : decode prog_15_method_2_code 0 = .ok (.aload_n 0, 1) := by decide +kernel
theorem d_AbstractStringBuilder_init_I_1 : decode prog_15_method_2_code 1 = .ok (.invokespecial 3, 3) := by decide +kernel
theorem d_AbstractStringBuilder_init_I_4 : decode prog_15_method_2_code 4 = .ok (.getstatic 18, 3) := by decide +kernel
theorem d_AbstractStringBuilder_init_I_7 : decode prog_15_method_2_code 7 = .ok (.ifCond .eq 18, 3) := by decide +kernel
theorem d_AbstractStringBuilder_init_I_10 : decode prog_15_method_2_code 10 = .ok (.aload_n 0, 1) := by decide +kernel
theorem d_AbstractStringBuilder_init_I_11 : decode prog_15_method_2_code 11 = .ok (.iload_n 1, 1) := by decide +kernel
theorem d_AbstractStringBuilder_init_I_12 : decode prog_15_method_2_code 12 = .ok (.newarray .byte, 2) := by decide +kernel
theorem d_AbstractStringBuilder_init_I_14 : decode prog_15_method_2_code 14 = .ok (.putfield 15, 3) := by decide +kernel
theorem d_AbstractStringBuilder_init_I_17 : decode prog_15_method_2_code 17 = .ok (.aload_n 0, 1) := by decide +kernel
theorem d_AbstractStringBuilder_init_I_18 : decode prog_15_method_2_code 18 = .ok (.iconst 0, 1) := by decide +kernel
theorem d_AbstractStringBuilder_init_I_19 : decode prog_15_method_2_code 19 = .ok (.putfield 22, 3) := by decide +kernel
theorem d_AbstractStringBuilder_init_I_22 : decode prog_15_method_2_code 22 = .ok (.goto 16, 3) := by decide +kernel
theorem d_AbstractStringBuilder_init_I_38 : decode prog_15_method_2_code 38 = .ok (.return_, 1) := by decide +kernel
theorem d_StringBuilder_init_3 : decode prog_25_method_1_code 3 = .ok (.invokespecial 1, 3) := by decide +kernel
theorem d_StringBuilder_init_6 : decode prog_25_method_1_code 6 = .ok (.return_, 1) := by decide +kernel
theorem d_C_Numbers_init_I_14 : decode prog_4_method_1_code 14 = .ok (.invokespecial 17, 3) := by decide +kernel
theorem d_C_Numbers_init_I_17 : decode prog_4_method_1_code 17 = .ok (.putfield 18, 3) := by decide +kernel
theorem d_C_Numbers_init_I_20 : decode prog_4_method_1_code 20 = .ok (.aload_n 0, 1) := by decide +kernel
theorem d_C_Numbers_init_I_21 : decode prog_4_method_1_code 21 = .ok (.iload_n 1, 1) := by decide +kernel
theorem d_C_Numbers_init_I_22 : decode prog_4_method_1_code 22 = .ok (.bipush 16, 2) := by decide +kernel
theorem d_C_Numbers_init_I_24 : decode prog_4_method_1_code 24 = .ok (.invokestatic 22, 3) := by decide +kernel
theorem d_C_Numbers_init_I_27 : decode prog_4_method_1_code 27 = .ok (.newarray .int, 2) := by decide +kernel
theorem d_C_Numbers_init_I_29 : decode prog_4_method_1_code 29 = .ok (.putfield 28, 3) := by decide +kernel
theorem d_C_Numbers_init_I_32 : decode prog_4_method_1_code 32 = .ok (.return_, 1) := by decide +kernel
theorem d_CD_init_55 : decode prog_1_method_1_code 55 = .ok (.invokespecial 33, 3) := by decide +kernel
theorem d_C_Polys_init_LCellDec_0 : decode prog_5_method_1_code 0 = .ok (.aload_n 0, 1) := by decide +kernel
theorem d_C_Polys_init_LCellDec_1 : decode prog_5_method_1_code 1 = .ok (.invokespecial 3, 3) := by decide +kernel
theorem d_C_Polys_init_LCellDec_4 : decode prog_5_method_1_code 4 = .ok (.aload_n 0, 1) := by decide +kernel
theorem d_C_Polys_init_LCellDec_5 : decode prog_5_method_1_code 5 = .ok (.aload_n 1, 1) := by decide +kernel
theorem d_C_Polys_init_LCellDec_6 : decode prog_5_method_1_code 6 = .ok (.putfield 9, 3) := by decide +kernel
theorem d_C_Polys_init_LCellDec_9 : decode prog_5_method_1_code 9 = .ok (.return_, 1) := by decide +kernel
theorem d_CD_init_58 : decode prog_1_method_1_code 58 = .ok (.invokespecial 36, 3) := by decide +kernel
theorem d_CD_init_61 : decode prog_1_method_1_code 61 = .ok (.putfield 39, 3) := by decide +kernel
theorem d_CD_init_64 : decode prog_1_method_1_code 64 = .ok (.aload_n 0, 1) := by decide +kernel
theorem d_CD_init_65 : decode prog_1_method_1_code 65 = .ok (.new 43, 3) := by decide +kernel
theorem d_CD_init_68 : decode prog_1_method_1_code 68 = .ok (.dup, 1) := by decide +kernel
theorem d_CD_init_69 : decode prog_1_method_1_code 69 = .ok (.aload_n 0, 1) := by decide +kernel
theorem d_CD_init_70 : decode prog_1_method_1_code 70 = .ok (.getfield 39, 3) := by decide +kernel
theorem d_C_Splitter_init_LCellDec_0 : decode prog_9_method_1_code 0 = .ok (.aload_n 0, 1) := by decide +kernel
theorem d_C_Splitter_init_LCellDec_1 : decode prog_9_method_1_code 1 = .ok (.invokespecial 5, 3) := by decide +kernel
theorem d_C_Splitter_init_LCellDec_4 : decode prog_9_method_1_code 4 = .ok (.aload_n 0, 1) := by decide +kernel
theorem d_C_Splitter_init_LCellDec_5 : decode prog_9_method_1_code 5 = .ok (.iconst 2, 1) := by decide +kernel
theorem d_C_Splitter_init_LCellDec_6 : decode prog_9_method_1_code 6 = .ok (.putfield 11, 3) := by decide +kernel
theorem d_C_Splitter_init_LCellDec_9 : decode prog_9_method_1_code 9 = .ok (.aload_n 0, 1) := by decide +kernel
theorem d_C_Splitter_init_LCellDec_10 : decode prog_9_method_1_code 10 = .ok (.sipush 252, 3) := by decide +kernel
theorem d_C_Splitter_init_LCellDec_13 : decode prog_9_method_1_code 13 = .ok (.newarray .int, 2) := by decide +kernel
theorem d_C_Splitter_init_LCellDec_15 : decode prog_9_method_1_code 15 = .ok (.putfield 15, 3) := by decide +kernel
theorem d_C_Splitter_init_LCellDec_18 : decode prog_9_method_1_code 18 = .ok (.aload_n 0, 1) := by decide +kernel
theorem d_C_Splitter_init_LCellDec_19 : decode prog_9_method_1_code 19 = .ok (.bipush 22, 2) := by decide +kernel
theorem d_C_Splitter_init_LCellDec_21 : decode prog_9_method_1_code 21 = .ok (.newarray .int, 2) := by decide +kernel
theorem d_C_Splitter_init_LCellDec_23 : decode prog_9_method_1_code 23 = .ok (.putfield 19, 3) := by decide +kernel
theorem d_C_Splitter_init_LCellDec_26 : decode prog_9_method_1_code 26 = .ok (.aload_n 0, 1) := by decide +kernel
theorem d_C_Splitter_init_LCellDec_27 : decode prog_9_method_1_code 27 = .ok (.bipush 10, 2) := by decide +kernel
theorem d_C_Splitter_init_LCellDec_29 : decode prog_9_method_1_code 29 = .ok (.bipush 22, 2) := by decide +kernel
theorem d_C_Splitter_init_LCellDec_31 : decode prog_9_method_1_code 31 = .ok (.multianewarray 22 2, 4) := by decide +kernel
theorem d_C_Splitter_init_LCellDec_35 : decode prog_9_method_1_code 35 = .ok (.putfield 24, 3) := by decide +kernel
theorem d_C_Splitter_init_LCellDec_38 : decode prog_9_method_1_code 38 = .ok (.aload_n 0, 1) := by decide +kernel
theorem d_C_Splitter_init_LCellDec_39 : decode prog_9_method_1_code 39 = .ok (.bipush 10, 2) := by decide +kernel
theorem d_C_Splitter_init_LCellDec_41 : decode prog_9_method_1_code 41 = .ok (.newarray .int, 2) := by decide +kernel
theorem d_C_Splitter_init_LCellDec_43 : decode prog_9_method_1_code 43 = .ok (.putfield 27, 3) := by decide +kernel
theorem d_C_Splitter_init_LCellDec_46 : decode prog_9_method_1_code 46 = .ok (.aload_n 0, 1) := by decide +kernel
theorem d_C_Splitter_init_LCellDec_47 : decode prog_9_method_1_code 47 = .ok (.bipush 10, 2) := by decide +kernel
theorem d_C_Splitter_init_LCellDec_49 : decode prog_9_method_1_code 49 = .ok (.bipush 10, 2) := by decide +kernel
theorem d_C_Splitter_init_LCellDec_51 : decode prog_9_method_1_code 51 = .ok (.multianewarray 22 2, 4) := by decide +kernel
theorem d_C_Splitter_init_LCellDec_55 : decode prog_9_method_1_code 55 = .ok (.putfield 30, 3) := by decide +kernel
theorem d_C_Splitter_init_LCellDec_58 : decode prog_9_method_1_code 58 = .ok (.aload_n 0, 1) := by decide +kernel
theorem d_C_Splitter_init_LCellDec_59 : decode prog_9_method_1_code 59 = .ok (.bipush 10, 2) := by decide +kernel
theorem d_C_Splitter_init_LCellDec_61 : decode prog_9_method_1_code 61 = .ok (.newarray .int, 2) := by decide +kernel
theorem d_C_Splitter_init_LCellDec_63 : decode prog_9_method_1_code 63 = .ok (.putfield 33, 3) := by decide +kernel
theorem d_C_Splitter_init_LCellDec_66 : decode prog_9_method_1_code 66 = .ok (.aload_n 0, 1) := by decide +kernel
theorem d_C_Splitter_init_LCellDec_67 : decode prog_9_method_1_code 67 = .ok (.bipush 22, 2) := by decide +kernel
theorem d_C_Splitter_init_LCellDec_69 : decode prog_9_method_1_code 69 = .ok (.newarray .int, 2) := by decide +kernel
theorem d_C_Splitter_init_LCellDec_71 : decode prog_9_method_1_code 71 = .ok (.putfield 36, 3) := by decide +kernel
theorem d_C_Splitter_init_LCellDec_74 : decode prog_9_method_1_code 74 = .ok (.aload_n 0, 1) := by decide +kernel
theorem d_C_Splitter_init_LCellDec_75 : decode prog_9_method_1_code 75 = .ok (.bipush 22, 2) := by decide +kernel
theorem d_C_Splitter_init_LCellDec_77 : decode prog_9_method_1_code 77 = .ok (.newarray .int, 2) := by decide +kernel
theorem d_C_Splitter_init_LCellDec_79 : decode prog_9_method_1_code 79 = .ok (.putfield 39, 3) := by decide +kernel
theorem d_C_Splitter_init_LCellDec_82 : decode prog_9_method_1_code 82 = .ok (.aload_n 0, 1) := by decide +kernel
theorem d_C_Splitter_init_LCellDec_83 : decode prog_9_method_1_code 83 = .ok (.bipush 22, 2) := by decide +kernel
theorem d_C_Splitter_init_LCellDec_85 : decode prog_9_method_1_code 85 = .ok (.newarray .int, 2) := by decide +kernel
theorem d_C_Splitter_init_LCellDec_87 : decode prog_9_method_1_code 87 = .ok (.putfield 42, 3) := by decide +kernel
theorem d_C_Splitter_init_LCellDec_90 : decode prog_9_method_1_code 90 = .ok (.aload_n 0, 1) := by decide +kernel
theorem d_C_Splitter_init_LCellDec_91 : decode prog_9_method_1_code 91 = .ok (.bipush 22, 2) := by decide +kernel
theorem d_C_Splitter_init_LCellDec_93 : decode prog_9_method_1_code 93 = .ok (.newarray .int, 2) := by decide +kernel
theorem d_C_Splitter_init_LCellDec_95 : decode prog_9_method_1_code 95 = .ok (.putfield 45, 3) := by decide +kernel
theorem d_C_Splitter_init_LCellDec_98 : decode prog_9_method_1_code 98 = .ok (.aload_n 0, 1) := by decide +kernel
theorem d_C_Splitter_init_LCellDec_99 : decode prog_9_method_1_code 99 = .ok (.bipush 22, 2) := by decide +kernel
theorem d_C_Splitter_init_LCellDec_101 : decode prog_9_method_1_code 101 = .ok (.newarray .int, 2) := by decide +kernel
theorem d_C_Splitter_init_LCellDec_103 : decode prog_9_method_1_code 103 = .ok (.putfield 48, 3) := by decide +kernel
theorem d_C_Splitter_init_LCellDec_106 : decode prog_9_method_1_code 106 = .ok (.aload_n 0, 1) := by decide +kernel
theorem d_C_Splitter_init_LCellDec_107 : decode prog_9_method_1_code 107 = .ok (.bipush 10, 2) := by decide +kernel
theorem d_C_Splitter_init_LCellDec_109 : decode prog_9_method_1_code 109 = .ok (.bipush 22, 2) := by decide +kernel
theorem d_C_Splitter_init_LCellDec_111 : decode prog_9_method_1_code 111 = .ok (.multianewarray 22 2, 4) := by decide +kernel
theorem d_C_Splitter_init_LCellDec_115 : decode prog_9_method_1_code 115 = .ok (.putfield 51, 3) := by decide +kernel
theorem d_C_Splitter_init_LCellDec_118 : decode prog_9_method_1_code 118 = .ok (.aload_n 0, 1) := by decide +kernel
theorem d_C_Splitter_init_LCellDec_119 : decode prog_9_method_1_code 119 = .ok (.bipush 10, 2) := by decide +kernel
theorem d_C_Splitter_init_LCellDec_121 : decode prog_9_method_1_code 121 = .ok (.newarray .int, 2) := by decide +kernel
theorem d_C_Splitter_init_LCellDec_123 : decode prog_9_method_1_code 123 = .ok (.putfield 54, 3) := by decide +kernel
theorem d_C_Splitter_init_LCellDec_126 : decode prog_9_method_1_code 126 = .ok (.aload_n 0, 1) := by decide +kernel
theorem d_C_Splitter_init_LCellDec_127 : decode prog_9_method_1_code 127 = .ok (.bipush 10, 2) := by decide +kernel
theorem d_C_Splitter_init_LCellDec_129 : decode prog_9_method_1_code 129 = .ok (.newarray .int, 2) := by decide +kernel
theorem d_C_Splitter_init_LCellDec_131 : decode prog_9_method_1_code 131 = .ok (.putfield 57, 3) := by decide +kernel
theorem d_C_Splitter_init_LCellDec_134 : decode prog_9_method_1_code 134 = .ok (.aload_n 0, 1) := by decide +kernel
theorem d_C_Splitter_init_LCellDec_135 : decode prog_9_method_1_code 135 = .ok (.aload_n 1, 1) := by decide +kernel
theorem d_C_Splitter_init_LCellDec_136 : decode prog_9_method_1_code 136 = .ok (.putfield 60, 3) := by decide +kernel
theorem d_C_Splitter_init_LCellDec_139 : decode prog_9_method_1_code 139 = .ok (.return_, 1) := by decide +kernel
theorem d_CD_init_73 : decode prog_1_method_1_code 73 = .ok (.invokespecial 45, 3) := by decide +kernel
theorem d_CD_init_76 : decode prog_1_method_1_code 76 = .ok (.putfield 48, 3) := by decide +kernel
theorem d_CD_init_79 : decode prog_1_method_1_code 79 = .ok (.aload_n 0, 1) := by decide +kernel
theorem d_CD_init_80 : decode prog_1_method_1_code 80 = .ok (.new 52, 3) := by decide +kernel
theorem d_CD_init_83 : decode prog_1_method_1_code 83 = .ok (.dup, 1) := by decide +kernel
theorem d_CD_init_84 : decode prog_1_method_1_code 84 = .ok (.aload_n 0, 1) := by decide +kernel
theorem d_CD_init_85 : decode prog_1_method_1_code 85 = .ok (.getfield 39, 3) := by decide +kernel
theorem d_C_Curves_init_LCellDec_0 : decode prog_2_method_1_code 0 = .ok (.aload_n 0, 1) := by decide +kernel
theorem d_C_Curves_init_LCellDec_1 : decode prog_2_method_1_code 1 = .ok (.invokespecial 3, 3) := by decide +kernel
theorem d_C_Curves_init_LCellDec_4 : decode prog_2_method_1_code 4 = .ok (.aload_n 0, 1) := by decide +kernel
theorem d_C_Curves_init_LCellDec_5 : decode prog_2_method_1_code 5 = .ok (.bipush 20, 2) := by decide +kernel
theorem d_C_Curves_init_LCellDec_7 : decode prog_2_method_1_code 7 = .ok (.newarray .int, 2) := by decide +kernel
theorem d_C_Curves_init_LCellDec_9 : decode prog_2_method_1_code 9 = .ok (.putfield 11, 3) := by decide +kernel
theorem d_C_Curves_init_LCellDec_12 : decode prog_2_method_1_code 12 = .ok (.aload_n 0, 1) := by decide +kernel
theorem d_C_Curves_init_LCellDec_13 : decode prog_2_method_1_code 13 = .ok (.iconst 5, 1) := by decide +kernel
theorem d_C_Curves_init_LCellDec_14 : decode prog_2_method_1_code 14 = .ok (.newarray .int, 2) := by decide +kernel
theorem d_C_Curves_init_LCellDec_16 : decode prog_2_method_1_code 16 = .ok (.putfield 15, 3) := by decide +kernel
theorem d_C_Curves_init_LCellDec_19 : decode prog_2_method_1_code 19 = .ok (.aload_n 0, 1) := by decide +kernel
theorem d_C_Curves_init_LCellDec_20 : decode prog_2_method_1_code 20 = .ok (.bipush 25, 2) := by decide +kernel
theorem d_C_Curves_init_LCellDec_22 : decode prog_2_method_1_code 22 = .ok (.newarray .int, 2) := by decide +kernel
theorem d_C_Curves_init_LCellDec_24 : decode prog_2_method_1_code 24 = .ok (.putfield 18, 3) := by decide +kernel
theorem d_C_Curves_init_LCellDec_27 : decode prog_2_method_1_code 27 = .ok (.aload_n 0, 1) := by decide +kernel
theorem d_C_Curves_init_LCellDec_28 : decode prog_2_method_1_code 28 = .ok (.iconst 5, 1) := by decide +kernel
theorem d_C_Curves_init_LCellDec_29 : decode prog_2_method_1_code 29 = .ok (.newarray .int, 2) := by decide +kernel
theorem d_C_Curves_init_LCellDec_31 : decode prog_2_method_1_code 31 = .ok (.putfield 21, 3) := by decide +kernel
theorem d_C_Curves_init_LCellDec_34 : decode prog_2_method_1_code 34 = .ok (.aload_n 0, 1) := by decide +kernel
theorem d_C_Curves_init_LCellDec_35 : decode prog_2_method_1_code 35 = .ok (.iconst 5, 1) := by decide +kernel
theorem d_C_Curves_init_LCellDec_36 : decode prog_2_method_1_code 36 = .ok (.newarray .int, 2) := by decide +kernel
theorem d_C_Curves_init_LCellDec_38 : decode prog_2_method_1_code 38 = .ok (.putfield 24, 3) := by decide +kernel
theorem d_C_Curves_init_LCellDec_41 : decode prog_2_method_1_code 41 = .ok (.aload_n 0, 1) := by decide +kernel
theorem d_C_Curves_init_LCellDec_42 : decode prog_2_method_1_code 42 = .ok (.bipush 6, 2) := by decide +kernel
theorem d_C_Curves_init_LCellDec_44 : decode prog_2_method_1_code 44 = .ok (.newarray .int, 2) := by decide +kernel
theorem d_C_Curves_init_LCellDec_46 : decode prog_2_method_1_code 46 = .ok (.putfield 27, 3) := by decide +kernel
theorem d_C_Curves_init_LCellDec_49 : decode prog_2_method_1_code 49 = .ok (.aload_n 0, 1) := by decide +kernel
theorem d_C_Curves_init_LCellDec_50 : decode prog_2_method_1_code 50 = .ok (.aload_n 1, 1) := by decide +kernel
theorem d_C_Curves_init_LCellDec_51 : decode prog_2_method_1_code 51 = .ok (.putfield 30, 3) := by decide +kernel
theorem d_C_Curves_init_LCellDec_54 : decode prog_2_method_1_code 54 = .ok (.aload_n 0, 1) := by decide +kernel
theorem d_C_Curves_init_LCellDec_55 : decode prog_2_method_1_code 55 = .ok (.aload_n 1, 1) := by decide +kernel
theorem d_C_Curves_init_LCellDec_56 : decode prog_2_method_1_code 56 = .ok (.getfield 34, 3) := by decide +kernel
theorem d_C_Curves_init_LCellDec_59 : decode prog_2_method_1_code 59 = .ok (.putfield 40, 3) := by decide +kernel
theorem d_C_Curves_init_LCellDec_62 : decode prog_2_method_1_code 62 = .ok (.return_, 1) := by decide +kernel
theorem d_CD_init_88 : decode prog_1_method_1_code 88 = .ok (.invokespecial 54, 3) := by decide +kernel
theorem d_CD_init_91 : decode prog_1_method_1_code 91 = .ok (.putfield 55, 3) := by decide +kernel
theorem d_CD_init_94 : decode prog_1_method_1_code 94 = .ok (.aload_n 0, 1) := by decide +kernel
theorem d_CD_init_95 : decode prog_1_method_1_code 95 = .ok (.new 59, 3) := by decide +kernel
theorem d_CD_init_98 : decode prog_1_method_1_code 98 = .ok (.dup, 1) := by decide +kernel
theorem d_CD_init_99 : decode prog_1_method_1_code 99 = .ok (.aload_n 0, 1) := by decide +kernel
theorem d_CD_init_100 : decode prog_1_method_1_code 100 = .ok (.getfield 39, 3) := by decide +kernel
theorem d_C_Spot_init_LCellDec_0 : decode prog_10_method_1_code 0 = .ok (.aload_n 0, 1) := by decide +kernel
theorem d_C_Spot_init_LCellDec_1 : decode prog_10_method_1_code 1 = .ok (.invokespecial 3, 3) := by decide +kernel
theorem d_C_Spot_init_LCellDec_4 : decode prog_10_method_1_code 4 = .ok (.aload_n 0, 1) := by decide +kernel
theorem d_C_Spot_init_LCellDec_5 : decode prog_10_method_1_code 5 = .ok (.aload_n 1, 1) := by decide +kernel
theorem d_C_Spot_init_LCellDec_6 : decode prog_10_method_1_code 6 = .ok (.putfield 9, 3) := by decide +kernel
theorem d_C_Spot_init_LCellDec_9 : decode prog_10_method_1_code 9 = .ok (.aload_n 0, 1) := by decide +kernel
theorem d_C_Spot_init_LCellDec_10 : decode prog_10_method_1_code 10 = .ok (.aload_n 1, 1) := by decide +kernel
theorem d_C_Spot_init_LCellDec_11 : decode prog_10_method_1_code 11 = .ok (.getfield 15, 3) := by decide +kernel
theorem d_C_Spot_init_LCellDec_14 : decode prog_10_method_1_code 14 = .ok (.putfield 21, 3) := by decide +kernel
theorem d_C_Spot_init_LCellDec_17 : decode prog_10_method_1_code 17 = .ok (.return_, 1) := by decide +kernel
theorem d_CD_init_103 : decode prog_1_method_1_code 103 = .ok (.invokespecial 61, 3) := by decide +kernel
theorem d_CD_init_106 : decode prog_1_method_1_code 106 = .ok (.putfield 62, 3) := by decide +kernel
theorem d_CD_init_109 : decode prog_1_method_1_code 109 = .ok (.aload_n 0, 1) := by decide +kernel
theorem d_CD_init_110 : decode prog_1_method_1_code 110 = .ok (.new 66, 3) := by decide +kernel
theorem d_CD_init_113 : decode prog_1_method_1_code 113 = .ok (.dup, 1) := by decide +kernel
theorem d_CD_init_114 : decode prog_1_method_1_code 114 = .ok (.aload_n 0, 1) := by decide +kernel
theorem d_CD_init_115 : decode prog_1_method_1_code 115 = .ok (.getfield 55, 3) := by decide +kernel
theorem d_CD_init_118 : decode prog_1_method_1_code 118 = .ok (.aload_n 0, 1) := by decide +kernel
theorem d_CD_init_119 : decode prog_1_method_1_code 119 = .ok (.getfield 62, 3) := by decide +kernel
theorem d_CD_init_122 : decode prog_1_method_1_code 122 = .ok (.aload_n 0, 1) := by decide +kernel
theorem d_CD_init_123 : decode prog_1_method_1_code 123 = .ok (.getfield 16, 3) := by decide +kernel
theorem d_C_Line_init_LCellDec_0 : decode prog_3_method_1_code 0 = .ok (.aload_n 0, 1) := by decide +kernel
theorem d_C_Line_init_LCellDec_1 : decode prog_3_method_1_code 1 = .ok (.invokespecial 3, 3) := by decide +kernel
theorem d_C_Line_init_LCellDec_4 : decode prog_3_method_1_code 4 = .ok (.aload_n 0, 1) := by decide +kernel
theorem d_C_Line_init_LCellDec_5 : decode prog_3_method_1_code 5 = .ok (.iconst 5, 1) := by decide +kernel
theorem d_C_Line_init_LCellDec_6 : decode prog_3_method_1_code 6 = .ok (.newarray .int, 2) := by decide +kernel
theorem d_C_Line_init_LCellDec_8 : decode prog_3_method_1_code 8 = .ok (.putfield 11, 3) := by decide +kernel
theorem d_C_Line_init_LCellDec_11 : decode prog_3_method_1_code 11 = .ok (.aload_n 0, 1) := by decide +kernel
theorem d_C_Line_init_LCellDec_12 : decode prog_3_method_1_code 12 = .ok (.iconst 5, 1) := by decide +kernel
theorem d_C_Line_init_LCellDec_13 : decode prog_3_method_1_code 13 = .ok (.newarray .int, 2) := by decide +kernel
theorem d_C_Line_init_LCellDec_15 : decode prog_3_method_1_code 15 = .ok (.putfield 15, 3) := by decide +kernel
theorem d_C_Line_init_LCellDec_18 : decode prog_3_method_1_code 18 = .ok (.aload_n 0, 1) := by decide +kernel
theorem d_C_Line_init_LCellDec_19 : decode prog_3_method_1_code 19 = .ok (.iconst 5, 1) := by decide +kernel
theorem d_C_Line_init_LCellDec_20 : decode prog_3_method_1_code 20 = .ok (.newarray .int, 2) := by decide +kernel
theorem d_C_Line_init_LCellDec_22 : decode prog_3_method_1_code 22 = .ok (.putfield 18, 3) := by decide +kernel
theorem d_C_Line_init_LCellDec_25 : decode prog_3_method_1_code 25 = .ok (.aload_n 0, 1) := by decide +kernel
theorem d_C_Line_init_LCellDec_26 : decode prog_3_method_1_code 26 = .ok (.iconst 5, 1) := by decide +kernel
theorem d_C_Line_init_LCellDec_27 : decode prog_3_method_1_code 27 = .ok (.newarray .boolean, 2) := by decide +kernel
theorem d_C_Line_init_LCellDec_29 : decode prog_3_method_1_code 29 = .ok (.putfield 21, 3) := by decide +kernel
theorem d_C_Line_init_LCellDec_32 : decode prog_3_method_1_code 32 = .ok (.aload_n 0, 1) := by decide +kernel
theorem d_C_Line_init_LCellDec_33 : decode prog_3_method_1_code 33 = .ok (.iconst 5, 1) := by decide +kernel
theorem d_C_Line_init_LCellDec_34 : decode prog_3_method_1_code 34 = .ok (.newarray .boolean, 2) := by decide +kernel
theorem d_C_Line_init_LCellDec_36 : decode prog_3_method_1_code 36 = .ok (.putfield 25, 3) := by decide +kernel
theorem d_C_Line_init_LCellDec_39 : decode prog_3_method_1_code 39 = .ok (.aload_n 0, 1) := by decide +kernel
theorem d_C_Line_init_LCellDec_40 : decode prog_3_method_1_code 40 = .ok (.bipush 20, 2) := by decide +kernel
theorem d_C_Line_init_LCellDec_42 : decode prog_3_method_1_code 42 = .ok (.newarray .double, 2) := by decide +kernel
theorem d_C_Line_init_LCellDec_44 : decode prog_3_method_1_code 44 = .ok (.putfield 28, 3) := by decide +kernel
theorem d_C_Line_init_LCellDec_47 : decode prog_3_method_1_code 47 = .ok (.aload_n 0, 1) := by decide +kernel
theorem d_C_Line_init_LCellDec_48 : decode prog_3_method_1_code 48 = .ok (.bipush 20, 2) := by decide +kernel
theorem d_C_Line_init_LCellDec_50 : decode prog_3_method_1_code 50 = .ok (.newarray .double, 2) := by decide +kernel
theorem d_C_Line_init_LCellDec_52 : decode prog_3_method_1_code 52 = .ok (.putfield 32, 3) := by decide +kernel
theorem d_C_Line_init_LCellDec_55 : decode prog_3_method_1_code 55 = .ok (.aload_n 0, 1) := by decide +kernel
theorem d_C_Line_init_LCellDec_56 : decode prog_3_method_1_code 56 = .ok (.bipush 15, 2) := by decide +kernel
theorem d_C_Line_init_LCellDec_58 : decode prog_3_method_1_code 58 = .ok (.anewarray 35, 3) := by decide +kernel
theorem d_C_Line_init_LCellDec_61 : decode prog_3_method_1_code 61 = .ok (.putfield 37, 3) := by decide +kernel
theorem d_C_Line_init_LCellDec_64 : decode prog_3_method_1_code 64 = .ok (.aload_n 0, 1) := by decide +kernel
theorem d_C_Line_init_LCellDec_65 : decode prog_3_method_1_code 65 = .ok (.bipush 15, 2) := by decide +kernel
theorem d_C_Line_init_LCellDec_67 : decode prog_3_method_1_code 67 = .ok (.newarray .int, 2) := by decide +kernel
theorem d_C_Line_init_LCellDec_69 : decode prog_3_method_1_code 69 = .ok (.putfield 41, 3) := by decide +kernel
theorem d_C_Line_init_LCellDec_72 : decode prog_3_method_1_code 72 = .ok (.aload_n 0, 1) := by decide +kernel
theorem d_C_Line_init_LCellDec_73 : decode prog_3_method_1_code 73 = .ok (.sipush 225, 3) := by decide +kernel
theorem d_C_Line_init_LCellDec_76 : decode prog_3_method_1_code 76 = .ok (.newarray .boolean, 2) := by decide +kernel
theorem d_C_Line_init_LCellDec_78 : decode prog_3_method_1_code 78 = .ok (.putfield 44, 3) := by decide +kernel
theorem d_C_Line_init_LCellDec_81 : decode prog_3_method_1_code 81 = .ok (.aload_n 0, 1) := by decide +kernel
theorem d_C_Line_init_LCellDec_82 : decode prog_3_method_1_code 82 = .ok (.bipush 25, 2) := by decide +kernel
theorem d_C_Line_init_LCellDec_84 : decode prog_3_method_1_code 84 = .ok (.newarray .int, 2) := by decide +kernel
theorem d_C_Line_init_LCellDec_86 : decode prog_3_method_1_code 86 = .ok (.putfield 47, 3) := by decide +kernel
theorem d_C_Line_init_LCellDec_89 : decode prog_3_method_1_code 89 = .ok (.aload_n 0, 1) := by decide +kernel
theorem d_C_Line_init_LCellDec_90 : decode prog_3_method_1_code 90 = .ok (.bipush 25, 2) := by decide +kernel
theorem d_C_Line_init_LCellDec_92 : decode prog_3_method_1_code 92 = .ok (.newarray .int, 2) := by decide +kernel
theorem d_C_Line_init_LCellDec_94 : decode prog_3_method_1_code 94 = .ok (.putfield 50, 3) := by decide +kernel
theorem d_C_Line_init_LCellDec_97 : decode prog_3_method_1_code 97 = .ok (.aload_n 0, 1) := by decide +kernel
theorem d_C_Line_init_LCellDec_98 : decode prog_3_method_1_code 98 = .ok (.aload_n 1, 1) := by decide +kernel
theorem d_C_Line_init_LCellDec_99 : decode prog_3_method_1_code 99 = .ok (.putfield 53, 3) := by decide +kernel
theorem d_C_Line_init_LCellDec_102 : decode prog_3_method_1_code 102 = .ok (.aload_n 0, 1) := by decide +kernel
theorem d_C_Line_init_LCellDec_103 : decode prog_3_method_1_code 103 = .ok (.aload_n 2, 1) := by decide +kernel
theorem d_C_Line_init_LCellDec_104 : decode prog_3_method_1_code 104 = .ok (.putfield 57, 3) := by decide +kernel
theorem d_C_Line_init_LCellDec_107 : decode prog_3_method_1_code 107 = .ok (.aload_n 0, 1) := by decide +kernel
theorem d_C_Line_init_LCellDec_108 : decode prog_3_method_1_code 108 = .ok (.aload_n 3, 1) := by decide +kernel
theorem d_C_Line_init_LCellDec_109 : decode prog_3_method_1_code 109 = .ok (.putfield 61, 3) := by decide +kernel
theorem d_C_Line_init_LCellDec_112 : decode prog_3_method_1_code 112 = .ok (.aload_n 0, 1) := by decide +kernel
theorem d_C_Line_init_LCellDec_113 : decode prog_3_method_1_code 113 = .ok (.aload_n 1, 1) := by decide +kernel
theorem d_C_Line_init_LCellDec_114 : decode prog_3_method_1_code 114 = .ok (.getfield 65, 3) := by decide +kernel
theorem d_C_Line_init_LCellDec_117 : decode prog_3_method_1_code 117 = .ok (.putfield 71, 3) := by decide +kernel
theorem d_C_Line_init_LCellDec_120 : decode prog_3_method_1_code 120 = .ok (.aload_n 0, 1) := by decide +kernel
theorem d_C_Line_init_LCellDec_121 : decode prog_3_method_1_code 121 = .ok (.aload_n 0, 1) := by decide +kernel
theorem d_C_Line_init_LCellDec_122 : decode prog_3_method_1_code 122 = .ok (.getfield 71, 3) := by decide +kernel
theorem d_C_Line_init_LCellDec_125 : decode prog_3_method_1_code 125 = .ok (.getfield 72, 3) := by decide +kernel
theorem d_C_Line_init_LCellDec_128 : decode prog_3_method_1_code 128 = .ok (.putfield 78, 3) := by decide +kernel
theorem d_C_Line_init_LCellDec_131 : decode prog_3_method_1_code 131 = .ok (.iconst 0, 1) := by decide +kernel
theorem d_C_Line_init_LCellDec_132 : decode prog_3_method_1_code 132 = .ok (.istore 4, 2) := by decide +kernel
theorem d_C_Line_init_LCellDec_134 : decode prog_3_method_1_code 134 = .ok (.iload 4, 2) := by decide +kernel
theorem d_C_Line_init_LCellDec_136 : decode prog_3_method_1_code 136 = .ok (.bipush 15, 2) := by decide +kernel
theorem d_C_Line_init_LCellDec_138 : decode prog_3_method_1_code 138 = .ok (.if_icmp .ge 23, 3) := by decide +kernel
theorem d_C_Line_init_LCellDec_141 : decode prog_3_method_1_code 141 = .ok (.aload_n 0, 1) := by decide +kernel
theorem d_C_Line_init_LCellDec_142 : decode prog_3_method_1_code 142 = .ok (.getfield 37, 3) := by decide +kernel
theorem d_C_Line_init_LCellDec_145 : decode prog_3_method_1_code 145 = .ok (.iload 4, 2) := by decide +kernel
theorem d_C_Line_init_LCellDec_147 : decode prog_3_method_1_code 147 = .ok (.new 35, 3) := by decide +kernel
theorem d_C_Line_init_LCellDec_150 : decode prog_3_method_1_code 150 = .ok (.dup, 1) := by decide +kernel
theorem d_C_Line_init_LCellDec_151 : decode prog_3_method_1_code 151 = .ok (.invokespecial 79, 3) := by decide +kernel
theorem d_C_Line_init_LCellDec_154 : decode prog_3_method_1_code 154 = .ok (.aastore, 1) := by decide +kernel
theorem d_C_Line_init_LCellDec_155 : decode prog_3_method_1_code 155 = .ok (.iinc 4 1, 3) := by decide +kernel
theorem d_C_Line_init_LCellDec_158 : decode prog_3_method_1_code 158 = .ok (.goto (-24), 3) := by decide +kernel
theorem d_C_Line_init_LCellDec_161 : decode prog_3_method_1_code 161 = .ok (.return_, 1) := by decide +kernel
theorem d_CD_init_126 : decode prog_1_method_1_code 126 = .ok (.invokespecial 68, 3) := by decide +kernel
theorem d_CD_init_129 : decode prog_1_method_1_code 129 = .ok (.putfield 71, 3) := by decide +kernel
theorem d_CD_init_132 : decode prog_1_method_1_code 132 = .ok (.aload_n 0, 1) := by decide +kernel
theorem d_CD_init_133 : decode prog_1_method_1_code 133 = .ok (.new 75, 3) := by decide +kernel
theorem d_CD_init_136 : decode prog_1_method_1_code 136 = .ok (.dup, 1) := by decide +kernel
theorem d_CD_init_137 : decode prog_1_method_1_code 137 = .ok (.aload_n 0, 1) := by decide +kernel
theorem d_CD_init_138 : decode prog_1_method_1_code 138 = .ok (.getfield 39, 3) := by decide +kernel
theorem d_CD_init_141 : decode prog_1_method_1_code 141 = .ok (.aload_n 0, 1) := by decide +kernel
theorem d_CD_init_142 : decode prog_1_method_1_code 142 = .ok (.getfield 48, 3) := by decide +kernel
theorem d_C_Roots_init_LCellDec_0 : decode prog_8_method_1_code 0 = .ok (.aload_n 0, 1) := by decide +kernel
theorem d_C_Roots_init_LCellDec_1 : decode prog_8_method_1_code 1 = .ok (.invokespecial 3, 3) := by decide +kernel
theorem d_C_Roots_init_LCellDec_4 : decode prog_8_method_1_code 4 = .ok (.aload_n 0, 1) := by decide +kernel
theorem d_C_Roots_init_LCellDec_5 : decode prog_8_method_1_code 5 = .ok (.new 9, 3) := by decide +kernel
theorem d_C_Roots_init_LCellDec_8 : decode prog_8_method_1_code 8 = .ok (.dup, 1) := by decide +kernel
theorem d_C_Roots_init_LCellDec_9 : decode prog_8_method_1_code 9 = .ok (.new 11, 3) := by decide +kernel
theorem d_C_Roots_init_LCellDec_12 : decode prog_8_method_1_code 12 = .ok (.dup, 1) := by decide +kernel
theorem d_C_Roots_init_LCellDec_13 : decode prog_8_method_1_code 13 = .ok (.bipush 64, 2) := by decide +kernel
theorem d_C_Roots_init_LCellDec_15 : decode prog_8_method_1_code 15 = .ok (.invokespecial 13, 3) := by decide +kernel
theorem d_C_Roots_init_LCellDec_18 : decode prog_8_method_1_code 18 = .ok (.invokespecial 16, 3) := by decide +kernel
theorem d_C_Roots_init_LCellDec_21 : decode prog_8_method_1_code 21 = .ok (.putfield 19, 3) := by decide +kernel
theorem d_C_Roots_init_LCellDec_24 : decode prog_8_method_1_code 24 = .ok (.aload_n 0, 1) := by decide +kernel
theorem d_C_Roots_init_LCellDec_25 : decode prog_8_method_1_code 25 = .ok (.new 25, 3) := by decide +kernel
theorem d_C_Roots_init_LCellDec_28 : decode prog_8_method_1_code 28 = .ok (.dup, 1) := by decide +kernel
theorem d_ArrayList_init_0 : decode prog_32_method_2_code 0 = .ok (.aload_n 0, 1) := by decide +kernel
theorem d_AbstractList_init_0 : decode prog_31_method_1_code 0 = .ok (.aload_n 0, 1) := by decide +kernel
theorem d_AbstractCollection_init_0 : decode prog_30_method_1_code 0 = .ok (.aload_n 0, 1) := by decide +kernel
theorem d_AbstractCollection_init_1 : decode prog_30_method_1_code 1 = .ok (.invokespecial 1, 3) := by decide +kernel
theorem d_AbstractCollection_init_4 : decode prog_30_method_1_code 4 = .ok (.return_, 1) := by decide +kernel
theorem d_AbstractList_init_1 : decode prog_31_method_1_code 1 = .ok (.invokespecial 1, 3) := by decide +kernel
theorem d_AbstractList_init_4 : decode prog_31_method_1_code 4 = .ok (.aload_n 0, 1) := by decide +kernel
theorem d_AbstractList_init_5 : decode prog_31_method_1_code 5 = .ok (.iconst 0, 1) := by decide +kernel
theorem d_AbstractList_init_6 : decode prog_31_method_1_code 6 = .ok (.putfield 7, 3) := by decide +kernel
theorem d_AbstractList_init_9 : decode prog_31_method_1_code 9 = .ok (.return_, 1) := by decide +kernel
theorem d_ArrayList_init_1 : decode prog_32_method_2_code 1 = .ok (.invokespecial 1, 3) := by decide +kernel
theorem d_ArrayList_init_4 : decode prog_32_method_2_code 4 = .ok (.aload_n 0, 1) := by decide +kernel
theorem d_ArrayList_init_5 : decode prog_32_method_2_code 5 = .ok (.getstatic 39, 3) := by decide +kernel
theorem d_ArrayList_init_8 : decode prog_32_method_2_code 8 = .ok (.putfield 9, 3) := by decide +kernel
theorem d_ArrayList_init_11 : decode prog_32_method_2_code 11 = .ok (.return_, 1) := by decide +kernel
theorem d_C_Roots_init_LCellDec_29 : decode prog_8_method_1_code 29 = .ok (.invokespecial 27, 3) := by decide +kernel
theorem d_C_Roots_init_LCellDec_32 : decode prog_8_method_1_code 32 = .ok (.putfield 28, 3) := by decide +kernel
theorem d_C_Roots_init_LCellDec_35 : decode prog_8_method_1_code 35 = .ok (.aload_n 0, 1) := by decide +kernel
theorem d_C_Roots_init_LCellDec_36 : decode prog_8_method_1_code 36 = .ok (.bipush 16, 2) := by decide +kernel
theorem d_C_Roots_init_LCellDec_38 : decode prog_8_method_1_code 38 = .ok (.newarray .int, 2) := by decide +kernel
theorem d_C_Roots_init_LCellDec_40 : decode prog_8_method_1_code 40 = .ok (.putfield 32, 3) := by decide +kernel
theorem d_C_Roots_init_LCellDec_43 : decode prog_8_method_1_code 43 = .ok (.aload_n 0, 1) := by decide +kernel
theorem d_C_Roots_init_LCellDec_44 : decode prog_8_method_1_code 44 = .ok (.aload_n 1, 1) := by decide +kernel
theorem d_C_Roots_init_LCellDec_45 : decode prog_8_method_1_code 45 = .ok (.putfield 36, 3) := by decide +kernel
theorem d_C_Roots_init_LCellDec_48 : decode prog_8_method_1_code 48 = .ok (.aload_n 0, 1) := by decide +kernel
theorem d_C_Roots_init_LCellDec_49 : decode prog_8_method_1_code 49 = .ok (.aload_n 2, 1) := by decide +kernel
theorem d_C_Roots_init_LCellDec_50 : decode prog_8_method_1_code 50 = .ok (.putfield 39, 3) := by decide +kernel
theorem d_C_Roots_init_LCellDec_53 : decode prog_8_method_1_code 53 = .ok (.aload_n 0, 1) := by decide +kernel
theorem d_C_Roots_init_LCellDec_54 : decode prog_8_method_1_code 54 = .ok (.aload_n 1, 1) := by decide +kernel
theorem d_C_Roots_init_LCellDec_55 : decode prog_8_method_1_code 55 = .ok (.getfield 43, 3) := by decide +kernel
theorem d_C_Roots_init_LCellDec_58 : decode prog_8_method_1_code 58 = .ok (.putfield 47, 3) := by decide +kernel
theorem d_C_Roots_init_LCellDec_61 : decode prog_8_method_1_code 61 = .ok (.return_, 1) := by decide +kernel
theorem d_CD_init_145 : decode prog_1_method_1_code 145 = .ok (.invokespecial 77, 3) := by decide +kernel
theorem d_CD_init_148 : decode prog_1_method_1_code 148 = .ok (.putfield 80, 3) := by decide +kernel
theorem d_CD_init_151 : decode prog_1_method_1_code 151 = .ok (.aload_n 0, 1) := by decide +kernel
theorem d_CD_init_152 : decode prog_1_method_1_code 152 = .ok (.new 75, 3) := by decide +kernel
theorem d_CD_init_155 : decode prog_1_method_1_code 155 = .ok (.dup, 1) := by decide +kernel
theorem d_CD_init_156 : decode prog_1_method_1_code 156 = .ok (.aload_n 0, 1) := by decide +kernel
theorem d_CD_init_157 : decode prog_1_method_1_code 157 = .ok (.getfield 39, 3) := by decide +kernel
theorem d_CD_init_160 : decode prog_1_method_1_code 160 = .ok (.aload_n 0, 1) := by decide +kernel
theorem d_CD_init_161 : decode prog_1_method_1_code 161 = .ok (.getfield 48, 3) := by decide +kernel
theorem d_CD_init_164 : decode prog_1_method_1_code 164 = .ok (.invokespecial 77, 3) := by decide +kernel
theorem d_CD_init_167 : decode prog_1_method_1_code 167 = .ok (.putfield 84, 3) := by decide +kernel
theorem d_CD_init_170 : decode prog_1_method_1_code 170 = .ok (.aload_n 0, 1) := by decide +kernel
theorem d_CD_init_171 : decode prog_1_method_1_code 171 = .ok (.new 75, 3) := by decide +kernel
theorem d_CD_init_174 : decode prog_1_method_1_code 174 = .ok (.dup, 1) := by decide +kernel
theorem d_CD_init_175 : decode prog_1_method_1_code 175 = .ok (.aload_n 0, 1) := by decide +kernel
theorem d_CD_init_176 : decode prog_1_method_1_code 176 = .ok (.getfield 39, 3) := by decide +kernel
theorem d_CD_init_179 : decode prog_1_method_1_code 179 = .ok (.aload_n 0, 1) := by decide +kernel
theorem d_CD_init_180 : decode prog_1_method_1_code 180 = .ok (.getfield 48, 3) := by decide +kernel
theorem d_CD_init_183 : decode prog_1_method_1_code 183 = .ok (.invokespecial 77, 3) := by decide +kernel
theorem d_CD_init_186 : decode prog_1_method_1_code 186 = .ok (.putfield 87, 3) := by decide +kernel
theorem d_CD_init_189 : decode prog_1_method_1_code 189 = .ok (.aload_n 0, 1) := by decide +kernel
theorem d_CD_init_190 : decode prog_1_method_1_code 190 = .ok (.new 75, 3) := by decide +kernel
theorem d_CD_init_193 : decode prog_1_method_1_code 193 = .ok (.dup, 1) := by decide +kernel
theorem d_CD_init_194 : decode prog_1_method_1_code 194 = .ok (.aload_n 0, 1) := by decide +kernel
theorem d_CD_init_195 : decode prog_1_method_1_code 195 = .ok (.getfield 39, 3) := by decide +kernel
theorem d_CD_init_198 : decode prog_1_method_1_code 198 = .ok (.aload_n 0, 1) := by decide +kernel
theorem d_CD_init_199 : decode prog_1_method_1_code 199 = .ok (.getfield 48, 3) := by decide +kernel
theorem d_CD_init_202 : decode prog_1_method_1_code 202 = .ok (.invokespecial 77, 3) := by decide +kernel
theorem d_CD_init_205 : decode prog_1_method_1_code 205 = .ok (.putfield 90, 3) := by decide +kernel
theorem d_CD_init_208 : decode prog_1_method_1_code 208 = .ok (.aload_n 0, 1) := by decide +kernel
theorem d_CD_init_209 : decode prog_1_method_1_code 209 = .ok (.bipush 32, 2) := by decide +kernel
theorem d_CD_init_211 : decode prog_1_method_1_code 211 = .ok (.newarray .int, 2) := by decide +kernel
theorem d_CD_init_213 : decode prog_1_method_1_code 213 = .ok (.putfield 93, 3) := by decide +kernel
theorem d_CD_init_216 : decode prog_1_method_1_code 216 = .ok (.aload_n 0, 1) := by decide +kernel
theorem d_CD_init_217 : decode prog_1_method_1_code 217 = .ok (.iconst (-1), 1) := by decide +kernel
theorem d_CD_init_218 : decode prog_1_method_1_code 218 = .ok (.putfield 97, 3) := by decide +kernel
theorem d_CD_init_221 : decode prog_1_method_1_code 221 = .ok (.aload_n 0, 1) := by decide +kernel
theorem d_CD_init_222 : decode prog_1_method_1_code 222 = .ok (.iconst (-1), 1) := by decide +kernel
theorem d_CD_init_223 : decode prog_1_method_1_code 223 = .ok (.putfield 101, 3) := by decide +kernel
theorem d_CD_init_226 : decode prog_1_method_1_code 226 = .ok (.aload_n 0, 1) := by decide +kernel
theorem d_CD_init_227 : decode prog_1_method_1_code 227 = .ok (.new 104, 3) := by decide +kernel
theorem d_CD_init_230 : decode prog_1_method_1_code 230 = .ok (.dup, 1) := by decide +kernel
theorem d_CD_init_231 : decode prog_1_method_1_code 231 = .ok (.invokespecial 106, 3) := by decide +kernel
theorem d_CD_init_234 : decode prog_1_method_1_code 234 = .ok (.putfield 107, 3) := by decide +kernel
theorem d_CD_init_237 : decode prog_1_method_1_code 237 = .ok (.return_, 1) := by decide +kernel
