def y_C_Statement_init : MethodName := ⟨"CellDecide$Statement", "<init>", "()V"⟩
abbrev w_C_Statement_init : List Cond := Cond.code y_C_Statement_init prog_11_method_1_code 1 (Option.none : Option Jvm.ClassFile.FieldType) :: zg_tbl
def y_C_Reader_init_BLCellDe : MethodName := ⟨"CellDecide$Reader", "<init>", "([BLCellDecide$Statement;)V"⟩
abbrev w_C_Reader_init_BLCellDe : List Cond := Cond.code y_C_Reader_init_BLCellDe prog_6_method_1_code 3 (Option.none : Option Jvm.ClassFile.FieldType) :: zg_tbl
def y_AbstractStringBuilder_init_I : MethodName := ⟨"java/lang/AbstractStringBuilder", "<init>", "(I)V"⟩
abbrev w_AbstractStringBuilder_init_I : List Cond := Cond.code y_AbstractStringBuilder_init_I prog_15_method_2_code 2 (Option.none : Option Jvm.ClassFile.FieldType) :: zg_tbl
def y_StringBuilder_init : MethodName := ⟨"java/lang/StringBuilder", "<init>", "()V"⟩
abbrev w_StringBuilder_init : List Cond := Cond.code y_StringBuilder_init prog_25_method_1_code 1 (Option.none : Option Jvm.ClassFile.FieldType) :: zg_tbl
def y_C_Numbers_init_I : MethodName := ⟨"CellDecide$Numbers", "<init>", "(I)V"⟩
abbrev w_C_Numbers_init_I : List Cond := Cond.code y_C_Numbers_init_I prog_4_method_1_code 2 (Option.none : Option Jvm.ClassFile.FieldType) :: zg_tbl
def y_C_Polys_init_LCellDec : MethodName := ⟨"CellDecide$Polys", "<init>", "(LCellDecide$Numbers;)V"⟩
abbrev w_C_Polys_init_LCellDec : List Cond := Cond.code y_C_Polys_init_LCellDec prog_5_method_1_code 2 (Option.none : Option Jvm.ClassFile.FieldType) :: zg_tbl
def y_C_Splitter_init_LCellDec : MethodName := ⟨"CellDecide$Splitter", "<init>", "(LCellDecide$Polys;)V"⟩
abbrev w_C_Splitter_init_LCellDec : List Cond := Cond.code y_C_Splitter_init_LCellDec prog_9_method_1_code 2 (Option.none : Option Jvm.ClassFile.FieldType) :: zg_tbl
def y_C_Curves_init_LCellDec : MethodName := ⟨"CellDecide$Curves", "<init>", "(LCellDecide$Polys;)V"⟩
abbrev w_C_Curves_init_LCellDec : List Cond := Cond.code y_C_Curves_init_LCellDec prog_2_method_1_code 2 (Option.none : Option Jvm.ClassFile.FieldType) :: zg_tbl
def y_C_Spot_init_LCellDec : MethodName := ⟨"CellDecide$Spot", "<init>", "(LCellDecide$Polys;)V"⟩
abbrev w_C_Spot_init_LCellDec : List Cond := Cond.code y_C_Spot_init_LCellDec prog_10_method_1_code 2 (Option.none : Option Jvm.ClassFile.FieldType) :: zg_tbl
def y_C_Root_init : MethodName := ⟨"CellDecide$Root", "<init>", "()V"⟩
abbrev w_C_Root_init : List Cond := Cond.code y_C_Root_init prog_7_method_1_code 1 (Option.none : Option Jvm.ClassFile.FieldType) :: zg_tbl
def y_C_Line_init_LCellDec : MethodName := ⟨"CellDecide$Line", "<init>", "(LCellDecide$Curves;LCellDecide$Spot;LCellDecide$Statement;)V"⟩
abbrev w_C_Line_init_LCellDec : List Cond := Cond.code y_C_Line_init_LCellDec prog_3_method_1_code 5 (Option.none : Option Jvm.ClassFile.FieldType) :: zg_tbl
def y_AbstractCollection_init : MethodName := ⟨"java/util/AbstractCollection", "<init>", "()V"⟩
abbrev w_AbstractCollection_init : List Cond := Cond.code y_AbstractCollection_init prog_30_method_1_code 1 (Option.none : Option Jvm.ClassFile.FieldType) :: zg_tbl
def y_AbstractList_init : MethodName := ⟨"java/util/AbstractList", "<init>", "()V"⟩
abbrev w_AbstractList_init : List Cond := Cond.code y_AbstractList_init prog_31_method_1_code 1 (Option.none : Option Jvm.ClassFile.FieldType) :: zg_tbl
def y_ArrayList_init : MethodName := ⟨"java/util/ArrayList", "<init>", "()V"⟩
abbrev w_ArrayList_init : List Cond := Cond.code y_ArrayList_init prog_32_method_2_code 1 (Option.none : Option Jvm.ClassFile.FieldType) :: zg_tbl
def y_C_Roots_init_LCellDec : MethodName := ⟨"CellDecide$Roots", "<init>", "(LCellDecide$Polys;LCellDecide$Splitter;)V"⟩
abbrev w_C_Roots_init_LCellDec : List Cond := Cond.code y_C_Roots_init_LCellDec prog_8_method_1_code 3 (Option.none : Option Jvm.ClassFile.FieldType) :: zg_tbl
def y_CD_init : MethodName := ⟨"CellDecide", "<init>", "()V"⟩
abbrev w_CD_init : List Cond := Cond.code y_CD_init prog_1_method_1_code 1 (Option.none : Option Jvm.ClassFile.FieldType) :: zg_tbl
def y_Mod_init : MethodName := ⟨"CellDecideModel", "<init>", "()V"⟩
abbrev w_Mod_init : List Cond := Cond.code y_Mod_init prog_13_method_1_code 1 (Option.none : Option Jvm.ClassFile.FieldType) :: zg_tbl
theorem k_0 : Cond.methodLink "CellDecide" 1 ⟨"java/lang/Object", "<init>", "()V"⟩ ∈ zg_tbl := zt_1 (List.mem_of_getElem? (i := 38) rfl) rfl
theorem k_1 : Cond.instanceMethod ⟨"java/lang/Object", "<init>", "()V"⟩ ∈ zg_tbl := zt_1 (List.mem_of_getElem? (i := 39) rfl) rfl
theorem k_2 : Cond.code ⟨"java/lang/Object", "<init>", "()V"⟩ object_method_1_code 1 (Option.none : Option Jvm.ClassFile.FieldType) ∈ zg_tbl := zt_1 (List.mem_of_getElem? (i := 40) rfl) rfl
theorem k_3 : Cond.arrayClass Jvm.ClassFile.FieldType.byte ∈ zg_tbl := zt_1 (List.mem_of_getElem? (i := 135) rfl) rfl
theorem k_4 : Cond.fieldLink "CellDecide" 9 "CellDecide" "tape" "[B" ∈ zg_tbl := zt_3 (List.mem_of_getElem? (i := 151) rfl) rfl
theorem k_5 : Cond.classLink "CellDecide" 13 "CellDecide$Statement" ∈ zg_tbl := zt_1 (List.mem_of_getElem? (i := 41) rfl) rfl
theorem k_6 : Cond.instantiable "CellDecide$Statement" 19 ∈ zg_tbl := zt_1 (List.mem_of_getElem? (i := 42) rfl) rfl
theorem k_7 : Cond.initialized "CellDecide$Statement" ∈ zg_tbl := zt_1 (List.mem_of_getElem? (i := 2) rfl) rfl
theorem k_8 : Cond.methodLink "CellDecide$Statement" 3 ⟨"java/lang/Object", "<init>", "()V"⟩ ∈ zg_tbl := zt_1 (List.mem_of_getElem? (i := 46) rfl) rfl
theorem k_9 : Cond.fieldLink "CellDecide$Statement" 9 "CellDecide$Statement" "answer" "I" ∈ zg_tbl := zt_1 (List.mem_of_getElem? (i := 55) rfl) rfl
theorem k_10 : Cond.arrayClass Jvm.ClassFile.FieldType.int ∈ zg_tbl := zt_1 (List.mem_of_getElem? (i := 136) rfl) rfl
theorem k_11 : Cond.fieldLink "CellDecide$Statement" 15 "CellDecide$Statement" "code" "[I" ∈ zg_tbl := zt_1 (List.mem_of_getElem? (i := 58) rfl) rfl
theorem k_12 : Cond.arrayClass Jvm.ClassFile.FieldType.boolean ∈ zg_tbl := zt_1 (List.mem_of_getElem? (i := 137) rfl) rfl
theorem k_13 : Cond.fieldLink "CellDecide$Statement" 19 "CellDecide$Statement" "stack" "[Z" ∈ zg_tbl := zt_1 (List.mem_of_getElem? (i := 59) rfl) rfl
theorem k_14 : Cond.classLink "CellDecide$Statement" 25 "[[I" ∈ zg_tbl := zt_1 (List.mem_of_getElem? (i := 47) rfl) rfl
theorem k_15 : Cond.fieldLink "CellDecide$Statement" 27 "CellDecide$Statement" "poly" "[[I" ∈ zg_tbl := zt_1 (List.mem_of_getElem? (i := 64) rfl) rfl
theorem k_16 : Cond.fieldLink "CellDecide$Statement" 30 "CellDecide$Statement" "relation" "[I" ∈ zg_tbl := zt_1 (List.mem_of_getElem? (i := 67) rfl) rfl
theorem k_17 : Cond.fieldLink "CellDecide$Statement" 33 "CellDecide$Statement" "holder" "[I" ∈ zg_tbl := zt_1 (List.mem_of_getElem? (i := 69) rfl) rfl
theorem k_18 : Cond.fieldLink "CellDecide$Statement" 36 "CellDecide$Statement" "sign" "[I" ∈ zg_tbl := zt_1 (List.mem_of_getElem? (i := 73) rfl) rfl
theorem k_19 : Cond.fieldLink "CellDecide$Statement" 39 "CellDecide$Statement" "some" "[Z" ∈ zg_tbl := zt_1 (List.mem_of_getElem? (i := 80) rfl) rfl
theorem k_20 : Cond.fieldLink "CellDecide$Statement" 42 "CellDecide$Statement" "variable" "[I" ∈ zg_tbl := zt_1 (List.mem_of_getElem? (i := 83) rfl) rfl
theorem k_21 : Cond.fieldLink "CellDecide$Statement" 45 "CellDecide$Statement" "variablePlace" "[I" ∈ zg_tbl := zt_1 (List.mem_of_getElem? (i := 86) rfl) rfl
theorem k_22 : Cond.fieldLink "CellDecide$Statement" 48 "CellDecide$Statement" "parent" "[I" ∈ zg_tbl := zt_1 (List.mem_of_getElem? (i := 88) rfl) rfl
theorem k_23 : Cond.fieldLink "CellDecide$Statement" 51 "CellDecide$Statement" "from" "[I" ∈ zg_tbl := zt_1 (List.mem_of_getElem? (i := 91) rfl) rfl
theorem k_24 : Cond.fieldLink "CellDecide$Statement" 54 "CellDecide$Statement" "till" "[I" ∈ zg_tbl := zt_1 (List.mem_of_getElem? (i := 92) rfl) rfl
theorem k_25 : Cond.fieldLink "CellDecide$Statement" 57 "CellDecide$Statement" "value" "[Z" ∈ zg_tbl := zt_1 (List.mem_of_getElem? (i := 93) rfl) rfl
theorem k_26 : Cond.code ⟨"CellDecide$Statement", "<init>", "()V"⟩ prog_11_method_1_code 1 (Option.none : Option Jvm.ClassFile.FieldType) ∈ zg_tbl := zt_1 (List.mem_of_getElem? (i := 45) rfl) rfl
theorem k_27 : Cond.instanceMethod ⟨"CellDecide$Statement", "<init>", "()V"⟩ ∈ zg_tbl := zt_1 (List.mem_of_getElem? (i := 44) rfl) rfl
theorem k_28 : Cond.fieldLink "CellDecide" 16 "CellDecide" "statement" "LCellDecide$Statement;" ∈ zg_tbl := zt_3 (List.mem_of_getElem? (i := 154) rfl) rfl
theorem k_29 : Cond.classLink "CellDecide" 20 "CellDecide$Reader" ∈ zg_tbl := zt_1 (List.mem_of_getElem? (i := 138) rfl) rfl
theorem k_30 : Cond.instantiable "CellDecide$Reader" 19 ∈ zg_tbl := zt_1 (List.mem_of_getElem? (i := 139) rfl) rfl
theorem k_31 : Cond.initialized "CellDecide$Reader" ∈ zg_tbl := zt_1 (List.mem_of_getElem? (i := 3) rfl) rfl
theorem k_32 : Cond.methodLink "CellDecide$Reader" 5 ⟨"java/lang/Object", "<init>", "()V"⟩ ∈ zg_tbl := zt_1 (List.mem_of_getElem? (i := 143) rfl) rfl
theorem k_33 : Cond.fieldLink "CellDecide$Reader" 11 "CellDecide$Reader" "bound" "[Z" ∈ zg_tbl := zt_1 (List.mem_of_getElem? (i := 161) rfl) rfl
theorem k_34 : Cond.classLink "CellDecide$Reader" 15 "[[I" ∈ zg_tbl := zt_1 (List.mem_of_getElem? (i := 144) rfl) rfl
theorem k_35 : Cond.fieldLink "CellDecide$Reader" 17 "CellDecide$Reader" "slot" "[[I" ∈ zg_tbl := zt_1 (List.mem_of_getElem? (i := 162) rfl) rfl
theorem k_36 : Cond.arrayClass Jvm.ClassFile.FieldType.long ∈ zg_tbl := zt_1 (List.mem_of_getElem? (i := 206) rfl) rfl
theorem k_37 : Cond.fieldLink "CellDecide$Reader" 20 "CellDecide$Reader" "product" "[J" ∈ zg_tbl := zt_1 (List.mem_of_getElem? (i := 163) rfl) rfl
theorem k_38 : Cond.fieldLink "CellDecide$Reader" 24 "CellDecide$Reader" "curve" "[[I" ∈ zg_tbl := zt_1 (List.mem_of_getElem? (i := 165) rfl) rfl
theorem k_39 : Cond.fieldLink "CellDecide$Reader" 27 "CellDecide$Reader" "tape" "[B" ∈ zg_tbl := zt_1 (List.mem_of_getElem? (i := 145) rfl) rfl
theorem k_40 : Cond.fieldLink "CellDecide$Reader" 31 "CellDecide$Reader" "statement" "LCellDecide$Statement;" ∈ zg_tbl := zt_1 (List.mem_of_getElem? (i := 164) rfl) rfl
theorem k_41 : Cond.code ⟨"CellDecide$Reader", "<init>", "([BLCellDecide$Statement;)V"⟩ prog_6_method_1_code 3 (Option.none : Option Jvm.ClassFile.FieldType) ∈ zg_tbl := zt_1 (List.mem_of_getElem? (i := 142) rfl) rfl
theorem k_42 : Cond.methodLink "CellDecide" 22 ⟨"CellDecide$Reader", "<init>", "([BLCellDecide$Statement;)V"⟩ ∈ zg_tbl := zt_1 (List.mem_of_getElem? (i := 140) rfl) rfl
theorem k_43 : Cond.instanceMethod ⟨"CellDecide$Reader", "<init>", "([BLCellDecide$Statement;)V"⟩ ∈ zg_tbl := zt_1 (List.mem_of_getElem? (i := 141) rfl) rfl
theorem k_44 : Cond.fieldLink "CellDecide" 25 "CellDecide" "reader" "LCellDecide$Reader;" ∈ zg_tbl := zt_3 (List.mem_of_getElem? (i := 155) rfl) rfl
theorem k_45 : Cond.classLink "CellDecide" 29 "CellDecide$Polys" ∈ zg_tbl := zt_1 (List.mem_of_getElem? (i := 207) rfl) rfl
theorem k_46 : Cond.instantiable "CellDecide$Polys" 1 ∈ zg_tbl := zt_1 (List.mem_of_getElem? (i := 208) rfl) rfl
theorem k_47 : Cond.initialized "CellDecide$Polys" ∈ zg_tbl := zt_1 (List.mem_of_getElem? (i := 4) rfl) rfl
theorem k_48 : Cond.classLink "CellDecide" 31 "CellDecide$Numbers" ∈ zg_tbl := zt_1 (List.mem_of_getElem? (i := 209) rfl) rfl
theorem k_49 : Cond.instantiable "CellDecide$Numbers" 4 ∈ zg_tbl := zt_1 (List.mem_of_getElem? (i := 210) rfl) rfl
theorem k_50 : Cond.initialized "CellDecide$Numbers" ∈ zg_tbl := zt_1 (List.mem_of_getElem? (i := 5) rfl) rfl
theorem k_51 : Cond.methodLink "CellDecide$Numbers" 5 ⟨"java/lang/Object", "<init>", "()V"⟩ ∈ zg_tbl := zt_1 (List.mem_of_getElem? (i := 214) rfl) rfl
theorem k_52 : Cond.fieldLink "CellDecide$Numbers" 11 "CellDecide$Numbers" "top" "I" ∈ zg_tbl := zt_2 (List.mem_of_getElem? (i := 15) rfl) rfl
theorem k_53 : Cond.classLink "CellDecide$Numbers" 15 "java/lang/StringBuilder" ∈ zg_tbl := zt_1 (List.mem_of_getElem? (i := 215) rfl) rfl
theorem k_54 : Cond.instantiable "java/lang/StringBuilder" 4 ∈ zg_tbl := zt_1 (List.mem_of_getElem? (i := 216) rfl) rfl
theorem k_55 : Cond.initialized "java/lang/StringBuilder" ∈ zg_tbl := zt_1 (List.mem_of_getElem? (i := 7) rfl) rfl
theorem k_56 : Cond.methodLink "java/lang/AbstractStringBuilder" 3 ⟨"java/lang/Object", "<init>", "()V"⟩ ∈ zg_tbl := zt_1 (List.mem_of_getElem? (i := 223) rfl) rfl
theorem k_57 : Cond.fieldLink "java/lang/AbstractStringBuilder" 18 "java/lang/String" "COMPACT_STRINGS" "Z" ∈ zg_tbl := zt_1 (List.mem_of_getElem? (i := 224) rfl) rfl
theorem k_58 : Cond.fieldLink "java/lang/AbstractStringBuilder" 15 "java/lang/AbstractStringBuilder" "value" "[B" ∈ zg_tbl := zt_1 (List.mem_of_getElem? (i := 233) rfl) rfl
theorem k_59 : Cond.fieldLink "java/lang/AbstractStringBuilder" 22 "java/lang/AbstractStringBuilder" "coder" "B" ∈ zg_tbl := zt_1 (List.mem_of_getElem? (i := 234) rfl) rfl
theorem k_60 : Cond.code ⟨"java/lang/AbstractStringBuilder", "<init>", "(I)V"⟩ prog_15_method_2_code 2 (Option.none : Option Jvm.ClassFile.FieldType) ∈ zg_tbl := zt_1 (List.mem_of_getElem? (i := 222) rfl) rfl
theorem k_61 : Cond.initialized "java/lang/AbstractStringBuilder" ∈ zg_tbl := zt_1 (List.mem_of_getElem? (i := 6) rfl) rfl
theorem k_62 : Cond.methodLink "java/lang/StringBuilder" 1 ⟨"java/lang/AbstractStringBuilder", "<init>", "(I)V"⟩ ∈ zg_tbl := zt_1 (List.mem_of_getElem? (i := 220) rfl) rfl
theorem k_63 : Cond.instanceMethod ⟨"java/lang/AbstractStringBuilder", "<init>", "(I)V"⟩ ∈ zg_tbl := zt_1 (List.mem_of_getElem? (i := 221) rfl) rfl
theorem k_64 : Cond.code ⟨"java/lang/StringBuilder", "<init>", "()V"⟩ prog_25_method_1_code 1 (Option.none : Option Jvm.ClassFile.FieldType) ∈ zg_tbl := zt_1 (List.mem_of_getElem? (i := 219) rfl) rfl
theorem k_65 : Cond.methodLink "CellDecide$Numbers" 17 ⟨"java/lang/StringBuilder", "<init>", "()V"⟩ ∈ zg_tbl := zt_1 (List.mem_of_getElem? (i := 217) rfl) rfl
theorem k_66 : Cond.instanceMethod ⟨"java/lang/StringBuilder", "<init>", "()V"⟩ ∈ zg_tbl := zt_1 (List.mem_of_getElem? (i := 218) rfl) rfl
theorem k_67 : Cond.fieldLink "CellDecide$Numbers" 18 "CellDecide$Numbers" "reversed" "Ljava/lang/StringBuilder;" ∈ zg_tbl := zt_2 (List.mem_of_getElem? (i := 26) rfl) rfl
theorem k_68 : Cond.methodLink "CellDecide$Numbers" 22 ⟨"java/lang/Math", "max", "(II)I"⟩ ∈ zg_tbl := zt_2 (List.mem_of_getElem? (i := 7) rfl) rfl
theorem k_69 : Cond.static ⟨"java/lang/Math", "max", "(II)I"⟩ ∈ zg_tbl := zt_2 (List.mem_of_getElem? (i := 8) rfl) rfl
theorem k_70 : Cond.initialized "java/lang/Math" ∈ zg_tbl := zt_1 (List.mem_of_getElem? (i := 10) rfl) rfl
theorem k_71 : Cond.code ⟨"java/lang/Math", "max", "(II)I"⟩ prog_22_method_65_code 2 (Option.some Jvm.ClassFile.FieldType.int) ∈ zg_tbl := zt_2 (List.mem_of_getElem? (i := 9) rfl) rfl
theorem k_72 : Cond.fieldLink "CellDecide$Numbers" 28 "CellDecide$Numbers" "w" "[I" ∈ zg_tbl := zt_2 (List.mem_of_getElem? (i := 10) rfl) rfl
theorem k_73 : Cond.code ⟨"CellDecide$Numbers", "<init>", "(I)V"⟩ prog_4_method_1_code 2 (Option.none : Option Jvm.ClassFile.FieldType) ∈ zg_tbl := zt_1 (List.mem_of_getElem? (i := 213) rfl) rfl
theorem k_74 : Cond.methodLink "CellDecide" 33 ⟨"CellDecide$Numbers", "<init>", "(I)V"⟩ ∈ zg_tbl := zt_1 (List.mem_of_getElem? (i := 211) rfl) rfl
theorem k_75 : Cond.instanceMethod ⟨"CellDecide$Numbers", "<init>", "(I)V"⟩ ∈ zg_tbl := zt_1 (List.mem_of_getElem? (i := 212) rfl) rfl
theorem k_76 : Cond.methodLink "CellDecide$Polys" 3 ⟨"java/lang/Object", "<init>", "()V"⟩ ∈ zg_tbl := zt_2 (List.mem_of_getElem? (i := 39) rfl) rfl
theorem k_77 : Cond.fieldLink "CellDecide$Polys" 9 "CellDecide$Polys" "numbers" "LCellDecide$Numbers;" ∈ zg_tbl := zt_2 (List.mem_of_getElem? (i := 40) rfl) rfl
theorem k_78 : Cond.code ⟨"CellDecide$Polys", "<init>", "(LCellDecide$Numbers;)V"⟩ prog_5_method_1_code 2 (Option.none : Option Jvm.ClassFile.FieldType) ∈ zg_tbl := zt_2 (List.mem_of_getElem? (i := 38) rfl) rfl
theorem k_79 : Cond.methodLink "CellDecide" 36 ⟨"CellDecide$Polys", "<init>", "(LCellDecide$Numbers;)V"⟩ ∈ zg_tbl := zt_2 (List.mem_of_getElem? (i := 36) rfl) rfl
theorem k_80 : Cond.instanceMethod ⟨"CellDecide$Polys", "<init>", "(LCellDecide$Numbers;)V"⟩ ∈ zg_tbl := zt_2 (List.mem_of_getElem? (i := 37) rfl) rfl
theorem k_81 : Cond.fieldLink "CellDecide" 39 "CellDecide" "polys" "LCellDecide$Polys;" ∈ zg_tbl := zt_3 (List.mem_of_getElem? (i := 156) rfl) rfl
theorem k_82 : Cond.classLink "CellDecide" 43 "CellDecide$Splitter" ∈ zg_tbl := zt_2 (List.mem_of_getElem? (i := 50) rfl) rfl
theorem k_83 : Cond.instantiable "CellDecide$Splitter" 20 ∈ zg_tbl := zt_2 (List.mem_of_getElem? (i := 51) rfl) rfl
theorem k_84 : Cond.initialized "CellDecide$Splitter" ∈ zg_tbl := zt_1 (List.mem_of_getElem? (i := 11) rfl) rfl
theorem k_85 : Cond.methodLink "CellDecide$Splitter" 5 ⟨"java/lang/Object", "<init>", "()V"⟩ ∈ zg_tbl := zt_2 (List.mem_of_getElem? (i := 55) rfl) rfl
theorem k_86 : Cond.fieldLink "CellDecide$Splitter" 11 "CellDecide$Splitter" "prime" "I" ∈ zg_tbl := zt_2 (List.mem_of_getElem? (i := 58) rfl) rfl
theorem k_87 : Cond.fieldLink "CellDecide$Splitter" 15 "CellDecide$Splitter" "inverse" "[I" ∈ zg_tbl := zt_2 (List.mem_of_getElem? (i := 59) rfl) rfl
theorem k_88 : Cond.fieldLink "CellDecide$Splitter" 19 "CellDecide$Splitter" "whole" "[I" ∈ zg_tbl := zt_2 (List.mem_of_getElem? (i := 61) rfl) rfl
theorem k_89 : Cond.classLink "CellDecide$Splitter" 22 "[[I" ∈ zg_tbl := zt_2 (List.mem_of_getElem? (i := 56) rfl) rfl
theorem k_90 : Cond.fieldLink "CellDecide$Splitter" 24 "CellDecide$Splitter" "part" "[[I" ∈ zg_tbl := zt_2 (List.mem_of_getElem? (i := 63) rfl) rfl
theorem k_91 : Cond.fieldLink "CellDecide$Splitter" 27 "CellDecide$Splitter" "size" "[I" ∈ zg_tbl := zt_2 (List.mem_of_getElem? (i := 64) rfl) rfl
theorem k_92 : Cond.fieldLink "CellDecide$Splitter" 30 "CellDecide$Splitter" "matrix" "[[I" ∈ zg_tbl := zt_2 (List.mem_of_getElem? (i := 65) rfl) rfl
theorem k_93 : Cond.fieldLink "CellDecide$Splitter" 33 "CellDecide$Splitter" "column" "[I" ∈ zg_tbl := zt_2 (List.mem_of_getElem? (i := 66) rfl) rfl
theorem k_94 : Cond.fieldLink "CellDecide$Splitter" 36 "CellDecide$Splitter" "fixed" "[I" ∈ zg_tbl := zt_2 (List.mem_of_getElem? (i := 67) rfl) rfl
theorem k_95 : Cond.fieldLink "CellDecide$Splitter" 39 "CellDecide$Splitter" "one" "[I" ∈ zg_tbl := zt_2 (List.mem_of_getElem? (i := 68) rfl) rfl
theorem k_96 : Cond.fieldLink "CellDecide$Splitter" 42 "CellDecide$Splitter" "two" "[I" ∈ zg_tbl := zt_2 (List.mem_of_getElem? (i := 69) rfl) rfl
theorem k_97 : Cond.fieldLink "CellDecide$Splitter" 45 "CellDecide$Splitter" "three" "[I" ∈ zg_tbl := zt_2 (List.mem_of_getElem? (i := 70) rfl) rfl
theorem k_98 : Cond.fieldLink "CellDecide$Splitter" 48 "CellDecide$Splitter" "four" "[I" ∈ zg_tbl := zt_2 (List.mem_of_getElem? (i := 71) rfl) rfl
theorem k_99 : Cond.fieldLink "CellDecide$Splitter" 51 "CellDecide$Splitter" "helper" "[[I" ∈ zg_tbl := zt_2 (List.mem_of_getElem? (i := 72) rfl) rfl
theorem k_100 : Cond.fieldLink "CellDecide$Splitter" 54 "CellDecide$Splitter" "lifted" "[I" ∈ zg_tbl := zt_2 (List.mem_of_getElem? (i := 73) rfl) rfl
theorem k_101 : Cond.fieldLink "CellDecide$Splitter" 57 "CellDecide$Splitter" "factor" "[I" ∈ zg_tbl := zt_2 (List.mem_of_getElem? (i := 77) rfl) rfl
theorem k_102 : Cond.fieldLink "CellDecide$Splitter" 60 "CellDecide$Splitter" "polys" "LCellDecide$Polys;" ∈ zg_tbl := zt_2 (List.mem_of_getElem? (i := 57) rfl) rfl
theorem k_103 : Cond.code ⟨"CellDecide$Splitter", "<init>", "(LCellDecide$Polys;)V"⟩ prog_9_method_1_code 2 (Option.none : Option Jvm.ClassFile.FieldType) ∈ zg_tbl := zt_2 (List.mem_of_getElem? (i := 54) rfl) rfl
theorem k_104 : Cond.methodLink "CellDecide" 45 ⟨"CellDecide$Splitter", "<init>", "(LCellDecide$Polys;)V"⟩ ∈ zg_tbl := zt_2 (List.mem_of_getElem? (i := 52) rfl) rfl
theorem k_105 : Cond.instanceMethod ⟨"CellDecide$Splitter", "<init>", "(LCellDecide$Polys;)V"⟩ ∈ zg_tbl := zt_2 (List.mem_of_getElem? (i := 53) rfl) rfl
theorem k_106 : Cond.fieldLink "CellDecide" 48 "CellDecide" "splitter" "LCellDecide$Splitter;" ∈ zg_tbl := zt_3 (List.mem_of_getElem? (i := 157) rfl) rfl
theorem k_107 : Cond.classLink "CellDecide" 52 "CellDecide$Curves" ∈ zg_tbl := zt_2 (List.mem_of_getElem? (i := 120) rfl) rfl
theorem k_108 : Cond.instantiable "CellDecide$Curves" 8 ∈ zg_tbl := zt_2 (List.mem_of_getElem? (i := 121) rfl) rfl
theorem k_109 : Cond.initialized "CellDecide$Curves" ∈ zg_tbl := zt_1 (List.mem_of_getElem? (i := 12) rfl) rfl
theorem k_110 : Cond.methodLink "CellDecide$Curves" 3 ⟨"java/lang/Object", "<init>", "()V"⟩ ∈ zg_tbl := zt_2 (List.mem_of_getElem? (i := 125) rfl) rfl
theorem k_111 : Cond.fieldLink "CellDecide$Curves" 11 "CellDecide$Curves" "coefficient" "[I" ∈ zg_tbl := zt_2 (List.mem_of_getElem? (i := 129) rfl) rfl
theorem k_112 : Cond.fieldLink "CellDecide$Curves" 15 "CellDecide$Curves" "degree" "[I" ∈ zg_tbl := zt_2 (List.mem_of_getElem? (i := 130) rfl) rfl
theorem k_113 : Cond.fieldLink "CellDecide$Curves" 18 "CellDecide$Curves" "meeting" "[I" ∈ zg_tbl := zt_2 (List.mem_of_getElem? (i := 133) rfl) rfl
theorem k_114 : Cond.fieldLink "CellDecide$Curves" 21 "CellDecide$Curves" "turn" "[I" ∈ zg_tbl := zt_2 (List.mem_of_getElem? (i := 134) rfl) rfl
theorem k_115 : Cond.fieldLink "CellDecide$Curves" 24 "CellDecide$Curves" "middle" "[I" ∈ zg_tbl := zt_2 (List.mem_of_getElem? (i := 135) rfl) rfl
theorem k_116 : Cond.fieldLink "CellDecide$Curves" 27 "CellDecide$Curves" "matrix" "[I" ∈ zg_tbl := zt_2 (List.mem_of_getElem? (i := 136) rfl) rfl
theorem k_117 : Cond.fieldLink "CellDecide$Curves" 30 "CellDecide$Curves" "polys" "LCellDecide$Polys;" ∈ zg_tbl := zt_2 (List.mem_of_getElem? (i := 126) rfl) rfl
theorem k_118 : Cond.fieldLink "CellDecide$Curves" 34 "CellDecide$Polys" "numbers" "LCellDecide$Numbers;" ∈ zg_tbl := zt_2 (List.mem_of_getElem? (i := 43) rfl) rfl
theorem k_119 : Cond.fieldLink "CellDecide$Curves" 40 "CellDecide$Curves" "numbers" "LCellDecide$Numbers;" ∈ zg_tbl := zt_2 (List.mem_of_getElem? (i := 128) rfl) rfl
theorem k_120 : Cond.code ⟨"CellDecide$Curves", "<init>", "(LCellDecide$Polys;)V"⟩ prog_2_method_1_code 2 (Option.none : Option Jvm.ClassFile.FieldType) ∈ zg_tbl := zt_2 (List.mem_of_getElem? (i := 124) rfl) rfl
theorem k_121 : Cond.methodLink "CellDecide" 54 ⟨"CellDecide$Curves", "<init>", "(LCellDecide$Polys;)V"⟩ ∈ zg_tbl := zt_2 (List.mem_of_getElem? (i := 122) rfl) rfl
theorem k_122 : Cond.instanceMethod ⟨"CellDecide$Curves", "<init>", "(LCellDecide$Polys;)V"⟩ ∈ zg_tbl := zt_2 (List.mem_of_getElem? (i := 123) rfl) rfl
theorem k_123 : Cond.fieldLink "CellDecide" 55 "CellDecide" "curves" "LCellDecide$Curves;" ∈ zg_tbl := zt_3 (List.mem_of_getElem? (i := 158) rfl) rfl
theorem k_124 : Cond.classLink "CellDecide" 59 "CellDecide$Spot" ∈ zg_tbl := zt_2 (List.mem_of_getElem? (i := 154) rfl) rfl
theorem k_125 : Cond.instantiable "CellDecide$Spot" 11 ∈ zg_tbl := zt_2 (List.mem_of_getElem? (i := 155) rfl) rfl
theorem k_126 : Cond.initialized "CellDecide$Spot" ∈ zg_tbl := zt_1 (List.mem_of_getElem? (i := 13) rfl) rfl
theorem k_127 : Cond.methodLink "CellDecide$Spot" 3 ⟨"java/lang/Object", "<init>", "()V"⟩ ∈ zg_tbl := zt_2 (List.mem_of_getElem? (i := 159) rfl) rfl
theorem k_128 : Cond.fieldLink "CellDecide$Spot" 9 "CellDecide$Spot" "polys" "LCellDecide$Polys;" ∈ zg_tbl := zt_2 (List.mem_of_getElem? (i := 160) rfl) rfl
theorem k_129 : Cond.fieldLink "CellDecide$Spot" 15 "CellDecide$Polys" "numbers" "LCellDecide$Numbers;" ∈ zg_tbl := zt_2 (List.mem_of_getElem? (i := 41) rfl) rfl
theorem k_130 : Cond.fieldLink "CellDecide$Spot" 21 "CellDecide$Spot" "numbers" "LCellDecide$Numbers;" ∈ zg_tbl := zt_2 (List.mem_of_getElem? (i := 161) rfl) rfl
theorem k_131 : Cond.code ⟨"CellDecide$Spot", "<init>", "(LCellDecide$Polys;)V"⟩ prog_10_method_1_code 2 (Option.none : Option Jvm.ClassFile.FieldType) ∈ zg_tbl := zt_2 (List.mem_of_getElem? (i := 158) rfl) rfl
theorem k_132 : Cond.methodLink "CellDecide" 61 ⟨"CellDecide$Spot", "<init>", "(LCellDecide$Polys;)V"⟩ ∈ zg_tbl := zt_2 (List.mem_of_getElem? (i := 156) rfl) rfl
theorem k_133 : Cond.instanceMethod ⟨"CellDecide$Spot", "<init>", "(LCellDecide$Polys;)V"⟩ ∈ zg_tbl := zt_2 (List.mem_of_getElem? (i := 157) rfl) rfl
theorem k_134 : Cond.fieldLink "CellDecide" 62 "CellDecide" "spot" "LCellDecide$Spot;" ∈ zg_tbl := zt_3 (List.mem_of_getElem? (i := 159) rfl) rfl
theorem k_135 : Cond.classLink "CellDecide" 66 "CellDecide$Line" ∈ zg_tbl := zt_2 (List.mem_of_getElem? (i := 196) rfl) rfl
theorem k_136 : Cond.instantiable "CellDecide$Line" 19 ∈ zg_tbl := zt_2 (List.mem_of_getElem? (i := 197) rfl) rfl
theorem k_137 : Cond.initialized "CellDecide$Line" ∈ zg_tbl := zt_1 (List.mem_of_getElem? (i := 14) rfl) rfl
theorem k_138 : Cond.methodLink "CellDecide$Line" 3 ⟨"java/lang/Object", "<init>", "()V"⟩ ∈ zg_tbl := zt_2 (List.mem_of_getElem? (i := 201) rfl) rfl
theorem k_139 : Cond.fieldLink "CellDecide$Line" 11 "CellDecide$Line" "curve" "[I" ∈ zg_tbl := zt_3 (List.mem_of_getElem? (i := 27) rfl) rfl
theorem k_140 : Cond.fieldLink "CellDecide$Line" 15 "CellDecide$Line" "degree" "[I" ∈ zg_tbl := zt_3 (List.mem_of_getElem? (i := 28) rfl) rfl
theorem k_141 : Cond.fieldLink "CellDecide$Line" 18 "CellDecide$Line" "lead" "[I" ∈ zg_tbl := zt_3 (List.mem_of_getElem? (i := 29) rfl) rfl
theorem k_142 : Cond.fieldLink "CellDecide$Line" 21 "CellDecide$Line" "single" "[Z" ∈ zg_tbl := zt_3 (List.mem_of_getElem? (i := 30) rfl) rfl
theorem k_143 : Cond.fieldLink "CellDecide$Line" 25 "CellDecide$Line" "quick" "[Z" ∈ zg_tbl := zt_3 (List.mem_of_getElem? (i := 31) rfl) rfl
theorem k_144 : Cond.arrayClass Jvm.ClassFile.FieldType.double ∈ zg_tbl := zt_3 (List.mem_of_getElem? (i := 20) rfl) rfl
theorem k_145 : Cond.fieldLink "CellDecide$Line" 28 "CellDecide$Line" "value" "[D" ∈ zg_tbl := zt_3 (List.mem_of_getElem? (i := 32) rfl) rfl
theorem k_146 : Cond.fieldLink "CellDecide$Line" 32 "CellDecide$Line" "error" "[D" ∈ zg_tbl := zt_3 (List.mem_of_getElem? (i := 33) rfl) rfl
theorem k_147 : Cond.classLink "CellDecide$Line" 35 "CellDecide$Root" ∈ zg_tbl := zt_2 (List.mem_of_getElem? (i := 202) rfl) rfl
theorem k_148 : Cond.fieldLink "CellDecide$Line" 37 "CellDecide$Line" "root" "[LCellDecide$Root;" ∈ zg_tbl := zt_3 (List.mem_of_getElem? (i := 36) rfl) rfl
theorem k_149 : Cond.fieldLink "CellDecide$Line" 41 "CellDecide$Line" "order" "[I" ∈ zg_tbl := zt_3 (List.mem_of_getElem? (i := 37) rfl) rfl
theorem k_150 : Cond.fieldLink "CellDecide$Line" 44 "CellDecide$Line" "close" "[Z" ∈ zg_tbl := zt_3 (List.mem_of_getElem? (i := 39) rfl) rfl
theorem k_151 : Cond.fieldLink "CellDecide$Line" 47 "CellDecide$Line" "shared" "[I" ∈ zg_tbl := zt_3 (List.mem_of_getElem? (i := 40) rfl) rfl
theorem k_152 : Cond.fieldLink "CellDecide$Line" 50 "CellDecide$Line" "pairs" "[I" ∈ zg_tbl := zt_3 (List.mem_of_getElem? (i := 41) rfl) rfl
theorem k_153 : Cond.fieldLink "CellDecide$Line" 53 "CellDecide$Line" "curves" "LCellDecide$Curves;" ∈ zg_tbl := zt_3 (List.mem_of_getElem? (i := 21) rfl) rfl
theorem k_154 : Cond.fieldLink "CellDecide$Line" 57 "CellDecide$Line" "spot" "LCellDecide$Spot;" ∈ zg_tbl := zt_3 (List.mem_of_getElem? (i := 22) rfl) rfl
theorem k_155 : Cond.fieldLink "CellDecide$Line" 61 "CellDecide$Line" "statement" "LCellDecide$Statement;" ∈ zg_tbl := zt_3 (List.mem_of_getElem? (i := 23) rfl) rfl
theorem k_156 : Cond.fieldLink "CellDecide$Line" 71 "CellDecide$Line" "polys" "LCellDecide$Polys;" ∈ zg_tbl := zt_3 (List.mem_of_getElem? (i := 24) rfl) rfl
theorem k_157 : Cond.fieldLink "CellDecide$Line" 72 "CellDecide$Polys" "numbers" "LCellDecide$Numbers;" ∈ zg_tbl := zt_2 (List.mem_of_getElem? (i := 44) rfl) rfl
theorem k_158 : Cond.fieldLink "CellDecide$Line" 78 "CellDecide$Line" "numbers" "LCellDecide$Numbers;" ∈ zg_tbl := zt_3 (List.mem_of_getElem? (i := 25) rfl) rfl
theorem k_159 : Cond.instantiable "CellDecide$Root" 13 ∈ zg_tbl := zt_2 (List.mem_of_getElem? (i := 204) rfl) rfl
theorem k_160 : Cond.initialized "CellDecide$Root" ∈ zg_tbl := zt_1 (List.mem_of_getElem? (i := 15) rfl) rfl
theorem k_161 : Cond.methodLink "CellDecide$Root" 1 ⟨"java/lang/Object", "<init>", "()V"⟩ ∈ zg_tbl := zt_2 (List.mem_of_getElem? (i := 208) rfl) rfl
theorem k_162 : Cond.fieldLink "CellDecide$Root" 7 "CellDecide$Root" "limb" "[I" ∈ zg_tbl := zt_2 (List.mem_of_getElem? (i := 223) rfl) rfl
theorem k_163 : Cond.code ⟨"CellDecide$Root", "<init>", "()V"⟩ prog_7_method_1_code 1 (Option.none : Option Jvm.ClassFile.FieldType) ∈ zg_tbl := zt_2 (List.mem_of_getElem? (i := 207) rfl) rfl
theorem k_164 : Cond.instanceMethod ⟨"CellDecide$Root", "<init>", "()V"⟩ ∈ zg_tbl := zt_2 (List.mem_of_getElem? (i := 206) rfl) rfl
theorem k_165 : Cond.code ⟨"CellDecide$Line", "<init>", "(LCellDecide$Curves;LCellDecide$Spot;LCellDecide$Statement;)V"⟩ prog_3_method_1_code 5 (Option.none : Option Jvm.ClassFile.FieldType) ∈ zg_tbl := zt_2 (List.mem_of_getElem? (i := 200) rfl) rfl
theorem k_166 : Cond.methodLink "CellDecide" 68 ⟨"CellDecide$Line", "<init>", "(LCellDecide$Curves;LCellDecide$Spot;LCellDecide$Statement;)V"⟩ ∈ zg_tbl := zt_2 (List.mem_of_getElem? (i := 198) rfl) rfl
theorem k_167 : Cond.instanceMethod ⟨"CellDecide$Line", "<init>", "(LCellDecide$Curves;LCellDecide$Spot;LCellDecide$Statement;)V"⟩ ∈ zg_tbl := zt_2 (List.mem_of_getElem? (i := 199) rfl) rfl
theorem k_168 : Cond.fieldLink "CellDecide" 71 "CellDecide" "line" "LCellDecide$Line;" ∈ zg_tbl := zt_3 (List.mem_of_getElem? (i := 160) rfl) rfl
theorem k_169 : Cond.classLink "CellDecide" 75 "CellDecide$Roots" ∈ zg_tbl := zt_3 (List.mem_of_getElem? (i := 81) rfl) rfl
theorem k_170 : Cond.instantiable "CellDecide$Roots" 9 ∈ zg_tbl := zt_3 (List.mem_of_getElem? (i := 82) rfl) rfl
theorem k_171 : Cond.initialized "CellDecide$Roots" ∈ zg_tbl := zt_1 (List.mem_of_getElem? (i := 16) rfl) rfl
theorem k_172 : Cond.methodLink "CellDecide$Roots" 3 ⟨"java/lang/Object", "<init>", "()V"⟩ ∈ zg_tbl := zt_3 (List.mem_of_getElem? (i := 86) rfl) rfl
theorem k_173 : Cond.classLink "CellDecide$Roots" 9 "CellDecide$Polys" ∈ zg_tbl := zt_3 (List.mem_of_getElem? (i := 87) rfl) rfl
theorem k_174 : Cond.classLink "CellDecide$Roots" 11 "CellDecide$Numbers" ∈ zg_tbl := zt_3 (List.mem_of_getElem? (i := 88) rfl) rfl
theorem k_175 : Cond.methodLink "CellDecide$Roots" 13 ⟨"CellDecide$Numbers", "<init>", "(I)V"⟩ ∈ zg_tbl := zt_3 (List.mem_of_getElem? (i := 89) rfl) rfl
theorem k_176 : Cond.methodLink "CellDecide$Roots" 16 ⟨"CellDecide$Polys", "<init>", "(LCellDecide$Numbers;)V"⟩ ∈ zg_tbl := zt_3 (List.mem_of_getElem? (i := 90) rfl) rfl
theorem k_177 : Cond.fieldLink "CellDecide$Roots" 19 "CellDecide$Roots" "shelf" "LCellDecide$Polys;" ∈ zg_tbl := zt_3 (List.mem_of_getElem? (i := 120) rfl) rfl
theorem k_178 : Cond.classLink "CellDecide$Roots" 25 "java/util/ArrayList" ∈ zg_tbl := zt_3 (List.mem_of_getElem? (i := 91) rfl) rfl
theorem k_179 : Cond.instantiable "java/util/ArrayList" 3 ∈ zg_tbl := zt_3 (List.mem_of_getElem? (i := 92) rfl) rfl
theorem k_180 : Cond.initialized "java/util/ArrayList" ∈ zg_tbl := zt_1 (List.mem_of_getElem? (i := 19) rfl) rfl
theorem k_181 : Cond.methodLink "java/util/AbstractCollection" 1 ⟨"java/lang/Object", "<init>", "()V"⟩ ∈ zg_tbl := zt_3 (List.mem_of_getElem? (i := 102) rfl) rfl
theorem k_182 : Cond.code ⟨"java/util/AbstractCollection", "<init>", "()V"⟩ prog_30_method_1_code 1 (Option.none : Option Jvm.ClassFile.FieldType) ∈ zg_tbl := zt_3 (List.mem_of_getElem? (i := 101) rfl) rfl
theorem k_183 : Cond.initialized "java/util/AbstractCollection" ∈ zg_tbl := zt_1 (List.mem_of_getElem? (i := 17) rfl) rfl
theorem k_184 : Cond.methodLink "java/util/AbstractList" 1 ⟨"java/util/AbstractCollection", "<init>", "()V"⟩ ∈ zg_tbl := zt_3 (List.mem_of_getElem? (i := 99) rfl) rfl
theorem k_185 : Cond.instanceMethod ⟨"java/util/AbstractCollection", "<init>", "()V"⟩ ∈ zg_tbl := zt_3 (List.mem_of_getElem? (i := 100) rfl) rfl
theorem k_186 : Cond.fieldLink "java/util/AbstractList" 7 "java/util/AbstractList" "modCount" "I" ∈ zg_tbl := zt_3 (List.mem_of_getElem? (i := 107) rfl) rfl
theorem k_187 : Cond.code ⟨"java/util/AbstractList", "<init>", "()V"⟩ prog_31_method_1_code 1 (Option.none : Option Jvm.ClassFile.FieldType) ∈ zg_tbl := zt_3 (List.mem_of_getElem? (i := 98) rfl) rfl
theorem k_188 : Cond.initialized "java/util/AbstractList" ∈ zg_tbl := zt_1 (List.mem_of_getElem? (i := 18) rfl) rfl
theorem k_189 : Cond.methodLink "java/util/ArrayList" 1 ⟨"java/util/AbstractList", "<init>", "()V"⟩ ∈ zg_tbl := zt_3 (List.mem_of_getElem? (i := 96) rfl) rfl
theorem k_190 : Cond.instanceMethod ⟨"java/util/AbstractList", "<init>", "()V"⟩ ∈ zg_tbl := zt_3 (List.mem_of_getElem? (i := 97) rfl) rfl
theorem k_191 : Cond.fieldLink "java/util/ArrayList" 39 "java/util/ArrayList" "DEFAULTCAPACITY_EMPTY_ELEMENTDATA" "[Ljava/lang/Object;" ∈ zg_tbl := zt_3 (List.mem_of_getElem? (i := 103) rfl) rfl
theorem k_192 : Cond.fieldLink "java/util/ArrayList" 9 "java/util/ArrayList" "elementData" "[Ljava/lang/Object;" ∈ zg_tbl := zt_3 (List.mem_of_getElem? (i := 105) rfl) rfl
theorem k_193 : Cond.code ⟨"java/util/ArrayList", "<init>", "()V"⟩ prog_32_method_2_code 1 (Option.none : Option Jvm.ClassFile.FieldType) ∈ zg_tbl := zt_3 (List.mem_of_getElem? (i := 95) rfl) rfl
theorem k_194 : Cond.methodLink "CellDecide$Roots" 27 ⟨"java/util/ArrayList", "<init>", "()V"⟩ ∈ zg_tbl := zt_3 (List.mem_of_getElem? (i := 93) rfl) rfl
theorem k_195 : Cond.instanceMethod ⟨"java/util/ArrayList", "<init>", "()V"⟩ ∈ zg_tbl := zt_3 (List.mem_of_getElem? (i := 94) rfl) rfl
theorem k_196 : Cond.fieldLink "CellDecide$Roots" 28 "CellDecide$Roots" "list" "Ljava/util/ArrayList;" ∈ zg_tbl := zt_3 (List.mem_of_getElem? (i := 123) rfl) rfl
theorem k_197 : Cond.fieldLink "CellDecide$Roots" 32 "CellDecide$Roots" "known" "[I" ∈ zg_tbl := zt_3 (List.mem_of_getElem? (i := 126) rfl) rfl
theorem k_198 : Cond.fieldLink "CellDecide$Roots" 36 "CellDecide$Roots" "polys" "LCellDecide$Polys;" ∈ zg_tbl := zt_3 (List.mem_of_getElem? (i := 117) rfl) rfl
theorem k_199 : Cond.fieldLink "CellDecide$Roots" 39 "CellDecide$Roots" "splitter" "LCellDecide$Splitter;" ∈ zg_tbl := zt_3 (List.mem_of_getElem? (i := 119) rfl) rfl
theorem k_200 : Cond.fieldLink "CellDecide$Roots" 43 "CellDecide$Polys" "numbers" "LCellDecide$Numbers;" ∈ zg_tbl := zt_2 (List.mem_of_getElem? (i := 42) rfl) rfl
theorem k_201 : Cond.fieldLink "CellDecide$Roots" 47 "CellDecide$Roots" "numbers" "LCellDecide$Numbers;" ∈ zg_tbl := zt_3 (List.mem_of_getElem? (i := 118) rfl) rfl
theorem k_202 : Cond.code ⟨"CellDecide$Roots", "<init>", "(LCellDecide$Polys;LCellDecide$Splitter;)V"⟩ prog_8_method_1_code 3 (Option.none : Option Jvm.ClassFile.FieldType) ∈ zg_tbl := zt_3 (List.mem_of_getElem? (i := 85) rfl) rfl
theorem k_203 : Cond.methodLink "CellDecide" 77 ⟨"CellDecide$Roots", "<init>", "(LCellDecide$Polys;LCellDecide$Splitter;)V"⟩ ∈ zg_tbl := zt_3 (List.mem_of_getElem? (i := 83) rfl) rfl
theorem k_204 : Cond.instanceMethod ⟨"CellDecide$Roots", "<init>", "(LCellDecide$Polys;LCellDecide$Splitter;)V"⟩ ∈ zg_tbl := zt_3 (List.mem_of_getElem? (i := 84) rfl) rfl
theorem k_205 : Cond.fieldLink "CellDecide" 80 "CellDecide" "breaks" "LCellDecide$Roots;" ∈ zg_tbl := zt_3 (List.mem_of_getElem? (i := 161) rfl) rfl
theorem k_206 : Cond.fieldLink "CellDecide" 84 "CellDecide" "heights" "LCellDecide$Roots;" ∈ zg_tbl := zt_3 (List.mem_of_getElem? (i := 162) rfl) rfl
theorem k_207 : Cond.fieldLink "CellDecide" 87 "CellDecide" "ends" "LCellDecide$Roots;" ∈ zg_tbl := zt_3 (List.mem_of_getElem? (i := 163) rfl) rfl
theorem k_208 : Cond.fieldLink "CellDecide" 90 "CellDecide" "places" "LCellDecide$Roots;" ∈ zg_tbl := zt_3 (List.mem_of_getElem? (i := 164) rfl) rfl
theorem k_209 : Cond.fieldLink "CellDecide" 93 "CellDecide" "rows" "[I" ∈ zg_tbl := zt_3 (List.mem_of_getElem? (i := 165) rfl) rfl
theorem k_210 : Cond.fieldLink "CellDecide" 97 "CellDecide" "intervals" "I" ∈ zg_tbl := zt_3 (List.mem_of_getElem? (i := 166) rfl) rfl
theorem k_211 : Cond.fieldLink "CellDecide" 101 "CellDecide" "points" "I" ∈ zg_tbl := zt_3 (List.mem_of_getElem? (i := 167) rfl) rfl
theorem k_212 : Cond.classLink "CellDecide" 104 "java/lang/StringBuilder" ∈ zg_tbl := zt_3 (List.mem_of_getElem? (i := 149) rfl) rfl
theorem k_213 : Cond.methodLink "CellDecide" 106 ⟨"java/lang/StringBuilder", "<init>", "()V"⟩ ∈ zg_tbl := zt_3 (List.mem_of_getElem? (i := 150) rfl) rfl
theorem k_214 : Cond.fieldLink "CellDecide" 107 "CellDecide" "text" "Ljava/lang/StringBuilder;" ∈ zg_tbl := zt_3 (List.mem_of_getElem? (i := 168) rfl) rfl
theorem k_215 : Cond.methodLink "CellDecideModel" 1 ⟨"java/lang/Object", "<init>", "()V"⟩ ∈ zg_tbl := zt_9 (List.mem_of_getElem? (i := 115) rfl) rfl
theorem k_216 : Cond.constant "CellDecideModel" 7 5000000 ∈ zg_tbl := zt_9 (List.mem_of_getElem? (i := 116) rfl) rfl
theorem k_217 : Cond.fieldLink "CellDecideModel" 8 "CellDecideModel" "heap" "[I" ∈ zg_tbl := zt_9 (List.mem_of_getElem? (i := 119) rfl) rfl
theorem k_218 : Cond.fieldLink "CellDecideModel" 14 "CellDecideModel" "kept" "[I" ∈ zg_tbl := zt_9 (List.mem_of_getElem? (i := 123) rfl) rfl
theorem k_219 : Cond.fieldLink "CellDecideModel" 17 "CellDecideModel" "row" "[I" ∈ zg_tbl := zt_9 (List.mem_of_getElem? (i := 124) rfl) rfl
theorem k_220 : Cond.fieldLink "CellDecideModel" 20 "CellDecideModel" "chain" "[I" ∈ zg_tbl := zt_9 (List.mem_of_getElem? (i := 125) rfl) rfl
theorem k_221 : Cond.fieldLink "CellDecideModel" 23 "CellDecideModel" "small" "[I" ∈ zg_tbl := zt_9 (List.mem_of_getElem? (i := 129) rfl) rfl
theorem k_222 : Cond.fieldLink "CellDecideModel" 26 "CellDecideModel" "toPart" "[I" ∈ zg_tbl := zt_9 (List.mem_of_getElem? (i := 131) rfl) rfl
theorem k_223 : Cond.fieldLink "CellDecideModel" 29 "CellDecideModel" "turns" "[I" ∈ zg_tbl := zt_9 (List.mem_of_getElem? (i := 133) rfl) rfl
theorem k_224 : Cond.fieldLink "CellDecideModel" 32 "CellDecideModel" "parts1" "[I" ∈ zg_tbl := zt_9 (List.mem_of_getElem? (i := 136) rfl) rfl
theorem k_225 : Cond.constant "CellDecideModel" 35 262080 ∈ zg_tbl := zt_9 (List.mem_of_getElem? (i := 117) rfl) rfl
theorem k_226 : Cond.fieldLink "CellDecideModel" 36 "CellDecideModel" "store" "[I" ∈ zg_tbl := zt_9 (List.mem_of_getElem? (i := 139) rfl) rfl
theorem k_227 : Cond.fieldLink "CellDecideModel" 39 "CellDecideModel" "storeDegree" "[I" ∈ zg_tbl := zt_9 (List.mem_of_getElem? (i := 140) rfl) rfl
theorem k_228 : Cond.fieldLink "CellDecideModel" 42 "CellDecideModel" "rank" "[I" ∈ zg_tbl := zt_9 (List.mem_of_getElem? (i := 141) rfl) rfl
theorem k_229 : Cond.fieldLink "CellDecideModel" 45 "CellDecideModel" "both" "[I" ∈ zg_tbl := zt_9 (List.mem_of_getElem? (i := 142) rfl) rfl
theorem k_230 : Cond.fieldLink "CellDecideModel" 48 "CellDecideModel" "parts2" "[I" ∈ zg_tbl := zt_9 (List.mem_of_getElem? (i := 143) rfl) rfl
theorem k_231 : Cond.fieldLink "CellDecideModel" 51 "CellDecideModel" "table" "[I" ∈ zg_tbl := zt_9 (List.mem_of_getElem? (i := 144) rfl) rfl
theorem k_232 : Cond.fieldLink "CellDecideModel" 54 "CellDecideModel" "nears" "[I" ∈ zg_tbl := zt_9 (List.mem_of_getElem? (i := 148) rfl) rfl
theorem k_233 : Cond.fieldLink "CellDecideModel" 57 "CellDecideModel" "hasNear" "[Z" ∈ zg_tbl := zt_9 (List.mem_of_getElem? (i := 149) rfl) rfl
theorem k_234 : Cond.fieldLink "CellDecideModel" 61 "CellDecideModel" "curve" "[I" ∈ zg_tbl := zt_9 (List.mem_of_getElem? (i := 152) rfl) rfl
theorem k_235 : Cond.fieldLink "CellDecideModel" 64 "CellDecideModel" "once" "[I" ∈ zg_tbl := zt_9 (List.mem_of_getElem? (i := 153) rfl) rfl
theorem k_236 : Cond.fieldLink "CellDecideModel" 67 "CellDecideModel" "steps" "[I" ∈ zg_tbl := zt_9 (List.mem_of_getElem? (i := 154) rfl) rfl
theorem k_237 : Cond.fieldLink "CellDecideModel" 70 "CellDecideModel" "stepCount" "[I" ∈ zg_tbl := zt_9 (List.mem_of_getElem? (i := 155) rfl) rfl
theorem k_238 : Cond.fieldLink "CellDecideModel" 73 "CellDecideModel" "rootsOf" "[I" ∈ zg_tbl := zt_9 (List.mem_of_getElem? (i := 156) rfl) rfl
theorem k_239 : Cond.fieldLink "CellDecideModel" 76 "CellDecideModel" "nodeKind" "[I" ∈ zg_tbl := zt_9 (List.mem_of_getElem? (i := 157) rfl) rfl
theorem k_240 : Cond.fieldLink "CellDecideModel" 79 "CellDecideModel" "nodeA" "[I" ∈ zg_tbl := zt_9 (List.mem_of_getElem? (i := 158) rfl) rfl
theorem k_241 : Cond.fieldLink "CellDecideModel" 82 "CellDecideModel" "nodeB" "[I" ∈ zg_tbl := zt_9 (List.mem_of_getElem? (i := 159) rfl) rfl
theorem k_242 : Cond.fieldLink "CellDecideModel" 85 "CellDecideModel" "nodeFirst" "[I" ∈ zg_tbl := zt_9 (List.mem_of_getElem? (i := 160) rfl) rfl
theorem k_243 : Cond.fieldLink "CellDecideModel" 88 "CellDecideModel" "nodeWithin" "[I" ∈ zg_tbl := zt_9 (List.mem_of_getElem? (i := 161) rfl) rfl
theorem k_244 : Cond.fieldLink "CellDecideModel" 91 "CellDecideModel" "nodeIs" "[Z" ∈ zg_tbl := zt_9 (List.mem_of_getElem? (i := 162) rfl) rfl
theorem k_245 : Cond.fieldLink "CellDecideModel" 94 "CellDecideModel" "comparesBy" "[I" ∈ zg_tbl := zt_9 (List.mem_of_getElem? (i := 165) rfl) rfl
theorem k_246 : Cond.fieldLink "CellDecideModel" 97 "CellDecideModel" "coefficient" "[J" ∈ zg_tbl := zt_9 (List.mem_of_getElem? (i := 166) rfl) rfl
theorem k_247 : Cond.fieldLink "CellDecideModel" 101 "CellDecideModel" "bases" "[I" ∈ zg_tbl := zt_9 (List.mem_of_getElem? (i := 170) rfl) rfl
theorem k_248 : Cond.fieldLink "CellDecideModel" 104 "CellDecideModel" "roots" "[I" ∈ zg_tbl := zt_9 (List.mem_of_getElem? (i := 172) rfl) rfl
theorem k_249 : Cond.fieldLink "CellDecideModel" 107 "CellDecideModel" "toPut" "[I" ∈ zg_tbl := zt_9 (List.mem_of_getElem? (i := 174) rfl) rfl
theorem k_250 : Cond.fieldLink "CellDecideModel" 110 "CellDecideModel" "curveOf" "[I" ∈ zg_tbl := zt_9 (List.mem_of_getElem? (i := 177) rfl) rfl
theorem k_251 : Cond.fieldLink "CellDecideModel" 113 "CellDecideModel" "curveSign" "[I" ∈ zg_tbl := zt_9 (List.mem_of_getElem? (i := 178) rfl) rfl
theorem k_252 : Cond.fieldLink "CellDecideModel" 116 "CellDecideModel" "crossCurve" "[I" ∈ zg_tbl := zt_9 (List.mem_of_getElem? (i := 179) rfl) rfl
theorem k_253 : Cond.fieldLink "CellDecideModel" 119 "CellDecideModel" "crossRoot" "[I" ∈ zg_tbl := zt_9 (List.mem_of_getElem? (i := 180) rfl) rfl
theorem k_254 : Cond.fieldLink "CellDecideModel" 122 "CellDecideModel" "crossBits" "[I" ∈ zg_tbl := zt_9 (List.mem_of_getElem? (i := 181) rfl) rfl
theorem k_255 : Cond.fieldLink "CellDecideModel" 125 "CellDecideModel" "cells" "[Z" ∈ zg_tbl := zt_9 (List.mem_of_getElem? (i := 183) rfl) rfl
theorem k_256 : Cond.fieldLink "CellDecideModel" 128 "CellDecideModel" "tape" "[B" ∈ zg_tbl := zt_9 (List.mem_of_getElem? (i := 184) rfl) rfl
theorem k_257 : Cond.fieldLink "CellDecideModel" 132 "CellDecideModel" "text" "[B" ∈ zg_tbl := zt_9 (List.mem_of_getElem? (i := 186) rfl) rfl
theorem k_258 : Cond.fieldLink "CellDecideModel" 135 "CellDecideModel" "sums" "[J" ∈ zg_tbl := zt_9 (List.mem_of_getElem? (i := 198) rfl) rfl
theorem k_259 : Cond.fieldLink "CellDecideModel" 138 "CellDecideModel" "products" "[J" ∈ zg_tbl := zt_9 (List.mem_of_getElem? (i := 199) rfl) rfl
theorem k_260 : Cond.fieldLink "CellDecideModel" 141 "CellDecideModel" "hasProduct" "[Z" ∈ zg_tbl := zt_9 (List.mem_of_getElem? (i := 200) rfl) rfl
theorem k_261 : Cond.fieldLink "CellDecideModel" 144 "CellDecideModel" "signs" "[I" ∈ zg_tbl := zt_9 (List.mem_of_getElem? (i := 201) rfl) rfl
theorem k_262 : Cond.fieldLink "CellDecideModel" 147 "CellDecideModel" "hand" "[J" ∈ zg_tbl := zt_9 (List.mem_of_getElem? (i := 202) rfl) rfl
theorem k_263 : Cond.fieldLink "CellDecideModel" 150 "CellDecideModel" "help" "[J" ∈ zg_tbl := zt_9 (List.mem_of_getElem? (i := 203) rfl) rfl
theorem k_264 : Cond.fieldLink "CellDecideModel" 153 "CellDecideModel" "isBound" "[Z" ∈ zg_tbl := zt_9 (List.mem_of_getElem? (i := 205) rfl) rfl
theorem k_265 : Cond.fieldLink "CellDecideModel" 156 "CellDecideModel" "isFree" "[Z" ∈ zg_tbl := zt_9 (List.mem_of_getElem? (i := 206) rfl) rfl
theorem k_266 : Cond.fieldLink "CellDecideModel" 159 "CellDecideModel" "power" "[J" ∈ zg_tbl := zt_9 (List.mem_of_getElem? (i := 207) rfl) rfl
theorem k_267 : Cond.fieldLink "CellDecideModel" 162 "CellDecideModel" "openJoin" "[I" ∈ zg_tbl := zt_9 (List.mem_of_getElem? (i := 208) rfl) rfl
theorem k_268 : Cond.fieldLink "CellDecideModel" 165 "CellDecideModel" "openLeft" "[I" ∈ zg_tbl := zt_9 (List.mem_of_getElem? (i := 209) rfl) rfl
theorem k_269 : Cond.fieldLink "CellDecideModel" 168 "CellDecideModel" "openOr" "[I" ∈ zg_tbl := zt_9 (List.mem_of_getElem? (i := 210) rfl) rfl
theorem k_270 : Cond.fieldLink "CellDecideModel" 171 "CellDecideModel" "openAnd" "[I" ∈ zg_tbl := zt_9 (List.mem_of_getElem? (i := 211) rfl) rfl
theorem k_271 : Cond.fieldLink "CellDecideModel" 174 "CellDecideModel" "openNots" "[I" ∈ zg_tbl := zt_9 (List.mem_of_getElem? (i := 212) rfl) rfl
theorem k_272 : Cond.fieldLink "CellDecideModel" 177 "CellDecideModel" "openAhead" "[I" ∈ zg_tbl := zt_9 (List.mem_of_getElem? (i := 213) rfl) rfl
theorem k_273 : Cond.fieldLink "CellDecideModel" 180 "CellDecideModel" "aheadKind" "[I" ∈ zg_tbl := zt_9 (List.mem_of_getElem? (i := 215) rfl) rfl
theorem k_274 : Cond.fieldLink "CellDecideModel" 183 "CellDecideModel" "aheadVariable" "[I" ∈ zg_tbl := zt_9 (List.mem_of_getElem? (i := 216) rfl) rfl
theorem k_275 : Cond.fieldLink "CellDecideModel" 186 "CellDecideModel" "boundAt" "[I" ∈ zg_tbl := zt_9 (List.mem_of_getElem? (i := 218) rfl) rfl
theorem k_276 : Cond.fieldLink "CellDecideModel" 189 "CellDecideModel" "help2" "[J" ∈ zg_tbl := zt_9 (List.mem_of_getElem? (i := 222) rfl) rfl
theorem k_277 : Cond.fieldLink "CellDecideModel" 192 "CellDecideModel" "isFound" "[Z" ∈ zg_tbl := zt_9 (List.mem_of_getElem? (i := 223) rfl) rfl
theorem k_278 : Cond.fieldLink "CellDecideModel" 195 "CellDecideModel" "intervals" "I" ∈ zg_tbl := zt_9 (List.mem_of_getElem? (i := 224) rfl) rfl
theorem k_279 : Cond.fieldLink "CellDecideModel" 199 "CellDecideModel" "endHow" "[I" ∈ zg_tbl := zt_9 (List.mem_of_getElem? (i := 225) rfl) rfl
theorem k_280 : Cond.fieldLink "CellDecideModel" 202 "CellDecideModel" "endSlot" "[I" ∈ zg_tbl := zt_9 (List.mem_of_getElem? (i := 226) rfl) rfl
theorem k_281 : Cond.fieldLink "CellDecideModel" 205 "CellDecideModel" "points" "I" ∈ zg_tbl := zt_9 (List.mem_of_getElem? (i := 228) rfl) rfl
theorem k_282 : Cond.fieldLink "CellDecideModel" 208 "CellDecideModel" "meetCoefficient" "[J" ∈ zg_tbl := zt_9 (List.mem_of_getElem? (i := 229) rfl) rfl
theorem k_283 : Cond.fieldLink "CellDecideModel" 211 "CellDecideModel" "written" "[B" ∈ zg_tbl := zt_9 (List.mem_of_getElem? (i := 231) rfl) rfl
theorem k_284 : Cond.fieldLink "CellDecideModel" 214 "CellDecideModel" "figures" "[B" ∈ zg_tbl := zt_9 (List.mem_of_getElem? (i := 233) rfl) rfl
