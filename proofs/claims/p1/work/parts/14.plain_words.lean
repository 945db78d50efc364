def y_CD_fault : MethodName := ⟨"CellDecide", "fault", "()I"⟩
abbrev w_CD_fault : List Cond := Cond.code y_CD_fault prog_1_method_6_code 1 (Option.some Jvm.ClassFile.FieldType.int) :: zg_tbl
def y_CD_decide : MethodName := ⟨"CellDecide", "decide", "()I"⟩
abbrev w_CD_decide : List Cond := Cond.code y_CD_decide prog_1_method_7_code 2 (Option.some Jvm.ClassFile.FieldType.int) :: zg_tbl
def y_CD_holds_IIII : MethodName := ⟨"CellDecide", "holds", "(IIII)I"⟩
abbrev w_CD_holds_IIII : List Cond := Cond.code y_CD_holds_IIII prog_1_method_8_code 8 (Option.some Jvm.ClassFile.FieldType.int) :: zg_tbl
def y_CD_solve : MethodName := ⟨"CellDecide", "solve", "()I"⟩
abbrev w_CD_solve : List Cond := Cond.code y_CD_solve prog_1_method_11_code 6 (Option.some Jvm.ClassFile.FieldType.int) :: zg_tbl
def y_CD_interval_II : MethodName := ⟨"CellDecide", "interval", "(II)I"⟩
abbrev w_CD_interval_II : List Cond := Cond.code y_CD_interval_II prog_1_method_13_code 4 (Option.some Jvm.ClassFile.FieldType.int) :: zg_tbl
def y_CD_members : MethodName := ⟨"CellDecide", "members", "()I"⟩
abbrev w_CD_members : List Cond := Cond.code y_CD_members prog_1_method_14_code 2 (Option.some Jvm.ClassFile.FieldType.int) :: zg_tbl
def y_CD_point_II : MethodName := ⟨"CellDecide", "point", "(II)I"⟩
abbrev w_CD_point_II : List Cond := Cond.code y_CD_point_II prog_1_method_19_code 4 (Option.some Jvm.ClassFile.FieldType.int) :: zg_tbl
def y_CD_write_III : MethodName := ⟨"CellDecide", "write", "(III)I"⟩
abbrev w_CD_write_III : List Cond := Cond.code y_CD_write_III prog_1_method_20_code 5 (Option.some Jvm.ClassFile.FieldType.int) :: zg_tbl
def y_CD_writeLeast_II : MethodName := ⟨"CellDecide", "writeLeast", "(II)I"⟩
abbrev w_CD_writeLeast_II : List Cond := Cond.code y_CD_writeLeast_II prog_1_method_21_code 4 (Option.some Jvm.ClassFile.FieldType.int) :: zg_tbl
def y_CD_writePoint_III : MethodName := ⟨"CellDecide", "writePoint", "(III)I"⟩
abbrev w_CD_writePoint_III : List Cond := Cond.code y_CD_writePoint_III prog_1_method_22_code 5 (Option.some Jvm.ClassFile.FieldType.int) :: zg_tbl
def y_CD_writePointLeast_II : MethodName := ⟨"CellDecide", "writePointLeast", "(II)I"⟩
abbrev w_CD_writePointLeast_II : List Cond := Cond.code y_CD_writePointLeast_II prog_1_method_23_code 4 (Option.some Jvm.ClassFile.FieldType.int) :: zg_tbl
def y_Mod_fault : MethodName := ⟨"CellDecideModel", "fault", "()I"⟩
abbrev w_Mod_fault : List Cond := Cond.code y_Mod_fault prog_13_method_163_code 1 (Option.some Jvm.ClassFile.FieldType.int) :: zg_tbl
def y_Mod_decide : MethodName := ⟨"CellDecideModel", "decide", "()I"⟩
abbrev w_Mod_decide : List Cond := Cond.code y_Mod_decide prog_13_method_165_code 1 (Option.some Jvm.ClassFile.FieldType.int) :: zg_tbl
def y_Mod_holds_IIII : MethodName := ⟨"CellDecideModel", "holds", "(IIII)I"⟩
abbrev w_Mod_holds_IIII : List Cond := Cond.code y_Mod_holds_IIII prog_13_method_168_code 6 (Option.some Jvm.ClassFile.FieldType.int) :: zg_tbl
def y_Mod_solve : MethodName := ⟨"CellDecideModel", "solve", "()I"⟩
abbrev w_Mod_solve : List Cond := Cond.code y_Mod_solve prog_13_method_170_code 5 (Option.some Jvm.ClassFile.FieldType.int) :: zg_tbl
def y_Mod_interval_II : MethodName := ⟨"CellDecideModel", "interval", "(II)I"⟩
abbrev w_Mod_interval_II : List Cond := Cond.code y_Mod_interval_II prog_13_method_172_code 4 (Option.some Jvm.ClassFile.FieldType.int) :: zg_tbl
def y_Mod_members : MethodName := ⟨"CellDecideModel", "members", "()I"⟩
abbrev w_Mod_members : List Cond := Cond.code y_Mod_members prog_13_method_173_code 4 (Option.some Jvm.ClassFile.FieldType.int) :: zg_tbl
def y_Mod_point_II : MethodName := ⟨"CellDecideModel", "point", "(II)I"⟩
abbrev w_Mod_point_II : List Cond := Cond.code y_Mod_point_II prog_13_method_180_code 4 (Option.some Jvm.ClassFile.FieldType.int) :: zg_tbl
def y_Mod_write_III : MethodName := ⟨"CellDecideModel", "write", "(III)I"⟩
abbrev w_Mod_write_III : List Cond := Cond.code y_Mod_write_III prog_13_method_186_code 4 (Option.some Jvm.ClassFile.FieldType.int) :: zg_tbl
def y_Mod_writeLeast_II : MethodName := ⟨"CellDecideModel", "writeLeast", "(II)I"⟩
abbrev w_Mod_writeLeast_II : List Cond := Cond.code y_Mod_writeLeast_II prog_13_method_187_code 3 (Option.some Jvm.ClassFile.FieldType.int) :: zg_tbl
def y_Mod_writePoint_III : MethodName := ⟨"CellDecideModel", "writePoint", "(III)I"⟩
abbrev w_Mod_writePoint_III : List Cond := Cond.code y_Mod_writePoint_III prog_13_method_188_code 4 (Option.some Jvm.ClassFile.FieldType.int) :: zg_tbl
def y_Mod_writePointLeast_II : MethodName := ⟨"CellDecideModel", "writePointLeast", "(II)I"⟩
abbrev w_Mod_writePointLeast_II : List Cond := Cond.code y_Mod_writePointLeast_II prog_13_method_189_code 3 (Option.some Jvm.ClassFile.FieldType.int) :: zg_tbl
theorem k_285 : Cond.fieldLink "CellDecide" 135 "CellDecide" "fault" "I" ∈ zg_tbl := zt_3 (List.mem_of_getElem? (i := 153) rfl) rfl
theorem k_286 : Cond.fieldLink "CellDecide" 144 "CellDecide$Statement" "there" "Z" ∈ zg_tbl := zt_1 (List.mem_of_getElem? (i := 51) rfl) rfl
theorem k_287 : Cond.fieldLink "CellDecideModel" 217 "CellDecideModel" "thrown" "I" ∈ zg_tbl := zt_9 (List.mem_of_getElem? (i := 118) rfl) rfl
theorem k_288 : Cond.fieldLink "CellDecideModel" 860 "CellDecideModel" "toldFault" "I" ∈ zg_tbl := zt_9 (List.mem_of_getElem? (i := 196) rfl) rfl
theorem k_289 : Cond.fieldLink "CellDecideModel" 866 "CellDecideModel" "isStatement" "Z" ∈ zg_tbl := zt_9 (List.mem_of_getElem? (i := 168) rfl) rfl
