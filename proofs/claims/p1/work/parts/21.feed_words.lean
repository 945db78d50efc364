def y_CD_putBytes_I : MethodName := ⟨"CellDecide", "putBytes", "(I)V"⟩
abbrev w_CD_putBytes_I : List Cond := Cond.code y_CD_putBytes_I prog_1_method_3_code 3 (Option.none : Option Jvm.ClassFile.FieldType) :: zg_tbl
def y_CD_feed_IIIII : MethodName := ⟨"CellDecide", "feed", "(IIIII)I"⟩
abbrev w_CD_feed_IIIII : List Cond := Cond.code y_CD_feed_IIIII prog_1_method_2_code 6 (Option.some Jvm.ClassFile.FieldType.int) :: zg_tbl
def y_Mod_feed_IIIII : MethodName := ⟨"CellDecideModel", "feed", "(IIIII)I"⟩
abbrev w_Mod_feed_IIIII : List Cond := Cond.code y_Mod_feed_IIIII prog_13_method_191_code 8 (Option.some Jvm.ClassFile.FieldType.int) :: zg_tbl
theorem k_305 : Cond.fieldLink "CellDecide" 111 "CellDecide" "tapeLength" "I" ∈ zg_tbl := zt_3 (List.mem_of_getElem? (i := 152) rfl) rfl
theorem k_306 : Cond.code ⟨"CellDecide", "putBytes", "(I)V"⟩ prog_1_method_3_code 3 (Option.none : Option Jvm.ClassFile.FieldType) ∈ zg_tbl := zt_9 (List.mem_of_getElem? (i := 98) rfl) rfl
theorem k_307 : Cond.methodLink "CellDecide" 121 ⟨"CellDecide", "putBytes", "(I)V"⟩ ∈ zg_tbl := zt_9 (List.mem_of_getElem? (i := 95) rfl) rfl
theorem k_308 : Cond.instanceMethod ⟨"CellDecide", "putBytes", "(I)V"⟩ ∈ zg_tbl := zt_9 (List.mem_of_getElem? (i := 97) rfl) rfl
theorem k_309 : Cond.selects "CellDecide" ⟨"CellDecide", "putBytes", "(I)V"⟩ ⟨"CellDecide", "putBytes", "(I)V"⟩ ∈ zg_tbl := zs_6 (List.mem_of_getElem? (i := 2) rfl) rfl
theorem k_310 : Cond.initialized "CellDecide" ∈ zg_tbl := zt_1 (List.mem_of_getElem? (i := 1) rfl) rfl
theorem k_311 : Cond.fieldLink "CellDecideModel" 857 "CellDecideModel" "taped" "I" ∈ zg_tbl := zt_9 (List.mem_of_getElem? (i := 185) rfl) rfl
