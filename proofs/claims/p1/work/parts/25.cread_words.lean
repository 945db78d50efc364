section
variable {p : Program} {l : Launch} {e : Env} {R : Room} {s : State} {m : MethodId} {args : Array Value} {below : List Frame} {meth : Method} {c : Code} {H : Heap} {locs : List Loc} {cells slots : Nat} {Q : State → Prop}
variable {cc : ByteArray} {pc : Nat} {ls : Array Slot} {rest : List Value} {D : va_G} {cl : List vw_C} {A : Nat → Prop} {a : Nat} {tys : List (ClassId × FieldType)} {ws : va_W} {H0 : Heap}
theorem za_copyi (hexec : p.tables.exec = Jvm.exec) (hb : c.code = cc) (hml : c.maxLocals = ls.size) {own : String} {index : Nat} (hown : s.vm.findClass own = some m.cls) (hlink : (Cond.methodLink own index arraycopyName).before args s = true) (hnat : (Cond.native arraycopyName).before args s = true) (hstat : (Cond.static arraycopyName).before args s = true) (hini : (Cond.initialized "java/lang/System").before args s = true)
    (hK : va_K D cl tys s) (hP : va_P D cl ws H) (hD : va_D A ws) (hS : va_S A H0 H locs) (q0 q1 t0 t1 : Nat) {a0 : Nat} {c0 c1 : ClassId} {n0 n1 : Nat} {f g g2 : Nat → Int32} {ty : FieldType} (ha0 : ws[q0]? = some (a0, .inl (c0, n0, .inl f))) (ha1 : ws[q1]? = some (a, .inl (c1, n1, .inl g))) (ht0 : tys[t0]? = some (c0, ty)) (ht1 : tys[t1]? = some (c1, ty)) (hprim : refKind ty = false)
    {sp dp n : Int32} (h1 : ¬ sp < 0) (h2 : ¬ dp < 0) (h3 : ¬ n < 0) (h4 : sp.toNatClampNeg + n.toNatClampNeg ≤ n0) (h5 : dp.toNatClampNeg + n.toNatClampNeg ≤ n1) (hfit : ∀ i, i < n.toNatClampNeg → fits ty (.int (f (sp.toNatClampNeg + i))) = true)
    (hframes : 1 ≤ R.frames) (hlocals : (rest.map fun v => v.category).sum + (nativeFrameWords "java/lang/System" "arraycopy" 5 + 11) ≤ R.locals) (hg : va_cpy f g sp.toNatClampNeg dp.toNatClampNeg n.toNatClampNeg = g2) (hdg : decode cc pc = .ok (.invokestatic index, 3))
    (kk : ∀ (H1 : Heap) (locs1 : List Loc), va_P D cl (ws.set q1 (a, .inl (c1, n1, .inl g2))) H1 → va_D A (ws.set q1 (a, .inl (c1, n1, .inl g2))) → va_S A H0 H1 locs1 → W p l e R s m args below meth c H1 locs1 cells slots Q (F0 m (pc + 3) ls rest)) : W p l e R s m args below meth c H locs cells slots Q (F0 m pc ls (.int n :: .int dp :: .ref a :: .int sp :: .ref a0 :: rest)) := by
  subst hg
  exact va_copyi hexec hb hml hown hlink hnat hstat hini hK hP hD hS q0 q1 t0 t1 ha0 ha1 ht0 ht1 hprim h1 h2 h3 h4 h5 hfit hframes hlocals hdg kk
end
def y_C_Reader_findToken : MethodName := ⟨"CellDecide$Reader", "findToken", "()V"⟩
abbrev w_C_Reader_findToken : List Cond := Cond.code y_C_Reader_findToken prog_6_method_11_code 3 (Option.none : Option Jvm.ClassFile.FieldType) :: zg_tbl
def y_C_Reader_start_I : MethodName := ⟨"CellDecide$Reader", "start", "(I)V"⟩
abbrev w_C_Reader_start_I : List Cond := Cond.code y_C_Reader_start_I prog_6_method_4_code 2 (Option.none : Option Jvm.ClassFile.FieldType) :: zg_tbl
def y_C_Statement_clear : MethodName := ⟨"CellDecide$Statement", "clear", "()V"⟩
abbrev w_C_Statement_clear : List Cond := Cond.code y_C_Statement_clear prog_11_method_2_code 1 (Option.none : Option Jvm.ClassFile.FieldType) :: zg_tbl
def y_Arrays_fill_II : MethodName := ⟨"java/util/Arrays", "fill", "([II)V"⟩
abbrev w_Arrays_fill_II : List Cond := Cond.code y_Arrays_fill_II prog_33_method_103_code 4 (Option.none : Option Jvm.ClassFile.FieldType) :: zg_tbl
def y_C_Reader_fail_II : MethodName := ⟨"CellDecide$Reader", "fail", "(II)V"⟩
abbrev w_C_Reader_fail_II : List Cond := Cond.code y_C_Reader_fail_II prog_6_method_6_code 3 (Option.none : Option Jvm.ClassFile.FieldType) :: zg_tbl
def y_C_Reader_misplaced : MethodName := ⟨"CellDecide$Reader", "misplaced", "()V"⟩
abbrev w_C_Reader_misplaced : List Cond := Cond.code y_C_Reader_misplaced prog_6_method_7_code 1 (Option.none : Option Jvm.ClassFile.FieldType) :: zg_tbl
def y_C_Reader_atomRule_II : MethodName := ⟨"CellDecide$Reader", "atomRule", "(I[I)V"⟩
abbrev w_C_Reader_atomRule_II : List Cond := Cond.code y_C_Reader_atomRule_II prog_6_method_28_code 4 (Option.none : Option Jvm.ClassFile.FieldType) :: zg_tbl
def y_C_Reader_powerRule_I : MethodName := ⟨"CellDecide$Reader", "powerRule", "(I)V"⟩
abbrev w_C_Reader_powerRule_I : List Cond := Cond.code y_C_Reader_powerRule_I prog_6_method_27_code 5 (Option.none : Option Jvm.ClassFile.FieldType) :: zg_tbl
def y_C_Reader_copy_II : MethodName := ⟨"CellDecide$Reader", "copy", "([I[I)V"⟩
abbrev w_C_Reader_copy_II : List Cond := Cond.code y_C_Reader_copy_II prog_6_method_31_code 2 (Option.none : Option Jvm.ClassFile.FieldType) :: zg_tbl
def y_C_Reader_productRule_I : MethodName := ⟨"CellDecide$Reader", "productRule", "(I)V"⟩
abbrev w_C_Reader_productRule_I : List Cond := Cond.code y_C_Reader_productRule_I prog_6_method_26_code 5 (Option.none : Option Jvm.ClassFile.FieldType) :: zg_tbl
def y_C_Reader_addTo_III : MethodName := ⟨"CellDecide$Reader", "addTo", "([I[II)V"⟩
abbrev w_C_Reader_addTo_III : List Cond := Cond.code y_C_Reader_addTo_III prog_6_method_32_code 4 (Option.none : Option Jvm.ClassFile.FieldType) :: zg_tbl
def y_C_Reader_limit_II : MethodName := ⟨"CellDecide$Reader", "limit", "([II)V"⟩
abbrev w_C_Reader_limit_II : List Cond := Cond.code y_C_Reader_limit_II prog_6_method_33_code 4 (Option.none : Option Jvm.ClassFile.FieldType) :: zg_tbl
def y_C_Reader_sumRule_I : MethodName := ⟨"CellDecide$Reader", "sumRule", "(I)V"⟩
abbrev w_C_Reader_sumRule_I : List Cond := Cond.code y_C_Reader_sumRule_I prog_6_method_25_code 6 (Option.none : Option Jvm.ClassFile.FieldType) :: zg_tbl
def y_C_Reader_relationOf_I : MethodName := ⟨"CellDecide$Reader", "relationOf", "(I)I"⟩
abbrev w_C_Reader_relationOf_I : List Cond := Cond.code y_C_Reader_relationOf_I prog_6_method_24_code 1 (Option.some Jvm.ClassFile.FieldType.int) :: zg_tbl
def y_C_Reader_comparisonRule : MethodName := ⟨"CellDecide$Reader", "comparisonRule", "()V"⟩
abbrev w_C_Reader_comparisonRule : List Cond := Cond.code y_C_Reader_comparisonRule prog_6_method_23_code 5 (Option.none : Option Jvm.ClassFile.FieldType) :: zg_tbl
def y_C_Reader_oneRule : MethodName := ⟨"CellDecide$Reader", "oneRule", "()V"⟩
abbrev w_C_Reader_oneRule : List Cond := Cond.code y_C_Reader_oneRule prog_6_method_22_code 1 (Option.none : Option Jvm.ClassFile.FieldType) :: zg_tbl
def y_C_Reader_bothRule : MethodName := ⟨"CellDecide$Reader", "bothRule", "()V"⟩
abbrev w_C_Reader_bothRule : List Cond := Cond.code y_C_Reader_bothRule prog_6_method_21_code 2 (Option.none : Option Jvm.ClassFile.FieldType) :: zg_tbl
def y_C_Reader_sideRule : MethodName := ⟨"CellDecide$Reader", "sideRule", "()V"⟩
abbrev w_C_Reader_sideRule : List Cond := Cond.code y_C_Reader_sideRule prog_6_method_20_code 2 (Option.none : Option Jvm.ClassFile.FieldType) :: zg_tbl
def y_C_Reader_statementRule : MethodName := ⟨"CellDecide$Reader", "statementRule", "()V"⟩
abbrev w_C_Reader_statementRule : List Cond := Cond.code y_C_Reader_statementRule prog_6_method_18_code 2 (Option.none : Option Jvm.ClassFile.FieldType) :: zg_tbl
def y_C_Reader_takeStatement_I : MethodName := ⟨"CellDecide$Reader", "takeStatement", "(I)V"⟩
abbrev w_C_Reader_takeStatement_I : List Cond := Cond.code y_C_Reader_takeStatement_I prog_6_method_2_code 2 (Option.none : Option Jvm.ClassFile.FieldType) :: zg_tbl
def y_CD_read : MethodName := ⟨"CellDecide", "read", "()I"⟩
abbrev w_CD_read : List Cond := Cond.code y_CD_read prog_1_method_5_code 1 (Option.some Jvm.ClassFile.FieldType.int) :: zg_tbl
def y_C_Reader_accept : MethodName := ⟨"CellDecide$Reader", "accept", "()V"⟩
abbrev w_C_Reader_accept : List Cond := Cond.code y_C_Reader_accept prog_6_method_8_code 1 (Option.none : Option Jvm.ClassFile.FieldType) :: zg_tbl
def y_C_Reader_takeCurves_I : MethodName := ⟨"CellDecide$Reader", "takeCurves", "(I)V"⟩
abbrev w_C_Reader_takeCurves_I : List Cond := Cond.code y_C_Reader_takeCurves_I prog_6_method_3_code 2 (Option.none : Option Jvm.ClassFile.FieldType) :: zg_tbl
def y_CD_meet : MethodName := ⟨"CellDecide", "meet", "()I"⟩
abbrev w_CD_meet : List Cond := Cond.code y_CD_meet prog_1_method_15_code 6 (Option.some Jvm.ClassFile.FieldType.int) :: zg_tbl
theorem k_312 : Cond.fieldLink "CellDecide$Reader" 95 "CellDecide$Reader" "length" "I" ∈ zg_tbl := zt_1 (List.mem_of_getElem? (i := 146) rfl) rfl
theorem k_313 : Cond.fieldLink "CellDecide$Reader" 98 "CellDecide$Reader" "next" "I" ∈ zg_tbl := zt_1 (List.mem_of_getElem? (i := 147) rfl) rfl
theorem k_314 : Cond.fieldLink "CellDecide$Reader" 101 "CellDecide$Reader" "tokens" "I" ∈ zg_tbl := zt_1 (List.mem_of_getElem? (i := 151) rfl) rfl
theorem k_315 : Cond.fieldLink "CellDecide$Reader" 58 "CellDecide$Reader" "kind" "I" ∈ zg_tbl := zt_1 (List.mem_of_getElem? (i := 152) rfl) rfl
theorem k_316 : Cond.fieldLink "CellDecide$Reader" 104 "CellDecide$Reader" "faultPlace" "I" ∈ zg_tbl := zt_1 (List.mem_of_getElem? (i := 154) rfl) rfl
theorem k_317 : Cond.fieldLink "CellDecide$Reader" 107 "CellDecide$Reader" "open" "I" ∈ zg_tbl := zt_1 (List.mem_of_getElem? (i := 156) rfl) rfl
theorem k_318 : Cond.fieldLink "CellDecide$Reader" 86 "CellDecide$Reader" "great" "Z" ∈ zg_tbl := zt_1 (List.mem_of_getElem? (i := 157) rfl) rfl
theorem k_319 : Cond.fieldLink "CellDecide$Reader" 64 "CellDecide$Reader" "greatPlace" "I" ∈ zg_tbl := zt_1 (List.mem_of_getElem? (i := 158) rfl) rfl
theorem k_320 : Cond.fieldLink "CellDecide$Reader" 110 "CellDecide$Reader" "holder" "I" ∈ zg_tbl := zt_1 (List.mem_of_getElem? (i := 159) rfl) rfl
theorem k_321 : Cond.fieldLink "CellDecide$Reader" 54 "CellDecide$Reader" "free" "I" ∈ zg_tbl := zt_1 (List.mem_of_getElem? (i := 160) rfl) rfl
theorem k_322 : Cond.fieldLink "CellDecide$Reader" 89 "CellDecide$Reader" "place" "I" ∈ zg_tbl := zt_1 (List.mem_of_getElem? (i := 149) rfl) rfl
theorem k_323 : Cond.fieldLink "CellDecide$Reader" 47 "CellDecide$Reader" "token" "I" ∈ zg_tbl := zt_1 (List.mem_of_getElem? (i := 148) rfl) rfl
theorem k_324 : Cond.code ⟨"CellDecide$Reader", "findToken", "()V"⟩ prog_6_method_11_code 3 (Option.none : Option Jvm.ClassFile.FieldType) ∈ zg_tbl := zt_3 (List.mem_of_getElem? (i := 221) rfl) rfl
theorem k_325 : Cond.methodLink "CellDecide$Reader" 113 ⟨"CellDecide$Reader", "findToken", "()V"⟩ ∈ zg_tbl := zt_3 (List.mem_of_getElem? (i := 218) rfl) rfl
theorem k_326 : Cond.instanceMethod ⟨"CellDecide$Reader", "findToken", "()V"⟩ ∈ zg_tbl := zt_3 (List.mem_of_getElem? (i := 220) rfl) rfl
theorem k_327 : Cond.selects "CellDecide$Reader" ⟨"CellDecide$Reader", "findToken", "()V"⟩ ⟨"CellDecide$Reader", "findToken", "()V"⟩ ∈ zg_tbl := zs_1 (List.mem_of_getElem? (i := 1) rfl) rfl
theorem k_328 : Cond.code ⟨"CellDecide$Reader", "start", "(I)V"⟩ prog_6_method_4_code 2 (Option.none : Option Jvm.ClassFile.FieldType) ∈ zg_tbl := zt_3 (List.mem_of_getElem? (i := 217) rfl) rfl
theorem k_329 : Cond.methodLink "CellDecide$Reader" 35 ⟨"CellDecide$Reader", "start", "(I)V"⟩ ∈ zg_tbl := zt_3 (List.mem_of_getElem? (i := 214) rfl) rfl
theorem k_330 : Cond.instanceMethod ⟨"CellDecide$Reader", "start", "(I)V"⟩ ∈ zg_tbl := zt_3 (List.mem_of_getElem? (i := 216) rfl) rfl
theorem k_331 : Cond.selects "CellDecide$Reader" ⟨"CellDecide$Reader", "start", "(I)V"⟩ ⟨"CellDecide$Reader", "start", "(I)V"⟩ ∈ zg_tbl := zs_1 (List.mem_of_getElem? (i := 0) rfl) rfl
theorem k_332 : Cond.fieldLink "CellDecide$Statement" 60 "CellDecide$Statement" "there" "Z" ∈ zg_tbl := zt_1 (List.mem_of_getElem? (i := 49) rfl) rfl
theorem k_333 : Cond.fieldLink "CellDecide$Statement" 64 "CellDecide$Statement" "free" "I" ∈ zg_tbl := zt_1 (List.mem_of_getElem? (i := 52) rfl) rfl
theorem k_334 : Cond.fieldLink "CellDecide$Statement" 67 "CellDecide$Statement" "length" "I" ∈ zg_tbl := zt_1 (List.mem_of_getElem? (i := 57) rfl) rfl
theorem k_335 : Cond.fieldLink "CellDecide$Statement" 70 "CellDecide$Statement" "comparisons" "I" ∈ zg_tbl := zt_1 (List.mem_of_getElem? (i := 60) rfl) rfl
theorem k_336 : Cond.fieldLink "CellDecide$Statement" 73 "CellDecide$Statement" "quantifiers" "I" ∈ zg_tbl := zt_1 (List.mem_of_getElem? (i := 77) rfl) rfl
theorem k_337 : Cond.code ⟨"CellDecide$Statement", "clear", "()V"⟩ prog_11_method_2_code 1 (Option.none : Option Jvm.ClassFile.FieldType) ∈ zg_tbl := zt_4 (List.mem_of_getElem? (i := 10) rfl) rfl
theorem k_338 : Cond.methodLink "CellDecide$Reader" 39 ⟨"CellDecide$Statement", "clear", "()V"⟩ ∈ zg_tbl := zt_4 (List.mem_of_getElem? (i := 7) rfl) rfl
theorem k_339 : Cond.instanceMethod ⟨"CellDecide$Statement", "clear", "()V"⟩ ∈ zg_tbl := zt_4 (List.mem_of_getElem? (i := 8) rfl) rfl
theorem k_340 : Cond.selects "CellDecide$Statement" ⟨"CellDecide$Statement", "clear", "()V"⟩ ⟨"CellDecide$Statement", "clear", "()V"⟩ ∈ zg_tbl := zt_4 (List.mem_of_getElem? (i := 9) rfl) rfl
theorem k_341 : Cond.code ⟨"java/util/Arrays", "fill", "([II)V"⟩ prog_33_method_103_code 4 (Option.none : Option Jvm.ClassFile.FieldType) ∈ zg_tbl := zt_4 (List.mem_of_getElem? (i := 70) rfl) rfl
theorem k_342 : Cond.methodLink "CellDecide$Reader" 198 ⟨"java/util/Arrays", "fill", "([II)V"⟩ ∈ zg_tbl := zt_4 (List.mem_of_getElem? (i := 68) rfl) rfl
theorem k_343 : Cond.static ⟨"java/util/Arrays", "fill", "([II)V"⟩ ∈ zg_tbl := zt_4 (List.mem_of_getElem? (i := 69) rfl) rfl
theorem k_344 : Cond.initialized "java/util/Arrays" ∈ zg_tbl := zt_1 (List.mem_of_getElem? (i := 26) rfl) rfl
theorem k_345 : Cond.code ⟨"CellDecide$Reader", "fail", "(II)V"⟩ prog_6_method_6_code 3 (Option.none : Option Jvm.ClassFile.FieldType) ∈ zg_tbl := zt_4 (List.mem_of_getElem? (i := 6) rfl) rfl
theorem k_346 : Cond.methodLink "CellDecide$Reader" 67 ⟨"CellDecide$Reader", "fail", "(II)V"⟩ ∈ zg_tbl := zt_4 (List.mem_of_getElem? (i := 3) rfl) rfl
theorem k_347 : Cond.instanceMethod ⟨"CellDecide$Reader", "fail", "(II)V"⟩ ∈ zg_tbl := zt_4 (List.mem_of_getElem? (i := 5) rfl) rfl
theorem k_348 : Cond.selects "CellDecide$Reader" ⟨"CellDecide$Reader", "fail", "(II)V"⟩ ⟨"CellDecide$Reader", "fail", "(II)V"⟩ ∈ zg_tbl := zs_1 (List.mem_of_getElem? (i := 5) rfl) rfl
theorem k_349 : Cond.code ⟨"CellDecide$Reader", "misplaced", "()V"⟩ prog_6_method_7_code 1 (Option.none : Option Jvm.ClassFile.FieldType) ∈ zg_tbl := zt_4 (List.mem_of_getElem? (i := 30) rfl) rfl
theorem k_350 : Cond.methodLink "CellDecide$Reader" 51 ⟨"CellDecide$Reader", "misplaced", "()V"⟩ ∈ zg_tbl := zt_4 (List.mem_of_getElem? (i := 27) rfl) rfl
theorem k_351 : Cond.instanceMethod ⟨"CellDecide$Reader", "misplaced", "()V"⟩ ∈ zg_tbl := zt_4 (List.mem_of_getElem? (i := 29) rfl) rfl
theorem k_352 : Cond.selects "CellDecide$Reader" ⟨"CellDecide$Reader", "misplaced", "()V"⟩ ⟨"CellDecide$Reader", "misplaced", "()V"⟩ ∈ zg_tbl := zs_1 (List.mem_of_getElem? (i := 10) rfl) rfl
theorem k_353 : Cond.code ⟨"CellDecide$Reader", "atomRule", "(I[I)V"⟩ prog_6_method_28_code 4 (Option.none : Option Jvm.ClassFile.FieldType) ∈ zg_tbl := zt_4 (List.mem_of_getElem? (i := 82) rfl) rfl
theorem k_354 : Cond.methodLink "CellDecide$Reader" 213 ⟨"CellDecide$Reader", "atomRule", "(I[I)V"⟩ ∈ zg_tbl := zt_4 (List.mem_of_getElem? (i := 79) rfl) rfl
theorem k_355 : Cond.instanceMethod ⟨"CellDecide$Reader", "atomRule", "(I[I)V"⟩ ∈ zg_tbl := zt_4 (List.mem_of_getElem? (i := 81) rfl) rfl
theorem k_356 : Cond.selects "CellDecide$Reader" ⟨"CellDecide$Reader", "atomRule", "(I[I)V"⟩ ⟨"CellDecide$Reader", "atomRule", "(I[I)V"⟩ ∈ zg_tbl := zs_2 (List.mem_of_getElem? (i := 3) rfl) rfl
theorem k_357 : Cond.code ⟨"CellDecide$Reader", "powerRule", "(I)V"⟩ prog_6_method_27_code 5 (Option.none : Option Jvm.ClassFile.FieldType) ∈ zg_tbl := zt_4 (List.mem_of_getElem? (i := 78) rfl) rfl
theorem k_358 : Cond.methodLink "CellDecide$Reader" 207 ⟨"CellDecide$Reader", "powerRule", "(I)V"⟩ ∈ zg_tbl := zt_4 (List.mem_of_getElem? (i := 75) rfl) rfl
theorem k_359 : Cond.instanceMethod ⟨"CellDecide$Reader", "powerRule", "(I)V"⟩ ∈ zg_tbl := zt_4 (List.mem_of_getElem? (i := 77) rfl) rfl
theorem k_360 : Cond.selects "CellDecide$Reader" ⟨"CellDecide$Reader", "powerRule", "(I)V"⟩ ⟨"CellDecide$Reader", "powerRule", "(I)V"⟩ ∈ zg_tbl := zs_2 (List.mem_of_getElem? (i := 2) rfl) rfl
theorem k_361 : Cond.methodLink "CellDecide$Reader" 229 ⟨"java/lang/System", "arraycopy", "(Ljava/lang/Object;ILjava/lang/Object;II)V"⟩ ∈ zg_tbl := zt_4 (List.mem_of_getElem? (i := 89) rfl) rfl
theorem k_362 : Cond.native ⟨"java/lang/System", "arraycopy", "(Ljava/lang/Object;ILjava/lang/Object;II)V"⟩ ∈ zg_tbl := zt_4 (List.mem_of_getElem? (i := 91) rfl) rfl
theorem k_363 : Cond.static ⟨"java/lang/System", "arraycopy", "(Ljava/lang/Object;ILjava/lang/Object;II)V"⟩ ∈ zg_tbl := zt_4 (List.mem_of_getElem? (i := 90) rfl) rfl
theorem k_364 : Cond.initialized "java/lang/System" ∈ zg_tbl := zt_1 (List.mem_of_getElem? (i := 27) rfl) rfl
theorem k_365 : Cond.code ⟨"CellDecide$Reader", "copy", "([I[I)V"⟩ prog_6_method_31_code 2 (Option.none : Option Jvm.ClassFile.FieldType) ∈ zg_tbl := zt_4 (List.mem_of_getElem? (i := 88) rfl) rfl
theorem k_366 : Cond.methodLink "CellDecide$Reader" 82 ⟨"CellDecide$Reader", "copy", "([I[I)V"⟩ ∈ zg_tbl := zt_4 (List.mem_of_getElem? (i := 86) rfl) rfl
theorem k_367 : Cond.static ⟨"CellDecide$Reader", "copy", "([I[I)V"⟩ ∈ zg_tbl := zt_4 (List.mem_of_getElem? (i := 87) rfl) rfl
theorem k_368 : Cond.code ⟨"CellDecide$Reader", "productRule", "(I)V"⟩ prog_6_method_26_code 5 (Option.none : Option Jvm.ClassFile.FieldType) ∈ zg_tbl := zt_4 (List.mem_of_getElem? (i := 74) rfl) rfl
theorem k_369 : Cond.methodLink "CellDecide$Reader" 203 ⟨"CellDecide$Reader", "productRule", "(I)V"⟩ ∈ zg_tbl := zt_4 (List.mem_of_getElem? (i := 71) rfl) rfl
theorem k_370 : Cond.instanceMethod ⟨"CellDecide$Reader", "productRule", "(I)V"⟩ ∈ zg_tbl := zt_4 (List.mem_of_getElem? (i := 73) rfl) rfl
theorem k_371 : Cond.selects "CellDecide$Reader" ⟨"CellDecide$Reader", "productRule", "(I)V"⟩ ⟨"CellDecide$Reader", "productRule", "(I)V"⟩ ∈ zg_tbl := zs_2 (List.mem_of_getElem? (i := 1) rfl) rfl
theorem k_372 : Cond.code ⟨"CellDecide$Reader", "addTo", "([I[II)V"⟩ prog_6_method_32_code 4 (Option.none : Option Jvm.ClassFile.FieldType) ∈ zg_tbl := zt_4 (List.mem_of_getElem? (i := 110) rfl) rfl
theorem k_373 : Cond.methodLink "CellDecide$Reader" 194 ⟨"CellDecide$Reader", "addTo", "([I[II)V"⟩ ∈ zg_tbl := zt_4 (List.mem_of_getElem? (i := 108) rfl) rfl
theorem k_374 : Cond.static ⟨"CellDecide$Reader", "addTo", "([I[II)V"⟩ ∈ zg_tbl := zt_4 (List.mem_of_getElem? (i := 109) rfl) rfl
theorem k_375 : Cond.constant "CellDecide$Reader" 206 1000000 ∈ zg_tbl := zt_4 (List.mem_of_getElem? (i := 111) rfl) rfl
theorem k_376 : Cond.code ⟨"CellDecide$Reader", "limit", "([II)V"⟩ prog_6_method_33_code 4 (Option.none : Option Jvm.ClassFile.FieldType) ∈ zg_tbl := zt_4 (List.mem_of_getElem? (i := 115) rfl) rfl
theorem k_377 : Cond.methodLink "CellDecide$Reader" 78 ⟨"CellDecide$Reader", "limit", "([II)V"⟩ ∈ zg_tbl := zt_4 (List.mem_of_getElem? (i := 112) rfl) rfl
theorem k_378 : Cond.instanceMethod ⟨"CellDecide$Reader", "limit", "([II)V"⟩ ∈ zg_tbl := zt_4 (List.mem_of_getElem? (i := 114) rfl) rfl
theorem k_379 : Cond.selects "CellDecide$Reader" ⟨"CellDecide$Reader", "limit", "([II)V"⟩ ⟨"CellDecide$Reader", "limit", "([II)V"⟩ ∈ zg_tbl := zs_2 (List.mem_of_getElem? (i := 5) rfl) rfl
theorem k_380 : Cond.code ⟨"CellDecide$Reader", "sumRule", "(I)V"⟩ prog_6_method_25_code 6 (Option.none : Option Jvm.ClassFile.FieldType) ∈ zg_tbl := zt_4 (List.mem_of_getElem? (i := 67) rfl) rfl
theorem k_381 : Cond.methodLink "CellDecide$Reader" 75 ⟨"CellDecide$Reader", "sumRule", "(I)V"⟩ ∈ zg_tbl := zt_4 (List.mem_of_getElem? (i := 64) rfl) rfl
theorem k_382 : Cond.instanceMethod ⟨"CellDecide$Reader", "sumRule", "(I)V"⟩ ∈ zg_tbl := zt_4 (List.mem_of_getElem? (i := 66) rfl) rfl
theorem k_383 : Cond.selects "CellDecide$Reader" ⟨"CellDecide$Reader", "sumRule", "(I)V"⟩ ⟨"CellDecide$Reader", "sumRule", "(I)V"⟩ ∈ zg_tbl := zs_2 (List.mem_of_getElem? (i := 0) rfl) rfl
theorem k_384 : Cond.code ⟨"CellDecide$Reader", "relationOf", "(I)I"⟩ prog_6_method_24_code 1 (Option.some Jvm.ClassFile.FieldType.int) ∈ zg_tbl := zt_4 (List.mem_of_getElem? (i := 118) rfl) rfl
theorem k_385 : Cond.methodLink "CellDecide$Reader" 180 ⟨"CellDecide$Reader", "relationOf", "(I)I"⟩ ∈ zg_tbl := zt_4 (List.mem_of_getElem? (i := 116) rfl) rfl
theorem k_386 : Cond.static ⟨"CellDecide$Reader", "relationOf", "(I)I"⟩ ∈ zg_tbl := zt_4 (List.mem_of_getElem? (i := 117) rfl) rfl
theorem k_387 : Cond.code ⟨"CellDecide$Reader", "comparisonRule", "()V"⟩ prog_6_method_23_code 5 (Option.none : Option Jvm.ClassFile.FieldType) ∈ zg_tbl := zt_4 (List.mem_of_getElem? (i := 63) rfl) rfl
theorem k_388 : Cond.methodLink "CellDecide$Reader" 177 ⟨"CellDecide$Reader", "comparisonRule", "()V"⟩ ∈ zg_tbl := zt_4 (List.mem_of_getElem? (i := 60) rfl) rfl
theorem k_389 : Cond.instanceMethod ⟨"CellDecide$Reader", "comparisonRule", "()V"⟩ ∈ zg_tbl := zt_4 (List.mem_of_getElem? (i := 62) rfl) rfl
theorem k_390 : Cond.selects "CellDecide$Reader" ⟨"CellDecide$Reader", "comparisonRule", "()V"⟩ ⟨"CellDecide$Reader", "comparisonRule", "()V"⟩ ∈ zg_tbl := zs_1 (List.mem_of_getElem? (i := 15) rfl) rfl
theorem k_391 : Cond.code ⟨"CellDecide$Reader", "oneRule", "()V"⟩ prog_6_method_22_code 1 (Option.none : Option Jvm.ClassFile.FieldType) ∈ zg_tbl := zt_4 (List.mem_of_getElem? (i := 54) rfl) rfl
theorem k_392 : Cond.methodLink "CellDecide$Reader" 171 ⟨"CellDecide$Reader", "oneRule", "()V"⟩ ∈ zg_tbl := zt_4 (List.mem_of_getElem? (i := 51) rfl) rfl
theorem k_393 : Cond.instanceMethod ⟨"CellDecide$Reader", "oneRule", "()V"⟩ ∈ zg_tbl := zt_4 (List.mem_of_getElem? (i := 53) rfl) rfl
theorem k_394 : Cond.selects "CellDecide$Reader" ⟨"CellDecide$Reader", "oneRule", "()V"⟩ ⟨"CellDecide$Reader", "oneRule", "()V"⟩ ∈ zg_tbl := zs_1 (List.mem_of_getElem? (i := 13) rfl) rfl
theorem k_395 : Cond.code ⟨"CellDecide$Reader", "bothRule", "()V"⟩ prog_6_method_21_code 2 (Option.none : Option Jvm.ClassFile.FieldType) ∈ zg_tbl := zt_4 (List.mem_of_getElem? (i := 50) rfl) rfl
theorem k_396 : Cond.methodLink "CellDecide$Reader" 168 ⟨"CellDecide$Reader", "bothRule", "()V"⟩ ∈ zg_tbl := zt_4 (List.mem_of_getElem? (i := 47) rfl) rfl
theorem k_397 : Cond.instanceMethod ⟨"CellDecide$Reader", "bothRule", "()V"⟩ ∈ zg_tbl := zt_4 (List.mem_of_getElem? (i := 49) rfl) rfl
theorem k_398 : Cond.selects "CellDecide$Reader" ⟨"CellDecide$Reader", "bothRule", "()V"⟩ ⟨"CellDecide$Reader", "bothRule", "()V"⟩ ∈ zg_tbl := zs_1 (List.mem_of_getElem? (i := 12) rfl) rfl
theorem k_399 : Cond.code ⟨"CellDecide$Reader", "sideRule", "()V"⟩ prog_6_method_20_code 2 (Option.none : Option Jvm.ClassFile.FieldType) ∈ zg_tbl := zt_4 (List.mem_of_getElem? (i := 46) rfl) rfl
theorem k_400 : Cond.methodLink "CellDecide$Reader" 152 ⟨"CellDecide$Reader", "sideRule", "()V"⟩ ∈ zg_tbl := zt_4 (List.mem_of_getElem? (i := 43) rfl) rfl
theorem k_401 : Cond.instanceMethod ⟨"CellDecide$Reader", "sideRule", "()V"⟩ ∈ zg_tbl := zt_4 (List.mem_of_getElem? (i := 45) rfl) rfl
theorem k_402 : Cond.selects "CellDecide$Reader" ⟨"CellDecide$Reader", "sideRule", "()V"⟩ ⟨"CellDecide$Reader", "sideRule", "()V"⟩ ∈ zg_tbl := zs_1 (List.mem_of_getElem? (i := 11) rfl) rfl
theorem k_403 : Cond.code ⟨"CellDecide$Reader", "statementRule", "()V"⟩ prog_6_method_18_code 2 (Option.none : Option Jvm.ClassFile.FieldType) ∈ zg_tbl := zt_4 (List.mem_of_getElem? (i := 14) rfl) rfl
theorem k_404 : Cond.methodLink "CellDecide$Reader" 44 ⟨"CellDecide$Reader", "statementRule", "()V"⟩ ∈ zg_tbl := zt_4 (List.mem_of_getElem? (i := 11) rfl) rfl
theorem k_405 : Cond.instanceMethod ⟨"CellDecide$Reader", "statementRule", "()V"⟩ ∈ zg_tbl := zt_4 (List.mem_of_getElem? (i := 13) rfl) rfl
theorem k_406 : Cond.selects "CellDecide$Reader" ⟨"CellDecide$Reader", "statementRule", "()V"⟩ ⟨"CellDecide$Reader", "statementRule", "()V"⟩ ∈ zg_tbl := zs_1 (List.mem_of_getElem? (i := 6) rfl) rfl
theorem k_407 : Cond.fieldLink "CellDecide$Reader" 57 "CellDecide$Statement" "free" "I" ∈ zg_tbl := zt_1 (List.mem_of_getElem? (i := 53) rfl) rfl
theorem k_408 : Cond.fieldLink "CellDecide$Reader" 71 "CellDecide$Statement" "there" "Z" ∈ zg_tbl := zt_1 (List.mem_of_getElem? (i := 50) rfl) rfl
theorem k_409 : Cond.code ⟨"CellDecide$Reader", "takeStatement", "(I)V"⟩ prog_6_method_2_code 2 (Option.none : Option Jvm.ClassFile.FieldType) ∈ zg_tbl := zt_3 (List.mem_of_getElem? (i := 213) rfl) rfl
theorem k_410 : Cond.methodLink "CellDecide" 129 ⟨"CellDecide$Reader", "takeStatement", "(I)V"⟩ ∈ zg_tbl := zt_3 (List.mem_of_getElem? (i := 210) rfl) rfl
theorem k_411 : Cond.instanceMethod ⟨"CellDecide$Reader", "takeStatement", "(I)V"⟩ ∈ zg_tbl := zt_3 (List.mem_of_getElem? (i := 211) rfl) rfl
theorem k_412 : Cond.selects "CellDecide$Reader" ⟨"CellDecide$Reader", "takeStatement", "(I)V"⟩ ⟨"CellDecide$Reader", "takeStatement", "(I)V"⟩ ∈ zg_tbl := zt_3 (List.mem_of_getElem? (i := 212) rfl) rfl
theorem k_413 : Cond.fieldLink "CellDecide" 132 "CellDecide$Reader" "kind" "I" ∈ zg_tbl := zt_1 (List.mem_of_getElem? (i := 153) rfl) rfl
theorem k_414 : Cond.fieldLink "CellDecide" 141 "CellDecide$Reader" "faultPlace" "I" ∈ zg_tbl := zt_1 (List.mem_of_getElem? (i := 155) rfl) rfl
theorem k_415 : Cond.code ⟨"CellDecide$Reader", "accept", "()V"⟩ prog_6_method_8_code 1 (Option.none : Option Jvm.ClassFile.FieldType) ∈ zg_tbl := zt_4 (List.mem_of_getElem? (i := 26) rfl) rfl
theorem k_416 : Cond.methodLink "CellDecide$Reader" 92 ⟨"CellDecide$Reader", "accept", "()V"⟩ ∈ zg_tbl := zt_4 (List.mem_of_getElem? (i := 23) rfl) rfl
theorem k_417 : Cond.instanceMethod ⟨"CellDecide$Reader", "accept", "()V"⟩ ∈ zg_tbl := zt_4 (List.mem_of_getElem? (i := 25) rfl) rfl
theorem k_418 : Cond.selects "CellDecide$Reader" ⟨"CellDecide$Reader", "accept", "()V"⟩ ⟨"CellDecide$Reader", "accept", "()V"⟩ ∈ zg_tbl := zs_1 (List.mem_of_getElem? (i := 9) rfl) rfl
theorem k_419 : Cond.code ⟨"CellDecide$Reader", "takeCurves", "(I)V"⟩ prog_6_method_3_code 2 (Option.none : Option Jvm.ClassFile.FieldType) ∈ zg_tbl := zt_8 (List.mem_of_getElem? (i := 151) rfl) rfl
theorem k_420 : Cond.methodLink "CellDecide" 263 ⟨"CellDecide$Reader", "takeCurves", "(I)V"⟩ ∈ zg_tbl := zt_8 (List.mem_of_getElem? (i := 148) rfl) rfl
theorem k_421 : Cond.instanceMethod ⟨"CellDecide$Reader", "takeCurves", "(I)V"⟩ ∈ zg_tbl := zt_8 (List.mem_of_getElem? (i := 149) rfl) rfl
theorem k_422 : Cond.selects "CellDecide$Reader" ⟨"CellDecide$Reader", "takeCurves", "(I)V"⟩ ⟨"CellDecide$Reader", "takeCurves", "(I)V"⟩ ∈ zg_tbl := zt_8 (List.mem_of_getElem? (i := 150) rfl) rfl
