set_option maxHeartbeats 4000000 in
set_option maxRecDepth 100000 in
theorem c_C_Numbers_init_I_v2 (l : Launch) (dC : Nat → ClassId) (dI : Nat → Nat → Nat) (h0 : Nat) (sz : Nat) : Met l y_C_Numbers_init_I w_C_Numbers_init_I ({ frames := 3, cells := 3, slots := 84, locals := 53 }) (va_Pc [.ref h0, .int 64] (fun U => U.heap.size = sz ∧ va_P (dC, dI) classes [(h0, .inr (4, [.null, .int 0, .int 0, .null]))] U.heap ∧ va_K (dC, dI) classes [] U ∧ va_D (fun _ => True) [(h0, .inr (4, [.null, .int 0, .int 0, .null]))] ∧ zX U ∧ va_Z "java/lang/String" "COMPACT_STRINGS" "Z" (.int 1) (va_A [(h0, .inr (4, [.null, .int 0, .int 0, .null]))] sz) U U.heap)) (va_Qv (fun _ : Unit => True) (fun _ t => ∃ (q3 : Nat) (q1 : Nat) (q2 : Nat) (e1 : ClassId) (e2 : ClassId), va_P (dC, dI) classes [(h0, .inr (4, [.ref q3, .int 1, .int 0, .ref q1])), (q1, .inr (5, [.ref q2, .int 0, .int 0, .int 0])), (q2, .inl (e1, 16, .inl (fun _ => 0))), (q3, .inl (e2, 64, .inl (fun _ => 0)))] t.heap ∧ va_K (dC, dI) classes [(e1, .byte), (e2, .int)] t ∧ va_D (va_A [(h0, .inr (4, [.null, .int 0, .int 0, .null]))] sz) [(h0, .inr (4, [.ref q3, .int 1, .int 0, .ref q1])), (q1, .inr (5, [.ref q2, .int 0, .int 0, .int 0])), (q2, .inl (e1, 16, .inl (fun _ => 0))), (q3, .inl (e2, 64, .inl (fun _ => 0)))]) (va_A [(h0, .inr (4, [.null, .int 0, .int 0, .null]))] sz)) 3 84 (va_A [(h0, .inr (4, [.null, .int 0, .int 0, .null]))] sz) := by
  refine Met.ofW (cc := prog_4_method_1_code) (maxL := 2) (ret := (Option.none : Option Jvm.ClassFile.FieldType)) (by decide) rfl ?_
  intro p e s m args below meth c s₁ B hml hv
  obtain ⟨rfl, hsz, hP, hK, hD0, hX, hZ_cs⟩ := hv
  have hx := B.exec
  have hb := B.bytes
  have hr := B.returns
  have hts0 := atoms_spec (ws := w_C_Numbers_init_I) B.pre
  have hts : ∀ w ∈ zg_tbl, w.before _ s = true := fun w h => hts0 w (List.mem_cons_of_mem _ h)
  have hown : s.vm.findClass "CellDecide$Numbers" = some m.cls := findClass_of_methodNamed B.named
  have hlocks := B.notSynchronized
  have hin : meth.name = "<init>" := (name_of_methodNamed B.named B.method).1
  subst hsz
  have hD := hD0.self (sz := s.heap.size)
  generalize hAe : va_A [(h0, .inr (4, [.null, .int 0, .int 0, .null]))] s.heap.size = A at hD hZ_cs ⊢
  have hA : ∀ q : Nat, s.heap.size ≤ q → A q := fun q h => by rw [← hAe]; exact Or.inr h
  have hS : va_S A s.heap s.heap [] := va_S.rf
  have hl := lv_entry ([.ref h0, .int 64]) (n := 2) (Nat.le_of_ble_eq_true rfl)
  rw [lg_entry_eq]
  generalize (lg_sl ([.ref h0, .int 64]) ++ List.replicate (2 - (lg_sl ([.ref h0, .int 64])).length) Slot.unset).toArray = ls at hl ⊢
  have hl : lv_has ls 2 [(0, .ref h0), (1, .int 64)] := hl
  refine lv_aload_n hx hb d_C_Numbers_init_I_0 rfl (lv_at hl 0 rfl) ?_
  refine W.objInit hx hb hown (hts _ k_51) (hts _ k_1) (hts _ k_2) rfl (by rw [hml]; exact hl.1) rfl d_C_Numbers_init_I_1 (Nat.le_of_ble_eq_true rfl) (Nat.le_of_ble_eq_true rfl) ?_
  refine W.eq (g2 := F0 m 4 ls []) rfl ?_
  refine lv_aload_n hx hb d_C_Numbers_init_I_4 rfl (lv_at hl 0 rfl) ?_
  refine lv_iconst (v := 1) hx hb d_C_Numbers_init_I_5 (by decide) ?_
  refine va_put (D := (dC, dI)) (ci := 4) (v := .int 1) (ty := .int) (C := R_C_Numbers) (T := F_C_Numbers) (N := 4) hx hb hts i_C_Numbers t_C_Numbers t_C_Numbers_ok n_C_Numbers hown hK hP hD hS 0 rfl rfl 1 (by decide) (hts _ k_52) (fun _ h9 => h9) rfl (by decide +kernel) rfl rfl (Nat.le_of_ble_eq_true rfl) d_C_Numbers_init_I_6 (fun H_1 locs_1 hP_1 hD_1 hS_1 => ?_)
  clear hP hD hS
  have hP_2 : va_P (dC, dI) classes [(h0, .inr (4, [.null, .int 1, .int 0, .null]))] H_1 := hP_1
  clear hP_1
  have hD_2 : va_D A [(h0, .inr (4, [.null, .int 1, .int 0, .null]))] := hD_1
  clear hD_1
  refine lv_aload_n hx hb d_C_Numbers_init_I_9 rfl (lv_at hl 0 rfl) ?_
  refine va_new (ci := 5) (fs := [.null, .int 0, .int 0, .int 0]) (C := R_StringBuilder) (T := F_StringBuilder) (N := 4) hx hb hts i_StringBuilder t_StringBuilder t_StringBuilder_ok hown (hts _ k_53) (hts _ k_54) (hts _ k_55) hK hP_2 hD_2 hS_1 hA rfl (zn_StringBuilder) (Nat.le_of_ble_eq_true rfl) (Nat.le_of_ble_eq_true rfl) d_C_Numbers_init_I_10 (fun q1 H_2 hP_3 hD_3 hS_2 => ?_)
  clear hP_2 hD_2 hS_1
  have hP_4 : va_P (dC, dI) classes [(h0, .inr (4, [.null, .int 1, .int 0, .null])), (q1, .inr (5, [.null, .int 0, .int 0, .int 0]))] H_2 := hP_3
  clear hP_3
  have hD_4 : va_D A [(h0, .inr (4, [.null, .int 1, .int 0, .null])), (q1, .inr (5, [.null, .int 0, .int 0, .int 0]))] := hD_3
  clear hD_3
  refine W.widen (k := 1) (n := 4) (Nat.le_of_ble_eq_true rfl) (Nat.le_of_ble_eq_true rfl) ?_
  refine lv_dup hx hb d_C_Numbers_init_I_13 rfl ?_
  have hPc := hP_4.sub (ws' := [(q1, .inr (5, [.null, .int 0, .int 0, .int 0]))]) [1] rfl
  have hDc := hD_4.sub (ws' := [(q1, .inr (5, [.null, .int 0, .int 0, .int 0]))]) [1] (by decide) rfl
  have hKc := hK.sub (tys' := []) [] rfl
  have hFc := va_free (wc := [(q1, .inr (5, [.null, .int 0, .int 0, .int 0]))]) hD_4 hS_2 hA [1] rfl
  have hZc_cs := (hZ_cs.kept hS_2.2.1).narrow hFc
  refine va_callv (va_runI (As := []) (rest := [.ref q1, .ref h0]) ⟨hx, hb, hml, hown, hts⟩ (c_StringBuilder_init l dC dI q1 H_2.size) (cwI 0 hts (zt_G k_64) rfl rfl rfl (hts _ k_55) (hts _ k_65) (hts _ k_66) rfl (by decide +kernel) ⟨Nat.le_of_ble_eq_true rfl, Nat.le_of_ble_eq_true rfl⟩) ⟨fun a U g mk q => by obtain ⟨q0, q1, qP, qK, qD, qX, qz0⟩ := q; exact ⟨q0, q1, qP, va_K.moved (u := U) (U := U.calling g mk a) (Vm.Alike.refl U.vm) qK, qD, qX.call, qz0.moved (u := U) (U := U.calling g mk a) (Vm.Alike.refl U.vm)⟩, fun U hU hW => ⟨rfl, by rw [hU], by rw [hU]; exact hPc, va_K.moved hW.alike hKc, hDc.weaken (fun _ _ _ _ => trivial), hX.warm hW, by rw [hU]; exact hZc_cs.moved hW.alike⟩⟩ rfl rfl hl.1 rfl (lv_room (Nat.le_of_ble_eq_true rfl)) d_C_Numbers_init_I_14 ⟨Nat.le_of_ble_eq_true rfl, Nat.le_of_ble_eq_true rfl⟩) hS_2 (fun q _ h => hFc q h) hFc (fun u t H1 locs_2 ht hvm hw hB hz1 hk1 hS_3 => ?_)
  obtain ⟨q2, e1, hP1, hK1, hD1⟩ := hB
  rw [ht] at hP1
  have hK1 := va_K.moved hvm.symm hK1
  obtain ⟨hP_5, hD_5⟩ := va_join (wr := [(h0, .inr (4, [.null, .int 1, .int 0, .null]))]) (w1 := [(q1, .inr (5, [.ref q2, .int 0, .int 0, .int 0])), (q2, .inl (e1, 16, .inl (fun _ => 0)))]) hP_4 hD_4 [1] [0] rfl rfl (by decide) (by decide) hk1 hFc hP1 hD1
  clear hP_4 hD_4 hP1 hD1 hPc hDc hKc hFc hk1 hz1
  have hK_1 := hK.app hK1
  clear hK
  generalize H1 = H_3 at hP_5 hS_3 ⊢
  have hP_6 : va_P (dC, dI) classes [(h0, .inr (4, [.null, .int 1, .int 0, .null])), (q1, .inr (5, [.ref q2, .int 0, .int 0, .int 0])), (q2, .inl (e1, 16, .inl (fun _ => 0)))] H_3 := hP_5
  clear hP_5
  have hD_6 : va_D A [(h0, .inr (4, [.null, .int 1, .int 0, .null])), (q1, .inr (5, [.ref q2, .int 0, .int 0, .int 0])), (q2, .inl (e1, 16, .inl (fun _ => 0)))] := hD_5
  clear hD_5
  have hK_2 : va_K (dC, dI) classes [(e1, .byte)] s := hK_1
  clear hK_1
  refine W.widen (k := 2) (n := 20) (Nat.le_of_ble_eq_true rfl) (Nat.le_of_ble_eq_true rfl) ?_
  refine va_putF (D := (dC, dI)) (ci := 4) (v := .ref q1) (ty := .object "java/lang/StringBuilder") (C := R_C_Numbers) (T := F_C_Numbers) (N := 4) hx hb hts i_C_Numbers t_C_Numbers t_C_Numbers_ok n_C_Numbers hown hK_2 hP_6 hD_6 hS_3 0 rfl rfl 3 (by decide) (hts _ k_67) (fun _ h9 => h9) rfl hin rfl (by decide +kernel) rfl rfl (Nat.le_of_ble_eq_true rfl) d_C_Numbers_init_I_17 (fun H_4 locs_3 hP_7 hD_7 hS_4 => ?_)
  clear hP_6 hD_6 hS_3
  have hP_8 : va_P (dC, dI) classes [(h0, .inr (4, [.null, .int 1, .int 0, .ref q1])), (q1, .inr (5, [.ref q2, .int 0, .int 0, .int 0])), (q2, .inl (e1, 16, .inl (fun _ => 0)))] H_4 := hP_7
  clear hP_7
  have hD_8 : va_D A [(h0, .inr (4, [.null, .int 1, .int 0, .ref q1])), (q1, .inr (5, [.ref q2, .int 0, .int 0, .int 0])), (q2, .inl (e1, 16, .inl (fun _ => 0)))] := hD_7
  clear hD_7
  refine lv_aload_n hx hb d_C_Numbers_init_I_20 rfl (lv_at hl 0 rfl) ?_
  refine lv_iload_n hx hb d_C_Numbers_init_I_21 rfl (lv_at hl 1 rfl) ?_
  refine lv_bipush (v := 16) hx hb d_C_Numbers_init_I_22 (by decide) ?_
  refine va_mmax hx hb (hml.trans hl.1.symm) hown (hts _ k_68) (hts _ k_69) (hts _ k_70) (hts _ k_71) (Nat.le_of_ble_eq_true rfl) (Nat.le_of_ble_eq_true rfl) (Nat.le_of_ble_eq_true rfl) (Nat.le_of_ble_eq_true rfl) d_C_Numbers_init_I_24 ?_
  refine zi_top (y := 64) (by decide) ?_
  refine va_newa (atype := .int) (a0 := (64, .inl (fun _ => 0))) hx hb (hts _ k_10) rfl hK_2 hP_8 hD_8 hS_4 hA (fun _ => rfl) (by decide) (N' := 64) (by decide) (Nat.le_of_ble_eq_true rfl) (Nat.le_of_ble_eq_true rfl) (Nat.le_of_ble_eq_true rfl) d_C_Numbers_init_I_27 (fun q3 e2 H_5 hK_3 hP_9 hD_9 hS_5 => ?_)
  clear hK_2 hP_8 hD_8 hS_4
  have hP_10 : va_P (dC, dI) classes [(h0, .inr (4, [.null, .int 1, .int 0, .ref q1])), (q1, .inr (5, [.ref q2, .int 0, .int 0, .int 0])), (q2, .inl (e1, 16, .inl (fun _ => 0))), (q3, .inl (e2, 64, .inl (fun _ => 0)))] H_5 := hP_9
  clear hP_9
  have hD_10 : va_D A [(h0, .inr (4, [.null, .int 1, .int 0, .ref q1])), (q1, .inr (5, [.ref q2, .int 0, .int 0, .int 0])), (q2, .inl (e1, 16, .inl (fun _ => 0))), (q3, .inl (e2, 64, .inl (fun _ => 0)))] := hD_9
  clear hD_9
  have hK_4 : va_K (dC, dI) classes [(e1, .byte), (e2, .int)] s := hK_3
  clear hK_3
  refine W.widen (k := 3) (n := 84) (Nat.le_of_ble_eq_true rfl) (Nat.le_of_ble_eq_true rfl) ?_
  refine va_put (D := (dC, dI)) (ci := 4) (v := .ref q3) (ty := .array .int) (C := R_C_Numbers) (T := F_C_Numbers) (N := 4) hx hb hts i_C_Numbers t_C_Numbers t_C_Numbers_ok n_C_Numbers hown hK_4 hP_10 hD_10 hS_5 0 rfl rfl 0 (by decide) (hts _ k_72) (fun _ h9 => h9) rfl (by decide +kernel) rfl rfl (Nat.le_of_ble_eq_true rfl) d_C_Numbers_init_I_29 (fun H_6 locs_4 hP_11 hD_11 hS_6 => ?_)
  clear hP_10 hD_10 hS_5
  have hP_12 : va_P (dC, dI) classes [(h0, .inr (4, [.ref q3, .int 1, .int 0, .ref q1])), (q1, .inr (5, [.ref q2, .int 0, .int 0, .int 0])), (q2, .inl (e1, 16, .inl (fun _ => 0))), (q3, .inl (e2, 64, .inl (fun _ => 0)))] H_6 := hP_11
  clear hP_11
  have hD_12 : va_D A [(h0, .inr (4, [.ref q3, .int 1, .int 0, .ref q1])), (q1, .inr (5, [.ref q2, .int 0, .int 0, .int 0])), (q2, .inl (e1, 16, .inl (fun _ => 0))), (q3, .inl (e2, 64, .inl (fun _ => 0)))] := hD_11
  clear hD_11
  refine W.widen (k := 3) (n := 84) (Nat.le_of_ble_eq_true rfl) (Nat.le_of_ble_eq_true rfl) ?_
  have hK9 := hK_4.sub (tys' := [(e1, .byte), (e2, .int)]) [0, 1] rfl
  exact W.vret hx hb hr (fun t ht hW => ⟨⟨(), rfl, trivial, q3, q1, q2, e1, e2, by rw [ht]; exact hP_12, va_K.moved hW.alike hK9, hD_12⟩, hS_6.F ht⟩) hS_6.2.2 d_C_Numbers_init_I_32
set_option maxHeartbeats 4000000 in
set_option maxRecDepth 100000 in
theorem c_AbstractCollection_init (l : Launch) (dC : Nat → ClassId) (dI : Nat → Nat → Nat) (h0 : Nat) (sz : Nat) : Met l y_AbstractCollection_init w_AbstractCollection_init ({ frames := 1, cells := 0, slots := 0, locals := 12 }) (va_Pc [.ref h0] (fun U => U.heap.size = sz ∧ va_P (dC, dI) classes [] U.heap ∧ va_K (dC, dI) classes [] U ∧ va_D (fun _ => True) [] ∧ zX U)) (va_Qv (fun _ : Unit => True) (fun _ t => va_P (dC, dI) classes [] t.heap ∧ va_K (dC, dI) classes [] t ∧ va_D (va_A [] sz) []) (va_A [] sz)) 0 0 (va_A [] sz) := by
  refine Met.ofW (cc := prog_30_method_1_code) (maxL := 1) (ret := (Option.none : Option Jvm.ClassFile.FieldType)) (by decide) rfl ?_
  intro p e s m args below meth c s₁ B hml hv
  obtain ⟨rfl, hsz, hP, hK, hD0, hX⟩ := hv
  have hx := B.exec
  have hb := B.bytes
  have hr := B.returns
  have hts0 := atoms_spec (ws := w_AbstractCollection_init) B.pre
  have hts : ∀ w ∈ zg_tbl, w.before _ s = true := fun w h => hts0 w (List.mem_cons_of_mem _ h)
  have hown : s.vm.findClass "java/util/AbstractCollection" = some m.cls := findClass_of_methodNamed B.named
  have hlocks := B.notSynchronized
  have hin : meth.name = "<init>" := (name_of_methodNamed B.named B.method).1
  subst hsz
  have hD := hD0.self (sz := s.heap.size)
  generalize hAe : va_A [] s.heap.size = A at hD ⊢
  have hA : ∀ q : Nat, s.heap.size ≤ q → A q := fun q h => by rw [← hAe]; exact Or.inr h
  have hS : va_S A s.heap s.heap [] := va_S.rf
  have hl := lv_entry ([.ref h0]) (n := 1) (Nat.le_of_ble_eq_true rfl)
  rw [lg_entry_eq]
  generalize (lg_sl ([.ref h0]) ++ List.replicate (1 - (lg_sl ([.ref h0])).length) Slot.unset).toArray = ls at hl ⊢
  have hl : lv_has ls 1 [(0, .ref h0)] := hl
  refine lv_aload_n hx hb d_AbstractCollection_init_0 rfl (lv_at hl 0 rfl) ?_
  refine W.objInit hx hb hown (hts _ k_181) (hts _ k_1) (hts _ k_2) rfl (by rw [hml]; exact hl.1) rfl d_AbstractCollection_init_1 (Nat.le_of_ble_eq_true rfl) (Nat.le_of_ble_eq_true rfl) ?_
  refine W.eq (g2 := F0 m 4 ls []) rfl ?_
  refine W.widen (k := 0) (n := 0) (Nat.le_of_ble_eq_true rfl) (Nat.le_of_ble_eq_true rfl) ?_
  have hK9 := hK.sub (tys' := []) [] rfl
  exact W.vret hx hb hr (fun t ht hW => ⟨⟨(), rfl, trivial, by rw [ht]; exact hP, va_K.moved hW.alike hK9, hD⟩, hS.F ht⟩) hS.2.2 d_AbstractCollection_init_4
set_option maxHeartbeats 4000000 in
set_option maxRecDepth 100000 in
theorem c_AbstractList_init (l : Launch) (dC : Nat → ClassId) (dI : Nat → Nat → Nat) (h0 : Nat) (sz : Nat) : Met l y_AbstractList_init w_AbstractList_init ({ frames := 2, cells := 0, slots := 0, locals := 32 }) (va_Pc [.ref h0] (fun U => U.heap.size = sz ∧ va_P (dC, dI) classes [(h0, .inr (12, [.null, .int 0, .int 0]))] U.heap ∧ va_K (dC, dI) classes [] U ∧ va_D (fun _ => True) [(h0, .inr (12, [.null, .int 0, .int 0]))] ∧ zX U)) (va_Qv (fun _ : Unit => True) (fun _ t => va_P (dC, dI) classes [(h0, .inr (12, [.null, .int 0, .int 0]))] t.heap ∧ va_K (dC, dI) classes [] t ∧ va_D (va_A [(h0, .inr (12, [.null, .int 0, .int 0]))] sz) [(h0, .inr (12, [.null, .int 0, .int 0]))]) (va_A [(h0, .inr (12, [.null, .int 0, .int 0]))] sz)) 0 0 (va_A [(h0, .inr (12, [.null, .int 0, .int 0]))] sz) := by
  refine Met.ofW (cc := prog_31_method_1_code) (maxL := 1) (ret := (Option.none : Option Jvm.ClassFile.FieldType)) (by decide) rfl ?_
  intro p e s m args below meth c s₁ B hml hv
  obtain ⟨rfl, hsz, hP, hK, hD0, hX⟩ := hv
  have hx := B.exec
  have hb := B.bytes
  have hr := B.returns
  have hts0 := atoms_spec (ws := w_AbstractList_init) B.pre
  have hts : ∀ w ∈ zg_tbl, w.before _ s = true := fun w h => hts0 w (List.mem_cons_of_mem _ h)
  have hown : s.vm.findClass "java/util/AbstractList" = some m.cls := findClass_of_methodNamed B.named
  have hlocks := B.notSynchronized
  have hin : meth.name = "<init>" := (name_of_methodNamed B.named B.method).1
  subst hsz
  have hD := hD0.self (sz := s.heap.size)
  generalize hAe : va_A [(h0, .inr (12, [.null, .int 0, .int 0]))] s.heap.size = A at hD ⊢
  have hA : ∀ q : Nat, s.heap.size ≤ q → A q := fun q h => by rw [← hAe]; exact Or.inr h
  have hS : va_S A s.heap s.heap [] := va_S.rf
  have hl := lv_entry ([.ref h0]) (n := 1) (Nat.le_of_ble_eq_true rfl)
  rw [lg_entry_eq]
  generalize (lg_sl ([.ref h0]) ++ List.replicate (1 - (lg_sl ([.ref h0])).length) Slot.unset).toArray = ls at hl ⊢
  have hl : lv_has ls 1 [(0, .ref h0)] := hl
  refine lv_aload_n hx hb d_AbstractList_init_0 rfl (lv_at hl 0 rfl) ?_
  have hPc := hP.sub (ws' := []) [] rfl
  have hDc := hD.sub (ws' := []) [] (by decide) rfl
  have hKc := hK.sub (tys' := []) [] rfl
  have hFc := va_free (wc := []) hD hS hA [] rfl
  refine va_callv (va_runI (As := []) (rest := []) ⟨hx, hb, hml, hown, hts⟩ (c_AbstractCollection_init l dC dI h0 s.heap.size) (cwI 0 hts (zt_G k_182) rfl rfl rfl (hts _ k_183) (hts _ k_184) (hts _ k_185) rfl (by decide +kernel) ⟨Nat.le_of_ble_eq_true rfl, Nat.le_of_ble_eq_true rfl⟩) ⟨fun a U g mk q => by obtain ⟨q0, q1, qP, qK, qD, qX⟩ := q; exact ⟨q0, q1, qP, va_K.moved (u := U) (U := U.calling g mk a) (Vm.Alike.refl U.vm) qK, qD, qX.call⟩, fun U hU hW => ⟨rfl, by rw [hU], by rw [hU]; exact hPc, va_K.moved hW.alike hKc, hDc.weaken (fun _ _ _ _ => trivial), hX.warm hW⟩⟩ rfl rfl hl.1 rfl (lv_room (Nat.le_of_ble_eq_true rfl)) d_AbstractList_init_1 ⟨Nat.le_of_ble_eq_true rfl, Nat.le_of_ble_eq_true rfl⟩) hS (fun q _ h => hFc q h) hFc (fun u t H1 locs_1 ht hvm hw hB hz1 hk1 hS_1 => ?_)
  obtain ⟨hP1, hK1, hD1⟩ := hB
  rw [ht] at hP1
  have hK1 := va_K.moved hvm.symm hK1
  obtain ⟨hP_1, hD_1⟩ := va_join (wr := [(h0, .inr (12, [.null, .int 0, .int 0]))]) (w1 := []) hP hD [] [0] rfl rfl (by decide) (by decide) hk1 hFc hP1 hD1
  clear hP hD hP1 hD1 hPc hDc hKc hFc hk1 hz1
  generalize H1 = H_1 at hP_1 hS_1 ⊢
  have hP_2 : va_P (dC, dI) classes [(h0, .inr (12, [.null, .int 0, .int 0]))] H_1 := hP_1
  clear hP_1
  have hD_2 : va_D A [(h0, .inr (12, [.null, .int 0, .int 0]))] := hD_1
  clear hD_1
  refine W.widen (k := 0) (n := 0) (Nat.le_of_ble_eq_true rfl) (Nat.le_of_ble_eq_true rfl) ?_
  refine lv_aload_n hx hb d_AbstractList_init_4 rfl (lv_at hl 0 rfl) ?_
  refine lv_iconst (v := 0) hx hb d_AbstractList_init_5 (by decide) ?_
  refine va_put (D := (dC, dI)) (ci := 12) (v := .int 0) (ty := .int) (C := R_ArrayList) (T := F_ArrayList) (N := 3) hx hb hts i_ArrayList t_ArrayList t_ArrayList_ok n_ArrayList hown hK hP_2 hD_2 hS_1 0 rfl rfl 2 (by decide) (hts _ k_186) (fun _ h9 => h9) rfl (by decide +kernel) rfl rfl (Nat.le_of_ble_eq_true rfl) d_AbstractList_init_6 (fun H_2 locs_2 hP_3 hD_3 hS_2 => ?_)
  clear hP_2 hD_2 hS_1
  have hP_4 : va_P (dC, dI) classes [(h0, .inr (12, [.null, .int 0, .int 0]))] H_2 := hP_3
  clear hP_3
  have hD_4 : va_D A [(h0, .inr (12, [.null, .int 0, .int 0]))] := hD_3
  clear hD_3
  refine W.widen (k := 0) (n := 0) (Nat.le_of_ble_eq_true rfl) (Nat.le_of_ble_eq_true rfl) ?_
  have hK9 := hK.sub (tys' := []) [] rfl
  exact W.vret hx hb hr (fun t ht hW => ⟨⟨(), rfl, trivial, by rw [ht]; exact hP_4, va_K.moved hW.alike hK9, hD_4⟩, hS_2.F ht⟩) hS_2.2.2 d_AbstractList_init_9
set_option maxHeartbeats 4000000 in
set_option maxRecDepth 100000 in
theorem c_ArrayList_init (l : Launch) (dC : Nat → ClassId) (dI : Nat → Nat → Nat) (h0 : Nat) (zde : Nat) (sz : Nat) : Met l y_ArrayList_init w_ArrayList_init ({ frames := 3, cells := 0, slots := 0, locals := 52 }) (va_Pc [.ref h0] (fun U => U.heap.size = sz ∧ va_P (dC, dI) classes [(h0, .inr (12, [.null, .int 0, .int 0]))] U.heap ∧ va_K (dC, dI) classes [] U ∧ va_D (fun _ => True) [(h0, .inr (12, [.null, .int 0, .int 0]))] ∧ zX U ∧ va_Z "java/util/ArrayList" "DEFAULTCAPACITY_EMPTY_ELEMENTDATA" "[Ljava/lang/Object;" (.ref zde) (va_A [(h0, .inr (12, [.null, .int 0, .int 0]))] sz) U U.heap)) (va_Qv (fun _ : Unit => True) (fun _ t => va_P (dC, dI) classes [(h0, .inr (12, [.ref zde, .int 0, .int 0]))] t.heap ∧ va_K (dC, dI) classes [] t ∧ va_D (va_A [(h0, .inr (12, [.null, .int 0, .int 0]))] sz) [(h0, .inr (12, [.ref zde, .int 0, .int 0]))]) (va_A [(h0, .inr (12, [.null, .int 0, .int 0]))] sz)) 0 0 (va_A [(h0, .inr (12, [.null, .int 0, .int 0]))] sz) := by
  refine Met.ofW (cc := prog_32_method_2_code) (maxL := 1) (ret := (Option.none : Option Jvm.ClassFile.FieldType)) (by decide) rfl ?_
  intro p e s m args below meth c s₁ B hml hv
  obtain ⟨rfl, hsz, hP, hK, hD0, hX, hZ_de⟩ := hv
  have hx := B.exec
  have hb := B.bytes
  have hr := B.returns
  have hts0 := atoms_spec (ws := w_ArrayList_init) B.pre
  have hts : ∀ w ∈ zg_tbl, w.before _ s = true := fun w h => hts0 w (List.mem_cons_of_mem _ h)
  have hown : s.vm.findClass "java/util/ArrayList" = some m.cls := findClass_of_methodNamed B.named
  have hlocks := B.notSynchronized
  have hin : meth.name = "<init>" := (name_of_methodNamed B.named B.method).1
  subst hsz
  have hD := hD0.self (sz := s.heap.size)
  generalize hAe : va_A [(h0, .inr (12, [.null, .int 0, .int 0]))] s.heap.size = A at hD hZ_de ⊢
  have hA : ∀ q : Nat, s.heap.size ≤ q → A q := fun q h => by rw [← hAe]; exact Or.inr h
  have hS : va_S A s.heap s.heap [] := va_S.rf
  have hl := lv_entry ([.ref h0]) (n := 1) (Nat.le_of_ble_eq_true rfl)
  rw [lg_entry_eq]
  generalize (lg_sl ([.ref h0]) ++ List.replicate (1 - (lg_sl ([.ref h0])).length) Slot.unset).toArray = ls at hl ⊢
  have hl : lv_has ls 1 [(0, .ref h0)] := hl
  refine lv_aload_n hx hb d_ArrayList_init_0 rfl (lv_at hl 0 rfl) ?_
  have hPc := hP.sub (ws' := [(h0, .inr (12, [.null, .int 0, .int 0]))]) [0] rfl
  have hDc := hD.sub (ws' := [(h0, .inr (12, [.null, .int 0, .int 0]))]) [0] (by decide) rfl
  have hKc := hK.sub (tys' := []) [] rfl
  have hFc := va_free (wc := [(h0, .inr (12, [.null, .int 0, .int 0]))]) hD hS hA [0] rfl
  refine va_callv (va_runI (As := []) (rest := []) ⟨hx, hb, hml, hown, hts⟩ (c_AbstractList_init l dC dI h0 s.heap.size) (cwI 0 hts (zt_G k_187) rfl rfl rfl (hts _ k_188) (hts _ k_189) (hts _ k_190) rfl (by decide +kernel) ⟨Nat.le_of_ble_eq_true rfl, Nat.le_of_ble_eq_true rfl⟩) ⟨fun a U g mk q => by obtain ⟨q0, q1, qP, qK, qD, qX⟩ := q; exact ⟨q0, q1, qP, va_K.moved (u := U) (U := U.calling g mk a) (Vm.Alike.refl U.vm) qK, qD, qX.call⟩, fun U hU hW => ⟨rfl, by rw [hU], by rw [hU]; exact hPc, va_K.moved hW.alike hKc, hDc.weaken (fun _ _ _ _ => trivial), hX.warm hW⟩⟩ rfl rfl hl.1 rfl (lv_room (Nat.le_of_ble_eq_true rfl)) d_ArrayList_init_1 ⟨Nat.le_of_ble_eq_true rfl, Nat.le_of_ble_eq_true rfl⟩) hS (fun q _ h => hFc q h) hFc (fun u t H1 locs_1 ht hvm hw hB hz1 hk1 hS_1 => ?_)
  obtain ⟨hP1, hK1, hD1⟩ := hB
  rw [ht] at hP1
  have hK1 := va_K.moved hvm.symm hK1
  obtain ⟨hP_1, hD_1⟩ := va_join (wr := []) (w1 := [(h0, .inr (12, [.null, .int 0, .int 0]))]) hP hD [0] [] rfl rfl (by decide) (by decide) hk1 hFc hP1 hD1
  clear hP hD hP1 hD1 hPc hDc hKc hFc hk1 hz1
  generalize H1 = H_1 at hP_1 hS_1 ⊢
  have hP_2 : va_P (dC, dI) classes [(h0, .inr (12, [.null, .int 0, .int 0]))] H_1 := hP_1
  clear hP_1
  have hD_2 : va_D A [(h0, .inr (12, [.null, .int 0, .int 0]))] := hD_1
  clear hD_1
  refine W.widen (k := 0) (n := 0) (Nat.le_of_ble_eq_true rfl) (Nat.le_of_ble_eq_true rfl) ?_
  refine lv_aload_n hx hb d_ArrayList_init_4 rfl (lv_at hl 0 rfl) ?_
  refine va_gets hx hb hZ_de hS_1 hown (hts _ k_191) (fun _ h9 => h9) d_ArrayList_init_5 ?_
  refine va_put (D := (dC, dI)) (ci := 12) (v := .ref zde) (ty := .array (.object "java/lang/Object")) (C := R_ArrayList) (T := F_ArrayList) (N := 3) hx hb hts i_ArrayList t_ArrayList t_ArrayList_ok n_ArrayList hown hK hP_2 hD_2 hS_1 0 rfl rfl 0 (by decide) (hts _ k_192) (fun _ h9 => h9) rfl (by decide +kernel) rfl rfl (Nat.le_of_ble_eq_true rfl) d_ArrayList_init_8 (fun H_2 locs_2 hP_3 hD_3 hS_2 => ?_)
  clear hP_2 hD_2 hS_1
  have hP_4 : va_P (dC, dI) classes [(h0, .inr (12, [.ref zde, .int 0, .int 0]))] H_2 := hP_3
  clear hP_3
  have hD_4 : va_D A [(h0, .inr (12, [.ref zde, .int 0, .int 0]))] := hD_3
  clear hD_3
  refine W.widen (k := 0) (n := 0) (Nat.le_of_ble_eq_true rfl) (Nat.le_of_ble_eq_true rfl) ?_
  have hK9 := hK.sub (tys' := []) [] rfl
  exact W.vret hx hb hr (fun t ht hW => ⟨⟨(), rfl, trivial, by rw [ht]; exact hP_4, va_K.moved hW.alike hK9, hD_4⟩, hS_2.F ht⟩) hS_2.2.2 d_ArrayList_init_11
set_option maxHeartbeats 4000000 in
set_option maxRecDepth 100000 in
theorem c_C_Roots_init_LCellDec (l : Launch) (dC : Nat → ClassId) (dI : Nat → Nat → Nat) (h0 : Nat) (h1 : Nat) (h2 : Nat) (h3 : Nat) (zde : Nat) (sz : Nat) : Met l y_C_Roots_init_LCellDec w_C_Roots_init_LCellDec ({ frames := 4, cells := 7, slots := 108, locals := 74 }) (va_Pc [.ref h0, .ref h1, .ref h2] (fun U => U.heap.size = sz ∧ va_P (dC, dI) classes [(h0, .inr (11, [.null, .null, .null, .null, .null, .int 0, .null, .int 0, .int 0])), (h1, .inr (3, [.ref h3]))] U.heap ∧ va_K (dC, dI) classes [] U ∧ va_D (fun _ => True) [(h0, .inr (11, [.null, .null, .null, .null, .null, .int 0, .null, .int 0, .int 0])), (h1, .inr (3, [.ref h3]))] ∧ zX U ∧ va_Z "java/lang/String" "COMPACT_STRINGS" "Z" (.int 1) (va_A [(h0, .inr (11, [.null, .null, .null, .null, .null, .int 0, .null, .int 0, .int 0])), (h1, .inr (3, [.ref h3]))] sz) U U.heap ∧ va_Z "java/util/ArrayList" "DEFAULTCAPACITY_EMPTY_ELEMENTDATA" "[Ljava/lang/Object;" (.ref zde) (va_A [(h0, .inr (11, [.null, .null, .null, .null, .null, .int 0, .null, .int 0, .int 0])), (h1, .inr (3, [.ref h3]))] sz) U U.heap)) (va_Qv (fun _ : Unit => True) (fun _ t => ∃ (q1 : Nat) (q6 : Nat) (q7 : Nat) (q2 : Nat) (q3 : Nat) (q4 : Nat) (q5 : Nat) (e1 : ClassId) (e2 : ClassId) (e3 : ClassId), va_P (dC, dI) classes [(h0, .inr (11, [.ref h1, .ref h3, .ref h2, .ref q1, .ref q6, .int 0, .ref q7, .int 0, .int 0])), (h1, .inr (3, [.ref h3])), (q2, .inr (4, [.ref q3, .int 1, .int 0, .ref q4])), (q4, .inr (5, [.ref q5, .int 0, .int 0, .int 0])), (q5, .inl (e1, 16, .inl (fun _ => 0))), (q3, .inl (e2, 64, .inl (fun _ => 0))), (q1, .inr (3, [.ref q2])), (q6, .inr (12, [.ref zde, .int 0, .int 0])), (q7, .inl (e3, 16, .inl (fun _ => 0)))] t.heap ∧ va_K (dC, dI) classes [(e1, .byte), (e2, .int), (e3, .int)] t ∧ va_D (va_A [(h0, .inr (11, [.null, .null, .null, .null, .null, .int 0, .null, .int 0, .int 0])), (h1, .inr (3, [.ref h3]))] sz) [(h0, .inr (11, [.ref h1, .ref h3, .ref h2, .ref q1, .ref q6, .int 0, .ref q7, .int 0, .int 0])), (h1, .inr (3, [.ref h3])), (q2, .inr (4, [.ref q3, .int 1, .int 0, .ref q4])), (q4, .inr (5, [.ref q5, .int 0, .int 0, .int 0])), (q5, .inl (e1, 16, .inl (fun _ => 0))), (q3, .inl (e2, 64, .inl (fun _ => 0))), (q1, .inr (3, [.ref q2])), (q6, .inr (12, [.ref zde, .int 0, .int 0])), (q7, .inl (e3, 16, .inl (fun _ => 0)))]) (va_A [(h0, .inr (11, [.null, .null, .null, .null, .null, .int 0, .null, .int 0, .int 0])), (h1, .inr (3, [.ref h3]))] sz)) 7 108 (va_A [(h0, .inr (11, [.null, .null, .null, .null, .null, .int 0, .null, .int 0, .int 0])), (h1, .inr (3, [.ref h3]))] sz) := by
  refine Met.ofW (cc := prog_8_method_1_code) (maxL := 3) (ret := (Option.none : Option Jvm.ClassFile.FieldType)) (by decide) rfl ?_
  intro p e s m args below meth c s₁ B hml hv
  obtain ⟨rfl, hsz, hP, hK, hD0, hX, hZ_cs, hZ_de⟩ := hv
  have hx := B.exec
  have hb := B.bytes
  have hr := B.returns
  have hts0 := atoms_spec (ws := w_C_Roots_init_LCellDec) B.pre
  have hts : ∀ w ∈ zg_tbl, w.before _ s = true := fun w h => hts0 w (List.mem_cons_of_mem _ h)
  have hown : s.vm.findClass "CellDecide$Roots" = some m.cls := findClass_of_methodNamed B.named
  have hlocks := B.notSynchronized
  have hin : meth.name = "<init>" := (name_of_methodNamed B.named B.method).1
  subst hsz
  have hD := hD0.self (sz := s.heap.size)
  generalize hAe : va_A [(h0, .inr (11, [.null, .null, .null, .null, .null, .int 0, .null, .int 0, .int 0])), (h1, .inr (3, [.ref h3]))] s.heap.size = A at hD hZ_cs hZ_de ⊢
  have hA : ∀ q : Nat, s.heap.size ≤ q → A q := fun q h => by rw [← hAe]; exact Or.inr h
  have hS : va_S A s.heap s.heap [] := va_S.rf
  have hl := lv_entry ([.ref h0, .ref h1, .ref h2]) (n := 3) (Nat.le_of_ble_eq_true rfl)
  rw [lg_entry_eq]
  generalize (lg_sl ([.ref h0, .ref h1, .ref h2]) ++ List.replicate (3 - (lg_sl ([.ref h0, .ref h1, .ref h2])).length) Slot.unset).toArray = ls at hl ⊢
  have hl : lv_has ls 3 [(0, .ref h0), (1, .ref h1), (2, .ref h2)] := hl
  refine lv_aload_n hx hb d_C_Roots_init_LCellDec_0 rfl (lv_at hl 0 rfl) ?_
  refine W.objInit hx hb hown (hts _ k_172) (hts _ k_1) (hts _ k_2) rfl (by rw [hml]; exact hl.1) rfl d_C_Roots_init_LCellDec_1 (Nat.le_of_ble_eq_true rfl) (Nat.le_of_ble_eq_true rfl) ?_
  refine W.eq (g2 := F0 m 4 ls []) rfl ?_
  refine lv_aload_n hx hb d_C_Roots_init_LCellDec_4 rfl (lv_at hl 0 rfl) ?_
  refine va_new (ci := 3) (fs := [.null]) (C := R_C_Polys) (T := F_C_Polys) (N := 1) hx hb hts i_C_Polys t_C_Polys t_C_Polys_ok hown (hts _ k_173) (hts _ k_46) (hts _ k_47) hK hP hD hS hA rfl (zn_C_Polys) (Nat.le_of_ble_eq_true rfl) (Nat.le_of_ble_eq_true rfl) d_C_Roots_init_LCellDec_5 (fun q1 H_1 hP_1 hD_1 hS_1 => ?_)
  clear hP hD hS
  have hP_2 : va_P (dC, dI) classes [(h0, .inr (11, [.null, .null, .null, .null, .null, .int 0, .null, .int 0, .int 0])), (h1, .inr (3, [.ref h3])), (q1, .inr (3, [.null]))] H_1 := hP_1
  clear hP_1
  have hD_2 : va_D A [(h0, .inr (11, [.null, .null, .null, .null, .null, .int 0, .null, .int 0, .int 0])), (h1, .inr (3, [.ref h3])), (q1, .inr (3, [.null]))] := hD_1
  clear hD_1
  refine W.widen (k := 1) (n := 1) (Nat.le_of_ble_eq_true rfl) (Nat.le_of_ble_eq_true rfl) ?_
  refine lv_dup hx hb d_C_Roots_init_LCellDec_8 rfl ?_
  refine va_new (ci := 4) (fs := [.null, .int 0, .int 0, .null]) (C := R_C_Numbers) (T := F_C_Numbers) (N := 4) hx hb hts i_C_Numbers t_C_Numbers t_C_Numbers_ok hown (hts _ k_174) (hts _ k_49) (hts _ k_50) hK hP_2 hD_2 hS_1 hA rfl (zn_C_Numbers) (Nat.le_of_ble_eq_true rfl) (Nat.le_of_ble_eq_true rfl) d_C_Roots_init_LCellDec_9 (fun q2 H_2 hP_3 hD_3 hS_2 => ?_)
  clear hP_2 hD_2 hS_1
  have hP_4 : va_P (dC, dI) classes [(h0, .inr (11, [.null, .null, .null, .null, .null, .int 0, .null, .int 0, .int 0])), (h1, .inr (3, [.ref h3])), (q1, .inr (3, [.null])), (q2, .inr (4, [.null, .int 0, .int 0, .null]))] H_2 := hP_3
  clear hP_3
  have hD_4 : va_D A [(h0, .inr (11, [.null, .null, .null, .null, .null, .int 0, .null, .int 0, .int 0])), (h1, .inr (3, [.ref h3])), (q1, .inr (3, [.null])), (q2, .inr (4, [.null, .int 0, .int 0, .null]))] := hD_3
  clear hD_3
  refine W.widen (k := 2) (n := 5) (Nat.le_of_ble_eq_true rfl) (Nat.le_of_ble_eq_true rfl) ?_
  refine lv_dup hx hb d_C_Roots_init_LCellDec_12 rfl ?_
  refine lv_bipush (v := 64) hx hb d_C_Roots_init_LCellDec_13 (by decide) ?_
  have hPc := hP_4.sub (ws' := [(q2, .inr (4, [.null, .int 0, .int 0, .null]))]) [3] rfl
  have hDc := hD_4.sub (ws' := [(q2, .inr (4, [.null, .int 0, .int 0, .null]))]) [3] (by decide) rfl
  have hKc := hK.sub (tys' := []) [] rfl
  have hFc := va_free (wc := [(q2, .inr (4, [.null, .int 0, .int 0, .null]))]) hD_4 hS_2 hA [3] rfl
  have hZc_cs := (hZ_cs.kept hS_2.2.1).narrow hFc
  refine va_callv (va_runI (As := [.int 64]) (rest := [.ref q2, .ref q1, .ref q1, .ref h0]) ⟨hx, hb, hml, hown, hts⟩ (c_C_Numbers_init_I_v2 l dC dI q2 H_2.size) (cwI 1 hts (zt_G k_73) rfl rfl rfl (hts _ k_50) (hts _ k_175) (hts _ k_75) rfl (by decide +kernel) ⟨Nat.le_of_ble_eq_true rfl, Nat.le_of_ble_eq_true rfl⟩) ⟨fun a U g mk q => by obtain ⟨q0, q1, qP, qK, qD, qX, qz0⟩ := q; exact ⟨q0, q1, qP, va_K.moved (u := U) (U := U.calling g mk a) (Vm.Alike.refl U.vm) qK, qD, qX.call, qz0.moved (u := U) (U := U.calling g mk a) (Vm.Alike.refl U.vm)⟩, fun U hU hW => ⟨rfl, by rw [hU], by rw [hU]; exact hPc, va_K.moved hW.alike hKc, hDc.weaken (fun _ _ _ _ => trivial), hX.warm hW, by rw [hU]; exact hZc_cs.moved hW.alike⟩⟩ rfl rfl hl.1 rfl (lv_room (Nat.le_of_ble_eq_true rfl)) d_C_Roots_init_LCellDec_15 ⟨Nat.le_of_ble_eq_true rfl, Nat.le_of_ble_eq_true rfl⟩) hS_2 (fun q _ h => hFc q h) hFc (fun u t H1 locs_1 ht hvm hw hB hz1 hk1 hS_3 => ?_)
  obtain ⟨q3, q4, q5, e1, e2, hP1, hK1, hD1⟩ := hB
  rw [ht] at hP1
  have hK1 := va_K.moved hvm.symm hK1
  obtain ⟨hP_5, hD_5⟩ := va_join (wr := [(h0, .inr (11, [.null, .null, .null, .null, .null, .int 0, .null, .int 0, .int 0])), (h1, .inr (3, [.ref h3])), (q1, .inr (3, [.null]))]) (w1 := [(q2, .inr (4, [.ref q3, .int 1, .int 0, .ref q4])), (q4, .inr (5, [.ref q5, .int 0, .int 0, .int 0])), (q5, .inl (e1, 16, .inl (fun _ => 0))), (q3, .inl (e2, 64, .inl (fun _ => 0)))]) hP_4 hD_4 [3] [0, 1, 2] rfl rfl (by decide) (by decide) hk1 hFc hP1 hD1
  clear hP_4 hD_4 hP1 hD1 hPc hDc hKc hFc hk1 hz1
  have hK_1 := hK.app hK1
  clear hK
  generalize H1 = H_3 at hP_5 hS_3 ⊢
  have hP_6 : va_P (dC, dI) classes [(h0, .inr (11, [.null, .null, .null, .null, .null, .int 0, .null, .int 0, .int 0])), (h1, .inr (3, [.ref h3])), (q1, .inr (3, [.null])), (q2, .inr (4, [.ref q3, .int 1, .int 0, .ref q4])), (q4, .inr (5, [.ref q5, .int 0, .int 0, .int 0])), (q5, .inl (e1, 16, .inl (fun _ => 0))), (q3, .inl (e2, 64, .inl (fun _ => 0)))] H_3 := hP_5
  clear hP_5
  have hD_6 : va_D A [(h0, .inr (11, [.null, .null, .null, .null, .null, .int 0, .null, .int 0, .int 0])), (h1, .inr (3, [.ref h3])), (q1, .inr (3, [.null])), (q2, .inr (4, [.ref q3, .int 1, .int 0, .ref q4])), (q4, .inr (5, [.ref q5, .int 0, .int 0, .int 0])), (q5, .inl (e1, 16, .inl (fun _ => 0))), (q3, .inl (e2, 64, .inl (fun _ => 0)))] := hD_5
  clear hD_5
  have hK_2 : va_K (dC, dI) classes [(e1, .byte), (e2, .int)] s := hK_1
  clear hK_1
  refine W.widen (k := 5) (n := 89) (Nat.le_of_ble_eq_true rfl) (Nat.le_of_ble_eq_true rfl) ?_
  have hPc := hP_6.sub (ws' := [(q1, .inr (3, [.null]))]) [2] rfl
  have hDc := hD_6.sub (ws' := [(q1, .inr (3, [.null]))]) [2] (by decide) rfl
  have hKc := hK_2.sub (tys' := []) [] rfl
  have hFc := va_free (wc := [(q1, .inr (3, [.null]))]) hD_6 hS_3 hA [2] rfl
  refine va_callv (va_runI (As := [.ref q2]) (rest := [.ref q1, .ref h0]) ⟨hx, hb, hml, hown, hts⟩ (c_C_Polys_init_LCellDec l dC dI q1 q2 H_3.size) (cwI 1 hts (zt_G k_78) rfl rfl rfl (hts _ k_47) (hts _ k_176) (hts _ k_80) rfl (by decide +kernel) ⟨Nat.le_of_ble_eq_true rfl, Nat.le_of_ble_eq_true rfl⟩) ⟨fun a U g mk q => by obtain ⟨q0, q1, qP, qK, qD, qX⟩ := q; exact ⟨q0, q1, qP, va_K.moved (u := U) (U := U.calling g mk a) (Vm.Alike.refl U.vm) qK, qD, qX.call⟩, fun U hU hW => ⟨rfl, by rw [hU], by rw [hU]; exact hPc, va_K.moved hW.alike hKc, hDc.weaken (fun _ _ _ _ => trivial), hX.warm hW⟩⟩ rfl rfl hl.1 rfl (lv_room (Nat.le_of_ble_eq_true rfl)) d_C_Roots_init_LCellDec_18 ⟨Nat.le_of_ble_eq_true rfl, Nat.le_of_ble_eq_true rfl⟩) hS_3 (fun q _ h => hFc q h) hFc (fun u t H1 locs_2 ht hvm hw hB hz1 hk1 hS_4 => ?_)
  obtain ⟨hP1, hK1, hD1⟩ := hB
  rw [ht] at hP1
  have hK1 := va_K.moved hvm.symm hK1
  obtain ⟨hP_7, hD_7⟩ := va_join (wr := [(h0, .inr (11, [.null, .null, .null, .null, .null, .int 0, .null, .int 0, .int 0])), (h1, .inr (3, [.ref h3])), (q2, .inr (4, [.ref q3, .int 1, .int 0, .ref q4])), (q4, .inr (5, [.ref q5, .int 0, .int 0, .int 0])), (q5, .inl (e1, 16, .inl (fun _ => 0))), (q3, .inl (e2, 64, .inl (fun _ => 0)))]) (w1 := [(q1, .inr (3, [.ref q2]))]) hP_6 hD_6 [2] [0, 1, 3, 4, 5, 6] rfl rfl (by decide) (by decide) hk1 hFc hP1 hD1
  clear hP_6 hD_6 hP1 hD1 hPc hDc hKc hFc hk1 hz1
  generalize H1 = H_4 at hP_7 hS_4 ⊢
  have hP_8 : va_P (dC, dI) classes [(h0, .inr (11, [.null, .null, .null, .null, .null, .int 0, .null, .int 0, .int 0])), (h1, .inr (3, [.ref h3])), (q2, .inr (4, [.ref q3, .int 1, .int 0, .ref q4])), (q4, .inr (5, [.ref q5, .int 0, .int 0, .int 0])), (q5, .inl (e1, 16, .inl (fun _ => 0))), (q3, .inl (e2, 64, .inl (fun _ => 0))), (q1, .inr (3, [.ref q2]))] H_4 := hP_7
  clear hP_7
  have hD_8 : va_D A [(h0, .inr (11, [.null, .null, .null, .null, .null, .int 0, .null, .int 0, .int 0])), (h1, .inr (3, [.ref h3])), (q2, .inr (4, [.ref q3, .int 1, .int 0, .ref q4])), (q4, .inr (5, [.ref q5, .int 0, .int 0, .int 0])), (q5, .inl (e1, 16, .inl (fun _ => 0))), (q3, .inl (e2, 64, .inl (fun _ => 0))), (q1, .inr (3, [.ref q2]))] := hD_7
  clear hD_7
  refine W.widen (k := 5) (n := 89) (Nat.le_of_ble_eq_true rfl) (Nat.le_of_ble_eq_true rfl) ?_
  refine va_putF (D := (dC, dI)) (ci := 11) (v := .ref q1) (ty := .object "CellDecide$Polys") (C := R_C_Roots) (T := F_C_Roots) (N := 9) hx hb hts i_C_Roots t_C_Roots t_C_Roots_ok n_C_Roots hown hK_2 hP_8 hD_8 hS_4 0 rfl rfl 3 (by decide) (hts _ k_177) (fun _ h9 => h9) rfl hin rfl (by decide +kernel) rfl rfl (Nat.le_of_ble_eq_true rfl) d_C_Roots_init_LCellDec_21 (fun H_5 locs_3 hP_9 hD_9 hS_5 => ?_)
  clear hP_8 hD_8 hS_4
  have hP_10 : va_P (dC, dI) classes [(h0, .inr (11, [.null, .null, .null, .ref q1, .null, .int 0, .null, .int 0, .int 0])), (h1, .inr (3, [.ref h3])), (q2, .inr (4, [.ref q3, .int 1, .int 0, .ref q4])), (q4, .inr (5, [.ref q5, .int 0, .int 0, .int 0])), (q5, .inl (e1, 16, .inl (fun _ => 0))), (q3, .inl (e2, 64, .inl (fun _ => 0))), (q1, .inr (3, [.ref q2]))] H_5 := hP_9
  clear hP_9
  have hD_10 : va_D A [(h0, .inr (11, [.null, .null, .null, .ref q1, .null, .int 0, .null, .int 0, .int 0])), (h1, .inr (3, [.ref h3])), (q2, .inr (4, [.ref q3, .int 1, .int 0, .ref q4])), (q4, .inr (5, [.ref q5, .int 0, .int 0, .int 0])), (q5, .inl (e1, 16, .inl (fun _ => 0))), (q3, .inl (e2, 64, .inl (fun _ => 0))), (q1, .inr (3, [.ref q2]))] := hD_9
  clear hD_9
  refine lv_aload_n hx hb d_C_Roots_init_LCellDec_24 rfl (lv_at hl 0 rfl) ?_
  refine va_new (ci := 12) (fs := [.null, .int 0, .int 0]) (C := R_ArrayList) (T := F_ArrayList) (N := 3) hx hb hts i_ArrayList t_ArrayList t_ArrayList_ok hown (hts _ k_178) (hts _ k_179) (hts _ k_180) hK_2 hP_10 hD_10 hS_5 hA rfl (zn_ArrayList) (Nat.le_of_ble_eq_true rfl) (Nat.le_of_ble_eq_true rfl) d_C_Roots_init_LCellDec_25 (fun q6 H_6 hP_11 hD_11 hS_6 => ?_)
  clear hP_10 hD_10 hS_5
  have hP_12 : va_P (dC, dI) classes [(h0, .inr (11, [.null, .null, .null, .ref q1, .null, .int 0, .null, .int 0, .int 0])), (h1, .inr (3, [.ref h3])), (q2, .inr (4, [.ref q3, .int 1, .int 0, .ref q4])), (q4, .inr (5, [.ref q5, .int 0, .int 0, .int 0])), (q5, .inl (e1, 16, .inl (fun _ => 0))), (q3, .inl (e2, 64, .inl (fun _ => 0))), (q1, .inr (3, [.ref q2])), (q6, .inr (12, [.null, .int 0, .int 0]))] H_6 := hP_11
  clear hP_11
  have hD_12 : va_D A [(h0, .inr (11, [.null, .null, .null, .ref q1, .null, .int 0, .null, .int 0, .int 0])), (h1, .inr (3, [.ref h3])), (q2, .inr (4, [.ref q3, .int 1, .int 0, .ref q4])), (q4, .inr (5, [.ref q5, .int 0, .int 0, .int 0])), (q5, .inl (e1, 16, .inl (fun _ => 0))), (q3, .inl (e2, 64, .inl (fun _ => 0))), (q1, .inr (3, [.ref q2])), (q6, .inr (12, [.null, .int 0, .int 0]))] := hD_11
  clear hD_11
  refine W.widen (k := 6) (n := 92) (Nat.le_of_ble_eq_true rfl) (Nat.le_of_ble_eq_true rfl) ?_
  refine lv_dup hx hb d_C_Roots_init_LCellDec_28 rfl ?_
  have hPc := hP_12.sub (ws' := [(q6, .inr (12, [.null, .int 0, .int 0]))]) [7] rfl
  have hDc := hD_12.sub (ws' := [(q6, .inr (12, [.null, .int 0, .int 0]))]) [7] (by decide) rfl
  have hKc := hK_2.sub (tys' := []) [] rfl
  have hFc := va_free (wc := [(q6, .inr (12, [.null, .int 0, .int 0]))]) hD_12 hS_6 hA [7] rfl
  have hZc_de := (hZ_de.kept hS_6.2.1).narrow hFc
  refine va_callv (va_runI (As := []) (rest := [.ref q6, .ref h0]) ⟨hx, hb, hml, hown, hts⟩ (c_ArrayList_init l dC dI q6 zde H_6.size) (cwI 0 hts (zt_G k_193) rfl rfl rfl (hts _ k_180) (hts _ k_194) (hts _ k_195) rfl (by decide +kernel) ⟨Nat.le_of_ble_eq_true rfl, Nat.le_of_ble_eq_true rfl⟩) ⟨fun a U g mk q => by obtain ⟨q0, q1, qP, qK, qD, qX, qz0⟩ := q; exact ⟨q0, q1, qP, va_K.moved (u := U) (U := U.calling g mk a) (Vm.Alike.refl U.vm) qK, qD, qX.call, qz0.moved (u := U) (U := U.calling g mk a) (Vm.Alike.refl U.vm)⟩, fun U hU hW => ⟨rfl, by rw [hU], by rw [hU]; exact hPc, va_K.moved hW.alike hKc, hDc.weaken (fun _ _ _ _ => trivial), hX.warm hW, by rw [hU]; exact hZc_de.moved hW.alike⟩⟩ rfl rfl hl.1 rfl (lv_room (Nat.le_of_ble_eq_true rfl)) d_C_Roots_init_LCellDec_29 ⟨Nat.le_of_ble_eq_true rfl, Nat.le_of_ble_eq_true rfl⟩) hS_6 (fun q _ h => hFc q h) hFc (fun u t H1 locs_4 ht hvm hw hB hz1 hk1 hS_7 => ?_)
  obtain ⟨hP1, hK1, hD1⟩ := hB
  rw [ht] at hP1
  have hK1 := va_K.moved hvm.symm hK1
  obtain ⟨hP_13, hD_13⟩ := va_join (wr := [(h0, .inr (11, [.null, .null, .null, .ref q1, .null, .int 0, .null, .int 0, .int 0])), (h1, .inr (3, [.ref h3])), (q2, .inr (4, [.ref q3, .int 1, .int 0, .ref q4])), (q4, .inr (5, [.ref q5, .int 0, .int 0, .int 0])), (q5, .inl (e1, 16, .inl (fun _ => 0))), (q3, .inl (e2, 64, .inl (fun _ => 0))), (q1, .inr (3, [.ref q2]))]) (w1 := [(q6, .inr (12, [.ref zde, .int 0, .int 0]))]) hP_12 hD_12 [7] [0, 1, 2, 3, 4, 5, 6] rfl rfl (by decide) (by decide) hk1 hFc hP1 hD1
  clear hP_12 hD_12 hP1 hD1 hPc hDc hKc hFc hk1 hz1
  generalize H1 = H_7 at hP_13 hS_7 ⊢
  have hP_14 : va_P (dC, dI) classes [(h0, .inr (11, [.null, .null, .null, .ref q1, .null, .int 0, .null, .int 0, .int 0])), (h1, .inr (3, [.ref h3])), (q2, .inr (4, [.ref q3, .int 1, .int 0, .ref q4])), (q4, .inr (5, [.ref q5, .int 0, .int 0, .int 0])), (q5, .inl (e1, 16, .inl (fun _ => 0))), (q3, .inl (e2, 64, .inl (fun _ => 0))), (q1, .inr (3, [.ref q2])), (q6, .inr (12, [.ref zde, .int 0, .int 0]))] H_7 := hP_13
  clear hP_13
  have hD_14 : va_D A [(h0, .inr (11, [.null, .null, .null, .ref q1, .null, .int 0, .null, .int 0, .int 0])), (h1, .inr (3, [.ref h3])), (q2, .inr (4, [.ref q3, .int 1, .int 0, .ref q4])), (q4, .inr (5, [.ref q5, .int 0, .int 0, .int 0])), (q5, .inl (e1, 16, .inl (fun _ => 0))), (q3, .inl (e2, 64, .inl (fun _ => 0))), (q1, .inr (3, [.ref q2])), (q6, .inr (12, [.ref zde, .int 0, .int 0]))] := hD_13
  clear hD_13
  refine W.widen (k := 6) (n := 92) (Nat.le_of_ble_eq_true rfl) (Nat.le_of_ble_eq_true rfl) ?_
  refine va_putF (D := (dC, dI)) (ci := 11) (v := .ref q6) (ty := .object "java/util/ArrayList") (C := R_C_Roots) (T := F_C_Roots) (N := 9) hx hb hts i_C_Roots t_C_Roots t_C_Roots_ok n_C_Roots hown hK_2 hP_14 hD_14 hS_7 0 rfl rfl 4 (by decide) (hts _ k_196) (fun _ h9 => h9) rfl hin rfl (by decide +kernel) rfl rfl (Nat.le_of_ble_eq_true rfl) d_C_Roots_init_LCellDec_32 (fun H_8 locs_5 hP_15 hD_15 hS_8 => ?_)
  clear hP_14 hD_14 hS_7
  have hP_16 : va_P (dC, dI) classes [(h0, .inr (11, [.null, .null, .null, .ref q1, .ref q6, .int 0, .null, .int 0, .int 0])), (h1, .inr (3, [.ref h3])), (q2, .inr (4, [.ref q3, .int 1, .int 0, .ref q4])), (q4, .inr (5, [.ref q5, .int 0, .int 0, .int 0])), (q5, .inl (e1, 16, .inl (fun _ => 0))), (q3, .inl (e2, 64, .inl (fun _ => 0))), (q1, .inr (3, [.ref q2])), (q6, .inr (12, [.ref zde, .int 0, .int 0]))] H_8 := hP_15
  clear hP_15
  have hD_16 : va_D A [(h0, .inr (11, [.null, .null, .null, .ref q1, .ref q6, .int 0, .null, .int 0, .int 0])), (h1, .inr (3, [.ref h3])), (q2, .inr (4, [.ref q3, .int 1, .int 0, .ref q4])), (q4, .inr (5, [.ref q5, .int 0, .int 0, .int 0])), (q5, .inl (e1, 16, .inl (fun _ => 0))), (q3, .inl (e2, 64, .inl (fun _ => 0))), (q1, .inr (3, [.ref q2])), (q6, .inr (12, [.ref zde, .int 0, .int 0]))] := hD_15
  clear hD_15
  refine lv_aload_n hx hb d_C_Roots_init_LCellDec_35 rfl (lv_at hl 0 rfl) ?_
  refine lv_bipush (v := 16) hx hb d_C_Roots_init_LCellDec_36 (by decide) ?_
  refine va_newa (atype := .int) (a0 := (16, .inl (fun _ => 0))) hx hb (hts _ k_10) rfl hK_2 hP_16 hD_16 hS_8 hA (fun _ => rfl) (by decide) (N' := 16) (by decide) (Nat.le_of_ble_eq_true rfl) (Nat.le_of_ble_eq_true rfl) (Nat.le_of_ble_eq_true rfl) d_C_Roots_init_LCellDec_38 (fun q7 e3 H_9 hK_3 hP_17 hD_17 hS_9 => ?_)
  clear hK_2 hP_16 hD_16 hS_8
  have hP_18 : va_P (dC, dI) classes [(h0, .inr (11, [.null, .null, .null, .ref q1, .ref q6, .int 0, .null, .int 0, .int 0])), (h1, .inr (3, [.ref h3])), (q2, .inr (4, [.ref q3, .int 1, .int 0, .ref q4])), (q4, .inr (5, [.ref q5, .int 0, .int 0, .int 0])), (q5, .inl (e1, 16, .inl (fun _ => 0))), (q3, .inl (e2, 64, .inl (fun _ => 0))), (q1, .inr (3, [.ref q2])), (q6, .inr (12, [.ref zde, .int 0, .int 0])), (q7, .inl (e3, 16, .inl (fun _ => 0)))] H_9 := hP_17
  clear hP_17
  have hD_18 : va_D A [(h0, .inr (11, [.null, .null, .null, .ref q1, .ref q6, .int 0, .null, .int 0, .int 0])), (h1, .inr (3, [.ref h3])), (q2, .inr (4, [.ref q3, .int 1, .int 0, .ref q4])), (q4, .inr (5, [.ref q5, .int 0, .int 0, .int 0])), (q5, .inl (e1, 16, .inl (fun _ => 0))), (q3, .inl (e2, 64, .inl (fun _ => 0))), (q1, .inr (3, [.ref q2])), (q6, .inr (12, [.ref zde, .int 0, .int 0])), (q7, .inl (e3, 16, .inl (fun _ => 0)))] := hD_17
  clear hD_17
  have hK_4 : va_K (dC, dI) classes [(e1, .byte), (e2, .int), (e3, .int)] s := hK_3
  clear hK_3
  refine W.widen (k := 7) (n := 108) (Nat.le_of_ble_eq_true rfl) (Nat.le_of_ble_eq_true rfl) ?_
  refine va_put (D := (dC, dI)) (ci := 11) (v := .ref q7) (ty := .array .int) (C := R_C_Roots) (T := F_C_Roots) (N := 9) hx hb hts i_C_Roots t_C_Roots t_C_Roots_ok n_C_Roots hown hK_4 hP_18 hD_18 hS_9 0 rfl rfl 6 (by decide) (hts _ k_197) (fun _ h9 => h9) rfl (by decide +kernel) rfl rfl (Nat.le_of_ble_eq_true rfl) d_C_Roots_init_LCellDec_40 (fun H_10 locs_6 hP_19 hD_19 hS_10 => ?_)
  clear hP_18 hD_18 hS_9
  have hP_20 : va_P (dC, dI) classes [(h0, .inr (11, [.null, .null, .null, .ref q1, .ref q6, .int 0, .ref q7, .int 0, .int 0])), (h1, .inr (3, [.ref h3])), (q2, .inr (4, [.ref q3, .int 1, .int 0, .ref q4])), (q4, .inr (5, [.ref q5, .int 0, .int 0, .int 0])), (q5, .inl (e1, 16, .inl (fun _ => 0))), (q3, .inl (e2, 64, .inl (fun _ => 0))), (q1, .inr (3, [.ref q2])), (q6, .inr (12, [.ref zde, .int 0, .int 0])), (q7, .inl (e3, 16, .inl (fun _ => 0)))] H_10 := hP_19
  clear hP_19
  have hD_20 : va_D A [(h0, .inr (11, [.null, .null, .null, .ref q1, .ref q6, .int 0, .ref q7, .int 0, .int 0])), (h1, .inr (3, [.ref h3])), (q2, .inr (4, [.ref q3, .int 1, .int 0, .ref q4])), (q4, .inr (5, [.ref q5, .int 0, .int 0, .int 0])), (q5, .inl (e1, 16, .inl (fun _ => 0))), (q3, .inl (e2, 64, .inl (fun _ => 0))), (q1, .inr (3, [.ref q2])), (q6, .inr (12, [.ref zde, .int 0, .int 0])), (q7, .inl (e3, 16, .inl (fun _ => 0)))] := hD_19
  clear hD_19
  refine lv_aload_n hx hb d_C_Roots_init_LCellDec_43 rfl (lv_at hl 0 rfl) ?_
  refine lv_aload_n hx hb d_C_Roots_init_LCellDec_44 rfl (lv_at hl 1 rfl) ?_
  refine va_putF (D := (dC, dI)) (ci := 11) (v := .ref h1) (ty := .object "CellDecide$Polys") (C := R_C_Roots) (T := F_C_Roots) (N := 9) hx hb hts i_C_Roots t_C_Roots t_C_Roots_ok n_C_Roots hown hK_4 hP_20 hD_20 hS_10 0 rfl rfl 0 (by decide) (hts _ k_198) (fun _ h9 => h9) rfl hin rfl (by decide +kernel) rfl rfl (Nat.le_of_ble_eq_true rfl) d_C_Roots_init_LCellDec_45 (fun H_11 locs_7 hP_21 hD_21 hS_11 => ?_)
  clear hP_20 hD_20 hS_10
  have hP_22 : va_P (dC, dI) classes [(h0, .inr (11, [.ref h1, .null, .null, .ref q1, .ref q6, .int 0, .ref q7, .int 0, .int 0])), (h1, .inr (3, [.ref h3])), (q2, .inr (4, [.ref q3, .int 1, .int 0, .ref q4])), (q4, .inr (5, [.ref q5, .int 0, .int 0, .int 0])), (q5, .inl (e1, 16, .inl (fun _ => 0))), (q3, .inl (e2, 64, .inl (fun _ => 0))), (q1, .inr (3, [.ref q2])), (q6, .inr (12, [.ref zde, .int 0, .int 0])), (q7, .inl (e3, 16, .inl (fun _ => 0)))] H_11 := hP_21
  clear hP_21
  have hD_22 : va_D A [(h0, .inr (11, [.ref h1, .null, .null, .ref q1, .ref q6, .int 0, .ref q7, .int 0, .int 0])), (h1, .inr (3, [.ref h3])), (q2, .inr (4, [.ref q3, .int 1, .int 0, .ref q4])), (q4, .inr (5, [.ref q5, .int 0, .int 0, .int 0])), (q5, .inl (e1, 16, .inl (fun _ => 0))), (q3, .inl (e2, 64, .inl (fun _ => 0))), (q1, .inr (3, [.ref q2])), (q6, .inr (12, [.ref zde, .int 0, .int 0])), (q7, .inl (e3, 16, .inl (fun _ => 0)))] := hD_21
  clear hD_21
  refine lv_aload_n hx hb d_C_Roots_init_LCellDec_48 rfl (lv_at hl 0 rfl) ?_
  refine lv_aload_n hx hb d_C_Roots_init_LCellDec_49 rfl (lv_at hl 2 rfl) ?_
  refine va_putF (D := (dC, dI)) (ci := 11) (v := .ref h2) (ty := .object "CellDecide$Splitter") (C := R_C_Roots) (T := F_C_Roots) (N := 9) hx hb hts i_C_Roots t_C_Roots t_C_Roots_ok n_C_Roots hown hK_4 hP_22 hD_22 hS_11 0 rfl rfl 2 (by decide) (hts _ k_199) (fun _ h9 => h9) rfl hin rfl (by decide +kernel) rfl rfl (Nat.le_of_ble_eq_true rfl) d_C_Roots_init_LCellDec_50 (fun H_12 locs_8 hP_23 hD_23 hS_12 => ?_)
  clear hP_22 hD_22 hS_11
  have hP_24 : va_P (dC, dI) classes [(h0, .inr (11, [.ref h1, .null, .ref h2, .ref q1, .ref q6, .int 0, .ref q7, .int 0, .int 0])), (h1, .inr (3, [.ref h3])), (q2, .inr (4, [.ref q3, .int 1, .int 0, .ref q4])), (q4, .inr (5, [.ref q5, .int 0, .int 0, .int 0])), (q5, .inl (e1, 16, .inl (fun _ => 0))), (q3, .inl (e2, 64, .inl (fun _ => 0))), (q1, .inr (3, [.ref q2])), (q6, .inr (12, [.ref zde, .int 0, .int 0])), (q7, .inl (e3, 16, .inl (fun _ => 0)))] H_12 := hP_23
  clear hP_23
  have hD_24 : va_D A [(h0, .inr (11, [.ref h1, .null, .ref h2, .ref q1, .ref q6, .int 0, .ref q7, .int 0, .int 0])), (h1, .inr (3, [.ref h3])), (q2, .inr (4, [.ref q3, .int 1, .int 0, .ref q4])), (q4, .inr (5, [.ref q5, .int 0, .int 0, .int 0])), (q5, .inl (e1, 16, .inl (fun _ => 0))), (q3, .inl (e2, 64, .inl (fun _ => 0))), (q1, .inr (3, [.ref q2])), (q6, .inr (12, [.ref zde, .int 0, .int 0])), (q7, .inl (e3, 16, .inl (fun _ => 0)))] := hD_23
  clear hD_23
  refine lv_aload_n hx hb d_C_Roots_init_LCellDec_53 rfl (lv_at hl 0 rfl) ?_
  refine lv_aload_n hx hb d_C_Roots_init_LCellDec_54 rfl (lv_at hl 1 rfl) ?_
  refine va_get (D := (dC, dI)) (ci := 3) (v := .ref h3) (C := R_C_Polys) (T := F_C_Polys) (N := 1) hx hb hts i_C_Polys hown hK_4 hP_24 1 rfl rfl 0 (by decide) (hts _ k_200) (fun _ h9 => h9) rfl d_C_Roots_init_LCellDec_55 ?_
  refine va_putF (D := (dC, dI)) (ci := 11) (v := .ref h3) (ty := .object "CellDecide$Numbers") (C := R_C_Roots) (T := F_C_Roots) (N := 9) hx hb hts i_C_Roots t_C_Roots t_C_Roots_ok n_C_Roots hown hK_4 hP_24 hD_24 hS_12 0 rfl rfl 1 (by decide) (hts _ k_201) (fun _ h9 => h9) rfl hin rfl (by decide +kernel) rfl rfl (Nat.le_of_ble_eq_true rfl) d_C_Roots_init_LCellDec_58 (fun H_13 locs_9 hP_25 hD_25 hS_13 => ?_)
  clear hP_24 hD_24 hS_12
  have hP_26 : va_P (dC, dI) classes [(h0, .inr (11, [.ref h1, .ref h3, .ref h2, .ref q1, .ref q6, .int 0, .ref q7, .int 0, .int 0])), (h1, .inr (3, [.ref h3])), (q2, .inr (4, [.ref q3, .int 1, .int 0, .ref q4])), (q4, .inr (5, [.ref q5, .int 0, .int 0, .int 0])), (q5, .inl (e1, 16, .inl (fun _ => 0))), (q3, .inl (e2, 64, .inl (fun _ => 0))), (q1, .inr (3, [.ref q2])), (q6, .inr (12, [.ref zde, .int 0, .int 0])), (q7, .inl (e3, 16, .inl (fun _ => 0)))] H_13 := hP_25
  clear hP_25
  have hD_26 : va_D A [(h0, .inr (11, [.ref h1, .ref h3, .ref h2, .ref q1, .ref q6, .int 0, .ref q7, .int 0, .int 0])), (h1, .inr (3, [.ref h3])), (q2, .inr (4, [.ref q3, .int 1, .int 0, .ref q4])), (q4, .inr (5, [.ref q5, .int 0, .int 0, .int 0])), (q5, .inl (e1, 16, .inl (fun _ => 0))), (q3, .inl (e2, 64, .inl (fun _ => 0))), (q1, .inr (3, [.ref q2])), (q6, .inr (12, [.ref zde, .int 0, .int 0])), (q7, .inl (e3, 16, .inl (fun _ => 0)))] := hD_25
  clear hD_25
  refine W.widen (k := 7) (n := 108) (Nat.le_of_ble_eq_true rfl) (Nat.le_of_ble_eq_true rfl) ?_
  have hK9 := hK_4.sub (tys' := [(e1, .byte), (e2, .int), (e3, .int)]) [0, 1, 2] rfl
  exact W.vret hx hb hr (fun t ht hW => ⟨⟨(), rfl, trivial, q1, q6, q7, q2, q3, q4, q5, e1, e2, e3, by rw [ht]; exact hP_26, va_K.moved hW.alike hK9, hD_26⟩, hS_13.F ht⟩) hS_13.2.2 d_C_Roots_init_LCellDec_61
