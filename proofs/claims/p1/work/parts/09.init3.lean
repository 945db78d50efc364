set_option maxHeartbeats 4000000 in
set_option maxRecDepth 100000 in
theorem c_C_Curves_init_LCellDec (l : Launch) (dC : Nat → ClassId) (dI : Nat → Nat → Nat) (h0 : Nat) (h1 : Nat) (h2 : Nat) (sz : Nat) : Met l y_C_Curves_init_LCellDec w_C_Curves_init_LCellDec ({ frames := 1, cells := 6, slots := 66, locals := 12 }) (va_Pc [.ref h0, .ref h1] (fun U => U.heap.size = sz ∧ va_P (dC, dI) classes [(h0, .inr (7, [.null, .null, .null, .null, .null, .null, .null, .null])), (h1, .inr (3, [.ref h2]))] U.heap ∧ va_K (dC, dI) classes [] U ∧ va_D (fun _ => True) [(h0, .inr (7, [.null, .null, .null, .null, .null, .null, .null, .null])), (h1, .inr (3, [.ref h2]))] ∧ zX U)) (va_Qv (fun _ : Unit => True) (fun _ t => ∃ (q1 : Nat) (q2 : Nat) (q3 : Nat) (q4 : Nat) (q5 : Nat) (q6 : Nat) (e1 : ClassId) (e2 : ClassId) (e3 : ClassId) (e4 : ClassId) (e5 : ClassId) (e6 : ClassId), va_P (dC, dI) classes [(h0, .inr (7, [.ref h1, .ref h2, .ref q1, .ref q2, .ref q3, .ref q4, .ref q5, .ref q6])), (h1, .inr (3, [.ref h2])), (q1, .inl (e1, 20, .inl (fun _ => 0))), (q2, .inl (e2, 5, .inl (fun _ => 0))), (q3, .inl (e3, 25, .inl (fun _ => 0))), (q4, .inl (e4, 5, .inl (fun _ => 0))), (q5, .inl (e5, 5, .inl (fun _ => 0))), (q6, .inl (e6, 6, .inl (fun _ => 0)))] t.heap ∧ va_K (dC, dI) classes [(e1, .int), (e2, .int), (e3, .int), (e4, .int), (e5, .int), (e6, .int)] t ∧ va_D (va_A [(h0, .inr (7, [.null, .null, .null, .null, .null, .null, .null, .null])), (h1, .inr (3, [.ref h2]))] sz) [(h0, .inr (7, [.ref h1, .ref h2, .ref q1, .ref q2, .ref q3, .ref q4, .ref q5, .ref q6])), (h1, .inr (3, [.ref h2])), (q1, .inl (e1, 20, .inl (fun _ => 0))), (q2, .inl (e2, 5, .inl (fun _ => 0))), (q3, .inl (e3, 25, .inl (fun _ => 0))), (q4, .inl (e4, 5, .inl (fun _ => 0))), (q5, .inl (e5, 5, .inl (fun _ => 0))), (q6, .inl (e6, 6, .inl (fun _ => 0)))]) (va_A [(h0, .inr (7, [.null, .null, .null, .null, .null, .null, .null, .null])), (h1, .inr (3, [.ref h2]))] sz)) 6 66 (va_A [(h0, .inr (7, [.null, .null, .null, .null, .null, .null, .null, .null])), (h1, .inr (3, [.ref h2]))] sz) := by
  refine Met.ofW (cc := prog_2_method_1_code) (maxL := 2) (ret := (Option.none : Option Jvm.ClassFile.FieldType)) (by decide) rfl ?_
  intro p e s m args below meth c s₁ B hml hv
  obtain ⟨rfl, hsz, hP, hK, hD0, hX⟩ := hv
  have hx := B.exec
  have hb := B.bytes
  have hr := B.returns
  have hts0 := atoms_spec (ws := w_C_Curves_init_LCellDec) B.pre
  have hts : ∀ w ∈ zg_tbl, w.before _ s = true := fun w h => hts0 w (List.mem_cons_of_mem _ h)
  have hown : s.vm.findClass "CellDecide$Curves" = some m.cls := findClass_of_methodNamed B.named
  have hlocks := B.notSynchronized
  have hin : meth.name = "<init>" := (name_of_methodNamed B.named B.method).1
  subst hsz
  have hD := hD0.self (sz := s.heap.size)
  generalize hAe : va_A [(h0, .inr (7, [.null, .null, .null, .null, .null, .null, .null, .null])), (h1, .inr (3, [.ref h2]))] s.heap.size = A at hD ⊢
  have hA : ∀ q : Nat, s.heap.size ≤ q → A q := fun q h => by rw [← hAe]; exact Or.inr h
  have hS : va_S A s.heap s.heap [] := va_S.rf
  have hl := lv_entry ([.ref h0, .ref h1]) (n := 2) (Nat.le_of_ble_eq_true rfl)
  rw [lg_entry_eq]
  generalize (lg_sl ([.ref h0, .ref h1]) ++ List.replicate (2 - (lg_sl ([.ref h0, .ref h1])).length) Slot.unset).toArray = ls at hl ⊢
  have hl : lv_has ls 2 [(0, .ref h0), (1, .ref h1)] := hl
  refine lv_aload_n hx hb d_C_Curves_init_LCellDec_0 rfl (lv_at hl 0 rfl) ?_
  refine W.objInit hx hb hown (hts _ k_110) (hts _ k_1) (hts _ k_2) rfl (by rw [hml]; exact hl.1) rfl d_C_Curves_init_LCellDec_1 (Nat.le_of_ble_eq_true rfl) (Nat.le_of_ble_eq_true rfl) ?_
  refine W.eq (g2 := F0 m 4 ls []) rfl ?_
  refine lv_aload_n hx hb d_C_Curves_init_LCellDec_4 rfl (lv_at hl 0 rfl) ?_
  refine lv_bipush (v := 20) hx hb d_C_Curves_init_LCellDec_5 (by decide) ?_
  refine va_newa (atype := .int) (a0 := (20, .inl (fun _ => 0))) hx hb (hts _ k_10) rfl hK hP hD hS hA (fun _ => rfl) (by decide) (N' := 20) (by decide) (Nat.le_of_ble_eq_true rfl) (Nat.le_of_ble_eq_true rfl) (Nat.le_of_ble_eq_true rfl) d_C_Curves_init_LCellDec_7 (fun q1 e1 H_1 hK_1 hP_1 hD_1 hS_1 => ?_)
  clear hK hP hD hS
  have hP_2 : va_P (dC, dI) classes [(h0, .inr (7, [.null, .null, .null, .null, .null, .null, .null, .null])), (h1, .inr (3, [.ref h2])), (q1, .inl (e1, 20, .inl (fun _ => 0)))] H_1 := hP_1
  clear hP_1
  have hD_2 : va_D A [(h0, .inr (7, [.null, .null, .null, .null, .null, .null, .null, .null])), (h1, .inr (3, [.ref h2])), (q1, .inl (e1, 20, .inl (fun _ => 0)))] := hD_1
  clear hD_1
  have hK_2 : va_K (dC, dI) classes [(e1, .int)] s := hK_1
  clear hK_1
  refine W.widen (k := 1) (n := 20) (Nat.le_of_ble_eq_true rfl) (Nat.le_of_ble_eq_true rfl) ?_
  refine va_putF (D := (dC, dI)) (ci := 7) (v := .ref q1) (ty := .array .int) (C := R_C_Curves) (T := F_C_Curves) (N := 8) hx hb hts i_C_Curves t_C_Curves t_C_Curves_ok n_C_Curves hown hK_2 hP_2 hD_2 hS_1 0 rfl rfl 2 (by decide) (hts _ k_111) (fun _ h9 => h9) rfl hin rfl (by decide +kernel) rfl rfl (Nat.le_of_ble_eq_true rfl) d_C_Curves_init_LCellDec_9 (fun H_2 locs_1 hP_3 hD_3 hS_2 => ?_)
  clear hP_2 hD_2 hS_1
  have hP_4 : va_P (dC, dI) classes [(h0, .inr (7, [.null, .null, .ref q1, .null, .null, .null, .null, .null])), (h1, .inr (3, [.ref h2])), (q1, .inl (e1, 20, .inl (fun _ => 0)))] H_2 := hP_3
  clear hP_3
  have hD_4 : va_D A [(h0, .inr (7, [.null, .null, .ref q1, .null, .null, .null, .null, .null])), (h1, .inr (3, [.ref h2])), (q1, .inl (e1, 20, .inl (fun _ => 0)))] := hD_3
  clear hD_3
  refine lv_aload_n hx hb d_C_Curves_init_LCellDec_12 rfl (lv_at hl 0 rfl) ?_
  refine lv_iconst (v := 5) hx hb d_C_Curves_init_LCellDec_13 (by decide) ?_
  refine va_newa (atype := .int) (a0 := (5, .inl (fun _ => 0))) hx hb (hts _ k_10) rfl hK_2 hP_4 hD_4 hS_2 hA (fun _ => rfl) (by decide) (N' := 5) (by decide) (Nat.le_of_ble_eq_true rfl) (Nat.le_of_ble_eq_true rfl) (Nat.le_of_ble_eq_true rfl) d_C_Curves_init_LCellDec_14 (fun q2 e2 H_3 hK_3 hP_5 hD_5 hS_3 => ?_)
  clear hK_2 hP_4 hD_4 hS_2
  have hP_6 : va_P (dC, dI) classes [(h0, .inr (7, [.null, .null, .ref q1, .null, .null, .null, .null, .null])), (h1, .inr (3, [.ref h2])), (q1, .inl (e1, 20, .inl (fun _ => 0))), (q2, .inl (e2, 5, .inl (fun _ => 0)))] H_3 := hP_5
  clear hP_5
  have hD_6 : va_D A [(h0, .inr (7, [.null, .null, .ref q1, .null, .null, .null, .null, .null])), (h1, .inr (3, [.ref h2])), (q1, .inl (e1, 20, .inl (fun _ => 0))), (q2, .inl (e2, 5, .inl (fun _ => 0)))] := hD_5
  clear hD_5
  have hK_4 : va_K (dC, dI) classes [(e1, .int), (e2, .int)] s := hK_3
  clear hK_3
  refine W.widen (k := 2) (n := 25) (Nat.le_of_ble_eq_true rfl) (Nat.le_of_ble_eq_true rfl) ?_
  refine va_putF (D := (dC, dI)) (ci := 7) (v := .ref q2) (ty := .array .int) (C := R_C_Curves) (T := F_C_Curves) (N := 8) hx hb hts i_C_Curves t_C_Curves t_C_Curves_ok n_C_Curves hown hK_4 hP_6 hD_6 hS_3 0 rfl rfl 3 (by decide) (hts _ k_112) (fun _ h9 => h9) rfl hin rfl (by decide +kernel) rfl rfl (Nat.le_of_ble_eq_true rfl) d_C_Curves_init_LCellDec_16 (fun H_4 locs_2 hP_7 hD_7 hS_4 => ?_)
  clear hP_6 hD_6 hS_3
  have hP_8 : va_P (dC, dI) classes [(h0, .inr (7, [.null, .null, .ref q1, .ref q2, .null, .null, .null, .null])), (h1, .inr (3, [.ref h2])), (q1, .inl (e1, 20, .inl (fun _ => 0))), (q2, .inl (e2, 5, .inl (fun _ => 0)))] H_4 := hP_7
  clear hP_7
  have hD_8 : va_D A [(h0, .inr (7, [.null, .null, .ref q1, .ref q2, .null, .null, .null, .null])), (h1, .inr (3, [.ref h2])), (q1, .inl (e1, 20, .inl (fun _ => 0))), (q2, .inl (e2, 5, .inl (fun _ => 0)))] := hD_7
  clear hD_7
  refine lv_aload_n hx hb d_C_Curves_init_LCellDec_19 rfl (lv_at hl 0 rfl) ?_
  refine lv_bipush (v := 25) hx hb d_C_Curves_init_LCellDec_20 (by decide) ?_
  refine va_newa (atype := .int) (a0 := (25, .inl (fun _ => 0))) hx hb (hts _ k_10) rfl hK_4 hP_8 hD_8 hS_4 hA (fun _ => rfl) (by decide) (N' := 25) (by decide) (Nat.le_of_ble_eq_true rfl) (Nat.le_of_ble_eq_true rfl) (Nat.le_of_ble_eq_true rfl) d_C_Curves_init_LCellDec_22 (fun q3 e3 H_5 hK_5 hP_9 hD_9 hS_5 => ?_)
  clear hK_4 hP_8 hD_8 hS_4
  have hP_10 : va_P (dC, dI) classes [(h0, .inr (7, [.null, .null, .ref q1, .ref q2, .null, .null, .null, .null])), (h1, .inr (3, [.ref h2])), (q1, .inl (e1, 20, .inl (fun _ => 0))), (q2, .inl (e2, 5, .inl (fun _ => 0))), (q3, .inl (e3, 25, .inl (fun _ => 0)))] H_5 := hP_9
  clear hP_9
  have hD_10 : va_D A [(h0, .inr (7, [.null, .null, .ref q1, .ref q2, .null, .null, .null, .null])), (h1, .inr (3, [.ref h2])), (q1, .inl (e1, 20, .inl (fun _ => 0))), (q2, .inl (e2, 5, .inl (fun _ => 0))), (q3, .inl (e3, 25, .inl (fun _ => 0)))] := hD_9
  clear hD_9
  have hK_6 : va_K (dC, dI) classes [(e1, .int), (e2, .int), (e3, .int)] s := hK_5
  clear hK_5
  refine W.widen (k := 3) (n := 50) (Nat.le_of_ble_eq_true rfl) (Nat.le_of_ble_eq_true rfl) ?_
  refine va_putF (D := (dC, dI)) (ci := 7) (v := .ref q3) (ty := .array .int) (C := R_C_Curves) (T := F_C_Curves) (N := 8) hx hb hts i_C_Curves t_C_Curves t_C_Curves_ok n_C_Curves hown hK_6 hP_10 hD_10 hS_5 0 rfl rfl 4 (by decide) (hts _ k_113) (fun _ h9 => h9) rfl hin rfl (by decide +kernel) rfl rfl (Nat.le_of_ble_eq_true rfl) d_C_Curves_init_LCellDec_24 (fun H_6 locs_3 hP_11 hD_11 hS_6 => ?_)
  clear hP_10 hD_10 hS_5
  have hP_12 : va_P (dC, dI) classes [(h0, .inr (7, [.null, .null, .ref q1, .ref q2, .ref q3, .null, .null, .null])), (h1, .inr (3, [.ref h2])), (q1, .inl (e1, 20, .inl (fun _ => 0))), (q2, .inl (e2, 5, .inl (fun _ => 0))), (q3, .inl (e3, 25, .inl (fun _ => 0)))] H_6 := hP_11
  clear hP_11
  have hD_12 : va_D A [(h0, .inr (7, [.null, .null, .ref q1, .ref q2, .ref q3, .null, .null, .null])), (h1, .inr (3, [.ref h2])), (q1, .inl (e1, 20, .inl (fun _ => 0))), (q2, .inl (e2, 5, .inl (fun _ => 0))), (q3, .inl (e3, 25, .inl (fun _ => 0)))] := hD_11
  clear hD_11
  refine lv_aload_n hx hb d_C_Curves_init_LCellDec_27 rfl (lv_at hl 0 rfl) ?_
  refine lv_iconst (v := 5) hx hb d_C_Curves_init_LCellDec_28 (by decide) ?_
  refine va_newa (atype := .int) (a0 := (5, .inl (fun _ => 0))) hx hb (hts _ k_10) rfl hK_6 hP_12 hD_12 hS_6 hA (fun _ => rfl) (by decide) (N' := 5) (by decide) (Nat.le_of_ble_eq_true rfl) (Nat.le_of_ble_eq_true rfl) (Nat.le_of_ble_eq_true rfl) d_C_Curves_init_LCellDec_29 (fun q4 e4 H_7 hK_7 hP_13 hD_13 hS_7 => ?_)
  clear hK_6 hP_12 hD_12 hS_6
  have hP_14 : va_P (dC, dI) classes [(h0, .inr (7, [.null, .null, .ref q1, .ref q2, .ref q3, .null, .null, .null])), (h1, .inr (3, [.ref h2])), (q1, .inl (e1, 20, .inl (fun _ => 0))), (q2, .inl (e2, 5, .inl (fun _ => 0))), (q3, .inl (e3, 25, .inl (fun _ => 0))), (q4, .inl (e4, 5, .inl (fun _ => 0)))] H_7 := hP_13
  clear hP_13
  have hD_14 : va_D A [(h0, .inr (7, [.null, .null, .ref q1, .ref q2, .ref q3, .null, .null, .null])), (h1, .inr (3, [.ref h2])), (q1, .inl (e1, 20, .inl (fun _ => 0))), (q2, .inl (e2, 5, .inl (fun _ => 0))), (q3, .inl (e3, 25, .inl (fun _ => 0))), (q4, .inl (e4, 5, .inl (fun _ => 0)))] := hD_13
  clear hD_13
  have hK_8 : va_K (dC, dI) classes [(e1, .int), (e2, .int), (e3, .int), (e4, .int)] s := hK_7
  clear hK_7
  refine W.widen (k := 4) (n := 55) (Nat.le_of_ble_eq_true rfl) (Nat.le_of_ble_eq_true rfl) ?_
  refine va_putF (D := (dC, dI)) (ci := 7) (v := .ref q4) (ty := .array .int) (C := R_C_Curves) (T := F_C_Curves) (N := 8) hx hb hts i_C_Curves t_C_Curves t_C_Curves_ok n_C_Curves hown hK_8 hP_14 hD_14 hS_7 0 rfl rfl 5 (by decide) (hts _ k_114) (fun _ h9 => h9) rfl hin rfl (by decide +kernel) rfl rfl (Nat.le_of_ble_eq_true rfl) d_C_Curves_init_LCellDec_31 (fun H_8 locs_4 hP_15 hD_15 hS_8 => ?_)
  clear hP_14 hD_14 hS_7
  have hP_16 : va_P (dC, dI) classes [(h0, .inr (7, [.null, .null, .ref q1, .ref q2, .ref q3, .ref q4, .null, .null])), (h1, .inr (3, [.ref h2])), (q1, .inl (e1, 20, .inl (fun _ => 0))), (q2, .inl (e2, 5, .inl (fun _ => 0))), (q3, .inl (e3, 25, .inl (fun _ => 0))), (q4, .inl (e4, 5, .inl (fun _ => 0)))] H_8 := hP_15
  clear hP_15
  have hD_16 : va_D A [(h0, .inr (7, [.null, .null, .ref q1, .ref q2, .ref q3, .ref q4, .null, .null])), (h1, .inr (3, [.ref h2])), (q1, .inl (e1, 20, .inl (fun _ => 0))), (q2, .inl (e2, 5, .inl (fun _ => 0))), (q3, .inl (e3, 25, .inl (fun _ => 0))), (q4, .inl (e4, 5, .inl (fun _ => 0)))] := hD_15
  clear hD_15
  refine lv_aload_n hx hb d_C_Curves_init_LCellDec_34 rfl (lv_at hl 0 rfl) ?_
  refine lv_iconst (v := 5) hx hb d_C_Curves_init_LCellDec_35 (by decide) ?_
  refine va_newa (atype := .int) (a0 := (5, .inl (fun _ => 0))) hx hb (hts _ k_10) rfl hK_8 hP_16 hD_16 hS_8 hA (fun _ => rfl) (by decide) (N' := 5) (by decide) (Nat.le_of_ble_eq_true rfl) (Nat.le_of_ble_eq_true rfl) (Nat.le_of_ble_eq_true rfl) d_C_Curves_init_LCellDec_36 (fun q5 e5 H_9 hK_9 hP_17 hD_17 hS_9 => ?_)
  clear hK_8 hP_16 hD_16 hS_8
  have hP_18 : va_P (dC, dI) classes [(h0, .inr (7, [.null, .null, .ref q1, .ref q2, .ref q3, .ref q4, .null, .null])), (h1, .inr (3, [.ref h2])), (q1, .inl (e1, 20, .inl (fun _ => 0))), (q2, .inl (e2, 5, .inl (fun _ => 0))), (q3, .inl (e3, 25, .inl (fun _ => 0))), (q4, .inl (e4, 5, .inl (fun _ => 0))), (q5, .inl (e5, 5, .inl (fun _ => 0)))] H_9 := hP_17
  clear hP_17
  have hD_18 : va_D A [(h0, .inr (7, [.null, .null, .ref q1, .ref q2, .ref q3, .ref q4, .null, .null])), (h1, .inr (3, [.ref h2])), (q1, .inl (e1, 20, .inl (fun _ => 0))), (q2, .inl (e2, 5, .inl (fun _ => 0))), (q3, .inl (e3, 25, .inl (fun _ => 0))), (q4, .inl (e4, 5, .inl (fun _ => 0))), (q5, .inl (e5, 5, .inl (fun _ => 0)))] := hD_17
  clear hD_17
  have hK_10 : va_K (dC, dI) classes [(e1, .int), (e2, .int), (e3, .int), (e4, .int), (e5, .int)] s := hK_9
  clear hK_9
  refine W.widen (k := 5) (n := 60) (Nat.le_of_ble_eq_true rfl) (Nat.le_of_ble_eq_true rfl) ?_
  refine va_putF (D := (dC, dI)) (ci := 7) (v := .ref q5) (ty := .array .int) (C := R_C_Curves) (T := F_C_Curves) (N := 8) hx hb hts i_C_Curves t_C_Curves t_C_Curves_ok n_C_Curves hown hK_10 hP_18 hD_18 hS_9 0 rfl rfl 6 (by decide) (hts _ k_115) (fun _ h9 => h9) rfl hin rfl (by decide +kernel) rfl rfl (Nat.le_of_ble_eq_true rfl) d_C_Curves_init_LCellDec_38 (fun H_10 locs_5 hP_19 hD_19 hS_10 => ?_)
  clear hP_18 hD_18 hS_9
  have hP_20 : va_P (dC, dI) classes [(h0, .inr (7, [.null, .null, .ref q1, .ref q2, .ref q3, .ref q4, .ref q5, .null])), (h1, .inr (3, [.ref h2])), (q1, .inl (e1, 20, .inl (fun _ => 0))), (q2, .inl (e2, 5, .inl (fun _ => 0))), (q3, .inl (e3, 25, .inl (fun _ => 0))), (q4, .inl (e4, 5, .inl (fun _ => 0))), (q5, .inl (e5, 5, .inl (fun _ => 0)))] H_10 := hP_19
  clear hP_19
  have hD_20 : va_D A [(h0, .inr (7, [.null, .null, .ref q1, .ref q2, .ref q3, .ref q4, .ref q5, .null])), (h1, .inr (3, [.ref h2])), (q1, .inl (e1, 20, .inl (fun _ => 0))), (q2, .inl (e2, 5, .inl (fun _ => 0))), (q3, .inl (e3, 25, .inl (fun _ => 0))), (q4, .inl (e4, 5, .inl (fun _ => 0))), (q5, .inl (e5, 5, .inl (fun _ => 0)))] := hD_19
  clear hD_19
  refine lv_aload_n hx hb d_C_Curves_init_LCellDec_41 rfl (lv_at hl 0 rfl) ?_
  refine lv_bipush (v := 6) hx hb d_C_Curves_init_LCellDec_42 (by decide) ?_
  refine va_newa (atype := .int) (a0 := (6, .inl (fun _ => 0))) hx hb (hts _ k_10) rfl hK_10 hP_20 hD_20 hS_10 hA (fun _ => rfl) (by decide) (N' := 6) (by decide) (Nat.le_of_ble_eq_true rfl) (Nat.le_of_ble_eq_true rfl) (Nat.le_of_ble_eq_true rfl) d_C_Curves_init_LCellDec_44 (fun q6 e6 H_11 hK_11 hP_21 hD_21 hS_11 => ?_)
  clear hK_10 hP_20 hD_20 hS_10
  have hP_22 : va_P (dC, dI) classes [(h0, .inr (7, [.null, .null, .ref q1, .ref q2, .ref q3, .ref q4, .ref q5, .null])), (h1, .inr (3, [.ref h2])), (q1, .inl (e1, 20, .inl (fun _ => 0))), (q2, .inl (e2, 5, .inl (fun _ => 0))), (q3, .inl (e3, 25, .inl (fun _ => 0))), (q4, .inl (e4, 5, .inl (fun _ => 0))), (q5, .inl (e5, 5, .inl (fun _ => 0))), (q6, .inl (e6, 6, .inl (fun _ => 0)))] H_11 := hP_21
  clear hP_21
  have hD_22 : va_D A [(h0, .inr (7, [.null, .null, .ref q1, .ref q2, .ref q3, .ref q4, .ref q5, .null])), (h1, .inr (3, [.ref h2])), (q1, .inl (e1, 20, .inl (fun _ => 0))), (q2, .inl (e2, 5, .inl (fun _ => 0))), (q3, .inl (e3, 25, .inl (fun _ => 0))), (q4, .inl (e4, 5, .inl (fun _ => 0))), (q5, .inl (e5, 5, .inl (fun _ => 0))), (q6, .inl (e6, 6, .inl (fun _ => 0)))] := hD_21
  clear hD_21
  have hK_12 : va_K (dC, dI) classes [(e1, .int), (e2, .int), (e3, .int), (e4, .int), (e5, .int), (e6, .int)] s := hK_11
  clear hK_11
  refine W.widen (k := 6) (n := 66) (Nat.le_of_ble_eq_true rfl) (Nat.le_of_ble_eq_true rfl) ?_
  refine va_putF (D := (dC, dI)) (ci := 7) (v := .ref q6) (ty := .array .int) (C := R_C_Curves) (T := F_C_Curves) (N := 8) hx hb hts i_C_Curves t_C_Curves t_C_Curves_ok n_C_Curves hown hK_12 hP_22 hD_22 hS_11 0 rfl rfl 7 (by decide) (hts _ k_116) (fun _ h9 => h9) rfl hin rfl (by decide +kernel) rfl rfl (Nat.le_of_ble_eq_true rfl) d_C_Curves_init_LCellDec_46 (fun H_12 locs_6 hP_23 hD_23 hS_12 => ?_)
  clear hP_22 hD_22 hS_11
  have hP_24 : va_P (dC, dI) classes [(h0, .inr (7, [.null, .null, .ref q1, .ref q2, .ref q3, .ref q4, .ref q5, .ref q6])), (h1, .inr (3, [.ref h2])), (q1, .inl (e1, 20, .inl (fun _ => 0))), (q2, .inl (e2, 5, .inl (fun _ => 0))), (q3, .inl (e3, 25, .inl (fun _ => 0))), (q4, .inl (e4, 5, .inl (fun _ => 0))), (q5, .inl (e5, 5, .inl (fun _ => 0))), (q6, .inl (e6, 6, .inl (fun _ => 0)))] H_12 := hP_23
  clear hP_23
  have hD_24 : va_D A [(h0, .inr (7, [.null, .null, .ref q1, .ref q2, .ref q3, .ref q4, .ref q5, .ref q6])), (h1, .inr (3, [.ref h2])), (q1, .inl (e1, 20, .inl (fun _ => 0))), (q2, .inl (e2, 5, .inl (fun _ => 0))), (q3, .inl (e3, 25, .inl (fun _ => 0))), (q4, .inl (e4, 5, .inl (fun _ => 0))), (q5, .inl (e5, 5, .inl (fun _ => 0))), (q6, .inl (e6, 6, .inl (fun _ => 0)))] := hD_23
  clear hD_23
  refine lv_aload_n hx hb d_C_Curves_init_LCellDec_49 rfl (lv_at hl 0 rfl) ?_
  refine lv_aload_n hx hb d_C_Curves_init_LCellDec_50 rfl (lv_at hl 1 rfl) ?_
  refine va_putF (D := (dC, dI)) (ci := 7) (v := .ref h1) (ty := .object "CellDecide$Polys") (C := R_C_Curves) (T := F_C_Curves) (N := 8) hx hb hts i_C_Curves t_C_Curves t_C_Curves_ok n_C_Curves hown hK_12 hP_24 hD_24 hS_12 0 rfl rfl 0 (by decide) (hts _ k_117) (fun _ h9 => h9) rfl hin rfl (by decide +kernel) rfl rfl (Nat.le_of_ble_eq_true rfl) d_C_Curves_init_LCellDec_51 (fun H_13 locs_7 hP_25 hD_25 hS_13 => ?_)
  clear hP_24 hD_24 hS_12
  have hP_26 : va_P (dC, dI) classes [(h0, .inr (7, [.ref h1, .null, .ref q1, .ref q2, .ref q3, .ref q4, .ref q5, .ref q6])), (h1, .inr (3, [.ref h2])), (q1, .inl (e1, 20, .inl (fun _ => 0))), (q2, .inl (e2, 5, .inl (fun _ => 0))), (q3, .inl (e3, 25, .inl (fun _ => 0))), (q4, .inl (e4, 5, .inl (fun _ => 0))), (q5, .inl (e5, 5, .inl (fun _ => 0))), (q6, .inl (e6, 6, .inl (fun _ => 0)))] H_13 := hP_25
  clear hP_25
  have hD_26 : va_D A [(h0, .inr (7, [.ref h1, .null, .ref q1, .ref q2, .ref q3, .ref q4, .ref q5, .ref q6])), (h1, .inr (3, [.ref h2])), (q1, .inl (e1, 20, .inl (fun _ => 0))), (q2, .inl (e2, 5, .inl (fun _ => 0))), (q3, .inl (e3, 25, .inl (fun _ => 0))), (q4, .inl (e4, 5, .inl (fun _ => 0))), (q5, .inl (e5, 5, .inl (fun _ => 0))), (q6, .inl (e6, 6, .inl (fun _ => 0)))] := hD_25
  clear hD_25
  refine lv_aload_n hx hb d_C_Curves_init_LCellDec_54 rfl (lv_at hl 0 rfl) ?_
  refine lv_aload_n hx hb d_C_Curves_init_LCellDec_55 rfl (lv_at hl 1 rfl) ?_
  refine va_get (D := (dC, dI)) (ci := 3) (v := .ref h2) (C := R_C_Polys) (T := F_C_Polys) (N := 1) hx hb hts i_C_Polys hown hK_12 hP_26 1 rfl rfl 0 (by decide) (hts _ k_118) (fun _ h9 => h9) rfl d_C_Curves_init_LCellDec_56 ?_
  refine va_putF (D := (dC, dI)) (ci := 7) (v := .ref h2) (ty := .object "CellDecide$Numbers") (C := R_C_Curves) (T := F_C_Curves) (N := 8) hx hb hts i_C_Curves t_C_Curves t_C_Curves_ok n_C_Curves hown hK_12 hP_26 hD_26 hS_13 0 rfl rfl 1 (by decide) (hts _ k_119) (fun _ h9 => h9) rfl hin rfl (by decide +kernel) rfl rfl (Nat.le_of_ble_eq_true rfl) d_C_Curves_init_LCellDec_59 (fun H_14 locs_8 hP_27 hD_27 hS_14 => ?_)
  clear hP_26 hD_26 hS_13
  have hP_28 : va_P (dC, dI) classes [(h0, .inr (7, [.ref h1, .ref h2, .ref q1, .ref q2, .ref q3, .ref q4, .ref q5, .ref q6])), (h1, .inr (3, [.ref h2])), (q1, .inl (e1, 20, .inl (fun _ => 0))), (q2, .inl (e2, 5, .inl (fun _ => 0))), (q3, .inl (e3, 25, .inl (fun _ => 0))), (q4, .inl (e4, 5, .inl (fun _ => 0))), (q5, .inl (e5, 5, .inl (fun _ => 0))), (q6, .inl (e6, 6, .inl (fun _ => 0)))] H_14 := hP_27
  clear hP_27
  have hD_28 : va_D A [(h0, .inr (7, [.ref h1, .ref h2, .ref q1, .ref q2, .ref q3, .ref q4, .ref q5, .ref q6])), (h1, .inr (3, [.ref h2])), (q1, .inl (e1, 20, .inl (fun _ => 0))), (q2, .inl (e2, 5, .inl (fun _ => 0))), (q3, .inl (e3, 25, .inl (fun _ => 0))), (q4, .inl (e4, 5, .inl (fun _ => 0))), (q5, .inl (e5, 5, .inl (fun _ => 0))), (q6, .inl (e6, 6, .inl (fun _ => 0)))] := hD_27
  clear hD_27
  refine W.widen (k := 6) (n := 66) (Nat.le_of_ble_eq_true rfl) (Nat.le_of_ble_eq_true rfl) ?_
  have hK9 := hK_12.sub (tys' := [(e1, .int), (e2, .int), (e3, .int), (e4, .int), (e5, .int), (e6, .int)]) [0, 1, 2, 3, 4, 5] rfl
  exact W.vret hx hb hr (fun t ht hW => ⟨⟨(), rfl, trivial, q1, q2, q3, q4, q5, q6, e1, e2, e3, e4, e5, e6, by rw [ht]; exact hP_28, va_K.moved hW.alike hK9, hD_28⟩, hS_14.F ht⟩) hS_14.2.2 d_C_Curves_init_LCellDec_62
set_option maxHeartbeats 4000000 in
set_option maxRecDepth 100000 in
theorem c_C_Spot_init_LCellDec (l : Launch) (dC : Nat → ClassId) (dI : Nat → Nat → Nat) (h0 : Nat) (h1 : Nat) (h2 : Nat) (sz : Nat) : Met l y_C_Spot_init_LCellDec w_C_Spot_init_LCellDec ({ frames := 1, cells := 0, slots := 0, locals := 12 }) (va_Pc [.ref h0, .ref h1] (fun U => U.heap.size = sz ∧ va_P (dC, dI) classes [(h0, .inr (8, [.null, .null, .null, .int 0, .int 0, .int 0, .int 0, .int 0, .int 0, .double 0, .double 0])), (h1, .inr (3, [.ref h2]))] U.heap ∧ va_K (dC, dI) classes [] U ∧ va_D (fun _ => True) [(h0, .inr (8, [.null, .null, .null, .int 0, .int 0, .int 0, .int 0, .int 0, .int 0, .double 0, .double 0])), (h1, .inr (3, [.ref h2]))] ∧ zX U)) (va_Qv (fun _ : Unit => True) (fun _ t => va_P (dC, dI) classes [(h0, .inr (8, [.ref h1, .ref h2, .null, .int 0, .int 0, .int 0, .int 0, .int 0, .int 0, .double 0, .double 0])), (h1, .inr (3, [.ref h2]))] t.heap ∧ va_K (dC, dI) classes [] t ∧ va_D (va_A [(h0, .inr (8, [.null, .null, .null, .int 0, .int 0, .int 0, .int 0, .int 0, .int 0, .double 0, .double 0])), (h1, .inr (3, [.ref h2]))] sz) [(h0, .inr (8, [.ref h1, .ref h2, .null, .int 0, .int 0, .int 0, .int 0, .int 0, .int 0, .double 0, .double 0])), (h1, .inr (3, [.ref h2]))]) (va_A [(h0, .inr (8, [.null, .null, .null, .int 0, .int 0, .int 0, .int 0, .int 0, .int 0, .double 0, .double 0])), (h1, .inr (3, [.ref h2]))] sz)) 0 0 (va_A [(h0, .inr (8, [.null, .null, .null, .int 0, .int 0, .int 0, .int 0, .int 0, .int 0, .double 0, .double 0])), (h1, .inr (3, [.ref h2]))] sz) := by
  refine Met.ofW (cc := prog_10_method_1_code) (maxL := 2) (ret := (Option.none : Option Jvm.ClassFile.FieldType)) (by decide) rfl ?_
  intro p e s m args below meth c s₁ B hml hv
  obtain ⟨rfl, hsz, hP, hK, hD0, hX⟩ := hv
  have hx := B.exec
  have hb := B.bytes
  have hr := B.returns
  have hts0 := atoms_spec (ws := w_C_Spot_init_LCellDec) B.pre
  have hts : ∀ w ∈ zg_tbl, w.before _ s = true := fun w h => hts0 w (List.mem_cons_of_mem _ h)
  have hown : s.vm.findClass "CellDecide$Spot" = some m.cls := findClass_of_methodNamed B.named
  have hlocks := B.notSynchronized
  have hin : meth.name = "<init>" := (name_of_methodNamed B.named B.method).1
  subst hsz
  have hD := hD0.self (sz := s.heap.size)
  generalize hAe : va_A [(h0, .inr (8, [.null, .null, .null, .int 0, .int 0, .int 0, .int 0, .int 0, .int 0, .double 0, .double 0])), (h1, .inr (3, [.ref h2]))] s.heap.size = A at hD ⊢
  have hA : ∀ q : Nat, s.heap.size ≤ q → A q := fun q h => by rw [← hAe]; exact Or.inr h
  have hS : va_S A s.heap s.heap [] := va_S.rf
  have hl := lv_entry ([.ref h0, .ref h1]) (n := 2) (Nat.le_of_ble_eq_true rfl)
  rw [lg_entry_eq]
  generalize (lg_sl ([.ref h0, .ref h1]) ++ List.replicate (2 - (lg_sl ([.ref h0, .ref h1])).length) Slot.unset).toArray = ls at hl ⊢
  have hl : lv_has ls 2 [(0, .ref h0), (1, .ref h1)] := hl
  refine lv_aload_n hx hb d_C_Spot_init_LCellDec_0 rfl (lv_at hl 0 rfl) ?_
  refine W.objInit hx hb hown (hts _ k_127) (hts _ k_1) (hts _ k_2) rfl (by rw [hml]; exact hl.1) rfl d_C_Spot_init_LCellDec_1 (Nat.le_of_ble_eq_true rfl) (Nat.le_of_ble_eq_true rfl) ?_
  refine W.eq (g2 := F0 m 4 ls []) rfl ?_
  refine lv_aload_n hx hb d_C_Spot_init_LCellDec_4 rfl (lv_at hl 0 rfl) ?_
  refine lv_aload_n hx hb d_C_Spot_init_LCellDec_5 rfl (lv_at hl 1 rfl) ?_
  refine va_putF (D := (dC, dI)) (ci := 8) (v := .ref h1) (ty := .object "CellDecide$Polys") (C := R_C_Spot) (T := F_C_Spot) (N := 11) hx hb hts i_C_Spot t_C_Spot t_C_Spot_ok n_C_Spot hown hK hP hD hS 0 rfl rfl 0 (by decide) (hts _ k_128) (fun _ h9 => h9) rfl hin rfl (by decide +kernel) rfl rfl (Nat.le_of_ble_eq_true rfl) d_C_Spot_init_LCellDec_6 (fun H_1 locs_1 hP_1 hD_1 hS_1 => ?_)
  clear hP hD hS
  have hP_2 : va_P (dC, dI) classes [(h0, .inr (8, [.ref h1, .null, .null, .int 0, .int 0, .int 0, .int 0, .int 0, .int 0, .double 0, .double 0])), (h1, .inr (3, [.ref h2]))] H_1 := hP_1
  clear hP_1
  have hD_2 : va_D A [(h0, .inr (8, [.ref h1, .null, .null, .int 0, .int 0, .int 0, .int 0, .int 0, .int 0, .double 0, .double 0])), (h1, .inr (3, [.ref h2]))] := hD_1
  clear hD_1
  refine lv_aload_n hx hb d_C_Spot_init_LCellDec_9 rfl (lv_at hl 0 rfl) ?_
  refine lv_aload_n hx hb d_C_Spot_init_LCellDec_10 rfl (lv_at hl 1 rfl) ?_
  refine va_get (D := (dC, dI)) (ci := 3) (v := .ref h2) (C := R_C_Polys) (T := F_C_Polys) (N := 1) hx hb hts i_C_Polys hown hK hP_2 1 rfl rfl 0 (by decide) (hts _ k_129) (fun _ h9 => h9) rfl d_C_Spot_init_LCellDec_11 ?_
  refine va_putF (D := (dC, dI)) (ci := 8) (v := .ref h2) (ty := .object "CellDecide$Numbers") (C := R_C_Spot) (T := F_C_Spot) (N := 11) hx hb hts i_C_Spot t_C_Spot t_C_Spot_ok n_C_Spot hown hK hP_2 hD_2 hS_1 0 rfl rfl 1 (by decide) (hts _ k_130) (fun _ h9 => h9) rfl hin rfl (by decide +kernel) rfl rfl (Nat.le_of_ble_eq_true rfl) d_C_Spot_init_LCellDec_14 (fun H_2 locs_2 hP_3 hD_3 hS_2 => ?_)
  clear hP_2 hD_2 hS_1
  have hP_4 : va_P (dC, dI) classes [(h0, .inr (8, [.ref h1, .ref h2, .null, .int 0, .int 0, .int 0, .int 0, .int 0, .int 0, .double 0, .double 0])), (h1, .inr (3, [.ref h2]))] H_2 := hP_3
  clear hP_3
  have hD_4 : va_D A [(h0, .inr (8, [.ref h1, .ref h2, .null, .int 0, .int 0, .int 0, .int 0, .int 0, .int 0, .double 0, .double 0])), (h1, .inr (3, [.ref h2]))] := hD_3
  clear hD_3
  refine W.widen (k := 0) (n := 0) (Nat.le_of_ble_eq_true rfl) (Nat.le_of_ble_eq_true rfl) ?_
  have hK9 := hK.sub (tys' := []) [] rfl
  exact W.vret hx hb hr (fun t ht hW => ⟨⟨(), rfl, trivial, by rw [ht]; exact hP_4, va_K.moved hW.alike hK9, hD_4⟩, hS_2.F ht⟩) hS_2.2.2 d_C_Spot_init_LCellDec_17
set_option maxHeartbeats 4000000 in
set_option maxRecDepth 100000 in
theorem c_C_Root_init (l : Launch) (dC : Nat → ClassId) (dI : Nat → Nat → Nat) (h0 : Nat) (sz : Nat) : Met l y_C_Root_init w_C_Root_init ({ frames := 1, cells := 1, slots := 4, locals := 12 }) (va_Pc [.ref h0] (fun U => U.heap.size = sz ∧ va_P (dC, dI) classes [(h0, .inr (10, [.int 0, .int 0, .int 0, .int 0, .int 0, .null, .int 0, .int 0, .int 0, .int 0, .int 0, .int 0, .int 0]))] U.heap ∧ va_K (dC, dI) classes [] U ∧ va_D (fun _ => True) [(h0, .inr (10, [.int 0, .int 0, .int 0, .int 0, .int 0, .null, .int 0, .int 0, .int 0, .int 0, .int 0, .int 0, .int 0]))] ∧ zX U)) (va_Qv (fun _ : Unit => True) (fun _ t => ∃ (q1 : Nat) (e1 : ClassId), va_P (dC, dI) classes [(h0, .inr (10, [.int 0, .int 0, .int 0, .int 0, .int 0, .ref q1, .int 0, .int 0, .int 0, .int 0, .int 0, .int 0, .int 0])), (q1, .inl (e1, 4, .inl (fun _ => 0)))] t.heap ∧ va_K (dC, dI) classes [(e1, .int)] t ∧ va_D (va_A [(h0, .inr (10, [.int 0, .int 0, .int 0, .int 0, .int 0, .null, .int 0, .int 0, .int 0, .int 0, .int 0, .int 0, .int 0]))] sz) [(h0, .inr (10, [.int 0, .int 0, .int 0, .int 0, .int 0, .ref q1, .int 0, .int 0, .int 0, .int 0, .int 0, .int 0, .int 0])), (q1, .inl (e1, 4, .inl (fun _ => 0)))]) (va_A [(h0, .inr (10, [.int 0, .int 0, .int 0, .int 0, .int 0, .null, .int 0, .int 0, .int 0, .int 0, .int 0, .int 0, .int 0]))] sz)) 1 4 (va_A [(h0, .inr (10, [.int 0, .int 0, .int 0, .int 0, .int 0, .null, .int 0, .int 0, .int 0, .int 0, .int 0, .int 0, .int 0]))] sz) := by
  refine Met.ofW (cc := prog_7_method_1_code) (maxL := 1) (ret := (Option.none : Option Jvm.ClassFile.FieldType)) (by decide) rfl ?_
  intro p e s m args below meth c s₁ B hml hv
  obtain ⟨rfl, hsz, hP, hK, hD0, hX⟩ := hv
  have hx := B.exec
  have hb := B.bytes
  have hr := B.returns
  have hts0 := atoms_spec (ws := w_C_Root_init) B.pre
  have hts : ∀ w ∈ zg_tbl, w.before _ s = true := fun w h => hts0 w (List.mem_cons_of_mem _ h)
  have hown : s.vm.findClass "CellDecide$Root" = some m.cls := findClass_of_methodNamed B.named
  have hlocks := B.notSynchronized
  have hin : meth.name = "<init>" := (name_of_methodNamed B.named B.method).1
  subst hsz
  have hD := hD0.self (sz := s.heap.size)
  generalize hAe : va_A [(h0, .inr (10, [.int 0, .int 0, .int 0, .int 0, .int 0, .null, .int 0, .int 0, .int 0, .int 0, .int 0, .int 0, .int 0]))] s.heap.size = A at hD ⊢
  have hA : ∀ q : Nat, s.heap.size ≤ q → A q := fun q h => by rw [← hAe]; exact Or.inr h
  have hS : va_S A s.heap s.heap [] := va_S.rf
  have hl := lv_entry ([.ref h0]) (n := 1) (Nat.le_of_ble_eq_true rfl)
  rw [lg_entry_eq]
  generalize (lg_sl ([.ref h0]) ++ List.replicate (1 - (lg_sl ([.ref h0])).length) Slot.unset).toArray = ls at hl ⊢
  have hl : lv_has ls 1 [(0, .ref h0)] := hl
  refine lv_aload_n hx hb d_C_Root_init_0 rfl (lv_at hl 0 rfl) ?_
  refine W.objInit hx hb hown (hts _ k_161) (hts _ k_1) (hts _ k_2) rfl (by rw [hml]; exact hl.1) rfl d_C_Root_init_1 (Nat.le_of_ble_eq_true rfl) (Nat.le_of_ble_eq_true rfl) ?_
  refine W.eq (g2 := F0 m 4 ls []) rfl ?_
  refine lv_aload_n hx hb d_C_Root_init_4 rfl (lv_at hl 0 rfl) ?_
  refine lv_iconst (v := 4) hx hb d_C_Root_init_5 (by decide) ?_
  refine va_newa (atype := .int) (a0 := (4, .inl (fun _ => 0))) hx hb (hts _ k_10) rfl hK hP hD hS hA (fun _ => rfl) (by decide) (N' := 4) (by decide) (Nat.le_of_ble_eq_true rfl) (Nat.le_of_ble_eq_true rfl) (Nat.le_of_ble_eq_true rfl) d_C_Root_init_6 (fun q1 e1 H_1 hK_1 hP_1 hD_1 hS_1 => ?_)
  clear hK hP hD hS
  have hP_2 : va_P (dC, dI) classes [(h0, .inr (10, [.int 0, .int 0, .int 0, .int 0, .int 0, .null, .int 0, .int 0, .int 0, .int 0, .int 0, .int 0, .int 0])), (q1, .inl (e1, 4, .inl (fun _ => 0)))] H_1 := hP_1
  clear hP_1
  have hD_2 : va_D A [(h0, .inr (10, [.int 0, .int 0, .int 0, .int 0, .int 0, .null, .int 0, .int 0, .int 0, .int 0, .int 0, .int 0, .int 0])), (q1, .inl (e1, 4, .inl (fun _ => 0)))] := hD_1
  clear hD_1
  have hK_2 : va_K (dC, dI) classes [(e1, .int)] s := hK_1
  clear hK_1
  refine W.widen (k := 1) (n := 4) (Nat.le_of_ble_eq_true rfl) (Nat.le_of_ble_eq_true rfl) ?_
  refine va_put (D := (dC, dI)) (ci := 10) (v := .ref q1) (ty := .array .int) (C := R_C_Root) (T := F_C_Root) (N := 13) hx hb hts i_C_Root t_C_Root t_C_Root_ok n_C_Root hown hK_2 hP_2 hD_2 hS_1 0 rfl rfl 5 (by decide) (hts _ k_162) (fun _ h9 => h9) rfl (by decide +kernel) rfl rfl (Nat.le_of_ble_eq_true rfl) d_C_Root_init_8 (fun H_2 locs_1 hP_3 hD_3 hS_2 => ?_)
  clear hP_2 hD_2 hS_1
  have hP_4 : va_P (dC, dI) classes [(h0, .inr (10, [.int 0, .int 0, .int 0, .int 0, .int 0, .ref q1, .int 0, .int 0, .int 0, .int 0, .int 0, .int 0, .int 0])), (q1, .inl (e1, 4, .inl (fun _ => 0)))] H_2 := hP_3
  clear hP_3
  have hD_4 : va_D A [(h0, .inr (10, [.int 0, .int 0, .int 0, .int 0, .int 0, .ref q1, .int 0, .int 0, .int 0, .int 0, .int 0, .int 0, .int 0])), (q1, .inl (e1, 4, .inl (fun _ => 0)))] := hD_3
  clear hD_3
  refine W.widen (k := 1) (n := 4) (Nat.le_of_ble_eq_true rfl) (Nat.le_of_ble_eq_true rfl) ?_
  have hK9 := hK_2.sub (tys' := [(e1, .int)]) [0] rfl
  exact W.vret hx hb hr (fun t ht hW => ⟨⟨(), rfl, trivial, q1, e1, by rw [ht]; exact hP_4, va_K.moved hW.alike hK9, hD_4⟩, hS_2.F ht⟩) hS_2.2.2 d_C_Root_init_11
