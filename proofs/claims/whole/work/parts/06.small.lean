set_option maxHeartbeats 4000000 in
set_option maxRecDepth 100000 in
theorem c_C_Root_init (l : Launch) (dC : Nat → ClassId) (dI : Nat → Nat → Nat) (h0 : Nat) (sz : Nat) : Met l y_C_Root_init w_C_Root_init ({ frames := 1, cells := 1, slots := 4, locals := 12 }) (va_Pc [.ref h0] (fun U => U.heap.size = sz ∧ va_P (dC, dI) classes [(h0, .inr (10, [.int 0, .int 0, .int 0, .int 0, .int 0, .null, .int 0, .int 0, .int 0, .int 0, .int 0, .int 0, .int 0]))] U.heap ∧ va_K (dC, dI) classes [] U ∧ va_D (fun _ => True) [(h0, .inr (10, [.int 0, .int 0, .int 0, .int 0, .int 0, .null, .int 0, .int 0, .int 0, .int 0, .int 0, .int 0, .int 0]))] ∧ zX U)) (va_Qv (fun _ : Unit => True) (fun _ t => ∃ (q1 : Nat) (e1 : ClassId), va_P (dC, dI) classes [(h0, .inr (10, [.int 0, .int 0, .int 0, .int 0, .int 0, .ref q1, .int 0, .int 0, .int 0, .int 0, .int 0, .int 0, .int 0])), (q1, .inl (e1, 4, .inl (fun _ => 0)))] t.heap ∧ va_K (dC, dI) classes [(e1, .int)] t ∧ va_D (va_A [(h0, .inr (10, [.int 0, .int 0, .int 0, .int 0, .int 0, .null, .int 0, .int 0, .int 0, .int 0, .int 0, .int 0, .int 0]))] sz) [(h0, .inr (10, [.int 0, .int 0, .int 0, .int 0, .int 0, .ref q1, .int 0, .int 0, .int 0, .int 0, .int 0, .int 0, .int 0])), (q1, .inl (e1, 4, .inl (fun _ => 0)))]) (va_A [(h0, .inr (10, [.int 0, .int 0, .int 0, .int 0, .int 0, .null, .int 0, .int 0, .int 0, .int 0, .int 0, .int 0, .int 0]))] sz)) 1 4 (va_A [(h0, .inr (10, [.int 0, .int 0, .int 0, .int 0, .int 0, .null, .int 0, .int 0, .int 0, .int 0, .int 0, .int 0, .int 0]))] sz) := by
  refine Met.ofW (cc := prog_7_method_1_code) (maxL := 1) (ret := (Option.none : Option Jvm.ClassFile.FieldType)) (by decide) rfl ?_
  intro p e s m args below meth c s₁ B hml hv
  obtain ⟨rfl, hsz, hP, hK, hD0, hX⟩ := hv
  have hx := B.exec
  have hb := B.bytes
  have hr := B.returns
  have hts0 := atoms_spec (ws := w_C_Root_init) B.pre
  have hts : ∀ w ∈ zg_tbl, w.before _ s = true := fun w h => hts0 w (List.mem_cons_of_mem _ h)
  have hown : s.vm.findClass "CellDecide$Root" = some m.cls := findClass_of_methodNamed B.named
  have hlocks := B.notSynchronized
  have hin : meth.name = "<init>" := (name_of_methodNamed B.named B.method).1
  subst hsz
  have hD := hD0.self (sz := s.heap.size)
  generalize hAe : va_A [(h0, .inr (10, [.int 0, .int 0, .int 0, .int 0, .int 0, .null, .int 0, .int 0, .int 0, .int 0, .int 0, .int 0, .int 0]))] s.heap.size = A at hD ⊢
  have hA : ∀ q : Nat, s.heap.size ≤ q → A q := fun q h => by rw [← hAe]; exact Or.inr h
  have hS : va_S A s.heap s.heap [] := va_S.rf
  have hl := lv_entry ([.ref h0]) (n := 1) (Nat.le_of_ble_eq_true rfl)
  rw [lg_entry_eq]
  generalize (lg_sl ([.ref h0]) ++ List.replicate (1 - (lg_sl ([.ref h0])).length) Slot.unset).toArray = ls at hl ⊢
  have hl : lv_has ls 1 [(0, .ref h0)] := hl
  refine lv_aload_n hx hb d_C_Root_init_0 rfl (lv_at hl 0 rfl) ?_
  refine W.objInit hx hb hown (hts _ k_0) (hts _ k_1) (hts _ k_2) rfl (by rw [hml]; exact hl.1) rfl d_C_Root_init_1 (Nat.le_of_ble_eq_true rfl) (Nat.le_of_ble_eq_true rfl) ?_
  refine W.eq (g2 := F0 m 4 ls []) rfl ?_
  refine lv_aload_n hx hb d_C_Root_init_4 rfl (lv_at hl 0 rfl) ?_
  refine lv_iconst (v := 4) hx hb d_C_Root_init_5 (by decide) ?_
  refine va_newa (a0 := (4, .inl (fun _ => 0))) hx hb (hts _ k_3) rfl hK hP hD hS hA (fun _ => rfl) (by decide) (N' := 4) (by decide) (Nat.le_of_ble_eq_true rfl) (Nat.le_of_ble_eq_true rfl) (Nat.le_of_ble_eq_true rfl) d_C_Root_init_6 (fun q1 e1 H hK hP hD hS => ?_)
  have hP : va_P (dC, dI) classes [(h0, .inr (10, [.int 0, .int 0, .int 0, .int 0, .int 0, .null, .int 0, .int 0, .int 0, .int 0, .int 0, .int 0, .int 0])), (q1, .inl (e1, 4, .inl (fun _ => 0)))] H := hP
  have hD : va_D A [(h0, .inr (10, [.int 0, .int 0, .int 0, .int 0, .int 0, .null, .int 0, .int 0, .int 0, .int 0, .int 0, .int 0, .int 0])), (q1, .inl (e1, 4, .inl (fun _ => 0)))] := hD
  have hK : va_K (dC, dI) classes [(e1, .int)] s := hK
  refine W.widen (k := 1) (n := 4) (Nat.le_of_ble_eq_true rfl) (Nat.le_of_ble_eq_true rfl) ?_
  refine va_put (D := (dC, dI)) (ci := 10) (v := .ref q1) (ty := .array .int) (C := R_C_Root) (T := F_C_Root) (N := 13) hx hb hts i_C_Root t_C_Root t_C_Root_ok n_C_Root hown hK hP hD hS 0 rfl rfl 5 (by decide) (hts _ k_4) (fun _ h9 => h9) rfl (by decide +kernel) rfl rfl (Nat.le_of_ble_eq_true rfl) d_C_Root_init_8 (fun H locs hP hD hS => ?_)
  have hP : va_P (dC, dI) classes [(h0, .inr (10, [.int 0, .int 0, .int 0, .int 0, .int 0, .ref q1, .int 0, .int 0, .int 0, .int 0, .int 0, .int 0, .int 0])), (q1, .inl (e1, 4, .inl (fun _ => 0)))] H := hP
  have hD : va_D A [(h0, .inr (10, [.int 0, .int 0, .int 0, .int 0, .int 0, .ref q1, .int 0, .int 0, .int 0, .int 0, .int 0, .int 0, .int 0])), (q1, .inl (e1, 4, .inl (fun _ => 0)))] := hD
  refine W.widen (k := 1) (n := 4) (Nat.le_of_ble_eq_true rfl) (Nat.le_of_ble_eq_true rfl) ?_
  have hK9 := hK.sub (tys' := [(e1, .int)]) [0] rfl
  exact W.vret hx hb hr (fun t ht hW => ⟨⟨(), rfl, trivial, q1, e1, by rw [ht]; exact hP, va_K.moved hW.alike hK9, hD⟩, hS.F ht⟩) hS.2.2 d_C_Root_init_11
set_option maxHeartbeats 4000000 in
set_option maxRecDepth 100000 in
theorem c_AbstractStringBuilder_init_I (l : Launch) (dC : Nat → ClassId) (dI : Nat → Nat → Nat) (h0 : Nat) (sz : Nat) : Met l y_AbstractStringBuilder_init_I w_AbstractStringBuilder_init_I ({ frames := 1, cells := 1, slots := 16, locals := 12 }) (va_Pc [.ref h0, .int 16] (fun U => U.heap.size = sz ∧ va_P (dC, dI) classes [(h0, .inr (5, [.null, .int 0, .int 0, .int 0]))] U.heap ∧ va_K (dC, dI) classes [] U ∧ va_D (fun _ => True) [(h0, .inr (5, [.null, .int 0, .int 0, .int 0]))] ∧ zX U ∧ va_Z "java/lang/String" "COMPACT_STRINGS" "Z" (.int 1) (va_A [(h0, .inr (5, [.null, .int 0, .int 0, .int 0]))] sz) U U.heap)) (va_Qv (fun _ : Unit => True) (fun _ t => ∃ (q1 : Nat) (e1 : ClassId), va_P (dC, dI) classes [(h0, .inr (5, [.ref q1, .int 0, .int 0, .int 0])), (q1, .inl (e1, 16, .inl (fun _ => 0)))] t.heap ∧ va_K (dC, dI) classes [(e1, .byte)] t ∧ va_D (va_A [(h0, .inr (5, [.null, .int 0, .int 0, .int 0]))] sz) [(h0, .inr (5, [.ref q1, .int 0, .int 0, .int 0])), (q1, .inl (e1, 16, .inl (fun _ => 0)))]) (va_A [(h0, .inr (5, [.null, .int 0, .int 0, .int 0]))] sz)) 1 16 (va_A [(h0, .inr (5, [.null, .int 0, .int 0, .int 0]))] sz) := by
  refine Met.ofW (cc := prog_15_method_2_code) (maxL := 2) (ret := (Option.none : Option Jvm.ClassFile.FieldType)) (by decide) rfl ?_
  intro p e s m args below meth c s₁ B hml hv
  obtain ⟨rfl, hsz, hP, hK, hD0, hX, hZ_cs⟩ := hv
  have hx := B.exec
  have hb := B.bytes
  have hr := B.returns
  have hts0 := atoms_spec (ws := w_AbstractStringBuilder_init_I) B.pre
  have hts : ∀ w ∈ zg_tbl, w.before _ s = true := fun w h => hts0 w (List.mem_cons_of_mem _ h)
  have hown : s.vm.findClass "java/lang/AbstractStringBuilder" = some m.cls := findClass_of_methodNamed B.named
  have hlocks := B.notSynchronized
  have hin : meth.name = "<init>" := (name_of_methodNamed B.named B.method).1
  subst hsz
  have hD := hD0.self (sz := s.heap.size)
  generalize hAe : va_A [(h0, .inr (5, [.null, .int 0, .int 0, .int 0]))] s.heap.size = A at hD hZ_cs ⊢
  have hA : ∀ q : Nat, s.heap.size ≤ q → A q := fun q h => by rw [← hAe]; exact Or.inr h
  have hS : va_S A s.heap s.heap [] := va_S.rf
  have hl := lv_entry ([.ref h0, .int 16]) (n := 2) (Nat.le_of_ble_eq_true rfl)
  rw [lg_entry_eq]
  generalize (lg_sl ([.ref h0, .int 16]) ++ List.replicate (2 - (lg_sl ([.ref h0, .int 16])).length) Slot.unset).toArray = ls at hl ⊢
  have hl : lv_has ls 2 [(0, .ref h0), (1, .int 16)] := hl
  refine lv_aload_n hx hb d_AbstractStringBuilder_init_I_0 rfl (lv_at hl 0 rfl) ?_
  refine W.objInit hx hb hown (hts _ k_58) (hts _ k_1) (hts _ k_2) rfl (by rw [hml]; exact hl.1) rfl d_AbstractStringBuilder_init_I_1 (Nat.le_of_ble_eq_true rfl) (Nat.le_of_ble_eq_true rfl) ?_
  refine W.eq (g2 := F0 m 4 ls []) rfl ?_
  refine va_gets hx hb hZ_cs hS hown (hts _ k_59) (fun _ h9 => h9) d_AbstractStringBuilder_init_I_4 ?_
  refine lv_if_eq (tgt := 25) hx hb d_AbstractStringBuilder_init_I_7 (by decide) (fun h => absurd h (by decide)) (fun _ => ?_)
  refine lv_aload_n hx hb d_AbstractStringBuilder_init_I_10 rfl (lv_at hl 0 rfl) ?_
  refine lv_iload_n hx hb d_AbstractStringBuilder_init_I_11 rfl (lv_at hl 1 rfl) ?_
  refine va_newa (a0 := (16, .inl (fun _ => 0))) hx hb (hts _ k_6) rfl hK hP hD hS hA (fun _ => rfl) (by decide) (N' := 16) (by decide) (Nat.le_of_ble_eq_true rfl) (Nat.le_of_ble_eq_true rfl) (Nat.le_of_ble_eq_true rfl) d_AbstractStringBuilder_init_I_12 (fun q1 e1 H hK hP hD hS => ?_)
  have hP : va_P (dC, dI) classes [(h0, .inr (5, [.null, .int 0, .int 0, .int 0])), (q1, .inl (e1, 16, .inl (fun _ => 0)))] H := hP
  have hD : va_D A [(h0, .inr (5, [.null, .int 0, .int 0, .int 0])), (q1, .inl (e1, 16, .inl (fun _ => 0)))] := hD
  have hK : va_K (dC, dI) classes [(e1, .byte)] s := hK
  refine W.widen (k := 1) (n := 16) (Nat.le_of_ble_eq_true rfl) (Nat.le_of_ble_eq_true rfl) ?_
  refine va_put (D := (dC, dI)) (ci := 5) (v := .ref q1) (ty := .array .byte) (C := R_StringBuilder) (T := F_StringBuilder) (N := 4) hx hb hts i_StringBuilder t_StringBuilder t_StringBuilder_ok n_StringBuilder hown hK hP hD hS 0 rfl rfl 0 (by decide) (hts _ k_60) (fun _ h9 => h9) rfl (by decide +kernel) rfl rfl (Nat.le_of_ble_eq_true rfl) d_AbstractStringBuilder_init_I_14 (fun H locs hP hD hS => ?_)
  have hP : va_P (dC, dI) classes [(h0, .inr (5, [.ref q1, .int 0, .int 0, .int 0])), (q1, .inl (e1, 16, .inl (fun _ => 0)))] H := hP
  have hD : va_D A [(h0, .inr (5, [.ref q1, .int 0, .int 0, .int 0])), (q1, .inl (e1, 16, .inl (fun _ => 0)))] := hD
  refine lv_aload_n hx hb d_AbstractStringBuilder_init_I_17 rfl (lv_at hl 0 rfl) ?_
  refine lv_iconst (v := 0) hx hb d_AbstractStringBuilder_init_I_18 (by decide) ?_
  refine va_put (D := (dC, dI)) (ci := 5) (v := .int 0) (ty := .byte) (C := R_StringBuilder) (T := F_StringBuilder) (N := 4) hx hb hts i_StringBuilder t_StringBuilder t_StringBuilder_ok n_StringBuilder hown hK hP hD hS 0 rfl rfl 1 (by decide) (hts _ k_61) (fun _ h9 => h9) rfl (by decide +kernel) (by decide) (by decide) (Nat.le_of_ble_eq_true rfl) d_AbstractStringBuilder_init_I_19 (fun H locs hP hD hS => ?_)
  have hP : va_P (dC, dI) classes [(h0, .inr (5, [.ref q1, .int 0, .int 0, .int 0])), (q1, .inl (e1, 16, .inl (fun _ => 0)))] H := hP
  have hD : va_D A [(h0, .inr (5, [.ref q1, .int 0, .int 0, .int 0])), (q1, .inl (e1, 16, .inl (fun _ => 0)))] := hD
  refine lv_goto (tgt := 38) hx hb d_AbstractStringBuilder_init_I_22 (by decide) ?_
  refine W.widen (k := 1) (n := 16) (Nat.le_of_ble_eq_true rfl) (Nat.le_of_ble_eq_true rfl) ?_
  have hK9 := hK.sub (tys' := [(e1, .byte)]) [0] rfl
  exact W.vret hx hb hr (fun t ht hW => ⟨⟨(), rfl, trivial, q1, e1, by rw [ht]; exact hP, va_K.moved hW.alike hK9, hD⟩, hS.F ht⟩) hS.2.2 d_AbstractStringBuilder_init_I_38
set_option maxHeartbeats 4000000 in
set_option maxRecDepth 100000 in
theorem c_StringBuilder_init (l : Launch) (dC : Nat → ClassId) (dI : Nat → Nat → Nat) (h0 : Nat) (sz : Nat) : Met l y_StringBuilder_init w_StringBuilder_init ({ frames := 2, cells := 1, slots := 16, locals := 33 }) (va_Pc [.ref h0] (fun U => U.heap.size = sz ∧ va_P (dC, dI) classes [(h0, .inr (5, [.null, .int 0, .int 0, .int 0]))] U.heap ∧ va_K (dC, dI) classes [] U ∧ va_D (fun _ => True) [(h0, .inr (5, [.null, .int 0, .int 0, .int 0]))] ∧ zX U ∧ va_Z "java/lang/String" "COMPACT_STRINGS" "Z" (.int 1) (va_A [(h0, .inr (5, [.null, .int 0, .int 0, .int 0]))] sz) U U.heap)) (va_Qv (fun _ : Unit => True) (fun _ t => ∃ (q1 : Nat) (e1 : ClassId), va_P (dC, dI) classes [(h0, .inr (5, [.ref q1, .int 0, .int 0, .int 0])), (q1, .inl (e1, 16, .inl (fun _ => 0)))] t.heap ∧ va_K (dC, dI) classes [(e1, .byte)] t ∧ va_D (va_A [(h0, .inr (5, [.null, .int 0, .int 0, .int 0]))] sz) [(h0, .inr (5, [.ref q1, .int 0, .int 0, .int 0])), (q1, .inl (e1, 16, .inl (fun _ => 0)))]) (va_A [(h0, .inr (5, [.null, .int 0, .int 0, .int 0]))] sz)) 1 16 (va_A [(h0, .inr (5, [.null, .int 0, .int 0, .int 0]))] sz) := by
  refine Met.ofW (cc := prog_25_method_1_code) (maxL := 1) (ret := (Option.none : Option Jvm.ClassFile.FieldType)) (by decide) rfl ?_
  intro p e s m args below meth c s₁ B hml hv
  obtain ⟨rfl, hsz, hP, hK, hD0, hX, hZ_cs⟩ := hv
  have hx := B.exec
  have hb := B.bytes
  have hr := B.returns
  have hts0 := atoms_spec (ws := w_StringBuilder_init) B.pre
  have hts : ∀ w ∈ zg_tbl, w.before _ s = true := fun w h => hts0 w (List.mem_cons_of_mem _ h)
  have hown : s.vm.findClass "java/lang/StringBuilder" = some m.cls := findClass_of_methodNamed B.named
  have hlocks := B.notSynchronized
  have hin : meth.name = "<init>" := (name_of_methodNamed B.named B.method).1
  subst hsz
  have hD := hD0.self (sz := s.heap.size)
  generalize hAe : va_A [(h0, .inr (5, [.null, .int 0, .int 0, .int 0]))] s.heap.size = A at hD hZ_cs ⊢
  have hA : ∀ q : Nat, s.heap.size ≤ q → A q := fun q h => by rw [← hAe]; exact Or.inr h
  have hS : va_S A s.heap s.heap [] := va_S.rf
  have hl := lv_entry ([.ref h0]) (n := 1) (Nat.le_of_ble_eq_true rfl)
  rw [lg_entry_eq]
  generalize (lg_sl ([.ref h0]) ++ List.replicate (1 - (lg_sl ([.ref h0])).length) Slot.unset).toArray = ls at hl ⊢
  have hl : lv_has ls 1 [(0, .ref h0)] := hl
  refine lv_aload_n hx hb d_StringBuilder_init_0 rfl (lv_at hl 0 rfl) ?_
  refine lv_bipush (v := 16) hx hb d_StringBuilder_init_1 (by decide) ?_
  have hPc := hP.sub (ws' := [(h0, .inr (5, [.null, .int 0, .int 0, .int 0]))]) [0] rfl
  have hDc := hD.sub (ws' := [(h0, .inr (5, [.null, .int 0, .int 0, .int 0]))]) [0] (by decide) rfl
  have hKc := hK.sub (tys' := []) [] rfl
  have hFc := va_free (wc := [(h0, .inr (5, [.null, .int 0, .int 0, .int 0]))]) hD hS hA [0] rfl
  have hZc_cs := (hZ_cs.kept hS.2.1).narrow hFc
  refine va_callv (va_runI (As := [.int 16]) (rest := []) ⟨hx, hb, hml, hown, hts⟩ (c_AbstractStringBuilder_init_I l dC dI h0 H.size) (cwI 1 hts (zt_G k_62) rfl rfl rfl (hts _ k_63) (hts _ k_64) (hts _ k_65) rfl (by decide +kernel) ⟨Nat.le_of_ble_eq_true rfl, Nat.le_of_ble_eq_true rfl⟩) ⟨fun a U g mk q => by obtain ⟨q0, q1, qP, qK, qD, qX, qz0⟩ := q; exact ⟨q0, q1, qP, va_K.moved (u := U) (U := U.calling g mk a) (Vm.Alike.refl U.vm) qK, qD, qX.call, qz0.moved (u := U) (U := U.calling g mk a) (Vm.Alike.refl U.vm)⟩, fun U hU hW => ⟨rfl, by rw [hU], by rw [hU]; exact hPc, va_K.moved hW.alike hKc, hDc.weaken (fun _ _ _ _ => trivial), hX.warm hW, by rw [hU]; exact hZc_cs.moved hW.alike⟩⟩ rfl rfl hl.1 rfl (lv_room (Nat.le_of_ble_eq_true rfl)) d_StringBuilder_init_3 ⟨Nat.le_of_ble_eq_true rfl, Nat.le_of_ble_eq_true rfl⟩) hS (fun q _ h => hFc q h) hFc (fun u t H1 locs ht hvm hw hB hz1 hk1 hS => ?_)
  obtain ⟨q1, e1, hP1, hK1, hD1⟩ := hB
  rw [ht] at hP1
  have hK1 := va_K.moved hvm.symm hK1
  obtain ⟨hP, hD⟩ := va_join (wr := []) (w1 := [(h0, .inr (5, [.ref q1, .int 0, .int 0, .int 0])), (q1, .inl (e1, 16, .inl (fun _ => 0)))]) hP hD [0] [] rfl rfl (by decide) (by decide) hk1 hFc hP1 hD1
  have hK := hK.app hK1
  generalize H1 = H at hP hS ⊢
  have hP : va_P (dC, dI) classes [(h0, .inr (5, [.ref q1, .int 0, .int 0, .int 0])), (q1, .inl (e1, 16, .inl (fun _ => 0)))] H := hP
  have hD : va_D A [(h0, .inr (5, [.ref q1, .int 0, .int 0, .int 0])), (q1, .inl (e1, 16, .inl (fun _ => 0)))] := hD
  have hK : va_K (dC, dI) classes [(e1, .byte)] s := hK
  refine W.widen (k := 1) (n := 16) (Nat.le_of_ble_eq_true rfl) (Nat.le_of_ble_eq_true rfl) ?_
  refine W.widen (k := 1) (n := 16) (Nat.le_of_ble_eq_true rfl) (Nat.le_of_ble_eq_true rfl) ?_
  have hK9 := hK.sub (tys' := [(e1, .byte)]) [0] rfl
  exact W.vret hx hb hr (fun t ht hW => ⟨⟨(), rfl, trivial, q1, e1, by rw [ht]; exact hP, va_K.moved hW.alike hK9, hD⟩, hS.F ht⟩) hS.2.2 d_StringBuilder_init_6
set_option maxHeartbeats 4000000 in
set_option maxRecDepth 100000 in
theorem c_C_Numbers_init_I (l : Launch) (dC : Nat → ClassId) (dI : Nat → Nat → Nat) (h0 : Nat) (sz : Nat) : Met l y_C_Numbers_init_I w_C_Numbers_init_I ({ frames := 3, cells := 3, slots := 3020, locals := 53 }) (va_Pc [.ref h0, .int 3000] (fun U => U.heap.size = sz ∧ va_P (dC, dI) classes [(h0, .inr (4, [.null, .int 0, .int 0, .null]))] U.heap ∧ va_K (dC, dI) classes [] U ∧ va_D (fun _ => True) [(h0, .inr (4, [.null, .int 0, .int 0, .null]))] ∧ zX U ∧ va_Z "java/lang/String" "COMPACT_STRINGS" "Z" (.int 1) (va_A [(h0, .inr (4, [.null, .int 0, .int 0, .null]))] sz) U U.heap)) (va_Qv (fun _ : Unit => True) (fun _ t => ∃ (q1 : Nat) (q2 : Nat) (q3 : Nat) (e1 : ClassId) (e2 : ClassId), va_P (dC, dI) classes [(h0, .inr (4, [.ref q3, .int 1, .int 0, .ref q1])), (q1, .inr (5, [.ref q2, .int 0, .int 0, .int 0])), (q2, .inl (e1, 16, .inl (fun _ => 0))), (q3, .inl (e2, 3000, .inl (fun _ => 0)))] t.heap ∧ va_K (dC, dI) classes [(e1, .byte), (e2, .int)] t ∧ va_D (va_A [(h0, .inr (4, [.null, .int 0, .int 0, .null]))] sz) [(h0, .inr (4, [.ref q3, .int 1, .int 0, .ref q1])), (q1, .inr (5, [.ref q2, .int 0, .int 0, .int 0])), (q2, .inl (e1, 16, .inl (fun _ => 0))), (q3, .inl (e2, 3000, .inl (fun _ => 0)))]) (va_A [(h0, .inr (4, [.null, .int 0, .int 0, .null]))] sz)) 3 3020 (va_A [(h0, .inr (4, [.null, .int 0, .int 0, .null]))] sz) := by
  refine Met.ofW (cc := prog_4_method_1_code) (maxL := 2) (ret := (Option.none : Option Jvm.ClassFile.FieldType)) (by decide) rfl ?_
  intro p e s m args below meth c s₁ B hml hv
  obtain ⟨rfl, hsz, hP, hK, hD0, hX, hZ_cs⟩ := hv
  have hx := B.exec
  have hb := B.bytes
  have hr := B.returns
  have hts0 := atoms_spec (ws := w_C_Numbers_init_I) B.pre
  have hts : ∀ w ∈ zg_tbl, w.before _ s = true := fun w h => hts0 w (List.mem_cons_of_mem _ h)
  have hown : s.vm.findClass "CellDecide$Numbers" = some m.cls := findClass_of_methodNamed B.named
  have hlocks := B.notSynchronized
  have hin : meth.name = "<init>" := (name_of_methodNamed B.named B.method).1
  subst hsz
  have hD := hD0.self (sz := s.heap.size)
  generalize hAe : va_A [(h0, .inr (4, [.null, .int 0, .int 0, .null]))] s.heap.size = A at hD hZ_cs ⊢
  have hA : ∀ q : Nat, s.heap.size ≤ q → A q := fun q h => by rw [← hAe]; exact Or.inr h
  have hS : va_S A s.heap s.heap [] := va_S.rf
  have hl := lv_entry ([.ref h0, .int 3000]) (n := 2) (Nat.le_of_ble_eq_true rfl)
  rw [lg_entry_eq]
  generalize (lg_sl ([.ref h0, .int 3000]) ++ List.replicate (2 - (lg_sl ([.ref h0, .int 3000])).length) Slot.unset).toArray = ls at hl ⊢
  have hl : lv_has ls 2 [(0, .ref h0), (1, .int 3000)] := hl
  refine lv_aload_n hx hb d_C_Numbers_init_I_0 rfl (lv_at hl 0 rfl) ?_
  refine W.objInit hx hb hown (hts _ k_53) (hts _ k_1) (hts _ k_2) rfl (by rw [hml]; exact hl.1) rfl d_C_Numbers_init_I_1 (Nat.le_of_ble_eq_true rfl) (Nat.le_of_ble_eq_true rfl) ?_
  refine W.eq (g2 := F0 m 4 ls []) rfl ?_
  refine lv_aload_n hx hb d_C_Numbers_init_I_4 rfl (lv_at hl 0 rfl) ?_
  refine lv_iconst (v := 1) hx hb d_C_Numbers_init_I_5 (by decide) ?_
  refine va_put (D := (dC, dI)) (ci := 4) (v := .int 1) (ty := .int) (C := R_C_Numbers) (T := F_C_Numbers) (N := 4) hx hb hts i_C_Numbers t_C_Numbers t_C_Numbers_ok n_C_Numbers hown hK hP hD hS 0 rfl rfl 1 (by decide) (hts _ k_54) (fun _ h9 => h9) rfl (by decide +kernel) rfl rfl (Nat.le_of_ble_eq_true rfl) d_C_Numbers_init_I_6 (fun H locs hP hD hS => ?_)
  have hP : va_P (dC, dI) classes [(h0, .inr (4, [.null, .int 1, .int 0, .null]))] H := hP
  have hD : va_D A [(h0, .inr (4, [.null, .int 1, .int 0, .null]))] := hD
  refine lv_aload_n hx hb d_C_Numbers_init_I_9 rfl (lv_at hl 0 rfl) ?_
  refine va_new (ci := 5) (fs := [.null, .int 0, .int 0, .int 0]) (C := R_StringBuilder) (T := F_StringBuilder) (N := 4) hx hb hts i_StringBuilder t_StringBuilder t_StringBuilder_ok hown (hts _ k_55) (hts _ k_56) (hts _ k_57) hK hP hD hS hA rfl (zn_StringBuilder) (Nat.le_of_ble_eq_true rfl) (Nat.le_of_ble_eq_true rfl) d_C_Numbers_init_I_10 (fun q1 H hP hD hS => ?_)
  have hP : va_P (dC, dI) classes [(h0, .inr (4, [.null, .int 1, .int 0, .null])), (q1, .inr (5, [.null, .int 0, .int 0, .int 0]))] H := hP
  have hD : va_D A [(h0, .inr (4, [.null, .int 1, .int 0, .null])), (q1, .inr (5, [.null, .int 0, .int 0, .int 0]))] := hD
  refine W.widen (k := 1) (n := 4) (Nat.le_of_ble_eq_true rfl) (Nat.le_of_ble_eq_true rfl) ?_
  refine lv_dup hx hb d_C_Numbers_init_I_13 rfl ?_
  have hPc := hP.sub (ws' := [(q1, .inr (5, [.null, .int 0, .int 0, .int 0]))]) [1] rfl
  have hDc := hD.sub (ws' := [(q1, .inr (5, [.null, .int 0, .int 0, .int 0]))]) [1] (by decide) rfl
  have hKc := hK.sub (tys' := []) [] rfl
  have hFc := va_free (wc := [(q1, .inr (5, [.null, .int 0, .int 0, .int 0]))]) hD hS hA [1] rfl
  have hZc_cs := (hZ_cs.kept hS.2.1).narrow hFc
  refine va_callv (va_runI (As := []) (rest := [.ref q1, .ref h0]) ⟨hx, hb, hml, hown, hts⟩ (c_StringBuilder_init l dC dI q1 H.size) (cwI 0 hts (zt_G k_66) rfl rfl rfl (hts _ k_57) (hts _ k_67) (hts _ k_68) rfl (by decide +kernel) ⟨Nat.le_of_ble_eq_true rfl, Nat.le_of_ble_eq_true rfl⟩) ⟨fun a U g mk q => by obtain ⟨q0, q1, qP, qK, qD, qX, qz0⟩ := q; exact ⟨q0, q1, qP, va_K.moved (u := U) (U := U.calling g mk a) (Vm.Alike.refl U.vm) qK, qD, qX.call, qz0.moved (u := U) (U := U.calling g mk a) (Vm.Alike.refl U.vm)⟩, fun U hU hW => ⟨rfl, by rw [hU], by rw [hU]; exact hPc, va_K.moved hW.alike hKc, hDc.weaken (fun _ _ _ _ => trivial), hX.warm hW, by rw [hU]; exact hZc_cs.moved hW.alike⟩⟩ rfl rfl hl.1 rfl (lv_room (Nat.le_of_ble_eq_true rfl)) d_C_Numbers_init_I_14 ⟨Nat.le_of_ble_eq_true rfl, Nat.le_of_ble_eq_true rfl⟩) hS (fun q _ h => hFc q h) hFc (fun u t H1 locs ht hvm hw hB hz1 hk1 hS => ?_)
  obtain ⟨q2, e1, hP1, hK1, hD1⟩ := hB
  rw [ht] at hP1
  have hK1 := va_K.moved hvm.symm hK1
  obtain ⟨hP, hD⟩ := va_join (wr := [(h0, .inr (4, [.null, .int 1, .int 0, .null]))]) (w1 := [(q1, .inr (5, [.ref q2, .int 0, .int 0, .int 0])), (q2, .inl (e1, 16, .inl (fun _ => 0)))]) hP hD [1] [0] rfl rfl (by decide) (by decide) hk1 hFc hP1 hD1
  have hK := hK.app hK1
  generalize H1 = H at hP hS ⊢
  have hP : va_P (dC, dI) classes [(h0, .inr (4, [.null, .int 1, .int 0, .null])), (q1, .inr (5, [.ref q2, .int 0, .int 0, .int 0])), (q2, .inl (e1, 16, .inl (fun _ => 0)))] H := hP
  have hD : va_D A [(h0, .inr (4, [.null, .int 1, .int 0, .null])), (q1, .inr (5, [.ref q2, .int 0, .int 0, .int 0])), (q2, .inl (e1, 16, .inl (fun _ => 0)))] := hD
  have hK : va_K (dC, dI) classes [(e1, .byte)] s := hK
  refine W.widen (k := 2) (n := 20) (Nat.le_of_ble_eq_true rfl) (Nat.le_of_ble_eq_true rfl) ?_
  refine va_putF (D := (dC, dI)) (ci := 4) (v := .ref q1) (ty := .object "java/lang/StringBuilder") (C := R_C_Numbers) (T := F_C_Numbers) (N := 4) hx hb hts i_C_Numbers t_C_Numbers t_C_Numbers_ok n_C_Numbers hown hK hP hD hS 0 rfl rfl 3 (by decide) (hts _ k_69) (fun _ h9 => h9) rfl hin rfl (by decide +kernel) rfl rfl (Nat.le_of_ble_eq_true rfl) d_C_Numbers_init_I_17 (fun H locs hP hD hS => ?_)
  have hP : va_P (dC, dI) classes [(h0, .inr (4, [.null, .int 1, .int 0, .ref q1])), (q1, .inr (5, [.ref q2, .int 0, .int 0, .int 0])), (q2, .inl (e1, 16, .inl (fun _ => 0)))] H := hP
  have hD : va_D A [(h0, .inr (4, [.null, .int 1, .int 0, .ref q1])), (q1, .inr (5, [.ref q2, .int 0, .int 0, .int 0])), (q2, .inl (e1, 16, .inl (fun _ => 0)))] := hD
  refine lv_aload_n hx hb d_C_Numbers_init_I_20 rfl (lv_at hl 0 rfl) ?_
  refine lv_iload_n hx hb d_C_Numbers_init_I_21 rfl (lv_at hl 1 rfl) ?_
  refine lv_bipush (v := 16) hx hb d_C_Numbers_init_I_22 (by decide) ?_
  refine va_mmax hx hb (hml.trans hl.1.symm) hown (hts _ k_70) (hts _ k_71) (hts _ k_72) (hts _ k_73) (Nat.le_of_ble_eq_true rfl) (Nat.le_of_ble_eq_true rfl) (Nat.le_of_ble_eq_true rfl) (Nat.le_of_ble_eq_true rfl) d_C_Numbers_init_I_24 ?_
  refine zi_top (y := 3000) (by decide) ?_
  refine va_newa (a0 := (3000, .inl (fun _ => 0))) hx hb (hts _ k_3) rfl hK hP hD hS hA (fun _ => rfl) (by decide) (N' := 3000) (by decide) (Nat.le_of_ble_eq_true rfl) (Nat.le_of_ble_eq_true rfl) (Nat.le_of_ble_eq_true rfl) d_C_Numbers_init_I_27 (fun q3 e2 H hK hP hD hS => ?_)
  have hP : va_P (dC, dI) classes [(h0, .inr (4, [.null, .int 1, .int 0, .ref q1])), (q1, .inr (5, [.ref q2, .int 0, .int 0, .int 0])), (q2, .inl (e1, 16, .inl (fun _ => 0))), (q3, .inl (e2, 3000, .inl (fun _ => 0)))] H := hP
  have hD : va_D A [(h0, .inr (4, [.null, .int 1, .int 0, .ref q1])), (q1, .inr (5, [.ref q2, .int 0, .int 0, .int 0])), (q2, .inl (e1, 16, .inl (fun _ => 0))), (q3, .inl (e2, 3000, .inl (fun _ => 0)))] := hD
  have hK : va_K (dC, dI) classes [(e1, .byte), (e2, .int)] s := hK
  refine W.widen (k := 3) (n := 3020) (Nat.le_of_ble_eq_true rfl) (Nat.le_of_ble_eq_true rfl) ?_
  refine va_put (D := (dC, dI)) (ci := 4) (v := .ref q3) (ty := .array .int) (C := R_C_Numbers) (T := F_C_Numbers) (N := 4) hx hb hts i_C_Numbers t_C_Numbers t_C_Numbers_ok n_C_Numbers hown hK hP hD hS 0 rfl rfl 0 (by decide) (hts _ k_74) (fun _ h9 => h9) rfl (by decide +kernel) rfl rfl (Nat.le_of_ble_eq_true rfl) d_C_Numbers_init_I_29 (fun H locs hP hD hS => ?_)
  have hP : va_P (dC, dI) classes [(h0, .inr (4, [.ref q3, .int 1, .int 0, .ref q1])), (q1, .inr (5, [.ref q2, .int 0, .int 0, .int 0])), (q2, .inl (e1, 16, .inl (fun _ => 0))), (q3, .inl (e2, 3000, .inl (fun _ => 0)))] H := hP
  have hD : va_D A [(h0, .inr (4, [.ref q3, .int 1, .int 0, .ref q1])), (q1, .inr (5, [.ref q2, .int 0, .int 0, .int 0])), (q2, .inl (e1, 16, .inl (fun _ => 0))), (q3, .inl (e2, 3000, .inl (fun _ => 0)))] := hD
  refine W.widen (k := 3) (n := 3020) (Nat.le_of_ble_eq_true rfl) (Nat.le_of_ble_eq_true rfl) ?_
  have hK9 := hK.sub (tys' := [(e1, .byte), (e2, .int)]) [0, 1] rfl
  exact W.vret hx hb hr (fun t ht hW => ⟨⟨(), rfl, trivial, q1, q2, q3, e1, e2, by rw [ht]; exact hP, va_K.moved hW.alike hK9, hD⟩, hS.F ht⟩) hS.2.2 d_C_Numbers_init_I_32
set_option maxHeartbeats 4000000 in
set_option maxRecDepth 100000 in
theorem c_C_Polys_init_LCellDec (l : Launch) (dC : Nat → ClassId) (dI : Nat → Nat → Nat) (h0 : Nat) (h1 : Nat) (sz : Nat) : Met l y_C_Polys_init_LCellDec w_C_Polys_init_LCellDec ({ frames := 1, cells := 0, slots := 0, locals := 12 }) (va_Pc [.ref h0, .ref h1] (fun U => U.heap.size = sz ∧ va_P (dC, dI) classes [(h0, .inr (3, [.null]))] U.heap ∧ va_K (dC, dI) classes [] U ∧ va_D (fun _ => True) [(h0, .inr (3, [.null]))] ∧ zX U)) (va_Qv (fun _ : Unit => True) (fun _ t => va_P (dC, dI) classes [(h0, .inr (3, [.ref h1]))] t.heap ∧ va_K (dC, dI) classes [] t ∧ va_D (va_A [(h0, .inr (3, [.null]))] sz) [(h0, .inr (3, [.ref h1]))]) (va_A [(h0, .inr (3, [.null]))] sz)) 0 0 (va_A [(h0, .inr (3, [.null]))] sz) := by
  refine Met.ofW (cc := prog_5_method_1_code) (maxL := 2) (ret := (Option.none : Option Jvm.ClassFile.FieldType)) (by decide) rfl ?_
  intro p e s m args below meth c s₁ B hml hv
  obtain ⟨rfl, hsz, hP, hK, hD0, hX⟩ := hv
  have hx := B.exec
  have hb := B.bytes
  have hr := B.returns
  have hts0 := atoms_spec (ws := w_C_Polys_init_LCellDec) B.pre
  have hts : ∀ w ∈ zg_tbl, w.before _ s = true := fun w h => hts0 w (List.mem_cons_of_mem _ h)
  have hown : s.vm.findClass "CellDecide$Polys" = some m.cls := findClass_of_methodNamed B.named
  have hlocks := B.notSynchronized
  have hin : meth.name = "<init>" := (name_of_methodNamed B.named B.method).1
  subst hsz
  have hD := hD0.self (sz := s.heap.size)
  generalize hAe : va_A [(h0, .inr (3, [.null]))] s.heap.size = A at hD ⊢
  have hA : ∀ q : Nat, s.heap.size ≤ q → A q := fun q h => by rw [← hAe]; exact Or.inr h
  have hS : va_S A s.heap s.heap [] := va_S.rf
  have hl := lv_entry ([.ref h0, .ref h1]) (n := 2) (Nat.le_of_ble_eq_true rfl)
  rw [lg_entry_eq]
  generalize (lg_sl ([.ref h0, .ref h1]) ++ List.replicate (2 - (lg_sl ([.ref h0, .ref h1])).length) Slot.unset).toArray = ls at hl ⊢
  have hl : lv_has ls 2 [(0, .ref h0), (1, .ref h1)] := hl
  refine lv_aload_n hx hb d_C_Polys_init_LCellDec_0 rfl (lv_at hl 0 rfl) ?_
  refine W.objInit hx hb hown (hts _ k_78) (hts _ k_1) (hts _ k_2) rfl (by rw [hml]; exact hl.1) rfl d_C_Polys_init_LCellDec_1 (Nat.le_of_ble_eq_true rfl) (Nat.le_of_ble_eq_true rfl) ?_
  refine W.eq (g2 := F0 m 4 ls []) rfl ?_
  refine lv_aload_n hx hb d_C_Polys_init_LCellDec_4 rfl (lv_at hl 0 rfl) ?_
  refine lv_aload_n hx hb d_C_Polys_init_LCellDec_5 rfl (lv_at hl 1 rfl) ?_
  refine va_putF (D := (dC, dI)) (ci := 3) (v := .ref h1) (ty := .object "CellDecide$Numbers") (C := R_C_Polys) (T := F_C_Polys) (N := 1) hx hb hts i_C_Polys t_C_Polys t_C_Polys_ok n_C_Polys hown hK hP hD hS 0 rfl rfl 0 (by decide) (hts _ k_79) (fun _ h9 => h9) rfl hin rfl (by decide +kernel) rfl rfl (Nat.le_of_ble_eq_true rfl) d_C_Polys_init_LCellDec_6 (fun H locs hP hD hS => ?_)
  have hP : va_P (dC, dI) classes [(h0, .inr (3, [.ref h1]))] H := hP
  have hD : va_D A [(h0, .inr (3, [.ref h1]))] := hD
  refine W.widen (k := 0) (n := 0) (Nat.le_of_ble_eq_true rfl) (Nat.le_of_ble_eq_true rfl) ?_
  have hK9 := hK.sub (tys' := []) [] rfl
  exact W.vret hx hb hr (fun t ht hW => ⟨⟨(), rfl, trivial, by rw [ht]; exact hP, va_K.moved hW.alike hK9, hD⟩, hS.F ht⟩) hS.2.2 d_C_Polys_init_LCellDec_9
set_option maxHeartbeats 4000000 in
set_option maxRecDepth 100000 in
theorem c_C_Curves_init_LCellDec (l : Launch) (dC : Nat → ClassId) (dI : Nat → Nat → Nat) (h0 : Nat) (h1 : Nat) (h2 : Nat) (sz : Nat) : Met l y_C_Curves_init_LCellDec w_C_Curves_init_LCellDec ({ frames := 1, cells := 6, slots := 66, locals := 12 }) (va_Pc [.ref h0, .ref h1] (fun U => U.heap.size = sz ∧ va_P (dC, dI) classes [(h0, .inr (7, [.null, .null, .null, .null, .null, .null, .null, .null])), (h1, .inr (3, [.ref h2]))] U.heap ∧ va_K (dC, dI) classes [] U ∧ va_D (fun _ => True) [(h0, .inr (7, [.null, .null, .null, .null, .null, .null, .null, .null])), (h1, .inr (3, [.ref h2]))] ∧ zX U)) (va_Qv (fun _ : Unit => True) (fun _ t => ∃ (q1 : Nat) (q2 : Nat) (q3 : Nat) (q4 : Nat) (q5 : Nat) (q6 : Nat) (e1 : ClassId) (e2 : ClassId) (e3 : ClassId) (e4 : ClassId) (e5 : ClassId) (e6 : ClassId), va_P (dC, dI) classes [(h0, .inr (7, [.ref h1, .ref h2, .ref q1, .ref q2, .ref q3, .ref q4, .ref q5, .ref q6])), (h1, .inr (3, [.ref h2])), (q1, .inl (e1, 20, .inl (fun _ => 0))), (q2, .inl (e2, 5, .inl (fun _ => 0))), (q3, .inl (e3, 25, .inl (fun _ => 0))), (q4, .inl (e4, 5, .inl (fun _ => 0))), (q5, .inl (e5, 5, .inl (fun _ => 0))), (q6, .inl (e6, 6, .inl (fun _ => 0)))] t.heap ∧ va_K (dC, dI) classes [(e1, .int), (e2, .int), (e3, .int), (e4, .int), (e5, .int), (e6, .int)] t ∧ va_D (va_A [(h0, .inr (7, [.null, .null, .null, .null, .null, .null, .null, .null])), (h1, .inr (3, [.ref h2]))] sz) [(h0, .inr (7, [.ref h1, .ref h2, .ref q1, .ref q2, .ref q3, .ref q4, .ref q5, .ref q6])), (h1, .inr (3, [.ref h2])), (q1, .inl (e1, 20, .inl (fun _ => 0))), (q2, .inl (e2, 5, .inl (fun _ => 0))), (q3, .inl (e3, 25, .inl (fun _ => 0))), (q4, .inl (e4, 5, .inl (fun _ => 0))), (q5, .inl (e5, 5, .inl (fun _ => 0))), (q6, .inl (e6, 6, .inl (fun _ => 0)))]) (va_A [(h0, .inr (7, [.null, .null, .null, .null, .null, .null, .null, .null])), (h1, .inr (3, [.ref h2]))] sz)) 6 66 (va_A [(h0, .inr (7, [.null, .null, .null, .null, .null, .null, .null, .null])), (h1, .inr (3, [.ref h2]))] sz) := by
  refine Met.ofW (cc := prog_2_method_1_code) (maxL := 2) (ret := (Option.none : Option Jvm.ClassFile.FieldType)) (by decide) rfl ?_
  intro p e s m args below meth c s₁ B hml hv
  obtain ⟨rfl, hsz, hP, hK, hD0, hX⟩ := hv
  have hx := B.exec
  have hb := B.bytes
  have hr := B.returns
  have hts0 := atoms_spec (ws := w_C_Curves_init_LCellDec) B.pre
  have hts : ∀ w ∈ zg_tbl, w.before _ s = true := fun w h => hts0 w (List.mem_cons_of_mem _ h)
  have hown : s.vm.findClass "CellDecide$Curves" = some m.cls := findClass_of_methodNamed B.named
  have hlocks := B.notSynchronized
  have hin : meth.name = "<init>" := (name_of_methodNamed B.named B.method).1
  subst hsz
  have hD := hD0.self (sz := s.heap.size)
  generalize hAe : va_A [(h0, .inr (7, [.null, .null, .null, .null, .null, .null, .null, .null])), (h1, .inr (3, [.ref h2]))] s.heap.size = A at hD ⊢
  have hA : ∀ q : Nat, s.heap.size ≤ q → A q := fun q h => by rw [← hAe]; exact Or.inr h
  have hS : va_S A s.heap s.heap [] := va_S.rf
  have hl := lv_entry ([.ref h0, .ref h1]) (n := 2) (Nat.le_of_ble_eq_true rfl)
  rw [lg_entry_eq]
  generalize (lg_sl ([.ref h0, .ref h1]) ++ List.replicate (2 - (lg_sl ([.ref h0, .ref h1])).length) Slot.unset).toArray = ls at hl ⊢
  have hl : lv_has ls 2 [(0, .ref h0), (1, .ref h1)] := hl
  refine lv_aload_n hx hb d_C_Curves_init_LCellDec_0 rfl (lv_at hl 0 rfl) ?_
  refine W.objInit hx hb hown (hts _ k_112) (hts _ k_1) (hts _ k_2) rfl (by rw [hml]; exact hl.1) rfl d_C_Curves_init_LCellDec_1 (Nat.le_of_ble_eq_true rfl) (Nat.le_of_ble_eq_true rfl) ?_
  refine W.eq (g2 := F0 m 4 ls []) rfl ?_
  refine lv_aload_n hx hb d_C_Curves_init_LCellDec_4 rfl (lv_at hl 0 rfl) ?_
  refine lv_bipush (v := 20) hx hb d_C_Curves_init_LCellDec_5 (by decide) ?_
  refine va_newa (a0 := (20, .inl (fun _ => 0))) hx hb (hts _ k_3) rfl hK hP hD hS hA (fun _ => rfl) (by decide) (N' := 20) (by decide) (Nat.le_of_ble_eq_true rfl) (Nat.le_of_ble_eq_true rfl) (Nat.le_of_ble_eq_true rfl) d_C_Curves_init_LCellDec_7 (fun q1 e1 H hK hP hD hS => ?_)
  have hP : va_P (dC, dI) classes [(h0, .inr (7, [.null, .null, .null, .null, .null, .null, .null, .null])), (h1, .inr (3, [.ref h2])), (q1, .inl (e1, 20, .inl (fun _ => 0)))] H := hP
  have hD : va_D A [(h0, .inr (7, [.null, .null, .null, .null, .null, .null, .null, .null])), (h1, .inr (3, [.ref h2])), (q1, .inl (e1, 20, .inl (fun _ => 0)))] := hD
  have hK : va_K (dC, dI) classes [(e1, .int)] s := hK
  refine W.widen (k := 1) (n := 20) (Nat.le_of_ble_eq_true rfl) (Nat.le_of_ble_eq_true rfl) ?_
  refine va_putF (D := (dC, dI)) (ci := 7) (v := .ref q1) (ty := .array .int) (C := R_C_Curves) (T := F_C_Curves) (N := 8) hx hb hts i_C_Curves t_C_Curves t_C_Curves_ok n_C_Curves hown hK hP hD hS 0 rfl rfl 2 (by decide) (hts _ k_113) (fun _ h9 => h9) rfl hin rfl (by decide +kernel) rfl rfl (Nat.le_of_ble_eq_true rfl) d_C_Curves_init_LCellDec_9 (fun H locs hP hD hS => ?_)
  have hP : va_P (dC, dI) classes [(h0, .inr (7, [.null, .null, .ref q1, .null, .null, .null, .null, .null])), (h1, .inr (3, [.ref h2])), (q1, .inl (e1, 20, .inl (fun _ => 0)))] H := hP
  have hD : va_D A [(h0, .inr (7, [.null, .null, .ref q1, .null, .null, .null, .null, .null])), (h1, .inr (3, [.ref h2])), (q1, .inl (e1, 20, .inl (fun _ => 0)))] := hD
  refine lv_aload_n hx hb d_C_Curves_init_LCellDec_12 rfl (lv_at hl 0 rfl) ?_
  refine lv_iconst (v := 5) hx hb d_C_Curves_init_LCellDec_13 (by decide) ?_
  refine va_newa (a0 := (5, .inl (fun _ => 0))) hx hb (hts _ k_3) rfl hK hP hD hS hA (fun _ => rfl) (by decide) (N' := 5) (by decide) (Nat.le_of_ble_eq_true rfl) (Nat.le_of_ble_eq_true rfl) (Nat.le_of_ble_eq_true rfl) d_C_Curves_init_LCellDec_14 (fun q2 e2 H hK hP hD hS => ?_)
  have hP : va_P (dC, dI) classes [(h0, .inr (7, [.null, .null, .ref q1, .null, .null, .null, .null, .null])), (h1, .inr (3, [.ref h2])), (q1, .inl (e1, 20, .inl (fun _ => 0))), (q2, .inl (e2, 5, .inl (fun _ => 0)))] H := hP
  have hD : va_D A [(h0, .inr (7, [.null, .null, .ref q1, .null, .null, .null, .null, .null])), (h1, .inr (3, [.ref h2])), (q1, .inl (e1, 20, .inl (fun _ => 0))), (q2, .inl (e2, 5, .inl (fun _ => 0)))] := hD
  have hK : va_K (dC, dI) classes [(e1, .int), (e2, .int)] s := hK
  refine W.widen (k := 2) (n := 25) (Nat.le_of_ble_eq_true rfl) (Nat.le_of_ble_eq_true rfl) ?_
  refine va_putF (D := (dC, dI)) (ci := 7) (v := .ref q2) (ty := .array .int) (C := R_C_Curves) (T := F_C_Curves) (N := 8) hx hb hts i_C_Curves t_C_Curves t_C_Curves_ok n_C_Curves hown hK hP hD hS 0 rfl rfl 3 (by decide) (hts _ k_114) (fun _ h9 => h9) rfl hin rfl (by decide +kernel) rfl rfl (Nat.le_of_ble_eq_true rfl) d_C_Curves_init_LCellDec_16 (fun H locs hP hD hS => ?_)
  have hP : va_P (dC, dI) classes [(h0, .inr (7, [.null, .null, .ref q1, .ref q2, .null, .null, .null, .null])), (h1, .inr (3, [.ref h2])), (q1, .inl (e1, 20, .inl (fun _ => 0))), (q2, .inl (e2, 5, .inl (fun _ => 0)))] H := hP
  have hD : va_D A [(h0, .inr (7, [.null, .null, .ref q1, .ref q2, .null, .null, .null, .null])), (h1, .inr (3, [.ref h2])), (q1, .inl (e1, 20, .inl (fun _ => 0))), (q2, .inl (e2, 5, .inl (fun _ => 0)))] := hD
  refine lv_aload_n hx hb d_C_Curves_init_LCellDec_19 rfl (lv_at hl 0 rfl) ?_
  refine lv_bipush (v := 25) hx hb d_C_Curves_init_LCellDec_20 (by decide) ?_
  refine va_newa (a0 := (25, .inl (fun _ => 0))) hx hb (hts _ k_3) rfl hK hP hD hS hA (fun _ => rfl) (by decide) (N' := 25) (by decide) (Nat.le_of_ble_eq_true rfl) (Nat.le_of_ble_eq_true rfl) (Nat.le_of_ble_eq_true rfl) d_C_Curves_init_LCellDec_22 (fun q3 e3 H hK hP hD hS => ?_)
  have hP : va_P (dC, dI) classes [(h0, .inr (7, [.null, .null, .ref q1, .ref q2, .null, .null, .null, .null])), (h1, .inr (3, [.ref h2])), (q1, .inl (e1, 20, .inl (fun _ => 0))), (q2, .inl (e2, 5, .inl (fun _ => 0))), (q3, .inl (e3, 25, .inl (fun _ => 0)))] H := hP
  have hD : va_D A [(h0, .inr (7, [.null, .null, .ref q1, .ref q2, .null, .null, .null, .null])), (h1, .inr (3, [.ref h2])), (q1, .inl (e1, 20, .inl (fun _ => 0))), (q2, .inl (e2, 5, .inl (fun _ => 0))), (q3, .inl (e3, 25, .inl (fun _ => 0)))] := hD
  have hK : va_K (dC, dI) classes [(e1, .int), (e2, .int), (e3, .int)] s := hK
  refine W.widen (k := 3) (n := 50) (Nat.le_of_ble_eq_true rfl) (Nat.le_of_ble_eq_true rfl) ?_
  refine va_putF (D := (dC, dI)) (ci := 7) (v := .ref q3) (ty := .array .int) (C := R_C_Curves) (T := F_C_Curves) (N := 8) hx hb hts i_C_Curves t_C_Curves t_C_Curves_ok n_C_Curves hown hK hP hD hS 0 rfl rfl 4 (by decide) (hts _ k_115) (fun _ h9 => h9) rfl hin rfl (by decide +kernel) rfl rfl (Nat.le_of_ble_eq_true rfl) d_C_Curves_init_LCellDec_24 (fun H locs hP hD hS => ?_)
  have hP : va_P (dC, dI) classes [(h0, .inr (7, [.null, .null, .ref q1, .ref q2, .ref q3, .null, .null, .null])), (h1, .inr (3, [.ref h2])), (q1, .inl (e1, 20, .inl (fun _ => 0))), (q2, .inl (e2, 5, .inl (fun _ => 0))), (q3, .inl (e3, 25, .inl (fun _ => 0)))] H := hP
  have hD : va_D A [(h0, .inr (7, [.null, .null, .ref q1, .ref q2, .ref q3, .null, .null, .null])), (h1, .inr (3, [.ref h2])), (q1, .inl (e1, 20, .inl (fun _ => 0))), (q2, .inl (e2, 5, .inl (fun _ => 0))), (q3, .inl (e3, 25, .inl (fun _ => 0)))] := hD
  refine lv_aload_n hx hb d_C_Curves_init_LCellDec_27 rfl (lv_at hl 0 rfl) ?_
  refine lv_iconst (v := 5) hx hb d_C_Curves_init_LCellDec_28 (by decide) ?_
  refine va_newa (a0 := (5, .inl (fun _ => 0))) hx hb (hts _ k_3) rfl hK hP hD hS hA (fun _ => rfl) (by decide) (N' := 5) (by decide) (Nat.le_of_ble_eq_true rfl) (Nat.le_of_ble_eq_true rfl) (Nat.le_of_ble_eq_true rfl) d_C_Curves_init_LCellDec_29 (fun q4 e4 H hK hP hD hS => ?_)
  have hP : va_P (dC, dI) classes [(h0, .inr (7, [.null, .null, .ref q1, .ref q2, .ref q3, .null, .null, .null])), (h1, .inr (3, [.ref h2])), (q1, .inl (e1, 20, .inl (fun _ => 0))), (q2, .inl (e2, 5, .inl (fun _ => 0))), (q3, .inl (e3, 25, .inl (fun _ => 0))), (q4, .inl (e4, 5, .inl (fun _ => 0)))] H := hP
  have hD : va_D A [(h0, .inr (7, [.null, .null, .ref q1, .ref q2, .ref q3, .null, .null, .null])), (h1, .inr (3, [.ref h2])), (q1, .inl (e1, 20, .inl (fun _ => 0))), (q2, .inl (e2, 5, .inl (fun _ => 0))), (q3, .inl (e3, 25, .inl (fun _ => 0))), (q4, .inl (e4, 5, .inl (fun _ => 0)))] := hD
  have hK : va_K (dC, dI) classes [(e1, .int), (e2, .int), (e3, .int), (e4, .int)] s := hK
  refine W.widen (k := 4) (n := 55) (Nat.le_of_ble_eq_true rfl) (Nat.le_of_ble_eq_true rfl) ?_
  refine va_putF (D := (dC, dI)) (ci := 7) (v := .ref q4) (ty := .array .int) (C := R_C_Curves) (T := F_C_Curves) (N := 8) hx hb hts i_C_Curves t_C_Curves t_C_Curves_ok n_C_Curves hown hK hP hD hS 0 rfl rfl 5 (by decide) (hts _ k_116) (fun _ h9 => h9) rfl hin rfl (by decide +kernel) rfl rfl (Nat.le_of_ble_eq_true rfl) d_C_Curves_init_LCellDec_31 (fun H locs hP hD hS => ?_)
  have hP : va_P (dC, dI) classes [(h0, .inr (7, [.null, .null, .ref q1, .ref q2, .ref q3, .ref q4, .null, .null])), (h1, .inr (3, [.ref h2])), (q1, .inl (e1, 20, .inl (fun _ => 0))), (q2, .inl (e2, 5, .inl (fun _ => 0))), (q3, .inl (e3, 25, .inl (fun _ => 0))), (q4, .inl (e4, 5, .inl (fun _ => 0)))] H := hP
  have hD : va_D A [(h0, .inr (7, [.null, .null, .ref q1, .ref q2, .ref q3, .ref q4, .null, .null])), (h1, .inr (3, [.ref h2])), (q1, .inl (e1, 20, .inl (fun _ => 0))), (q2, .inl (e2, 5, .inl (fun _ => 0))), (q3, .inl (e3, 25, .inl (fun _ => 0))), (q4, .inl (e4, 5, .inl (fun _ => 0)))] := hD
  refine lv_aload_n hx hb d_C_Curves_init_LCellDec_34 rfl (lv_at hl 0 rfl) ?_
  refine lv_iconst (v := 5) hx hb d_C_Curves_init_LCellDec_35 (by decide) ?_
  refine va_newa (a0 := (5, .inl (fun _ => 0))) hx hb (hts _ k_3) rfl hK hP hD hS hA (fun _ => rfl) (by decide) (N' := 5) (by decide) (Nat.le_of_ble_eq_true rfl) (Nat.le_of_ble_eq_true rfl) (Nat.le_of_ble_eq_true rfl) d_C_Curves_init_LCellDec_36 (fun q5 e5 H hK hP hD hS => ?_)
  have hP : va_P (dC, dI) classes [(h0, .inr (7, [.null, .null, .ref q1, .ref q2, .ref q3, .ref q4, .null, .null])), (h1, .inr (3, [.ref h2])), (q1, .inl (e1, 20, .inl (fun _ => 0))), (q2, .inl (e2, 5, .inl (fun _ => 0))), (q3, .inl (e3, 25, .inl (fun _ => 0))), (q4, .inl (e4, 5, .inl (fun _ => 0))), (q5, .inl (e5, 5, .inl (fun _ => 0)))] H := hP
  have hD : va_D A [(h0, .inr (7, [.null, .null, .ref q1, .ref q2, .ref q3, .ref q4, .null, .null])), (h1, .inr (3, [.ref h2])), (q1, .inl (e1, 20, .inl (fun _ => 0))), (q2, .inl (e2, 5, .inl (fun _ => 0))), (q3, .inl (e3, 25, .inl (fun _ => 0))), (q4, .inl (e4, 5, .inl (fun _ => 0))), (q5, .inl (e5, 5, .inl (fun _ => 0)))] := hD
  have hK : va_K (dC, dI) classes [(e1, .int), (e2, .int), (e3, .int), (e4, .int), (e5, .int)] s := hK
  refine W.widen (k := 5) (n := 60) (Nat.le_of_ble_eq_true rfl) (Nat.le_of_ble_eq_true rfl) ?_
  refine va_putF (D := (dC, dI)) (ci := 7) (v := .ref q5) (ty := .array .int) (C := R_C_Curves) (T := F_C_Curves) (N := 8) hx hb hts i_C_Curves t_C_Curves t_C_Curves_ok n_C_Curves hown hK hP hD hS 0 rfl rfl 6 (by decide) (hts _ k_117) (fun _ h9 => h9) rfl hin rfl (by decide +kernel) rfl rfl (Nat.le_of_ble_eq_true rfl) d_C_Curves_init_LCellDec_38 (fun H locs hP hD hS => ?_)
  have hP : va_P (dC, dI) classes [(h0, .inr (7, [.null, .null, .ref q1, .ref q2, .ref q3, .ref q4, .ref q5, .null])), (h1, .inr (3, [.ref h2])), (q1, .inl (e1, 20, .inl (fun _ => 0))), (q2, .inl (e2, 5, .inl (fun _ => 0))), (q3, .inl (e3, 25, .inl (fun _ => 0))), (q4, .inl (e4, 5, .inl (fun _ => 0))), (q5, .inl (e5, 5, .inl (fun _ => 0)))] H := hP
  have hD : va_D A [(h0, .inr (7, [.null, .null, .ref q1, .ref q2, .ref q3, .ref q4, .ref q5, .null])), (h1, .inr (3, [.ref h2])), (q1, .inl (e1, 20, .inl (fun _ => 0))), (q2, .inl (e2, 5, .inl (fun _ => 0))), (q3, .inl (e3, 25, .inl (fun _ => 0))), (q4, .inl (e4, 5, .inl (fun _ => 0))), (q5, .inl (e5, 5, .inl (fun _ => 0)))] := hD
  refine lv_aload_n hx hb d_C_Curves_init_LCellDec_41 rfl (lv_at hl 0 rfl) ?_
  refine lv_bipush (v := 6) hx hb d_C_Curves_init_LCellDec_42 (by decide) ?_
  refine va_newa (a0 := (6, .inl (fun _ => 0))) hx hb (hts _ k_3) rfl hK hP hD hS hA (fun _ => rfl) (by decide) (N' := 6) (by decide) (Nat.le_of_ble_eq_true rfl) (Nat.le_of_ble_eq_true rfl) (Nat.le_of_ble_eq_true rfl) d_C_Curves_init_LCellDec_44 (fun q6 e6 H hK hP hD hS => ?_)
  have hP : va_P (dC, dI) classes [(h0, .inr (7, [.null, .null, .ref q1, .ref q2, .ref q3, .ref q4, .ref q5, .null])), (h1, .inr (3, [.ref h2])), (q1, .inl (e1, 20, .inl (fun _ => 0))), (q2, .inl (e2, 5, .inl (fun _ => 0))), (q3, .inl (e3, 25, .inl (fun _ => 0))), (q4, .inl (e4, 5, .inl (fun _ => 0))), (q5, .inl (e5, 5, .inl (fun _ => 0))), (q6, .inl (e6, 6, .inl (fun _ => 0)))] H := hP
  have hD : va_D A [(h0, .inr (7, [.null, .null, .ref q1, .ref q2, .ref q3, .ref q4, .ref q5, .null])), (h1, .inr (3, [.ref h2])), (q1, .inl (e1, 20, .inl (fun _ => 0))), (q2, .inl (e2, 5, .inl (fun _ => 0))), (q3, .inl (e3, 25, .inl (fun _ => 0))), (q4, .inl (e4, 5, .inl (fun _ => 0))), (q5, .inl (e5, 5, .inl (fun _ => 0))), (q6, .inl (e6, 6, .inl (fun _ => 0)))] := hD
  have hK : va_K (dC, dI) classes [(e1, .int), (e2, .int), (e3, .int), (e4, .int), (e5, .int), (e6, .int)] s := hK
  refine W.widen (k := 6) (n := 66) (Nat.le_of_ble_eq_true rfl) (Nat.le_of_ble_eq_true rfl) ?_
  refine va_putF (D := (dC, dI)) (ci := 7) (v := .ref q6) (ty := .array .int) (C := R_C_Curves) (T := F_C_Curves) (N := 8) hx hb hts i_C_Curves t_C_Curves t_C_Curves_ok n_C_Curves hown hK hP hD hS 0 rfl rfl 7 (by decide) (hts _ k_118) (fun _ h9 => h9) rfl hin rfl (by decide +kernel) rfl rfl (Nat.le_of_ble_eq_true rfl) d_C_Curves_init_LCellDec_46 (fun H locs hP hD hS => ?_)
  have hP : va_P (dC, dI) classes [(h0, .inr (7, [.null, .null, .ref q1, .ref q2, .ref q3, .ref q4, .ref q5, .ref q6])), (h1, .inr (3, [.ref h2])), (q1, .inl (e1, 20, .inl (fun _ => 0))), (q2, .inl (e2, 5, .inl (fun _ => 0))), (q3, .inl (e3, 25, .inl (fun _ => 0))), (q4, .inl (e4, 5, .inl (fun _ => 0))), (q5, .inl (e5, 5, .inl (fun _ => 0))), (q6, .inl (e6, 6, .inl (fun _ => 0)))] H := hP
  have hD : va_D A [(h0, .inr (7, [.null, .null, .ref q1, .ref q2, .ref q3, .ref q4, .ref q5, .ref q6])), (h1, .inr (3, [.ref h2])), (q1, .inl (e1, 20, .inl (fun _ => 0))), (q2, .inl (e2, 5, .inl (fun _ => 0))), (q3, .inl (e3, 25, .inl (fun _ => 0))), (q4, .inl (e4, 5, .inl (fun _ => 0))), (q5, .inl (e5, 5, .inl (fun _ => 0))), (q6, .inl (e6, 6, .inl (fun _ => 0)))] := hD
  refine lv_aload_n hx hb d_C_Curves_init_LCellDec_49 rfl (lv_at hl 0 rfl) ?_
  refine lv_aload_n hx hb d_C_Curves_init_LCellDec_50 rfl (lv_at hl 1 rfl) ?_
  refine va_putF (D := (dC, dI)) (ci := 7) (v := .ref h1) (ty := .object "CellDecide$Polys") (C := R_C_Curves) (T := F_C_Curves) (N := 8) hx hb hts i_C_Curves t_C_Curves t_C_Curves_ok n_C_Curves hown hK hP hD hS 0 rfl rfl 0 (by decide) (hts _ k_119) (fun _ h9 => h9) rfl hin rfl (by decide +kernel) rfl rfl (Nat.le_of_ble_eq_true rfl) d_C_Curves_init_LCellDec_51 (fun H locs hP hD hS => ?_)
  have hP : va_P (dC, dI) classes [(h0, .inr (7, [.ref h1, .null, .ref q1, .ref q2, .ref q3, .ref q4, .ref q5, .ref q6])), (h1, .inr (3, [.ref h2])), (q1, .inl (e1, 20, .inl (fun _ => 0))), (q2, .inl (e2, 5, .inl (fun _ => 0))), (q3, .inl (e3, 25, .inl (fun _ => 0))), (q4, .inl (e4, 5, .inl (fun _ => 0))), (q5, .inl (e5, 5, .inl (fun _ => 0))), (q6, .inl (e6, 6, .inl (fun _ => 0)))] H := hP
  have hD : va_D A [(h0, .inr (7, [.ref h1, .null, .ref q1, .ref q2, .ref q3, .ref q4, .ref q5, .ref q6])), (h1, .inr (3, [.ref h2])), (q1, .inl (e1, 20, .inl (fun _ => 0))), (q2, .inl (e2, 5, .inl (fun _ => 0))), (q3, .inl (e3, 25, .inl (fun _ => 0))), (q4, .inl (e4, 5, .inl (fun _ => 0))), (q5, .inl (e5, 5, .inl (fun _ => 0))), (q6, .inl (e6, 6, .inl (fun _ => 0)))] := hD
  refine lv_aload_n hx hb d_C_Curves_init_LCellDec_54 rfl (lv_at hl 0 rfl) ?_
  refine lv_aload_n hx hb d_C_Curves_init_LCellDec_55 rfl (lv_at hl 1 rfl) ?_
  refine va_get (D := (dC, dI)) (ci := 3) (v := .ref h2) (C := R_C_Polys) (T := F_C_Polys) (N := 1) hx hb hts i_C_Polys hown hK hP 1 rfl rfl 0 (by decide) (hts _ k_120) (fun _ h9 => h9) rfl d_C_Curves_init_LCellDec_56 ?_
  refine va_putF (D := (dC, dI)) (ci := 7) (v := .ref h2) (ty := .object "CellDecide$Numbers") (C := R_C_Curves) (T := F_C_Curves) (N := 8) hx hb hts i_C_Curves t_C_Curves t_C_Curves_ok n_C_Curves hown hK hP hD hS 0 rfl rfl 1 (by decide) (hts _ k_121) (fun _ h9 => h9) rfl hin rfl (by decide +kernel) rfl rfl (Nat.le_of_ble_eq_true rfl) d_C_Curves_init_LCellDec_59 (fun H locs hP hD hS => ?_)
  have hP : va_P (dC, dI) classes [(h0, .inr (7, [.ref h1, .ref h2, .ref q1, .ref q2, .ref q3, .ref q4, .ref q5, .ref q6])), (h1, .inr (3, [.ref h2])), (q1, .inl (e1, 20, .inl (fun _ => 0))), (q2, .inl (e2, 5, .inl (fun _ => 0))), (q3, .inl (e3, 25, .inl (fun _ => 0))), (q4, .inl (e4, 5, .inl (fun _ => 0))), (q5, .inl (e5, 5, .inl (fun _ => 0))), (q6, .inl (e6, 6, .inl (fun _ => 0)))] H := hP
  have hD : va_D A [(h0, .inr (7, [.ref h1, .ref h2, .ref q1, .ref q2, .ref q3, .ref q4, .ref q5, .ref q6])), (h1, .inr (3, [.ref h2])), (q1, .inl (e1, 20, .inl (fun _ => 0))), (q2, .inl (e2, 5, .inl (fun _ => 0))), (q3, .inl (e3, 25, .inl (fun _ => 0))), (q4, .inl (e4, 5, .inl (fun _ => 0))), (q5, .inl (e5, 5, .inl (fun _ => 0))), (q6, .inl (e6, 6, .inl (fun _ => 0)))] := hD
  refine W.widen (k := 6) (n := 66) (Nat.le_of_ble_eq_true rfl) (Nat.le_of_ble_eq_true rfl) ?_
  have hK9 := hK.sub (tys' := [(e1, .int), (e2, .int), (e3, .int), (e4, .int), (e5, .int), (e6, .int)]) [0, 1, 2, 3, 4, 5] rfl
  exact W.vret hx hb hr (fun t ht hW => ⟨⟨(), rfl, trivial, q1, q2, q3, q4, q5, q6, e1, e2, e3, e4, e5, e6, by rw [ht]; exact hP, va_K.moved hW.alike hK9, hD⟩, hS.F ht⟩) hS.2.2 d_C_Curves_init_LCellDec_62
set_option maxHeartbeats 4000000 in
set_option maxRecDepth 100000 in
theorem c_C_Spot_init_LCellDec (l : Launch) (dC : Nat → ClassId) (dI : Nat → Nat → Nat) (h0 : Nat) (h1 : Nat) (h2 : Nat) (sz : Nat) : Met l y_C_Spot_init_LCellDec w_C_Spot_init_LCellDec ({ frames := 1, cells := 0, slots := 0, locals := 12 }) (va_Pc [.ref h0, .ref h1] (fun U => U.heap.size = sz ∧ va_P (dC, dI) classes [(h0, .inr (8, [.null, .null, .null, .int 0, .int 0, .int 0, .int 0, .int 0, .int 0, .double 0, .double 0])), (h1, .inr (3, [.ref h2]))] U.heap ∧ va_K (dC, dI) classes [] U ∧ va_D (fun _ => True) [(h0, .inr (8, [.null, .null, .null, .int 0, .int 0, .int 0, .int 0, .int 0, .int 0, .double 0, .double 0])), (h1, .inr (3, [.ref h2]))] ∧ zX U)) (va_Qv (fun _ : Unit => True) (fun _ t => va_P (dC, dI) classes [(h0, .inr (8, [.ref h1, .ref h2, .null, .int 0, .int 0, .int 0, .int 0, .int 0, .int 0, .double 0, .double 0])), (h1, .inr (3, [.ref h2]))] t.heap ∧ va_K (dC, dI) classes [] t ∧ va_D (va_A [(h0, .inr (8, [.null, .null, .null, .int 0, .int 0, .int 0, .int 0, .int 0, .int 0, .double 0, .double 0])), (h1, .inr (3, [.ref h2]))] sz) [(h0, .inr (8, [.ref h1, .ref h2, .null, .int 0, .int 0, .int 0, .int 0, .int 0, .int 0, .double 0, .double 0])), (h1, .inr (3, [.ref h2]))]) (va_A [(h0, .inr (8, [.null, .null, .null, .int 0, .int 0, .int 0, .int 0, .int 0, .int 0, .double 0, .double 0])), (h1, .inr (3, [.ref h2]))] sz)) 0 0 (va_A [(h0, .inr (8, [.null, .null, .null, .int 0, .int 0, .int 0, .int 0, .int 0, .int 0, .double 0, .double 0])), (h1, .inr (3, [.ref h2]))] sz) := by
  refine Met.ofW (cc := prog_10_method_1_code) (maxL := 2) (ret := (Option.none : Option Jvm.ClassFile.FieldType)) (by decide) rfl ?_
  intro p e s m args below meth c s₁ B hml hv
  obtain ⟨rfl, hsz, hP, hK, hD0, hX⟩ := hv
  have hx := B.exec
  have hb := B.bytes
  have hr := B.returns
  have hts0 := atoms_spec (ws := w_C_Spot_init_LCellDec) B.pre
  have hts : ∀ w ∈ zg_tbl, w.before _ s = true := fun w h => hts0 w (List.mem_cons_of_mem _ h)
  have hown : s.vm.findClass "CellDecide$Spot" = some m.cls := findClass_of_methodNamed B.named
  have hlocks := B.notSynchronized
  have hin : meth.name = "<init>" := (name_of_methodNamed B.named B.method).1
  subst hsz
  have hD := hD0.self (sz := s.heap.size)
  generalize hAe : va_A [(h0, .inr (8, [.null, .null, .null, .int 0, .int 0, .int 0, .int 0, .int 0, .int 0, .double 0, .double 0])), (h1, .inr (3, [.ref h2]))] s.heap.size = A at hD ⊢
  have hA : ∀ q : Nat, s.heap.size ≤ q → A q := fun q h => by rw [← hAe]; exact Or.inr h
  have hS : va_S A s.heap s.heap [] := va_S.rf
  have hl := lv_entry ([.ref h0, .ref h1]) (n := 2) (Nat.le_of_ble_eq_true rfl)
  rw [lg_entry_eq]
  generalize (lg_sl ([.ref h0, .ref h1]) ++ List.replicate (2 - (lg_sl ([.ref h0, .ref h1])).length) Slot.unset).toArray = ls at hl ⊢
  have hl : lv_has ls 2 [(0, .ref h0), (1, .ref h1)] := hl
  refine lv_aload_n hx hb d_C_Spot_init_LCellDec_0 rfl (lv_at hl 0 rfl) ?_
  refine W.objInit hx hb hown (hts _ k_129) (hts _ k_1) (hts _ k_2) rfl (by rw [hml]; exact hl.1) rfl d_C_Spot_init_LCellDec_1 (Nat.le_of_ble_eq_true rfl) (Nat.le_of_ble_eq_true rfl) ?_
  refine W.eq (g2 := F0 m 4 ls []) rfl ?_
  refine lv_aload_n hx hb d_C_Spot_init_LCellDec_4 rfl (lv_at hl 0 rfl) ?_
  refine lv_aload_n hx hb d_C_Spot_init_LCellDec_5 rfl (lv_at hl 1 rfl) ?_
  refine va_putF (D := (dC, dI)) (ci := 8) (v := .ref h1) (ty := .object "CellDecide$Polys") (C := R_C_Spot) (T := F_C_Spot) (N := 11) hx hb hts i_C_Spot t_C_Spot t_C_Spot_ok n_C_Spot hown hK hP hD hS 0 rfl rfl 0 (by decide) (hts _ k_130) (fun _ h9 => h9) rfl hin rfl (by decide +kernel) rfl rfl (Nat.le_of_ble_eq_true rfl) d_C_Spot_init_LCellDec_6 (fun H locs hP hD hS => ?_)
  have hP : va_P (dC, dI) classes [(h0, .inr (8, [.ref h1, .null, .null, .int 0, .int 0, .int 0, .int 0, .int 0, .int 0, .double 0, .double 0])), (h1, .inr (3, [.ref h2]))] H := hP
  have hD : va_D A [(h0, .inr (8, [.ref h1, .null, .null, .int 0, .int 0, .int 0, .int 0, .int 0, .int 0, .double 0, .double 0])), (h1, .inr (3, [.ref h2]))] := hD
  refine lv_aload_n hx hb d_C_Spot_init_LCellDec_9 rfl (lv_at hl 0 rfl) ?_
  refine lv_aload_n hx hb d_C_Spot_init_LCellDec_10 rfl (lv_at hl 1 rfl) ?_
  refine va_get (D := (dC, dI)) (ci := 3) (v := .ref h2) (C := R_C_Polys) (T := F_C_Polys) (N := 1) hx hb hts i_C_Polys hown hK hP 1 rfl rfl 0 (by decide) (hts _ k_131) (fun _ h9 => h9) rfl d_C_Spot_init_LCellDec_11 ?_
  refine va_putF (D := (dC, dI)) (ci := 8) (v := .ref h2) (ty := .object "CellDecide$Numbers") (C := R_C_Spot) (T := F_C_Spot) (N := 11) hx hb hts i_C_Spot t_C_Spot t_C_Spot_ok n_C_Spot hown hK hP hD hS 0 rfl rfl 1 (by decide) (hts _ k_132) (fun _ h9 => h9) rfl hin rfl (by decide +kernel) rfl rfl (Nat.le_of_ble_eq_true rfl) d_C_Spot_init_LCellDec_14 (fun H locs hP hD hS => ?_)
  have hP : va_P (dC, dI) classes [(h0, .inr (8, [.ref h1, .ref h2, .null, .int 0, .int 0, .int 0, .int 0, .int 0, .int 0, .double 0, .double 0])), (h1, .inr (3, [.ref h2]))] H := hP
  have hD : va_D A [(h0, .inr (8, [.ref h1, .ref h2, .null, .int 0, .int 0, .int 0, .int 0, .int 0, .int 0, .double 0, .double 0])), (h1, .inr (3, [.ref h2]))] := hD
  refine W.widen (k := 0) (n := 0) (Nat.le_of_ble_eq_true rfl) (Nat.le_of_ble_eq_true rfl) ?_
  have hK9 := hK.sub (tys' := []) [] rfl
  exact W.vret hx hb hr (fun t ht hW => ⟨⟨(), rfl, trivial, by rw [ht]; exact hP, va_K.moved hW.alike hK9, hD⟩, hS.F ht⟩) hS.2.2 d_C_Spot_init_LCellDec_17
set_option maxHeartbeats 4000000 in
set_option maxRecDepth 100000 in
theorem c_C_Numbers_init_I_v2 (l : Launch) (dC : Nat → ClassId) (dI : Nat → Nat → Nat) (h0 : Nat) (sz : Nat) : Met l y_C_Numbers_init_I w_C_Numbers_init_I ({ frames := 3, cells := 3, slots := 84, locals := 53 }) (va_Pc [.ref h0, .int 64] (fun U => U.heap.size = sz ∧ va_P (dC, dI) classes [(h0, .inr (4, [.null, .int 0, .int 0, .null]))] U.heap ∧ va_K (dC, dI) classes [] U ∧ va_D (fun _ => True) [(h0, .inr (4, [.null, .int 0, .int 0, .null]))] ∧ zX U ∧ va_Z "java/lang/String" "COMPACT_STRINGS" "Z" (.int 1) (va_A [(h0, .inr (4, [.null, .int 0, .int 0, .null]))] sz) U U.heap)) (va_Qv (fun _ : Unit => True) (fun _ t => ∃ (q1 : Nat) (q2 : Nat) (q3 : Nat) (e1 : ClassId) (e2 : ClassId), va_P (dC, dI) classes [(h0, .inr (4, [.ref q3, .int 1, .int 0, .ref q1])), (q1, .inr (5, [.ref q2, .int 0, .int 0, .int 0])), (q2, .inl (e1, 16, .inl (fun _ => 0))), (q3, .inl (e2, 64, .inl (fun _ => 0)))] t.heap ∧ va_K (dC, dI) classes [(e1, .byte), (e2, .int)] t ∧ va_D (va_A [(h0, .inr (4, [.null, .int 0, .int 0, .null]))] sz) [(h0, .inr (4, [.ref q3, .int 1, .int 0, .ref q1])), (q1, .inr (5, [.ref q2, .int 0, .int 0, .int 0])), (q2, .inl (e1, 16, .inl (fun _ => 0))), (q3, .inl (e2, 64, .inl (fun _ => 0)))]) (va_A [(h0, .inr (4, [.null, .int 0, .int 0, .null]))] sz)) 3 84 (va_A [(h0, .inr (4, [.null, .int 0, .int 0, .null]))] sz) := by
  refine Met.ofW (cc := prog_4_method_1_code) (maxL := 2) (ret := (Option.none : Option Jvm.ClassFile.FieldType)) (by decide) rfl ?_
  intro p e s m args below meth c s₁ B hml hv
  obtain ⟨rfl, hsz, hP, hK, hD0, hX, hZ_cs⟩ := hv
  have hx := B.exec
  have hb := B.bytes
  have hr := B.returns
  have hts0 := atoms_spec (ws := w_C_Numbers_init_I) B.pre
  have hts : ∀ w ∈ zg_tbl, w.before _ s = true := fun w h => hts0 w (List.mem_cons_of_mem _ h)
  have hown : s.vm.findClass "CellDecide$Numbers" = some m.cls := findClass_of_methodNamed B.named
  have hlocks := B.notSynchronized
  have hin : meth.name = "<init>" := (name_of_methodNamed B.named B.method).1
  subst hsz
  have hD := hD0.self (sz := s.heap.size)
  generalize hAe : va_A [(h0, .inr (4, [.null, .int 0, .int 0, .null]))] s.heap.size = A at hD hZ_cs ⊢
  have hA : ∀ q : Nat, s.heap.size ≤ q → A q := fun q h => by rw [← hAe]; exact Or.inr h
  have hS : va_S A s.heap s.heap [] := va_S.rf
  have hl := lv_entry ([.ref h0, .int 64]) (n := 2) (Nat.le_of_ble_eq_true rfl)
  rw [lg_entry_eq]
  generalize (lg_sl ([.ref h0, .int 64]) ++ List.replicate (2 - (lg_sl ([.ref h0, .int 64])).length) Slot.unset).toArray = ls at hl ⊢
  have hl : lv_has ls 2 [(0, .ref h0), (1, .int 64)] := hl
  refine lv_aload_n hx hb d_C_Numbers_init_I_0 rfl (lv_at hl 0 rfl) ?_
  refine W.objInit hx hb hown (hts _ k_53) (hts _ k_1) (hts _ k_2) rfl (by rw [hml]; exact hl.1) rfl d_C_Numbers_init_I_1 (Nat.le_of_ble_eq_true rfl) (Nat.le_of_ble_eq_true rfl) ?_
  refine W.eq (g2 := F0 m 4 ls []) rfl ?_
  refine lv_aload_n hx hb d_C_Numbers_init_I_4 rfl (lv_at hl 0 rfl) ?_
  refine lv_iconst (v := 1) hx hb d_C_Numbers_init_I_5 (by decide) ?_
  refine va_put (D := (dC, dI)) (ci := 4) (v := .int 1) (ty := .int) (C := R_C_Numbers) (T := F_C_Numbers) (N := 4) hx hb hts i_C_Numbers t_C_Numbers t_C_Numbers_ok n_C_Numbers hown hK hP hD hS 0 rfl rfl 1 (by decide) (hts _ k_54) (fun _ h9 => h9) rfl (by decide +kernel) rfl rfl (Nat.le_of_ble_eq_true rfl) d_C_Numbers_init_I_6 (fun H locs hP hD hS => ?_)
  have hP : va_P (dC, dI) classes [(h0, .inr (4, [.null, .int 1, .int 0, .null]))] H := hP
  have hD : va_D A [(h0, .inr (4, [.null, .int 1, .int 0, .null]))] := hD
  refine lv_aload_n hx hb d_C_Numbers_init_I_9 rfl (lv_at hl 0 rfl) ?_
  refine va_new (ci := 5) (fs := [.null, .int 0, .int 0, .int 0]) (C := R_StringBuilder) (T := F_StringBuilder) (N := 4) hx hb hts i_StringBuilder t_StringBuilder t_StringBuilder_ok hown (hts _ k_55) (hts _ k_56) (hts _ k_57) hK hP hD hS hA rfl (zn_StringBuilder) (Nat.le_of_ble_eq_true rfl) (Nat.le_of_ble_eq_true rfl) d_C_Numbers_init_I_10 (fun q1 H hP hD hS => ?_)
  have hP : va_P (dC, dI) classes [(h0, .inr (4, [.null, .int 1, .int 0, .null])), (q1, .inr (5, [.null, .int 0, .int 0, .int 0]))] H := hP
  have hD : va_D A [(h0, .inr (4, [.null, .int 1, .int 0, .null])), (q1, .inr (5, [.null, .int 0, .int 0, .int 0]))] := hD
  refine W.widen (k := 1) (n := 4) (Nat.le_of_ble_eq_true rfl) (Nat.le_of_ble_eq_true rfl) ?_
  refine lv_dup hx hb d_C_Numbers_init_I_13 rfl ?_
  have hPc := hP.sub (ws' := [(q1, .inr (5, [.null, .int 0, .int 0, .int 0]))]) [1] rfl
  have hDc := hD.sub (ws' := [(q1, .inr (5, [.null, .int 0, .int 0, .int 0]))]) [1] (by decide) rfl
  have hKc := hK.sub (tys' := []) [] rfl
  have hFc := va_free (wc := [(q1, .inr (5, [.null, .int 0, .int 0, .int 0]))]) hD hS hA [1] rfl
  have hZc_cs := (hZ_cs.kept hS.2.1).narrow hFc
  refine va_callv (va_runI (As := []) (rest := [.ref q1, .ref h0]) ⟨hx, hb, hml, hown, hts⟩ (c_StringBuilder_init l dC dI q1 H.size) (cwI 0 hts (zt_G k_66) rfl rfl rfl (hts _ k_57) (hts _ k_67) (hts _ k_68) rfl (by decide +kernel) ⟨Nat.le_of_ble_eq_true rfl, Nat.le_of_ble_eq_true rfl⟩) ⟨fun a U g mk q => by obtain ⟨q0, q1, qP, qK, qD, qX, qz0⟩ := q; exact ⟨q0, q1, qP, va_K.moved (u := U) (U := U.calling g mk a) (Vm.Alike.refl U.vm) qK, qD, qX.call, qz0.moved (u := U) (U := U.calling g mk a) (Vm.Alike.refl U.vm)⟩, fun U hU hW => ⟨rfl, by rw [hU], by rw [hU]; exact hPc, va_K.moved hW.alike hKc, hDc.weaken (fun _ _ _ _ => trivial), hX.warm hW, by rw [hU]; exact hZc_cs.moved hW.alike⟩⟩ rfl rfl hl.1 rfl (lv_room (Nat.le_of_ble_eq_true rfl)) d_C_Numbers_init_I_14 ⟨Nat.le_of_ble_eq_true rfl, Nat.le_of_ble_eq_true rfl⟩) hS (fun q _ h => hFc q h) hFc (fun u t H1 locs ht hvm hw hB hz1 hk1 hS => ?_)
  obtain ⟨q2, e1, hP1, hK1, hD1⟩ := hB
  rw [ht] at hP1
  have hK1 := va_K.moved hvm.symm hK1
  obtain ⟨hP, hD⟩ := va_join (wr := [(h0, .inr (4, [.null, .int 1, .int 0, .null]))]) (w1 := [(q1, .inr (5, [.ref q2, .int 0, .int 0, .int 0])), (q2, .inl (e1, 16, .inl (fun _ => 0)))]) hP hD [1] [0] rfl rfl (by decide) (by decide) hk1 hFc hP1 hD1
  have hK := hK.app hK1
  generalize H1 = H at hP hS ⊢
  have hP : va_P (dC, dI) classes [(h0, .inr (4, [.null, .int 1, .int 0, .null])), (q1, .inr (5, [.ref q2, .int 0, .int 0, .int 0])), (q2, .inl (e1, 16, .inl (fun _ => 0)))] H := hP
  have hD : va_D A [(h0, .inr (4, [.null, .int 1, .int 0, .null])), (q1, .inr (5, [.ref q2, .int 0, .int 0, .int 0])), (q2, .inl (e1, 16, .inl (fun _ => 0)))] := hD
  have hK : va_K (dC, dI) classes [(e1, .byte)] s := hK
  refine W.widen (k := 2) (n := 20) (Nat.le_of_ble_eq_true rfl) (Nat.le_of_ble_eq_true rfl) ?_
  refine va_putF (D := (dC, dI)) (ci := 4) (v := .ref q1) (ty := .object "java/lang/StringBuilder") (C := R_C_Numbers) (T := F_C_Numbers) (N := 4) hx hb hts i_C_Numbers t_C_Numbers t_C_Numbers_ok n_C_Numbers hown hK hP hD hS 0 rfl rfl 3 (by decide) (hts _ k_69) (fun _ h9 => h9) rfl hin rfl (by decide +kernel) rfl rfl (Nat.le_of_ble_eq_true rfl) d_C_Numbers_init_I_17 (fun H locs hP hD hS => ?_)
  have hP : va_P (dC, dI) classes [(h0, .inr (4, [.null, .int 1, .int 0, .ref q1])), (q1, .inr (5, [.ref q2, .int 0, .int 0, .int 0])), (q2, .inl (e1, 16, .inl (fun _ => 0)))] H := hP
  have hD : va_D A [(h0, .inr (4, [.null, .int 1, .int 0, .ref q1])), (q1, .inr (5, [.ref q2, .int 0, .int 0, .int 0])), (q2, .inl (e1, 16, .inl (fun _ => 0)))] := hD
  refine lv_aload_n hx hb d_C_Numbers_init_I_20 rfl (lv_at hl 0 rfl) ?_
  refine lv_iload_n hx hb d_C_Numbers_init_I_21 rfl (lv_at hl 1 rfl) ?_
  refine lv_bipush (v := 16) hx hb d_C_Numbers_init_I_22 (by decide) ?_
  refine va_mmax hx hb (hml.trans hl.1.symm) hown (hts _ k_70) (hts _ k_71) (hts _ k_72) (hts _ k_73) (Nat.le_of_ble_eq_true rfl) (Nat.le_of_ble_eq_true rfl) (Nat.le_of_ble_eq_true rfl) (Nat.le_of_ble_eq_true rfl) d_C_Numbers_init_I_24 ?_
  refine zi_top (y := 64) (by decide) ?_
  refine va_newa (a0 := (64, .inl (fun _ => 0))) hx hb (hts _ k_3) rfl hK hP hD hS hA (fun _ => rfl) (by decide) (N' := 64) (by decide) (Nat.le_of_ble_eq_true rfl) (Nat.le_of_ble_eq_true rfl) (Nat.le_of_ble_eq_true rfl) d_C_Numbers_init_I_27 (fun q3 e2 H hK hP hD hS => ?_)
  have hP : va_P (dC, dI) classes [(h0, .inr (4, [.null, .int 1, .int 0, .ref q1])), (q1, .inr (5, [.ref q2, .int 0, .int 0, .int 0])), (q2, .inl (e1, 16, .inl (fun _ => 0))), (q3, .inl (e2, 64, .inl (fun _ => 0)))] H := hP
  have hD : va_D A [(h0, .inr (4, [.null, .int 1, .int 0, .ref q1])), (q1, .inr (5, [.ref q2, .int 0, .int 0, .int 0])), (q2, .inl (e1, 16, .inl (fun _ => 0))), (q3, .inl (e2, 64, .inl (fun _ => 0)))] := hD
  have hK : va_K (dC, dI) classes [(e1, .byte), (e2, .int)] s := hK
  refine W.widen (k := 3) (n := 84) (Nat.le_of_ble_eq_true rfl) (Nat.le_of_ble_eq_true rfl) ?_
  refine va_put (D := (dC, dI)) (ci := 4) (v := .ref q3) (ty := .array .int) (C := R_C_Numbers) (T := F_C_Numbers) (N := 4) hx hb hts i_C_Numbers t_C_Numbers t_C_Numbers_ok n_C_Numbers hown hK hP hD hS 0 rfl rfl 0 (by decide) (hts _ k_74) (fun _ h9 => h9) rfl (by decide +kernel) rfl rfl (Nat.le_of_ble_eq_true rfl) d_C_Numbers_init_I_29 (fun H locs hP hD hS => ?_)
  have hP : va_P (dC, dI) classes [(h0, .inr (4, [.ref q3, .int 1, .int 0, .ref q1])), (q1, .inr (5, [.ref q2, .int 0, .int 0, .int 0])), (q2, .inl (e1, 16, .inl (fun _ => 0))), (q3, .inl (e2, 64, .inl (fun _ => 0)))] H := hP
  have hD : va_D A [(h0, .inr (4, [.ref q3, .int 1, .int 0, .ref q1])), (q1, .inr (5, [.ref q2, .int 0, .int 0, .int 0])), (q2, .inl (e1, 16, .inl (fun _ => 0))), (q3, .inl (e2, 64, .inl (fun _ => 0)))] := hD
  refine W.widen (k := 3) (n := 84) (Nat.le_of_ble_eq_true rfl) (Nat.le_of_ble_eq_true rfl) ?_
  have hK9 := hK.sub (tys' := [(e1, .byte), (e2, .int)]) [0, 1] rfl
  exact W.vret hx hb hr (fun t ht hW => ⟨⟨(), rfl, trivial, q1, q2, q3, e1, e2, by rw [ht]; exact hP, va_K.moved hW.alike hK9, hD⟩, hS.F ht⟩) hS.2.2 d_C_Numbers_init_I_32
set_option maxHeartbeats 4000000 in
set_option maxRecDepth 100000 in
theorem c_AbstractCollection_init (l : Launch) (dC : Nat → ClassId) (dI : Nat → Nat → Nat) (h0 : Nat) (sz : Nat) : Met l y_AbstractCollection_init w_AbstractCollection_init ({ frames := 1, cells := 0, slots := 0, locals := 12 }) (va_Pc [.ref h0] (fun U => U.heap.size = sz ∧ va_P (dC, dI) classes [] U.heap ∧ va_K (dC, dI) classes [] U ∧ va_D (fun _ => True) [] ∧ zX U)) (va_Qv (fun _ : Unit => True) (fun _ t => va_P (dC, dI) classes [] t.heap ∧ va_K (dC, dI) classes [] t ∧ va_D (va_A [] sz) []) (va_A [] sz)) 0 0 (va_A [] sz) := by
  refine Met.ofW (cc := prog_30_method_1_code) (maxL := 1) (ret := (Option.none : Option Jvm.ClassFile.FieldType)) (by decide) rfl ?_
  intro p e s m args below meth c s₁ B hml hv
  obtain ⟨rfl, hsz, hP, hK, hD0, hX⟩ := hv
  have hx := B.exec
  have hb := B.bytes
  have hr := B.returns
  have hts0 := atoms_spec (ws := w_AbstractCollection_init) B.pre
  have hts : ∀ w ∈ zg_tbl, w.before _ s = true := fun w h => hts0 w (List.mem_cons_of_mem _ h)
  have hown : s.vm.findClass "java/util/AbstractCollection" = some m.cls := findClass_of_methodNamed B.named
  have hlocks := B.notSynchronized
  have hin : meth.name = "<init>" := (name_of_methodNamed B.named B.method).1
  subst hsz
  have hD := hD0.self (sz := s.heap.size)
  generalize hAe : va_A [] s.heap.size = A at hD ⊢
  have hA : ∀ q : Nat, s.heap.size ≤ q → A q := fun q h => by rw [← hAe]; exact Or.inr h
  have hS : va_S A s.heap s.heap [] := va_S.rf
  have hl := lv_entry ([.ref h0]) (n := 1) (Nat.le_of_ble_eq_true rfl)
  rw [lg_entry_eq]
  generalize (lg_sl ([.ref h0]) ++ List.replicate (1 - (lg_sl ([.ref h0])).length) Slot.unset).toArray = ls at hl ⊢
  have hl : lv_has ls 1 [(0, .ref h0)] := hl
  refine lv_aload_n hx hb d_AbstractCollection_init_0 rfl (lv_at hl 0 rfl) ?_
  refine W.objInit hx hb hown (hts _ k_181) (hts _ k_1) (hts _ k_2) rfl (by rw [hml]; exact hl.1) rfl d_AbstractCollection_init_1 (Nat.le_of_ble_eq_true rfl) (Nat.le_of_ble_eq_true rfl) ?_
  refine W.eq (g2 := F0 m 4 ls []) rfl ?_
  refine W.widen (k := 0) (n := 0) (Nat.le_of_ble_eq_true rfl) (Nat.le_of_ble_eq_true rfl) ?_
  have hK9 := hK.sub (tys' := []) [] rfl
  exact W.vret hx hb hr (fun t ht hW => ⟨⟨(), rfl, trivial, by rw [ht]; exact hP, va_K.moved hW.alike hK9, hD⟩, hS.F ht⟩) hS.2.2 d_AbstractCollection_init_4
set_option maxHeartbeats 4000000 in
set_option maxRecDepth 100000 in
theorem c_AbstractList_init (l : Launch) (dC : Nat → ClassId) (dI : Nat → Nat → Nat) (h0 : Nat) (sz : Nat) : Met l y_AbstractList_init w_AbstractList_init ({ frames := 2, cells := 0, slots := 0, locals := 32 }) (va_Pc [.ref h0] (fun U => U.heap.size = sz ∧ va_P (dC, dI) classes [(h0, .inr (12, [.null, .int 0, .int 0]))] U.heap ∧ va_K (dC, dI) classes [] U ∧ va_D (fun _ => True) [(h0, .inr (12, [.null, .int 0, .int 0]))] ∧ zX U)) (va_Qv (fun _ : Unit => True) (fun _ t => va_P (dC, dI) classes [(h0, .inr (12, [.null, .int 0, .int 0]))] t.heap ∧ va_K (dC, dI) classes [] t ∧ va_D (va_A [(h0, .inr (12, [.null, .int 0, .int 0]))] sz) [(h0, .inr (12, [.null, .int 0, .int 0]))]) (va_A [(h0, .inr (12, [.null, .int 0, .int 0]))] sz)) 0 0 (va_A [(h0, .inr (12, [.null, .int 0, .int 0]))] sz) := by
  refine Met.ofW (cc := prog_31_method_1_code) (maxL := 1) (ret := (Option.none : Option Jvm.ClassFile.FieldType)) (by decide) rfl ?_
  intro p e s m args below meth c s₁ B hml hv
  obtain ⟨rfl, hsz, hP, hK, hD0, hX⟩ := hv
  have hx := B.exec
  have hb := B.bytes
  have hr := B.returns
  have hts0 := atoms_spec (ws := w_AbstractList_init) B.pre
  have hts : ∀ w ∈ zg_tbl, w.before _ s = true := fun w h => hts0 w (List.mem_cons_of_mem _ h)
  have hown : s.vm.findClass "java/util/AbstractList" = some m.cls := findClass_of_methodNamed B.named
  have hlocks := B.notSynchronized
  have hin : meth.name = "<init>" := (name_of_methodNamed B.named B.method).1
  subst hsz
  have hD := hD0.self (sz := s.heap.size)
  generalize hAe : va_A [(h0, .inr (12, [.null, .int 0, .int 0]))] s.heap.size = A at hD ⊢
  have hA : ∀ q : Nat, s.heap.size ≤ q → A q := fun q h => by rw [← hAe]; exact Or.inr h
  have hS : va_S A s.heap s.heap [] := va_S.rf
  have hl := lv_entry ([.ref h0]) (n := 1) (Nat.le_of_ble_eq_true rfl)
  rw [lg_entry_eq]
  generalize (lg_sl ([.ref h0]) ++ List.replicate (1 - (lg_sl ([.ref h0])).length) Slot.unset).toArray = ls at hl ⊢
  have hl : lv_has ls 1 [(0, .ref h0)] := hl
  refine lv_aload_n hx hb d_AbstractList_init_0 rfl (lv_at hl 0 rfl) ?_
  have hPc := hP.sub (ws' := []) [] rfl
  have hDc := hD.sub (ws' := []) [] (by decide) rfl
  have hKc := hK.sub (tys' := []) [] rfl
  have hFc := va_free (wc := []) hD hS hA [] rfl
  refine va_callv (va_runI (As := []) (rest := []) ⟨hx, hb, hml, hown, hts⟩ (c_AbstractCollection_init l dC dI h0 H.size) (cwI 0 hts (zt_G k_182) rfl rfl rfl (hts _ k_183) (hts _ k_184) (hts _ k_185) rfl (by decide +kernel) ⟨Nat.le_of_ble_eq_true rfl, Nat.le_of_ble_eq_true rfl⟩) ⟨fun a U g mk q => by obtain ⟨q0, q1, qP, qK, qD, qX⟩ := q; exact ⟨q0, q1, qP, va_K.moved (u := U) (U := U.calling g mk a) (Vm.Alike.refl U.vm) qK, qD, qX.call⟩, fun U hU hW => ⟨rfl, by rw [hU], by rw [hU]; exact hPc, va_K.moved hW.alike hKc, hDc.weaken (fun _ _ _ _ => trivial), hX.warm hW⟩⟩ rfl rfl hl.1 rfl (lv_room (Nat.le_of_ble_eq_true rfl)) d_AbstractList_init_1 ⟨Nat.le_of_ble_eq_true rfl, Nat.le_of_ble_eq_true rfl⟩) hS (fun q _ h => hFc q h) hFc (fun u t H1 locs ht hvm hw hB hz1 hk1 hS => ?_)
  obtain ⟨hP1, hK1, hD1⟩ := hB
  rw [ht] at hP1
  have hK1 := va_K.moved hvm.symm hK1
  obtain ⟨hP, hD⟩ := va_join (wr := [(h0, .inr (12, [.null, .int 0, .int 0]))]) (w1 := []) hP hD [] [0] rfl rfl (by decide) (by decide) hk1 hFc hP1 hD1
  generalize H1 = H at hP hS ⊢
  have hP : va_P (dC, dI) classes [(h0, .inr (12, [.null, .int 0, .int 0]))] H := hP
  have hD : va_D A [(h0, .inr (12, [.null, .int 0, .int 0]))] := hD
  refine W.widen (k := 0) (n := 0) (Nat.le_of_ble_eq_true rfl) (Nat.le_of_ble_eq_true rfl) ?_
  refine lv_aload_n hx hb d_AbstractList_init_4 rfl (lv_at hl 0 rfl) ?_
  refine lv_iconst (v := 0) hx hb d_AbstractList_init_5 (by decide) ?_
  refine va_put (D := (dC, dI)) (ci := 12) (v := .int 0) (ty := .int) (C := R_ArrayList) (T := F_ArrayList) (N := 3) hx hb hts i_ArrayList t_ArrayList t_ArrayList_ok n_ArrayList hown hK hP hD hS 0 rfl rfl 2 (by decide) (hts _ k_186) (fun _ h9 => h9) rfl (by decide +kernel) rfl rfl (Nat.le_of_ble_eq_true rfl) d_AbstractList_init_6 (fun H locs hP hD hS => ?_)
  have hP : va_P (dC, dI) classes [(h0, .inr (12, [.null, .int 0, .int 0]))] H := hP
  have hD : va_D A [(h0, .inr (12, [.null, .int 0, .int 0]))] := hD
  refine W.widen (k := 0) (n := 0) (Nat.le_of_ble_eq_true rfl) (Nat.le_of_ble_eq_true rfl) ?_
  have hK9 := hK.sub (tys' := []) [] rfl
  exact W.vret hx hb hr (fun t ht hW => ⟨⟨(), rfl, trivial, by rw [ht]; exact hP, va_K.moved hW.alike hK9, hD⟩, hS.F ht⟩) hS.2.2 d_AbstractList_init_9
set_option maxHeartbeats 4000000 in
set_option maxRecDepth 100000 in
theorem c_ArrayList_init (l : Launch) (dC : Nat → ClassId) (dI : Nat → Nat → Nat) (h0 : Nat) (zde : Nat) (sz : Nat) : Met l y_ArrayList_init w_ArrayList_init ({ frames := 3, cells := 0, slots := 0, locals := 52 }) (va_Pc [.ref h0] (fun U => U.heap.size = sz ∧ va_P (dC, dI) classes [(h0, .inr (12, [.null, .int 0, .int 0]))] U.heap ∧ va_K (dC, dI) classes [] U ∧ va_D (fun _ => True) [(h0, .inr (12, [.null, .int 0, .int 0]))] ∧ zX U ∧ va_Z "java/util/ArrayList" "DEFAULTCAPACITY_EMPTY_ELEMENTDATA" "[Ljava/lang/Object;" (.ref zde) (va_A [(h0, .inr (12, [.null, .int 0, .int 0]))] sz) U U.heap)) (va_Qv (fun _ : Unit => True) (fun _ t => va_P (dC, dI) classes [(h0, .inr (12, [.ref zde, .int 0, .int 0]))] t.heap ∧ va_K (dC, dI) classes [] t ∧ va_D (va_A [(h0, .inr (12, [.null, .int 0, .int 0]))] sz) [(h0, .inr (12, [.ref zde, .int 0, .int 0]))]) (va_A [(h0, .inr (12, [.null, .int 0, .int 0]))] sz)) 0 0 (va_A [(h0, .inr (12, [.null, .int 0, .int 0]))] sz) := by
  refine Met.ofW (cc := prog_32_method_2_code) (maxL := 1) (ret := (Option.none : Option Jvm.ClassFile.FieldType)) (by decide) rfl ?_
  intro p e s m args below meth c s₁ B hml hv
  obtain ⟨rfl, hsz, hP, hK, hD0, hX, hZ_de⟩ := hv
  have hx := B.exec
  have hb := B.bytes
  have hr := B.returns
  have hts0 := atoms_spec (ws := w_ArrayList_init) B.pre
  have hts : ∀ w ∈ zg_tbl, w.before _ s = true := fun w h => hts0 w (List.mem_cons_of_mem _ h)
  have hown : s.vm.findClass "java/util/ArrayList" = some m.cls := findClass_of_methodNamed B.named
  have hlocks := B.notSynchronized
  have hin : meth.name = "<init>" := (name_of_methodNamed B.named B.method).1
  subst hsz
  have hD := hD0.self (sz := s.heap.size)
  generalize hAe : va_A [(h0, .inr (12, [.null, .int 0, .int 0]))] s.heap.size = A at hD hZ_de ⊢
  have hA : ∀ q : Nat, s.heap.size ≤ q → A q := fun q h => by rw [← hAe]; exact Or.inr h
  have hS : va_S A s.heap s.heap [] := va_S.rf
  have hl := lv_entry ([.ref h0]) (n := 1) (Nat.le_of_ble_eq_true rfl)
  rw [lg_entry_eq]
  generalize (lg_sl ([.ref h0]) ++ List.replicate (1 - (lg_sl ([.ref h0])).length) Slot.unset).toArray = ls at hl ⊢
  have hl : lv_has ls 1 [(0, .ref h0)] := hl
  refine lv_aload_n hx hb d_ArrayList_init_0 rfl (lv_at hl 0 rfl) ?_
  have hPc := hP.sub (ws' := [(h0, .inr (12, [.null, .int 0, .int 0]))]) [0] rfl
  have hDc := hD.sub (ws' := [(h0, .inr (12, [.null, .int 0, .int 0]))]) [0] (by decide) rfl
  have hKc := hK.sub (tys' := []) [] rfl
  have hFc := va_free (wc := [(h0, .inr (12, [.null, .int 0, .int 0]))]) hD hS hA [0] rfl
  refine va_callv (va_runI (As := []) (rest := []) ⟨hx, hb, hml, hown, hts⟩ (c_AbstractList_init l dC dI h0 H.size) (cwI 0 hts (zt_G k_187) rfl rfl rfl (hts _ k_188) (hts _ k_189) (hts _ k_190) rfl (by decide +kernel) ⟨Nat.le_of_ble_eq_true rfl, Nat.le_of_ble_eq_true rfl⟩) ⟨fun a U g mk q => by obtain ⟨q0, q1, qP, qK, qD, qX⟩ := q; exact ⟨q0, q1, qP, va_K.moved (u := U) (U := U.calling g mk a) (Vm.Alike.refl U.vm) qK, qD, qX.call⟩, fun U hU hW => ⟨rfl, by rw [hU], by rw [hU]; exact hPc, va_K.moved hW.alike hKc, hDc.weaken (fun _ _ _ _ => trivial), hX.warm hW⟩⟩ rfl rfl hl.1 rfl (lv_room (Nat.le_of_ble_eq_true rfl)) d_ArrayList_init_1 ⟨Nat.le_of_ble_eq_true rfl, Nat.le_of_ble_eq_true rfl⟩) hS (fun q _ h => hFc q h) hFc (fun u t H1 locs ht hvm hw hB hz1 hk1 hS => ?_)
  obtain ⟨hP1, hK1, hD1⟩ := hB
  rw [ht] at hP1
  have hK1 := va_K.moved hvm.symm hK1
  obtain ⟨hP, hD⟩ := va_join (wr := []) (w1 := [(h0, .inr (12, [.null, .int 0, .int 0]))]) hP hD [0] [] rfl rfl (by decide) (by decide) hk1 hFc hP1 hD1
  generalize H1 = H at hP hS ⊢
  have hP : va_P (dC, dI) classes [(h0, .inr (12, [.null, .int 0, .int 0]))] H := hP
  have hD : va_D A [(h0, .inr (12, [.null, .int 0, .int 0]))] := hD
  refine W.widen (k := 0) (n := 0) (Nat.le_of_ble_eq_true rfl) (Nat.le_of_ble_eq_true rfl) ?_
  refine lv_aload_n hx hb d_ArrayList_init_4 rfl (lv_at hl 0 rfl) ?_
  refine va_gets hx hb hZ_de hS hown (hts _ k_191) (fun _ h9 => h9) d_ArrayList_init_5 ?_
  refine va_put (D := (dC, dI)) (ci := 12) (v := .ref zde) (ty := .array (.object "java/lang/Object")) (C := R_ArrayList) (T := F_ArrayList) (N := 3) hx hb hts i_ArrayList t_ArrayList t_ArrayList_ok n_ArrayList hown hK hP hD hS 0 rfl rfl 0 (by decide) (hts _ k_192) (fun _ h9 => h9) rfl (by decide +kernel) rfl rfl (Nat.le_of_ble_eq_true rfl) d_ArrayList_init_8 (fun H locs hP hD hS => ?_)
  have hP : va_P (dC, dI) classes [(h0, .inr (12, [.ref zde, .int 0, .int 0]))] H := hP
  have hD : va_D A [(h0, .inr (12, [.ref zde, .int 0, .int 0]))] := hD
  refine W.widen (k := 0) (n := 0) (Nat.le_of_ble_eq_true rfl) (Nat.le_of_ble_eq_true rfl) ?_
  have hK9 := hK.sub (tys' := []) [] rfl
  exact W.vret hx hb hr (fun t ht hW => ⟨⟨(), rfl, trivial, by rw [ht]; exact hP, va_K.moved hW.alike hK9, hD⟩, hS.F ht⟩) hS.2.2 d_ArrayList_init_11
set_option maxHeartbeats 4000000 in
set_option maxRecDepth 100000 in
theorem c_C_Roots_init_LCellDec (l : Launch) (dC : Nat → ClassId) (dI : Nat → Nat → Nat) (h0 : Nat) (h1 : Nat) (h2 : Nat) (h3 : Nat) (zde : Nat) (sz : Nat) : Met l y_C_Roots_init_LCellDec w_C_Roots_init_LCellDec ({ frames := 4, cells := 7, slots := 108, locals := 74 }) (va_Pc [.ref h0, .ref h1, .ref h2] (fun U => U.heap.size = sz ∧ va_P (dC, dI) classes [(h0, .inr (11, [.null, .null, .null, .null, .null, .int 0, .null, .int 0, .int 0])), (h1, .inr (3, [.ref h3]))] U.heap ∧ va_K (dC, dI) classes [] U ∧ va_D (fun _ => True) [(h0, .inr (11, [.null, .null, .null, .null, .null, .int 0, .null, .int 0, .int 0])), (h1, .inr (3, [.ref h3]))] ∧ zX U ∧ va_Z "java/lang/String" "COMPACT_STRINGS" "Z" (.int 1) (va_A [(h0, .inr (11, [.null, .null, .null, .null, .null, .int 0, .null, .int 0, .int 0])), (h1, .inr (3, [.ref h3]))] sz) U U.heap ∧ va_Z "java/util/ArrayList" "DEFAULTCAPACITY_EMPTY_ELEMENTDATA" "[Ljava/lang/Object;" (.ref zde) (va_A [(h0, .inr (11, [.null, .null, .null, .null, .null, .int 0, .null, .int 0, .int 0])), (h1, .inr (3, [.ref h3]))] sz) U U.heap)) (va_Qv (fun _ : Unit => True) (fun _ t => ∃ (q2 : Nat) (q3 : Nat) (q4 : Nat) (q5 : Nat) (q1 : Nat) (q6 : Nat) (q7 : Nat) (e1 : ClassId) (e2 : ClassId) (e3 : ClassId), va_P (dC, dI) classes [(h0, .inr (11, [.ref h1, .ref h3, .ref h2, .ref q1, .ref q6, .int 0, .ref q7, .int 0, .int 0])), (h1, .inr (3, [.ref h3])), (q2, .inr (4, [.ref q5, .int 1, .int 0, .ref q3])), (q3, .inr (5, [.ref q4, .int 0, .int 0, .int 0])), (q4, .inl (e1, 16, .inl (fun _ => 0))), (q5, .inl (e2, 64, .inl (fun _ => 0))), (q1, .inr (3, [.ref q2])), (q6, .inr (12, [.ref zde, .int 0, .int 0])), (q7, .inl (e3, 16, .inl (fun _ => 0)))] t.heap ∧ va_K (dC, dI) classes [(e1, .byte), (e2, .int), (e3, .int)] t ∧ va_D (va_A [(h0, .inr (11, [.null, .null, .null, .null, .null, .int 0, .null, .int 0, .int 0])), (h1, .inr (3, [.ref h3]))] sz) [(h0, .inr (11, [.ref h1, .ref h3, .ref h2, .ref q1, .ref q6, .int 0, .ref q7, .int 0, .int 0])), (h1, .inr (3, [.ref h3])), (q2, .inr (4, [.ref q5, .int 1, .int 0, .ref q3])), (q3, .inr (5, [.ref q4, .int 0, .int 0, .int 0])), (q4, .inl (e1, 16, .inl (fun _ => 0))), (q5, .inl (e2, 64, .inl (fun _ => 0))), (q1, .inr (3, [.ref q2])), (q6, .inr (12, [.ref zde, .int 0, .int 0])), (q7, .inl (e3, 16, .inl (fun _ => 0)))]) (va_A [(h0, .inr (11, [.null, .null, .null, .null, .null, .int 0, .null, .int 0, .int 0])), (h1, .inr (3, [.ref h3]))] sz)) 7 108 (va_A [(h0, .inr (11, [.null, .null, .null, .null, .null, .int 0, .null, .int 0, .int 0])), (h1, .inr (3, [.ref h3]))] sz) := by
  refine Met.ofW (cc := prog_8_method_1_code) (maxL := 3) (ret := (Option.none : Option Jvm.ClassFile.FieldType)) (by decide) rfl ?_
  intro p e s m args below meth c s₁ B hml hv
  obtain ⟨rfl, hsz, hP, hK, hD0, hX, hZ_cs, hZ_de⟩ := hv
  have hx := B.exec
  have hb := B.bytes
  have hr := B.returns
  have hts0 := atoms_spec (ws := w_C_Roots_init_LCellDec) B.pre
  have hts : ∀ w ∈ zg_tbl, w.before _ s = true := fun w h => hts0 w (List.mem_cons_of_mem _ h)
  have hown : s.vm.findClass "CellDecide$Roots" = some m.cls := findClass_of_methodNamed B.named
  have hlocks := B.notSynchronized
  have hin : meth.name = "<init>" := (name_of_methodNamed B.named B.method).1
  subst hsz
  have hD := hD0.self (sz := s.heap.size)
  generalize hAe : va_A [(h0, .inr (11, [.null, .null, .null, .null, .null, .int 0, .null, .int 0, .int 0])), (h1, .inr (3, [.ref h3]))] s.heap.size = A at hD hZ_cs hZ_de ⊢
  have hA : ∀ q : Nat, s.heap.size ≤ q → A q := fun q h => by rw [← hAe]; exact Or.inr h
  have hS : va_S A s.heap s.heap [] := va_S.rf
  have hl := lv_entry ([.ref h0, .ref h1, .ref h2]) (n := 3) (Nat.le_of_ble_eq_true rfl)
  rw [lg_entry_eq]
  generalize (lg_sl ([.ref h0, .ref h1, .ref h2]) ++ List.replicate (3 - (lg_sl ([.ref h0, .ref h1, .ref h2])).length) Slot.unset).toArray = ls at hl ⊢
  have hl : lv_has ls 3 [(0, .ref h0), (1, .ref h1), (2, .ref h2)] := hl
  refine lv_aload_n hx hb d_C_Roots_init_LCellDec_0 rfl (lv_at hl 0 rfl) ?_
  refine W.objInit hx hb hown (hts _ k_172) (hts _ k_1) (hts _ k_2) rfl (by rw [hml]; exact hl.1) rfl d_C_Roots_init_LCellDec_1 (Nat.le_of_ble_eq_true rfl) (Nat.le_of_ble_eq_true rfl) ?_
  refine W.eq (g2 := F0 m 4 ls []) rfl ?_
  refine lv_aload_n hx hb d_C_Roots_init_LCellDec_4 rfl (lv_at hl 0 rfl) ?_
  refine va_new (ci := 3) (fs := [.null]) (C := R_C_Polys) (T := F_C_Polys) (N := 1) hx hb hts i_C_Polys t_C_Polys t_C_Polys_ok hown (hts _ k_173) (hts _ k_48) (hts _ k_49) hK hP hD hS hA rfl (zn_C_Polys) (Nat.le_of_ble_eq_true rfl) (Nat.le_of_ble_eq_true rfl) d_C_Roots_init_LCellDec_5 (fun q1 H hP hD hS => ?_)
  have hP : va_P (dC, dI) classes [(h0, .inr (11, [.null, .null, .null, .null, .null, .int 0, .null, .int 0, .int 0])), (h1, .inr (3, [.ref h3])), (q1, .inr (3, [.null]))] H := hP
  have hD : va_D A [(h0, .inr (11, [.null, .null, .null, .null, .null, .int 0, .null, .int 0, .int 0])), (h1, .inr (3, [.ref h3])), (q1, .inr (3, [.null]))] := hD
  refine W.widen (k := 1) (n := 1) (Nat.le_of_ble_eq_true rfl) (Nat.le_of_ble_eq_true rfl) ?_
  refine lv_dup hx hb d_C_Roots_init_LCellDec_8 rfl ?_
  refine va_new (ci := 4) (fs := [.null, .int 0, .int 0, .null]) (C := R_C_Numbers) (T := F_C_Numbers) (N := 4) hx hb hts i_C_Numbers t_C_Numbers t_C_Numbers_ok hown (hts _ k_174) (hts _ k_51) (hts _ k_52) hK hP hD hS hA rfl (zn_C_Numbers) (Nat.le_of_ble_eq_true rfl) (Nat.le_of_ble_eq_true rfl) d_C_Roots_init_LCellDec_9 (fun q2 H hP hD hS => ?_)
  have hP : va_P (dC, dI) classes [(h0, .inr (11, [.null, .null, .null, .null, .null, .int 0, .null, .int 0, .int 0])), (h1, .inr (3, [.ref h3])), (q1, .inr (3, [.null])), (q2, .inr (4, [.null, .int 0, .int 0, .null]))] H := hP
  have hD : va_D A [(h0, .inr (11, [.null, .null, .null, .null, .null, .int 0, .null, .int 0, .int 0])), (h1, .inr (3, [.ref h3])), (q1, .inr (3, [.null])), (q2, .inr (4, [.null, .int 0, .int 0, .null]))] := hD
  refine W.widen (k := 2) (n := 5) (Nat.le_of_ble_eq_true rfl) (Nat.le_of_ble_eq_true rfl) ?_
  refine lv_dup hx hb d_C_Roots_init_LCellDec_12 rfl ?_
  refine lv_bipush (v := 64) hx hb d_C_Roots_init_LCellDec_13 (by decide) ?_
  have hPc := hP.sub (ws' := [(q2, .inr (4, [.null, .int 0, .int 0, .null]))]) [3] rfl
  have hDc := hD.sub (ws' := [(q2, .inr (4, [.null, .int 0, .int 0, .null]))]) [3] (by decide) rfl
  have hKc := hK.sub (tys' := []) [] rfl
  have hFc := va_free (wc := [(q2, .inr (4, [.null, .int 0, .int 0, .null]))]) hD hS hA [3] rfl
  have hZc_cs := (hZ_cs.kept hS.2.1).narrow hFc
  refine va_callv (va_runI (As := [.int 64]) (rest := [.ref q2, .ref q1, .ref q1, .ref h0]) ⟨hx, hb, hml, hown, hts⟩ (c_C_Numbers_init_I_v2 l dC dI q2 H.size) (cwI 1 hts (zt_G k_75) rfl rfl rfl (hts _ k_52) (hts _ k_175) (hts _ k_77) rfl (by decide +kernel) ⟨Nat.le_of_ble_eq_true rfl, Nat.le_of_ble_eq_true rfl⟩) ⟨fun a U g mk q => by obtain ⟨q0, q1, qP, qK, qD, qX, qz0⟩ := q; exact ⟨q0, q1, qP, va_K.moved (u := U) (U := U.calling g mk a) (Vm.Alike.refl U.vm) qK, qD, qX.call, qz0.moved (u := U) (U := U.calling g mk a) (Vm.Alike.refl U.vm)⟩, fun U hU hW => ⟨rfl, by rw [hU], by rw [hU]; exact hPc, va_K.moved hW.alike hKc, hDc.weaken (fun _ _ _ _ => trivial), hX.warm hW, by rw [hU]; exact hZc_cs.moved hW.alike⟩⟩ rfl rfl hl.1 rfl (lv_room (Nat.le_of_ble_eq_true rfl)) d_C_Roots_init_LCellDec_15 ⟨Nat.le_of_ble_eq_true rfl, Nat.le_of_ble_eq_true rfl⟩) hS (fun q _ h => hFc q h) hFc (fun u t H1 locs ht hvm hw hB hz1 hk1 hS => ?_)
  obtain ⟨q3, q4, q5, e1, e2, hP1, hK1, hD1⟩ := hB
  rw [ht] at hP1
  have hK1 := va_K.moved hvm.symm hK1
  obtain ⟨hP, hD⟩ := va_join (wr := [(h0, .inr (11, [.null, .null, .null, .null, .null, .int 0, .null, .int 0, .int 0])), (h1, .inr (3, [.ref h3])), (q1, .inr (3, [.null]))]) (w1 := [(q2, .inr (4, [.ref q5, .int 1, .int 0, .ref q3])), (q3, .inr (5, [.ref q4, .int 0, .int 0, .int 0])), (q4, .inl (e1, 16, .inl (fun _ => 0))), (q5, .inl (e2, 64, .inl (fun _ => 0)))]) hP hD [3] [0, 1, 2] rfl rfl (by decide) (by decide) hk1 hFc hP1 hD1
  have hK := hK.app hK1
  generalize H1 = H at hP hS ⊢
  have hP : va_P (dC, dI) classes [(h0, .inr (11, [.null, .null, .null, .null, .null, .int 0, .null, .int 0, .int 0])), (h1, .inr (3, [.ref h3])), (q1, .inr (3, [.null])), (q2, .inr (4, [.ref q5, .int 1, .int 0, .ref q3])), (q3, .inr (5, [.ref q4, .int 0, .int 0, .int 0])), (q4, .inl (e1, 16, .inl (fun _ => 0))), (q5, .inl (e2, 64, .inl (fun _ => 0)))] H := hP
  have hD : va_D A [(h0, .inr (11, [.null, .null, .null, .null, .null, .int 0, .null, .int 0, .int 0])), (h1, .inr (3, [.ref h3])), (q1, .inr (3, [.null])), (q2, .inr (4, [.ref q5, .int 1, .int 0, .ref q3])), (q3, .inr (5, [.ref q4, .int 0, .int 0, .int 0])), (q4, .inl (e1, 16, .inl (fun _ => 0))), (q5, .inl (e2, 64, .inl (fun _ => 0)))] := hD
  have hK : va_K (dC, dI) classes [(e1, .byte), (e2, .int)] s := hK
  refine W.widen (k := 5) (n := 89) (Nat.le_of_ble_eq_true rfl) (Nat.le_of_ble_eq_true rfl) ?_
  have hPc := hP.sub (ws' := [(q1, .inr (3, [.null]))]) [2] rfl
  have hDc := hD.sub (ws' := [(q1, .inr (3, [.null]))]) [2] (by decide) rfl
  have hKc := hK.sub (tys' := []) [] rfl
  have hFc := va_free (wc := [(q1, .inr (3, [.null]))]) hD hS hA [2] rfl
  refine va_callv (va_runI (As := [.ref q2]) (rest := [.ref q1, .ref h0]) ⟨hx, hb, hml, hown, hts⟩ (c_C_Polys_init_LCellDec l dC dI q1 q2 H.size) (cwI 1 hts (zt_G k_80) rfl rfl rfl (hts _ k_49) (hts _ k_176) (hts _ k_82) rfl (by decide +kernel) ⟨Nat.le_of_ble_eq_true rfl, Nat.le_of_ble_eq_true rfl⟩) ⟨fun a U g mk q => by obtain ⟨q0, q1, qP, qK, qD, qX⟩ := q; exact ⟨q0, q1, qP, va_K.moved (u := U) (U := U.calling g mk a) (Vm.Alike.refl U.vm) qK, qD, qX.call⟩, fun U hU hW => ⟨rfl, by rw [hU], by rw [hU]; exact hPc, va_K.moved hW.alike hKc, hDc.weaken (fun _ _ _ _ => trivial), hX.warm hW⟩⟩ rfl rfl hl.1 rfl (lv_room (Nat.le_of_ble_eq_true rfl)) d_C_Roots_init_LCellDec_18 ⟨Nat.le_of_ble_eq_true rfl, Nat.le_of_ble_eq_true rfl⟩) hS (fun q _ h => hFc q h) hFc (fun u t H1 locs ht hvm hw hB hz1 hk1 hS => ?_)
  obtain ⟨hP1, hK1, hD1⟩ := hB
  rw [ht] at hP1
  have hK1 := va_K.moved hvm.symm hK1
  obtain ⟨hP, hD⟩ := va_join (wr := [(h0, .inr (11, [.null, .null, .null, .null, .null, .int 0, .null, .int 0, .int 0])), (h1, .inr (3, [.ref h3])), (q2, .inr (4, [.ref q5, .int 1, .int 0, .ref q3])), (q3, .inr (5, [.ref q4, .int 0, .int 0, .int 0])), (q4, .inl (e1, 16, .inl (fun _ => 0))), (q5, .inl (e2, 64, .inl (fun _ => 0)))]) (w1 := [(q1, .inr (3, [.ref q2]))]) hP hD [2] [0, 1, 3, 4, 5, 6] rfl rfl (by decide) (by decide) hk1 hFc hP1 hD1
  generalize H1 = H at hP hS ⊢
  have hP : va_P (dC, dI) classes [(h0, .inr (11, [.null, .null, .null, .null, .null, .int 0, .null, .int 0, .int 0])), (h1, .inr (3, [.ref h3])), (q2, .inr (4, [.ref q5, .int 1, .int 0, .ref q3])), (q3, .inr (5, [.ref q4, .int 0, .int 0, .int 0])), (q4, .inl (e1, 16, .inl (fun _ => 0))), (q5, .inl (e2, 64, .inl (fun _ => 0))), (q1, .inr (3, [.ref q2]))] H := hP
  have hD : va_D A [(h0, .inr (11, [.null, .null, .null, .null, .null, .int 0, .null, .int 0, .int 0])), (h1, .inr (3, [.ref h3])), (q2, .inr (4, [.ref q5, .int 1, .int 0, .ref q3])), (q3, .inr (5, [.ref q4, .int 0, .int 0, .int 0])), (q4, .inl (e1, 16, .inl (fun _ => 0))), (q5, .inl (e2, 64, .inl (fun _ => 0))), (q1, .inr (3, [.ref q2]))] := hD
  refine W.widen (k := 5) (n := 89) (Nat.le_of_ble_eq_true rfl) (Nat.le_of_ble_eq_true rfl) ?_
  refine va_putF (D := (dC, dI)) (ci := 11) (v := .ref q1) (ty := .object "CellDecide$Polys") (C := R_C_Roots) (T := F_C_Roots) (N := 9) hx hb hts i_C_Roots t_C_Roots t_C_Roots_ok n_C_Roots hown hK hP hD hS 0 rfl rfl 3 (by decide) (hts _ k_177) (fun _ h9 => h9) rfl hin rfl (by decide +kernel) rfl rfl (Nat.le_of_ble_eq_true rfl) d_C_Roots_init_LCellDec_21 (fun H locs hP hD hS => ?_)
  have hP : va_P (dC, dI) classes [(h0, .inr (11, [.null, .null, .null, .ref q1, .null, .int 0, .null, .int 0, .int 0])), (h1, .inr (3, [.ref h3])), (q2, .inr (4, [.ref q5, .int 1, .int 0, .ref q3])), (q3, .inr (5, [.ref q4, .int 0, .int 0, .int 0])), (q4, .inl (e1, 16, .inl (fun _ => 0))), (q5, .inl (e2, 64, .inl (fun _ => 0))), (q1, .inr (3, [.ref q2]))] H := hP
  have hD : va_D A [(h0, .inr (11, [.null, .null, .null, .ref q1, .null, .int 0, .null, .int 0, .int 0])), (h1, .inr (3, [.ref h3])), (q2, .inr (4, [.ref q5, .int 1, .int 0, .ref q3])), (q3, .inr (5, [.ref q4, .int 0, .int 0, .int 0])), (q4, .inl (e1, 16, .inl (fun _ => 0))), (q5, .inl (e2, 64, .inl (fun _ => 0))), (q1, .inr (3, [.ref q2]))] := hD
  refine lv_aload_n hx hb d_C_Roots_init_LCellDec_24 rfl (lv_at hl 0 rfl) ?_
  refine va_new (ci := 12) (fs := [.null, .int 0, .int 0]) (C := R_ArrayList) (T := F_ArrayList) (N := 3) hx hb hts i_ArrayList t_ArrayList t_ArrayList_ok hown (hts _ k_178) (hts _ k_179) (hts _ k_180) hK hP hD hS hA rfl (zn_ArrayList) (Nat.le_of_ble_eq_true rfl) (Nat.le_of_ble_eq_true rfl) d_C_Roots_init_LCellDec_25 (fun q6 H hP hD hS => ?_)
  have hP : va_P (dC, dI) classes [(h0, .inr (11, [.null, .null, .null, .ref q1, .null, .int 0, .null, .int 0, .int 0])), (h1, .inr (3, [.ref h3])), (q2, .inr (4, [.ref q5, .int 1, .int 0, .ref q3])), (q3, .inr (5, [.ref q4, .int 0, .int 0, .int 0])), (q4, .inl (e1, 16, .inl (fun _ => 0))), (q5, .inl (e2, 64, .inl (fun _ => 0))), (q1, .inr (3, [.ref q2])), (q6, .inr (12, [.null, .int 0, .int 0]))] H := hP
  have hD : va_D A [(h0, .inr (11, [.null, .null, .null, .ref q1, .null, .int 0, .null, .int 0, .int 0])), (h1, .inr (3, [.ref h3])), (q2, .inr (4, [.ref q5, .int 1, .int 0, .ref q3])), (q3, .inr (5, [.ref q4, .int 0, .int 0, .int 0])), (q4, .inl (e1, 16, .inl (fun _ => 0))), (q5, .inl (e2, 64, .inl (fun _ => 0))), (q1, .inr (3, [.ref q2])), (q6, .inr (12, [.null, .int 0, .int 0]))] := hD
  refine W.widen (k := 6) (n := 92) (Nat.le_of_ble_eq_true rfl) (Nat.le_of_ble_eq_true rfl) ?_
  refine lv_dup hx hb d_C_Roots_init_LCellDec_28 rfl ?_
  have hPc := hP.sub (ws' := [(q6, .inr (12, [.null, .int 0, .int 0]))]) [7] rfl
  have hDc := hD.sub (ws' := [(q6, .inr (12, [.null, .int 0, .int 0]))]) [7] (by decide) rfl
  have hKc := hK.sub (tys' := []) [] rfl
  have hFc := va_free (wc := [(q6, .inr (12, [.null, .int 0, .int 0]))]) hD hS hA [7] rfl
  have hZc_de := (hZ_de.kept hS.2.1).narrow hFc
  refine va_callv (va_runI (As := []) (rest := [.ref q6, .ref h0]) ⟨hx, hb, hml, hown, hts⟩ (c_ArrayList_init l dC dI q6 zde H.size) (cwI 0 hts (zt_G k_193) rfl rfl rfl (hts _ k_180) (hts _ k_194) (hts _ k_195) rfl (by decide +kernel) ⟨Nat.le_of_ble_eq_true rfl, Nat.le_of_ble_eq_true rfl⟩) ⟨fun a U g mk q => by obtain ⟨q0, q1, qP, qK, qD, qX, qz0⟩ := q; exact ⟨q0, q1, qP, va_K.moved (u := U) (U := U.calling g mk a) (Vm.Alike.refl U.vm) qK, qD, qX.call, qz0.moved (u := U) (U := U.calling g mk a) (Vm.Alike.refl U.vm)⟩, fun U hU hW => ⟨rfl, by rw [hU], by rw [hU]; exact hPc, va_K.moved hW.alike hKc, hDc.weaken (fun _ _ _ _ => trivial), hX.warm hW, by rw [hU]; exact hZc_de.moved hW.alike⟩⟩ rfl rfl hl.1 rfl (lv_room (Nat.le_of_ble_eq_true rfl)) d_C_Roots_init_LCellDec_29 ⟨Nat.le_of_ble_eq_true rfl, Nat.le_of_ble_eq_true rfl⟩) hS (fun q _ h => hFc q h) hFc (fun u t H1 locs ht hvm hw hB hz1 hk1 hS => ?_)
  obtain ⟨hP1, hK1, hD1⟩ := hB
  rw [ht] at hP1
  have hK1 := va_K.moved hvm.symm hK1
  obtain ⟨hP, hD⟩ := va_join (wr := [(h0, .inr (11, [.null, .null, .null, .ref q1, .null, .int 0, .null, .int 0, .int 0])), (h1, .inr (3, [.ref h3])), (q2, .inr (4, [.ref q5, .int 1, .int 0, .ref q3])), (q3, .inr (5, [.ref q4, .int 0, .int 0, .int 0])), (q4, .inl (e1, 16, .inl (fun _ => 0))), (q5, .inl (e2, 64, .inl (fun _ => 0))), (q1, .inr (3, [.ref q2]))]) (w1 := [(q6, .inr (12, [.ref zde, .int 0, .int 0]))]) hP hD [7] [0, 1, 2, 3, 4, 5, 6] rfl rfl (by decide) (by decide) hk1 hFc hP1 hD1
  generalize H1 = H at hP hS ⊢
  have hP : va_P (dC, dI) classes [(h0, .inr (11, [.null, .null, .null, .ref q1, .null, .int 0, .null, .int 0, .int 0])), (h1, .inr (3, [.ref h3])), (q2, .inr (4, [.ref q5, .int 1, .int 0, .ref q3])), (q3, .inr (5, [.ref q4, .int 0, .int 0, .int 0])), (q4, .inl (e1, 16, .inl (fun _ => 0))), (q5, .inl (e2, 64, .inl (fun _ => 0))), (q1, .inr (3, [.ref q2])), (q6, .inr (12, [.ref zde, .int 0, .int 0]))] H := hP
  have hD : va_D A [(h0, .inr (11, [.null, .null, .null, .ref q1, .null, .int 0, .null, .int 0, .int 0])), (h1, .inr (3, [.ref h3])), (q2, .inr (4, [.ref q5, .int 1, .int 0, .ref q3])), (q3, .inr (5, [.ref q4, .int 0, .int 0, .int 0])), (q4, .inl (e1, 16, .inl (fun _ => 0))), (q5, .inl (e2, 64, .inl (fun _ => 0))), (q1, .inr (3, [.ref q2])), (q6, .inr (12, [.ref zde, .int 0, .int 0]))] := hD
  refine W.widen (k := 6) (n := 92) (Nat.le_of_ble_eq_true rfl) (Nat.le_of_ble_eq_true rfl) ?_
  refine va_putF (D := (dC, dI)) (ci := 11) (v := .ref q6) (ty := .object "java/util/ArrayList") (C := R_C_Roots) (T := F_C_Roots) (N := 9) hx hb hts i_C_Roots t_C_Roots t_C_Roots_ok n_C_Roots hown hK hP hD hS 0 rfl rfl 4 (by decide) (hts _ k_196) (fun _ h9 => h9) rfl hin rfl (by decide +kernel) rfl rfl (Nat.le_of_ble_eq_true rfl) d_C_Roots_init_LCellDec_32 (fun H locs hP hD hS => ?_)
  have hP : va_P (dC, dI) classes [(h0, .inr (11, [.null, .null, .null, .ref q1, .ref q6, .int 0, .null, .int 0, .int 0])), (h1, .inr (3, [.ref h3])), (q2, .inr (4, [.ref q5, .int 1, .int 0, .ref q3])), (q3, .inr (5, [.ref q4, .int 0, .int 0, .int 0])), (q4, .inl (e1, 16, .inl (fun _ => 0))), (q5, .inl (e2, 64, .inl (fun _ => 0))), (q1, .inr (3, [.ref q2])), (q6, .inr (12, [.ref zde, .int 0, .int 0]))] H := hP
  have hD : va_D A [(h0, .inr (11, [.null, .null, .null, .ref q1, .ref q6, .int 0, .null, .int 0, .int 0])), (h1, .inr (3, [.ref h3])), (q2, .inr (4, [.ref q5, .int 1, .int 0, .ref q3])), (q3, .inr (5, [.ref q4, .int 0, .int 0, .int 0])), (q4, .inl (e1, 16, .inl (fun _ => 0))), (q5, .inl (e2, 64, .inl (fun _ => 0))), (q1, .inr (3, [.ref q2])), (q6, .inr (12, [.ref zde, .int 0, .int 0]))] := hD
  refine lv_aload_n hx hb d_C_Roots_init_LCellDec_35 rfl (lv_at hl 0 rfl) ?_
  refine lv_bipush (v := 16) hx hb d_C_Roots_init_LCellDec_36 (by decide) ?_
  refine va_newa (a0 := (16, .inl (fun _ => 0))) hx hb (hts _ k_3) rfl hK hP hD hS hA (fun _ => rfl) (by decide) (N' := 16) (by decide) (Nat.le_of_ble_eq_true rfl) (Nat.le_of_ble_eq_true rfl) (Nat.le_of_ble_eq_true rfl) d_C_Roots_init_LCellDec_38 (fun q7 e3 H hK hP hD hS => ?_)
  have hP : va_P (dC, dI) classes [(h0, .inr (11, [.null, .null, .null, .ref q1, .ref q6, .int 0, .null, .int 0, .int 0])), (h1, .inr (3, [.ref h3])), (q2, .inr (4, [.ref q5, .int 1, .int 0, .ref q3])), (q3, .inr (5, [.ref q4, .int 0, .int 0, .int 0])), (q4, .inl (e1, 16, .inl (fun _ => 0))), (q5, .inl (e2, 64, .inl (fun _ => 0))), (q1, .inr (3, [.ref q2])), (q6, .inr (12, [.ref zde, .int 0, .int 0])), (q7, .inl (e3, 16, .inl (fun _ => 0)))] H := hP
  have hD : va_D A [(h0, .inr (11, [.null, .null, .null, .ref q1, .ref q6, .int 0, .null, .int 0, .int 0])), (h1, .inr (3, [.ref h3])), (q2, .inr (4, [.ref q5, .int 1, .int 0, .ref q3])), (q3, .inr (5, [.ref q4, .int 0, .int 0, .int 0])), (q4, .inl (e1, 16, .inl (fun _ => 0))), (q5, .inl (e2, 64, .inl (fun _ => 0))), (q1, .inr (3, [.ref q2])), (q6, .inr (12, [.ref zde, .int 0, .int 0])), (q7, .inl (e3, 16, .inl (fun _ => 0)))] := hD
  have hK : va_K (dC, dI) classes [(e1, .byte), (e2, .int), (e3, .int)] s := hK
  refine W.widen (k := 7) (n := 108) (Nat.le_of_ble_eq_true rfl) (Nat.le_of_ble_eq_true rfl) ?_
  refine va_put (D := (dC, dI)) (ci := 11) (v := .ref q7) (ty := .array .int) (C := R_C_Roots) (T := F_C_Roots) (N := 9) hx hb hts i_C_Roots t_C_Roots t_C_Roots_ok n_C_Roots hown hK hP hD hS 0 rfl rfl 6 (by decide) (hts _ k_197) (fun _ h9 => h9) rfl (by decide +kernel) rfl rfl (Nat.le_of_ble_eq_true rfl) d_C_Roots_init_LCellDec_40 (fun H locs hP hD hS => ?_)
  have hP : va_P (dC, dI) classes [(h0, .inr (11, [.null, .null, .null, .ref q1, .ref q6, .int 0, .ref q7, .int 0, .int 0])), (h1, .inr (3, [.ref h3])), (q2, .inr (4, [.ref q5, .int 1, .int 0, .ref q3])), (q3, .inr (5, [.ref q4, .int 0, .int 0, .int 0])), (q4, .inl (e1, 16, .inl (fun _ => 0))), (q5, .inl (e2, 64, .inl (fun _ => 0))), (q1, .inr (3, [.ref q2])), (q6, .inr (12, [.ref zde, .int 0, .int 0])), (q7, .inl (e3, 16, .inl (fun _ => 0)))] H := hP
  have hD : va_D A [(h0, .inr (11, [.null, .null, .null, .ref q1, .ref q6, .int 0, .ref q7, .int 0, .int 0])), (h1, .inr (3, [.ref h3])), (q2, .inr (4, [.ref q5, .int 1, .int 0, .ref q3])), (q3, .inr (5, [.ref q4, .int 0, .int 0, .int 0])), (q4, .inl (e1, 16, .inl (fun _ => 0))), (q5, .inl (e2, 64, .inl (fun _ => 0))), (q1, .inr (3, [.ref q2])), (q6, .inr (12, [.ref zde, .int 0, .int 0])), (q7, .inl (e3, 16, .inl (fun _ => 0)))] := hD
  refine lv_aload_n hx hb d_C_Roots_init_LCellDec_43 rfl (lv_at hl 0 rfl) ?_
  refine lv_aload_n hx hb d_C_Roots_init_LCellDec_44 rfl (lv_at hl 1 rfl) ?_
  refine va_putF (D := (dC, dI)) (ci := 11) (v := .ref h1) (ty := .object "CellDecide$Polys") (C := R_C_Roots) (T := F_C_Roots) (N := 9) hx hb hts i_C_Roots t_C_Roots t_C_Roots_ok n_C_Roots hown hK hP hD hS 0 rfl rfl 0 (by decide) (hts _ k_198) (fun _ h9 => h9) rfl hin rfl (by decide +kernel) rfl rfl (Nat.le_of_ble_eq_true rfl) d_C_Roots_init_LCellDec_45 (fun H locs hP hD hS => ?_)
  have hP : va_P (dC, dI) classes [(h0, .inr (11, [.ref h1, .null, .null, .ref q1, .ref q6, .int 0, .ref q7, .int 0, .int 0])), (h1, .inr (3, [.ref h3])), (q2, .inr (4, [.ref q5, .int 1, .int 0, .ref q3])), (q3, .inr (5, [.ref q4, .int 0, .int 0, .int 0])), (q4, .inl (e1, 16, .inl (fun _ => 0))), (q5, .inl (e2, 64, .inl (fun _ => 0))), (q1, .inr (3, [.ref q2])), (q6, .inr (12, [.ref zde, .int 0, .int 0])), (q7, .inl (e3, 16, .inl (fun _ => 0)))] H := hP
  have hD : va_D A [(h0, .inr (11, [.ref h1, .null, .null, .ref q1, .ref q6, .int 0, .ref q7, .int 0, .int 0])), (h1, .inr (3, [.ref h3])), (q2, .inr (4, [.ref q5, .int 1, .int 0, .ref q3])), (q3, .inr (5, [.ref q4, .int 0, .int 0, .int 0])), (q4, .inl (e1, 16, .inl (fun _ => 0))), (q5, .inl (e2, 64, .inl (fun _ => 0))), (q1, .inr (3, [.ref q2])), (q6, .inr (12, [.ref zde, .int 0, .int 0])), (q7, .inl (e3, 16, .inl (fun _ => 0)))] := hD
  refine lv_aload_n hx hb d_C_Roots_init_LCellDec_48 rfl (lv_at hl 0 rfl) ?_
  refine lv_aload_n hx hb d_C_Roots_init_LCellDec_49 rfl (lv_at hl 2 rfl) ?_
  refine va_putF (D := (dC, dI)) (ci := 11) (v := .ref h2) (ty := .object "CellDecide$Splitter") (C := R_C_Roots) (T := F_C_Roots) (N := 9) hx hb hts i_C_Roots t_C_Roots t_C_Roots_ok n_C_Roots hown hK hP hD hS 0 rfl rfl 2 (by decide) (hts _ k_199) (fun _ h9 => h9) rfl hin rfl (by decide +kernel) rfl rfl (Nat.le_of_ble_eq_true rfl) d_C_Roots_init_LCellDec_50 (fun H locs hP hD hS => ?_)
  have hP : va_P (dC, dI) classes [(h0, .inr (11, [.ref h1, .null, .ref h2, .ref q1, .ref q6, .int 0, .ref q7, .int 0, .int 0])), (h1, .inr (3, [.ref h3])), (q2, .inr (4, [.ref q5, .int 1, .int 0, .ref q3])), (q3, .inr (5, [.ref q4, .int 0, .int 0, .int 0])), (q4, .inl (e1, 16, .inl (fun _ => 0))), (q5, .inl (e2, 64, .inl (fun _ => 0))), (q1, .inr (3, [.ref q2])), (q6, .inr (12, [.ref zde, .int 0, .int 0])), (q7, .inl (e3, 16, .inl (fun _ => 0)))] H := hP
  have hD : va_D A [(h0, .inr (11, [.ref h1, .null, .ref h2, .ref q1, .ref q6, .int 0, .ref q7, .int 0, .int 0])), (h1, .inr (3, [.ref h3])), (q2, .inr (4, [.ref q5, .int 1, .int 0, .ref q3])), (q3, .inr (5, [.ref q4, .int 0, .int 0, .int 0])), (q4, .inl (e1, 16, .inl (fun _ => 0))), (q5, .inl (e2, 64, .inl (fun _ => 0))), (q1, .inr (3, [.ref q2])), (q6, .inr (12, [.ref zde, .int 0, .int 0])), (q7, .inl (e3, 16, .inl (fun _ => 0)))] := hD
  refine lv_aload_n hx hb d_C_Roots_init_LCellDec_53 rfl (lv_at hl 0 rfl) ?_
  refine lv_aload_n hx hb d_C_Roots_init_LCellDec_54 rfl (lv_at hl 1 rfl) ?_
  refine va_get (D := (dC, dI)) (ci := 3) (v := .ref h3) (C := R_C_Polys) (T := F_C_Polys) (N := 1) hx hb hts i_C_Polys hown hK hP 1 rfl rfl 0 (by decide) (hts _ k_200) (fun _ h9 => h9) rfl d_C_Roots_init_LCellDec_55 ?_
  refine va_putF (D := (dC, dI)) (ci := 11) (v := .ref h3) (ty := .object "CellDecide$Numbers") (C := R_C_Roots) (T := F_C_Roots) (N := 9) hx hb hts i_C_Roots t_C_Roots t_C_Roots_ok n_C_Roots hown hK hP hD hS 0 rfl rfl 1 (by decide) (hts _ k_201) (fun _ h9 => h9) rfl hin rfl (by decide +kernel) rfl rfl (Nat.le_of_ble_eq_true rfl) d_C_Roots_init_LCellDec_58 (fun H locs hP hD hS => ?_)
  have hP : va_P (dC, dI) classes [(h0, .inr (11, [.ref h1, .ref h3, .ref h2, .ref q1, .ref q6, .int 0, .ref q7, .int 0, .int 0])), (h1, .inr (3, [.ref h3])), (q2, .inr (4, [.ref q5, .int 1, .int 0, .ref q3])), (q3, .inr (5, [.ref q4, .int 0, .int 0, .int 0])), (q4, .inl (e1, 16, .inl (fun _ => 0))), (q5, .inl (e2, 64, .inl (fun _ => 0))), (q1, .inr (3, [.ref q2])), (q6, .inr (12, [.ref zde, .int 0, .int 0])), (q7, .inl (e3, 16, .inl (fun _ => 0)))] H := hP
  have hD : va_D A [(h0, .inr (11, [.ref h1, .ref h3, .ref h2, .ref q1, .ref q6, .int 0, .ref q7, .int 0, .int 0])), (h1, .inr (3, [.ref h3])), (q2, .inr (4, [.ref q5, .int 1, .int 0, .ref q3])), (q3, .inr (5, [.ref q4, .int 0, .int 0, .int 0])), (q4, .inl (e1, 16, .inl (fun _ => 0))), (q5, .inl (e2, 64, .inl (fun _ => 0))), (q1, .inr (3, [.ref q2])), (q6, .inr (12, [.ref zde, .int 0, .int 0])), (q7, .inl (e3, 16, .inl (fun _ => 0)))] := hD
  refine W.widen (k := 7) (n := 108) (Nat.le_of_ble_eq_true rfl) (Nat.le_of_ble_eq_true rfl) ?_
  have hK9 := hK.sub (tys' := [(e1, .byte), (e2, .int), (e3, .int)]) [0, 1, 2] rfl
  exact W.vret hx hb hr (fun t ht hW => ⟨⟨(), rfl, trivial, q2, q3, q4, q5, q1, q6, q7, e1, e2, e3, by rw [ht]; exact hP, va_K.moved hW.alike hK9, hD⟩, hS.F ht⟩) hS.2.2 d_C_Roots_init_LCellDec_61
