set_option maxHeartbeats 4000000 in
set_option maxRecDepth 100000 in
theorem c_CD_putBytes_I (l : Launch) (dC : Nat → ClassId) (dI : Nat → Nat → Nat) (h0 : Nat) (p0 : Int32) (h1 : Nat) (h2 : Nat) (h3 : Nat) (h4 : Nat) (h5 : Nat) (h6 : Nat) (h7 : Nat) (h8 : Nat) (h9 : Nat) (h10 : Nat) (h11 : Nat) (h12 : Nat) (h13 : Nat) (h14 : Nat) (g0 : ClassId) (sz : Nat) : Met l y_CD_putBytes_I w_CD_putBytes_I ({ frames := 0, cells := 0, slots := 0, locals := 0 }) (va_Pc [.ref h0, .int p0] (fun U => U.heap.size = sz ∧ va_P (dC, dI) classes [(h0, .inr (0, [.ref h1, .int 0, .int 0, .ref h2, .ref h3, .ref h4, .ref h5, .ref h6, .ref h7, .ref h8, .ref h9, .ref h10, .ref h11, .ref h12, .ref h13, .int (-1), .int (-1), .ref h14])), (h1, .inl (g0, 600, .inl (fun _ => 0)))] U.heap ∧ va_K (dC, dI) classes [(g0, .byte)] U ∧ va_D (fun _ => True) [(h0, .inr (0, [.ref h1, .int 0, .int 0, .ref h2, .ref h3, .ref h4, .ref h5, .ref h6, .ref h7, .ref h8, .ref h9, .ref h10, .ref h11, .ref h12, .ref h13, .int (-1), .int (-1), .ref h14])), (h1, .inl (g0, 600, .inl (fun _ => 0)))] ∧ zX U)) (va_Qv (fun _ : Unit => True) (fun _ t => ∃ (zf4 : Nat → Int32), va_P (dC, dI) classes [(h0, .inr (0, [.ref h1, .int 4, .int 0, .ref h2, .ref h3, .ref h4, .ref h5, .ref h6, .ref h7, .ref h8, .ref h9, .ref h10, .ref h11, .ref h12, .ref h13, .int (-1), .int (-1), .ref h14])), (h1, .inl (g0, 600, .inl zf4))] t.heap ∧ va_K (dC, dI) classes [] t ∧ va_D (va_A [(h0, .inr (0, [.ref h1, .int 0, .int 0, .ref h2, .ref h3, .ref h4, .ref h5, .ref h6, .ref h7, .ref h8, .ref h9, .ref h10, .ref h11, .ref h12, .ref h13, .int (-1), .int (-1), .ref h14])), (h1, .inl (g0, 600, .inl (fun _ => 0)))] sz) [(h0, .inr (0, [.ref h1, .int 4, .int 0, .ref h2, .ref h3, .ref h4, .ref h5, .ref h6, .ref h7, .ref h8, .ref h9, .ref h10, .ref h11, .ref h12, .ref h13, .int (-1), .int (-1), .ref h14])), (h1, .inl (g0, 600, .inl zf4))]) (va_A [(h0, .inr (0, [.ref h1, .int 0, .int 0, .ref h2, .ref h3, .ref h4, .ref h5, .ref h6, .ref h7, .ref h8, .ref h9, .ref h10, .ref h11, .ref h12, .ref h13, .int (-1), .int (-1), .ref h14])), (h1, .inl (g0, 600, .inl (fun _ => 0)))] sz)) 0 0 (va_A [(h0, .inr (0, [.ref h1, .int 0, .int 0, .ref h2, .ref h3, .ref h4, .ref h5, .ref h6, .ref h7, .ref h8, .ref h9, .ref h10, .ref h11, .ref h12, .ref h13, .int (-1), .int (-1), .ref h14])), (h1, .inl (g0, 600, .inl (fun _ => 0)))] sz) := by
  refine Met.ofW (cc := prog_1_method_3_code) (maxL := 3) (ret := (Option.none : Option Jvm.ClassFile.FieldType)) (by decide) rfl ?_
  intro p e s m args below meth c s₁ B hml hv
  obtain ⟨rfl, hsz, hP, hK, hD0, hX⟩ := hv
  have hx := B.exec
  have hb := B.bytes
  have hr := B.returns
  have hts0 := atoms_spec (ws := w_CD_putBytes_I) B.pre
  have hts : ∀ w ∈ zg_tbl, w.before _ s = true := fun w h => hts0 w (List.mem_cons_of_mem _ h)
  have hown : s.vm.findClass "CellDecide" = some m.cls := findClass_of_methodNamed B.named
  have hlocks := B.notSynchronized
  subst hsz
  have hD := hD0.self (sz := s.heap.size)
  generalize hAe : va_A [(h0, .inr (0, [.ref h1, .int 0, .int 0, .ref h2, .ref h3, .ref h4, .ref h5, .ref h6, .ref h7, .ref h8, .ref h9, .ref h10, .ref h11, .ref h12, .ref h13, .int (-1), .int (-1), .ref h14])), (h1, .inl (g0, 600, .inl (fun _ => 0)))] s.heap.size = A at hD ⊢
  have hA : ∀ q : Nat, s.heap.size ≤ q → A q := fun q h => by rw [← hAe]; exact Or.inr h
  have hS : va_S A s.heap s.heap [] := va_S.rf
  have hl := lv_entry ([.ref h0, .int p0]) (n := 3) (Nat.le_of_ble_eq_true rfl)
  rw [lg_entry_eq]
  generalize (lg_sl ([.ref h0, .int p0]) ++ List.replicate (3 - (lg_sl ([.ref h0, .int p0])).length) Slot.unset).toArray = ls at hl ⊢
  have hl : lv_has ls 3 [(0, .ref h0), (1, .int p0)] := hl
  refine lv_bipush (v := 24) hx hb d_CD_putBytes_I_0 (by decide) ?_
  refine lv_istore_n (lv' := [(2, .int 24), (0, .ref h0), (1, .int p0)]) hx hb d_CD_putBytes_I_2 rfl hl (by decide) rfl (fun ls_1 hl_1 => ?_)
  clear hl
  refine lv_iload_n hx hb d_CD_putBytes_I_3 rfl (lv_at hl_1 0 rfl) ?_
  refine lv_if_lt (tgt := 46) hx hb d_CD_putBytes_I_4 (by decide) (fun h => absurd h (by decide)) (fun _ => ?_)
  refine lv_aload_n hx hb d_CD_putBytes_I_7 rfl (lv_at hl_1 1 rfl) ?_
  refine va_get (D := (dC, dI)) (ci := 0) (v := .int 0) (C := R_CD) (T := F_CD) (N := 18) hx hb hts i_CD hown hK hP 0 rfl rfl 1 (by decide) (hts _ k_305) (fun _ h9 => h9) rfl d_CD_putBytes_I_8 ?_
  refine lv_sipush (v := 600) hx hb d_CD_putBytes_I_11 (by decide) ?_
  refine lv_icmp_ge (tgt := 46) hx hb d_CD_putBytes_I_14 (by decide) (fun h => absurd h (by decide)) (fun _ => ?_)
  refine lv_aload_n hx hb d_CD_putBytes_I_17 rfl (lv_at hl_1 1 rfl) ?_
  refine va_get (D := (dC, dI)) (ci := 0) (v := .ref h1) (C := R_CD) (T := F_CD) (N := 18) hx hb hts i_CD hown hK hP 0 rfl rfl 0 (by decide) (hts _ k_4) (fun _ h9 => h9) rfl d_CD_putBytes_I_18 ?_
  refine lv_aload_n hx hb d_CD_putBytes_I_21 rfl (lv_at hl_1 1 rfl) ?_
  refine va_get (D := (dC, dI)) (ci := 0) (v := .int 0) (C := R_CD) (T := F_CD) (N := 18) hx hb hts i_CD hown hK hP 0 rfl rfl 1 (by decide) (hts _ k_305) (fun _ h9 => h9) rfl d_CD_putBytes_I_22 ?_
  refine lv_iload_n hx hb d_CD_putBytes_I_25 rfl (lv_at hl_1 2 rfl) ?_
  refine lv_iload_n hx hb d_CD_putBytes_I_26 rfl (lv_at hl_1 0 rfl) ?_
  refine lv_ishr hx hb d_CD_putBytes_I_27 ?_
  refine lv_i2b (v := (p0 >>> (24 &&& 31)).toInt8.toInt32) hx hb d_CD_putBytes_I_28 rfl ?_
  refine za_bast hx hb hK hP hD hS 1 0 rfl rfl (by unfold vp_in; decide) rfl d_CD_putBytes_I_29 (fun H_1 locs_1 hP_1 hD_1 hS_1 => ?_)
  clear hP hD hS
  generalize upd (fun _ => 0) (0 : Int32).toNatClampNeg (vp_nar .byte ((p0 >>> (24 &&& 31)).toInt8.toInt32)) = zf1 at hP_1 hD_1
  have hP_2 : va_P (dC, dI) classes [(h0, .inr (0, [.ref h1, .int 0, .int 0, .ref h2, .ref h3, .ref h4, .ref h5, .ref h6, .ref h7, .ref h8, .ref h9, .ref h10, .ref h11, .ref h12, .ref h13, .int (-1), .int (-1), .ref h14])), (h1, .inl (g0, 600, .inl zf1))] H_1 := hP_1
  clear hP_1
  have hD_2 : va_D A [(h0, .inr (0, [.ref h1, .int 0, .int 0, .ref h2, .ref h3, .ref h4, .ref h5, .ref h6, .ref h7, .ref h8, .ref h9, .ref h10, .ref h11, .ref h12, .ref h13, .int (-1), .int (-1), .ref h14])), (h1, .inl (g0, 600, .inl zf1))] := hD_1
  clear hD_1
  refine lv_aload_n hx hb d_CD_putBytes_I_30 rfl (lv_at hl_1 1 rfl) ?_
  refine lv_dup hx hb d_CD_putBytes_I_31 rfl ?_
  refine va_get (D := (dC, dI)) (ci := 0) (v := .int 0) (C := R_CD) (T := F_CD) (N := 18) hx hb hts i_CD hown hK hP_2 0 rfl rfl 1 (by decide) (hts _ k_305) (fun _ h9 => h9) rfl d_CD_putBytes_I_32 ?_
  refine lv_iconst (v := 1) hx hb d_CD_putBytes_I_35 (by decide) ?_
  refine lv_iadd hx hb d_CD_putBytes_I_36 ?_
  refine zi_top (y := 1) (by decide) ?_
  refine va_put (D := (dC, dI)) (ci := 0) (v := .int 1) (ty := .int) (C := R_CD) (T := F_CD) (N := 18) hx hb hts i_CD t_CD t_CD_ok n_CD hown hK hP_2 hD_2 hS_1 0 rfl rfl 1 (by decide) (hts _ k_305) (fun _ h9 => h9) rfl (by decide +kernel) rfl rfl (Nat.le_of_ble_eq_true rfl) d_CD_putBytes_I_37 (fun H_2 locs_2 hP_3 hD_3 hS_2 => ?_)
  clear hP_2 hD_2 hS_1
  have hP_4 : va_P (dC, dI) classes [(h0, .inr (0, [.ref h1, .int 1, .int 0, .ref h2, .ref h3, .ref h4, .ref h5, .ref h6, .ref h7, .ref h8, .ref h9, .ref h10, .ref h11, .ref h12, .ref h13, .int (-1), .int (-1), .ref h14])), (h1, .inl (g0, 600, .inl zf1))] H_2 := hP_3
  clear hP_3
  have hD_4 : va_D A [(h0, .inr (0, [.ref h1, .int 1, .int 0, .ref h2, .ref h3, .ref h4, .ref h5, .ref h6, .ref h7, .ref h8, .ref h9, .ref h10, .ref h11, .ref h12, .ref h13, .int (-1), .int (-1), .ref h14])), (h1, .inl (g0, 600, .inl zf1))] := hD_3
  clear hD_3
  refine lv_iinc (v := 16) (lv' := [(2, .int 16), (0, .ref h0), (1, .int p0)]) hx hb d_CD_putBytes_I_40 hl_1 (k := 0) rfl (by decide) (by decide) rfl (fun ls_2 hl_2 => ?_)
  clear hl_1
  refine lv_goto (tgt := 3) hx hb d_CD_putBytes_I_43 (by decide) ?_
  refine lv_iload_n hx hb d_CD_putBytes_I_3 rfl (lv_at hl_2 0 rfl) ?_
  refine lv_if_lt (tgt := 46) hx hb d_CD_putBytes_I_4 (by decide) (fun h => absurd h (by decide)) (fun _ => ?_)
  refine lv_aload_n hx hb d_CD_putBytes_I_7 rfl (lv_at hl_2 1 rfl) ?_
  refine va_get (D := (dC, dI)) (ci := 0) (v := .int 1) (C := R_CD) (T := F_CD) (N := 18) hx hb hts i_CD hown hK hP_4 0 rfl rfl 1 (by decide) (hts _ k_305) (fun _ h9 => h9) rfl d_CD_putBytes_I_8 ?_
  refine lv_sipush (v := 600) hx hb d_CD_putBytes_I_11 (by decide) ?_
  refine lv_icmp_ge (tgt := 46) hx hb d_CD_putBytes_I_14 (by decide) (fun h => absurd h (by decide)) (fun _ => ?_)
  refine lv_aload_n hx hb d_CD_putBytes_I_17 rfl (lv_at hl_2 1 rfl) ?_
  refine va_get (D := (dC, dI)) (ci := 0) (v := .ref h1) (C := R_CD) (T := F_CD) (N := 18) hx hb hts i_CD hown hK hP_4 0 rfl rfl 0 (by decide) (hts _ k_4) (fun _ h9 => h9) rfl d_CD_putBytes_I_18 ?_
  refine lv_aload_n hx hb d_CD_putBytes_I_21 rfl (lv_at hl_2 1 rfl) ?_
  refine va_get (D := (dC, dI)) (ci := 0) (v := .int 1) (C := R_CD) (T := F_CD) (N := 18) hx hb hts i_CD hown hK hP_4 0 rfl rfl 1 (by decide) (hts _ k_305) (fun _ h9 => h9) rfl d_CD_putBytes_I_22 ?_
  refine lv_iload_n hx hb d_CD_putBytes_I_25 rfl (lv_at hl_2 2 rfl) ?_
  refine lv_iload_n hx hb d_CD_putBytes_I_26 rfl (lv_at hl_2 0 rfl) ?_
  refine lv_ishr hx hb d_CD_putBytes_I_27 ?_
  refine lv_i2b (v := (p0 >>> (16 &&& 31)).toInt8.toInt32) hx hb d_CD_putBytes_I_28 rfl ?_
  refine za_bast hx hb hK hP_4 hD_4 hS_2 1 0 rfl rfl (by unfold vp_in; decide) rfl d_CD_putBytes_I_29 (fun H_3 locs_3 hP_5 hD_5 hS_3 => ?_)
  clear hP_4 hD_4 hS_2
  generalize upd zf1 (1 : Int32).toNatClampNeg (vp_nar .byte ((p0 >>> (16 &&& 31)).toInt8.toInt32)) = zf2 at hP_5 hD_5
  have hP_6 : va_P (dC, dI) classes [(h0, .inr (0, [.ref h1, .int 1, .int 0, .ref h2, .ref h3, .ref h4, .ref h5, .ref h6, .ref h7, .ref h8, .ref h9, .ref h10, .ref h11, .ref h12, .ref h13, .int (-1), .int (-1), .ref h14])), (h1, .inl (g0, 600, .inl zf2))] H_3 := hP_5
  clear hP_5
  have hD_6 : va_D A [(h0, .inr (0, [.ref h1, .int 1, .int 0, .ref h2, .ref h3, .ref h4, .ref h5, .ref h6, .ref h7, .ref h8, .ref h9, .ref h10, .ref h11, .ref h12, .ref h13, .int (-1), .int (-1), .ref h14])), (h1, .inl (g0, 600, .inl zf2))] := hD_5
  clear hD_5
  refine lv_aload_n hx hb d_CD_putBytes_I_30 rfl (lv_at hl_2 1 rfl) ?_
  refine lv_dup hx hb d_CD_putBytes_I_31 rfl ?_
  refine va_get (D := (dC, dI)) (ci := 0) (v := .int 1) (C := R_CD) (T := F_CD) (N := 18) hx hb hts i_CD hown hK hP_6 0 rfl rfl 1 (by decide) (hts _ k_305) (fun _ h9 => h9) rfl d_CD_putBytes_I_32 ?_
  refine lv_iconst (v := 1) hx hb d_CD_putBytes_I_35 (by decide) ?_
  refine lv_iadd hx hb d_CD_putBytes_I_36 ?_
  refine zi_top (y := 2) (by decide) ?_
  refine va_put (D := (dC, dI)) (ci := 0) (v := .int 2) (ty := .int) (C := R_CD) (T := F_CD) (N := 18) hx hb hts i_CD t_CD t_CD_ok n_CD hown hK hP_6 hD_6 hS_3 0 rfl rfl 1 (by decide) (hts _ k_305) (fun _ h9 => h9) rfl (by decide +kernel) rfl rfl (Nat.le_of_ble_eq_true rfl) d_CD_putBytes_I_37 (fun H_4 locs_4 hP_7 hD_7 hS_4 => ?_)
  clear hP_6 hD_6 hS_3
  have hP_8 : va_P (dC, dI) classes [(h0, .inr (0, [.ref h1, .int 2, .int 0, .ref h2, .ref h3, .ref h4, .ref h5, .ref h6, .ref h7, .ref h8, .ref h9, .ref h10, .ref h11, .ref h12, .ref h13, .int (-1), .int (-1), .ref h14])), (h1, .inl (g0, 600, .inl zf2))] H_4 := hP_7
  clear hP_7
  have hD_8 : va_D A [(h0, .inr (0, [.ref h1, .int 2, .int 0, .ref h2, .ref h3, .ref h4, .ref h5, .ref h6, .ref h7, .ref h8, .ref h9, .ref h10, .ref h11, .ref h12, .ref h13, .int (-1), .int (-1), .ref h14])), (h1, .inl (g0, 600, .inl zf2))] := hD_7
  clear hD_7
  refine lv_iinc (v := 8) (lv' := [(2, .int 8), (0, .ref h0), (1, .int p0)]) hx hb d_CD_putBytes_I_40 hl_2 (k := 0) rfl (by decide) (by decide) rfl (fun ls_3 hl_3 => ?_)
  clear hl_2
  refine lv_goto (tgt := 3) hx hb d_CD_putBytes_I_43 (by decide) ?_
  refine lv_iload_n hx hb d_CD_putBytes_I_3 rfl (lv_at hl_3 0 rfl) ?_
  refine lv_if_lt (tgt := 46) hx hb d_CD_putBytes_I_4 (by decide) (fun h => absurd h (by decide)) (fun _ => ?_)
  refine lv_aload_n hx hb d_CD_putBytes_I_7 rfl (lv_at hl_3 1 rfl) ?_
  refine va_get (D := (dC, dI)) (ci := 0) (v := .int 2) (C := R_CD) (T := F_CD) (N := 18) hx hb hts i_CD hown hK hP_8 0 rfl rfl 1 (by decide) (hts _ k_305) (fun _ h9 => h9) rfl d_CD_putBytes_I_8 ?_
  refine lv_sipush (v := 600) hx hb d_CD_putBytes_I_11 (by decide) ?_
  refine lv_icmp_ge (tgt := 46) hx hb d_CD_putBytes_I_14 (by decide) (fun h => absurd h (by decide)) (fun _ => ?_)
  refine lv_aload_n hx hb d_CD_putBytes_I_17 rfl (lv_at hl_3 1 rfl) ?_
  refine va_get (D := (dC, dI)) (ci := 0) (v := .ref h1) (C := R_CD) (T := F_CD) (N := 18) hx hb hts i_CD hown hK hP_8 0 rfl rfl 0 (by decide) (hts _ k_4) (fun _ h9 => h9) rfl d_CD_putBytes_I_18 ?_
  refine lv_aload_n hx hb d_CD_putBytes_I_21 rfl (lv_at hl_3 1 rfl) ?_
  refine va_get (D := (dC, dI)) (ci := 0) (v := .int 2) (C := R_CD) (T := F_CD) (N := 18) hx hb hts i_CD hown hK hP_8 0 rfl rfl 1 (by decide) (hts _ k_305) (fun _ h9 => h9) rfl d_CD_putBytes_I_22 ?_
  refine lv_iload_n hx hb d_CD_putBytes_I_25 rfl (lv_at hl_3 2 rfl) ?_
  refine lv_iload_n hx hb d_CD_putBytes_I_26 rfl (lv_at hl_3 0 rfl) ?_
  refine lv_ishr hx hb d_CD_putBytes_I_27 ?_
  refine lv_i2b (v := (p0 >>> (8 &&& 31)).toInt8.toInt32) hx hb d_CD_putBytes_I_28 rfl ?_
  refine za_bast hx hb hK hP_8 hD_8 hS_4 1 0 rfl rfl (by unfold vp_in; decide) rfl d_CD_putBytes_I_29 (fun H_5 locs_5 hP_9 hD_9 hS_5 => ?_)
  clear hP_8 hD_8 hS_4
  generalize upd zf2 (2 : Int32).toNatClampNeg (vp_nar .byte ((p0 >>> (8 &&& 31)).toInt8.toInt32)) = zf3 at hP_9 hD_9
  have hP_10 : va_P (dC, dI) classes [(h0, .inr (0, [.ref h1, .int 2, .int 0, .ref h2, .ref h3, .ref h4, .ref h5, .ref h6, .ref h7, .ref h8, .ref h9, .ref h10, .ref h11, .ref h12, .ref h13, .int (-1), .int (-1), .ref h14])), (h1, .inl (g0, 600, .inl zf3))] H_5 := hP_9
  clear hP_9
  have hD_10 : va_D A [(h0, .inr (0, [.ref h1, .int 2, .int 0, .ref h2, .ref h3, .ref h4, .ref h5, .ref h6, .ref h7, .ref h8, .ref h9, .ref h10, .ref h11, .ref h12, .ref h13, .int (-1), .int (-1), .ref h14])), (h1, .inl (g0, 600, .inl zf3))] := hD_9
  clear hD_9
  refine lv_aload_n hx hb d_CD_putBytes_I_30 rfl (lv_at hl_3 1 rfl) ?_
  refine lv_dup hx hb d_CD_putBytes_I_31 rfl ?_
  refine va_get (D := (dC, dI)) (ci := 0) (v := .int 2) (C := R_CD) (T := F_CD) (N := 18) hx hb hts i_CD hown hK hP_10 0 rfl rfl 1 (by decide) (hts _ k_305) (fun _ h9 => h9) rfl d_CD_putBytes_I_32 ?_
  refine lv_iconst (v := 1) hx hb d_CD_putBytes_I_35 (by decide) ?_
  refine lv_iadd hx hb d_CD_putBytes_I_36 ?_
  refine zi_top (y := 3) (by decide) ?_
  refine va_put (D := (dC, dI)) (ci := 0) (v := .int 3) (ty := .int) (C := R_CD) (T := F_CD) (N := 18) hx hb hts i_CD t_CD t_CD_ok n_CD hown hK hP_10 hD_10 hS_5 0 rfl rfl 1 (by decide) (hts _ k_305) (fun _ h9 => h9) rfl (by decide +kernel) rfl rfl (Nat.le_of_ble_eq_true rfl) d_CD_putBytes_I_37 (fun H_6 locs_6 hP_11 hD_11 hS_6 => ?_)
  clear hP_10 hD_10 hS_5
  have hP_12 : va_P (dC, dI) classes [(h0, .inr (0, [.ref h1, .int 3, .int 0, .ref h2, .ref h3, .ref h4, .ref h5, .ref h6, .ref h7, .ref h8, .ref h9, .ref h10, .ref h11, .ref h12, .ref h13, .int (-1), .int (-1), .ref h14])), (h1, .inl (g0, 600, .inl zf3))] H_6 := hP_11
  clear hP_11
  have hD_12 : va_D A [(h0, .inr (0, [.ref h1, .int 3, .int 0, .ref h2, .ref h3, .ref h4, .ref h5, .ref h6, .ref h7, .ref h8, .ref h9, .ref h10, .ref h11, .ref h12, .ref h13, .int (-1), .int (-1), .ref h14])), (h1, .inl (g0, 600, .inl zf3))] := hD_11
  clear hD_11
  refine lv_iinc (v := 0) (lv' := [(2, .int 0), (0, .ref h0), (1, .int p0)]) hx hb d_CD_putBytes_I_40 hl_3 (k := 0) rfl (by decide) (by decide) rfl (fun ls_4 hl_4 => ?_)
  clear hl_3
  refine lv_goto (tgt := 3) hx hb d_CD_putBytes_I_43 (by decide) ?_
  refine lv_iload_n hx hb d_CD_putBytes_I_3 rfl (lv_at hl_4 0 rfl) ?_
  refine lv_if_lt (tgt := 46) hx hb d_CD_putBytes_I_4 (by decide) (fun h => absurd h (by decide)) (fun _ => ?_)
  refine lv_aload_n hx hb d_CD_putBytes_I_7 rfl (lv_at hl_4 1 rfl) ?_
  refine va_get (D := (dC, dI)) (ci := 0) (v := .int 3) (C := R_CD) (T := F_CD) (N := 18) hx hb hts i_CD hown hK hP_12 0 rfl rfl 1 (by decide) (hts _ k_305) (fun _ h9 => h9) rfl d_CD_putBytes_I_8 ?_
  refine lv_sipush (v := 600) hx hb d_CD_putBytes_I_11 (by decide) ?_
  refine lv_icmp_ge (tgt := 46) hx hb d_CD_putBytes_I_14 (by decide) (fun h => absurd h (by decide)) (fun _ => ?_)
  refine lv_aload_n hx hb d_CD_putBytes_I_17 rfl (lv_at hl_4 1 rfl) ?_
  refine va_get (D := (dC, dI)) (ci := 0) (v := .ref h1) (C := R_CD) (T := F_CD) (N := 18) hx hb hts i_CD hown hK hP_12 0 rfl rfl 0 (by decide) (hts _ k_4) (fun _ h9 => h9) rfl d_CD_putBytes_I_18 ?_
  refine lv_aload_n hx hb d_CD_putBytes_I_21 rfl (lv_at hl_4 1 rfl) ?_
  refine va_get (D := (dC, dI)) (ci := 0) (v := .int 3) (C := R_CD) (T := F_CD) (N := 18) hx hb hts i_CD hown hK hP_12 0 rfl rfl 1 (by decide) (hts _ k_305) (fun _ h9 => h9) rfl d_CD_putBytes_I_22 ?_
  refine lv_iload_n hx hb d_CD_putBytes_I_25 rfl (lv_at hl_4 2 rfl) ?_
  refine lv_iload_n hx hb d_CD_putBytes_I_26 rfl (lv_at hl_4 0 rfl) ?_
  refine lv_ishr hx hb d_CD_putBytes_I_27 ?_
  refine lv_i2b (v := (p0 >>> (0 &&& 31)).toInt8.toInt32) hx hb d_CD_putBytes_I_28 rfl ?_
  refine za_bast hx hb hK hP_12 hD_12 hS_6 1 0 rfl rfl (by unfold vp_in; decide) rfl d_CD_putBytes_I_29 (fun H_7 locs_7 hP_13 hD_13 hS_7 => ?_)
  clear hP_12 hD_12 hS_6
  generalize upd zf3 (3 : Int32).toNatClampNeg (vp_nar .byte ((p0 >>> (0 &&& 31)).toInt8.toInt32)) = zf4 at hP_13 hD_13
  have hP_14 : va_P (dC, dI) classes [(h0, .inr (0, [.ref h1, .int 3, .int 0, .ref h2, .ref h3, .ref h4, .ref h5, .ref h6, .ref h7, .ref h8, .ref h9, .ref h10, .ref h11, .ref h12, .ref h13, .int (-1), .int (-1), .ref h14])), (h1, .inl (g0, 600, .inl zf4))] H_7 := hP_13
  clear hP_13
  have hD_14 : va_D A [(h0, .inr (0, [.ref h1, .int 3, .int 0, .ref h2, .ref h3, .ref h4, .ref h5, .ref h6, .ref h7, .ref h8, .ref h9, .ref h10, .ref h11, .ref h12, .ref h13, .int (-1), .int (-1), .ref h14])), (h1, .inl (g0, 600, .inl zf4))] := hD_13
  clear hD_13
  refine lv_aload_n hx hb d_CD_putBytes_I_30 rfl (lv_at hl_4 1 rfl) ?_
  refine lv_dup hx hb d_CD_putBytes_I_31 rfl ?_
  refine va_get (D := (dC, dI)) (ci := 0) (v := .int 3) (C := R_CD) (T := F_CD) (N := 18) hx hb hts i_CD hown hK hP_14 0 rfl rfl 1 (by decide) (hts _ k_305) (fun _ h9 => h9) rfl d_CD_putBytes_I_32 ?_
  refine lv_iconst (v := 1) hx hb d_CD_putBytes_I_35 (by decide) ?_
  refine lv_iadd hx hb d_CD_putBytes_I_36 ?_
  refine zi_top (y := 4) (by decide) ?_
  refine va_put (D := (dC, dI)) (ci := 0) (v := .int 4) (ty := .int) (C := R_CD) (T := F_CD) (N := 18) hx hb hts i_CD t_CD t_CD_ok n_CD hown hK hP_14 hD_14 hS_7 0 rfl rfl 1 (by decide) (hts _ k_305) (fun _ h9 => h9) rfl (by decide +kernel) rfl rfl (Nat.le_of_ble_eq_true rfl) d_CD_putBytes_I_37 (fun H_8 locs_8 hP_15 hD_15 hS_8 => ?_)
  clear hP_14 hD_14 hS_7
  have hP_16 : va_P (dC, dI) classes [(h0, .inr (0, [.ref h1, .int 4, .int 0, .ref h2, .ref h3, .ref h4, .ref h5, .ref h6, .ref h7, .ref h8, .ref h9, .ref h10, .ref h11, .ref h12, .ref h13, .int (-1), .int (-1), .ref h14])), (h1, .inl (g0, 600, .inl zf4))] H_8 := hP_15
  clear hP_15
  have hD_16 : va_D A [(h0, .inr (0, [.ref h1, .int 4, .int 0, .ref h2, .ref h3, .ref h4, .ref h5, .ref h6, .ref h7, .ref h8, .ref h9, .ref h10, .ref h11, .ref h12, .ref h13, .int (-1), .int (-1), .ref h14])), (h1, .inl (g0, 600, .inl zf4))] := hD_15
  clear hD_15
  refine lv_iinc (v := (-8)) (lv' := [(2, .int (-8)), (0, .ref h0), (1, .int p0)]) hx hb d_CD_putBytes_I_40 hl_4 (k := 0) rfl (by decide) (by decide) rfl (fun ls_5 hl_5 => ?_)
  clear hl_4
  refine lv_goto (tgt := 3) hx hb d_CD_putBytes_I_43 (by decide) ?_
  refine lv_iload_n hx hb d_CD_putBytes_I_3 rfl (lv_at hl_5 0 rfl) ?_
  refine lv_if_lt (tgt := 46) hx hb d_CD_putBytes_I_4 (by decide) (fun _ => ?_) (fun h => absurd (by decide) h)
  refine W.widen (k := 0) (n := 0) (Nat.le_of_ble_eq_true rfl) (Nat.le_of_ble_eq_true rfl) ?_
  have hK9 := hK.sub (tys' := []) [] rfl
  exact W.vret hx hb hr (fun t ht hW => ⟨⟨(), rfl, trivial, zf4, by rw [ht]; exact hP_16, va_K.moved hW.alike hK9, hD_16⟩, hS_8.F ht⟩) hS_8.2.2 d_CD_putBytes_I_46
set_option maxHeartbeats 4000000 in
set_option maxRecDepth 100000 in
theorem c_CD_putBytes_I_v2 (l : Launch) (dC : Nat → ClassId) (dI : Nat → Nat → Nat) (h0 : Nat) (p0 : Int32) (h1 : Nat) (h2 : Nat) (h3 : Nat) (h4 : Nat) (h5 : Nat) (h6 : Nat) (h7 : Nat) (h8 : Nat) (h9 : Nat) (h10 : Nat) (h11 : Nat) (h12 : Nat) (h13 : Nat) (h14 : Nat) (g0 : ClassId) (f0 : Nat → Int32) (sz : Nat) : Met l y_CD_putBytes_I w_CD_putBytes_I ({ frames := 0, cells := 0, slots := 0, locals := 0 }) (va_Pc [.ref h0, .int p0] (fun U => U.heap.size = sz ∧ va_P (dC, dI) classes [(h0, .inr (0, [.ref h1, .int 4, .int 0, .ref h2, .ref h3, .ref h4, .ref h5, .ref h6, .ref h7, .ref h8, .ref h9, .ref h10, .ref h11, .ref h12, .ref h13, .int (-1), .int (-1), .ref h14])), (h1, .inl (g0, 600, .inl f0))] U.heap ∧ va_K (dC, dI) classes [(g0, .byte)] U ∧ va_D (fun _ => True) [(h0, .inr (0, [.ref h1, .int 4, .int 0, .ref h2, .ref h3, .ref h4, .ref h5, .ref h6, .ref h7, .ref h8, .ref h9, .ref h10, .ref h11, .ref h12, .ref h13, .int (-1), .int (-1), .ref h14])), (h1, .inl (g0, 600, .inl f0))] ∧ zX U)) (va_Qv (fun _ : Unit => True) (fun _ t => ∃ (zf4 : Nat → Int32), va_P (dC, dI) classes [(h0, .inr (0, [.ref h1, .int 8, .int 0, .ref h2, .ref h3, .ref h4, .ref h5, .ref h6, .ref h7, .ref h8, .ref h9, .ref h10, .ref h11, .ref h12, .ref h13, .int (-1), .int (-1), .ref h14])), (h1, .inl (g0, 600, .inl zf4))] t.heap ∧ va_K (dC, dI) classes [] t ∧ va_D (va_A [(h0, .inr (0, [.ref h1, .int 4, .int 0, .ref h2, .ref h3, .ref h4, .ref h5, .ref h6, .ref h7, .ref h8, .ref h9, .ref h10, .ref h11, .ref h12, .ref h13, .int (-1), .int (-1), .ref h14])), (h1, .inl (g0, 600, .inl f0))] sz) [(h0, .inr (0, [.ref h1, .int 8, .int 0, .ref h2, .ref h3, .ref h4, .ref h5, .ref h6, .ref h7, .ref h8, .ref h9, .ref h10, .ref h11, .ref h12, .ref h13, .int (-1), .int (-1), .ref h14])), (h1, .inl (g0, 600, .inl zf4))]) (va_A [(h0, .inr (0, [.ref h1, .int 4, .int 0, .ref h2, .ref h3, .ref h4, .ref h5, .ref h6, .ref h7, .ref h8, .ref h9, .ref h10, .ref h11, .ref h12, .ref h13, .int (-1), .int (-1), .ref h14])), (h1, .inl (g0, 600, .inl f0))] sz)) 0 0 (va_A [(h0, .inr (0, [.ref h1, .int 4, .int 0, .ref h2, .ref h3, .ref h4, .ref h5, .ref h6, .ref h7, .ref h8, .ref h9, .ref h10, .ref h11, .ref h12, .ref h13, .int (-1), .int (-1), .ref h14])), (h1, .inl (g0, 600, .inl f0))] sz) := by
  refine Met.ofW (cc := prog_1_method_3_code) (maxL := 3) (ret := (Option.none : Option Jvm.ClassFile.FieldType)) (by decide) rfl ?_
  intro p e s m args below meth c s₁ B hml hv
  obtain ⟨rfl, hsz, hP, hK, hD0, hX⟩ := hv
  have hx := B.exec
  have hb := B.bytes
  have hr := B.returns
  have hts0 := atoms_spec (ws := w_CD_putBytes_I) B.pre
  have hts : ∀ w ∈ zg_tbl, w.before _ s = true := fun w h => hts0 w (List.mem_cons_of_mem _ h)
  have hown : s.vm.findClass "CellDecide" = some m.cls := findClass_of_methodNamed B.named
  have hlocks := B.notSynchronized
  subst hsz
  have hD := hD0.self (sz := s.heap.size)
  generalize hAe : va_A [(h0, .inr (0, [.ref h1, .int 4, .int 0, .ref h2, .ref h3, .ref h4, .ref h5, .ref h6, .ref h7, .ref h8, .ref h9, .ref h10, .ref h11, .ref h12, .ref h13, .int (-1), .int (-1), .ref h14])), (h1, .inl (g0, 600, .inl f0))] s.heap.size = A at hD ⊢
  have hA : ∀ q : Nat, s.heap.size ≤ q → A q := fun q h => by rw [← hAe]; exact Or.inr h
  have hS : va_S A s.heap s.heap [] := va_S.rf
  have hl := lv_entry ([.ref h0, .int p0]) (n := 3) (Nat.le_of_ble_eq_true rfl)
  rw [lg_entry_eq]
  generalize (lg_sl ([.ref h0, .int p0]) ++ List.replicate (3 - (lg_sl ([.ref h0, .int p0])).length) Slot.unset).toArray = ls at hl ⊢
  have hl : lv_has ls 3 [(0, .ref h0), (1, .int p0)] := hl
  refine lv_bipush (v := 24) hx hb d_CD_putBytes_I_0 (by decide) ?_
  refine lv_istore_n (lv' := [(2, .int 24), (0, .ref h0), (1, .int p0)]) hx hb d_CD_putBytes_I_2 rfl hl (by decide) rfl (fun ls_1 hl_1 => ?_)
  clear hl
  refine lv_iload_n hx hb d_CD_putBytes_I_3 rfl (lv_at hl_1 0 rfl) ?_
  refine lv_if_lt (tgt := 46) hx hb d_CD_putBytes_I_4 (by decide) (fun h => absurd h (by decide)) (fun _ => ?_)
  refine lv_aload_n hx hb d_CD_putBytes_I_7 rfl (lv_at hl_1 1 rfl) ?_
  refine va_get (D := (dC, dI)) (ci := 0) (v := .int 4) (C := R_CD) (T := F_CD) (N := 18) hx hb hts i_CD hown hK hP 0 rfl rfl 1 (by decide) (hts _ k_305) (fun _ h9 => h9) rfl d_CD_putBytes_I_8 ?_
  refine lv_sipush (v := 600) hx hb d_CD_putBytes_I_11 (by decide) ?_
  refine lv_icmp_ge (tgt := 46) hx hb d_CD_putBytes_I_14 (by decide) (fun h => absurd h (by decide)) (fun _ => ?_)
  refine lv_aload_n hx hb d_CD_putBytes_I_17 rfl (lv_at hl_1 1 rfl) ?_
  refine va_get (D := (dC, dI)) (ci := 0) (v := .ref h1) (C := R_CD) (T := F_CD) (N := 18) hx hb hts i_CD hown hK hP 0 rfl rfl 0 (by decide) (hts _ k_4) (fun _ h9 => h9) rfl d_CD_putBytes_I_18 ?_
  refine lv_aload_n hx hb d_CD_putBytes_I_21 rfl (lv_at hl_1 1 rfl) ?_
  refine va_get (D := (dC, dI)) (ci := 0) (v := .int 4) (C := R_CD) (T := F_CD) (N := 18) hx hb hts i_CD hown hK hP 0 rfl rfl 1 (by decide) (hts _ k_305) (fun _ h9 => h9) rfl d_CD_putBytes_I_22 ?_
  refine lv_iload_n hx hb d_CD_putBytes_I_25 rfl (lv_at hl_1 2 rfl) ?_
  refine lv_iload_n hx hb d_CD_putBytes_I_26 rfl (lv_at hl_1 0 rfl) ?_
  refine lv_ishr hx hb d_CD_putBytes_I_27 ?_
  refine lv_i2b (v := (p0 >>> (24 &&& 31)).toInt8.toInt32) hx hb d_CD_putBytes_I_28 rfl ?_
  refine za_bast hx hb hK hP hD hS 1 0 rfl rfl (by unfold vp_in; decide) rfl d_CD_putBytes_I_29 (fun H_1 locs_1 hP_1 hD_1 hS_1 => ?_)
  clear hP hD hS
  generalize upd f0 (4 : Int32).toNatClampNeg (vp_nar .byte ((p0 >>> (24 &&& 31)).toInt8.toInt32)) = zf1 at hP_1 hD_1
  have hP_2 : va_P (dC, dI) classes [(h0, .inr (0, [.ref h1, .int 4, .int 0, .ref h2, .ref h3, .ref h4, .ref h5, .ref h6, .ref h7, .ref h8, .ref h9, .ref h10, .ref h11, .ref h12, .ref h13, .int (-1), .int (-1), .ref h14])), (h1, .inl (g0, 600, .inl zf1))] H_1 := hP_1
  clear hP_1
  have hD_2 : va_D A [(h0, .inr (0, [.ref h1, .int 4, .int 0, .ref h2, .ref h3, .ref h4, .ref h5, .ref h6, .ref h7, .ref h8, .ref h9, .ref h10, .ref h11, .ref h12, .ref h13, .int (-1), .int (-1), .ref h14])), (h1, .inl (g0, 600, .inl zf1))] := hD_1
  clear hD_1
  refine lv_aload_n hx hb d_CD_putBytes_I_30 rfl (lv_at hl_1 1 rfl) ?_
  refine lv_dup hx hb d_CD_putBytes_I_31 rfl ?_
  refine va_get (D := (dC, dI)) (ci := 0) (v := .int 4) (C := R_CD) (T := F_CD) (N := 18) hx hb hts i_CD hown hK hP_2 0 rfl rfl 1 (by decide) (hts _ k_305) (fun _ h9 => h9) rfl d_CD_putBytes_I_32 ?_
  refine lv_iconst (v := 1) hx hb d_CD_putBytes_I_35 (by decide) ?_
  refine lv_iadd hx hb d_CD_putBytes_I_36 ?_
  refine zi_top (y := 5) (by decide) ?_
  refine va_put (D := (dC, dI)) (ci := 0) (v := .int 5) (ty := .int) (C := R_CD) (T := F_CD) (N := 18) hx hb hts i_CD t_CD t_CD_ok n_CD hown hK hP_2 hD_2 hS_1 0 rfl rfl 1 (by decide) (hts _ k_305) (fun _ h9 => h9) rfl (by decide +kernel) rfl rfl (Nat.le_of_ble_eq_true rfl) d_CD_putBytes_I_37 (fun H_2 locs_2 hP_3 hD_3 hS_2 => ?_)
  clear hP_2 hD_2 hS_1
  have hP_4 : va_P (dC, dI) classes [(h0, .inr (0, [.ref h1, .int 5, .int 0, .ref h2, .ref h3, .ref h4, .ref h5, .ref h6, .ref h7, .ref h8, .ref h9, .ref h10, .ref h11, .ref h12, .ref h13, .int (-1), .int (-1), .ref h14])), (h1, .inl (g0, 600, .inl zf1))] H_2 := hP_3
  clear hP_3
  have hD_4 : va_D A [(h0, .inr (0, [.ref h1, .int 5, .int 0, .ref h2, .ref h3, .ref h4, .ref h5, .ref h6, .ref h7, .ref h8, .ref h9, .ref h10, .ref h11, .ref h12, .ref h13, .int (-1), .int (-1), .ref h14])), (h1, .inl (g0, 600, .inl zf1))] := hD_3
  clear hD_3
  refine lv_iinc (v := 16) (lv' := [(2, .int 16), (0, .ref h0), (1, .int p0)]) hx hb d_CD_putBytes_I_40 hl_1 (k := 0) rfl (by decide) (by decide) rfl (fun ls_2 hl_2 => ?_)
  clear hl_1
  refine lv_goto (tgt := 3) hx hb d_CD_putBytes_I_43 (by decide) ?_
  refine lv_iload_n hx hb d_CD_putBytes_I_3 rfl (lv_at hl_2 0 rfl) ?_
  refine lv_if_lt (tgt := 46) hx hb d_CD_putBytes_I_4 (by decide) (fun h => absurd h (by decide)) (fun _ => ?_)
  refine lv_aload_n hx hb d_CD_putBytes_I_7 rfl (lv_at hl_2 1 rfl) ?_
  refine va_get (D := (dC, dI)) (ci := 0) (v := .int 5) (C := R_CD) (T := F_CD) (N := 18) hx hb hts i_CD hown hK hP_4 0 rfl rfl 1 (by decide) (hts _ k_305) (fun _ h9 => h9) rfl d_CD_putBytes_I_8 ?_
  refine lv_sipush (v := 600) hx hb d_CD_putBytes_I_11 (by decide) ?_
  refine lv_icmp_ge (tgt := 46) hx hb d_CD_putBytes_I_14 (by decide) (fun h => absurd h (by decide)) (fun _ => ?_)
  refine lv_aload_n hx hb d_CD_putBytes_I_17 rfl (lv_at hl_2 1 rfl) ?_
  refine va_get (D := (dC, dI)) (ci := 0) (v := .ref h1) (C := R_CD) (T := F_CD) (N := 18) hx hb hts i_CD hown hK hP_4 0 rfl rfl 0 (by decide) (hts _ k_4) (fun _ h9 => h9) rfl d_CD_putBytes_I_18 ?_
  refine lv_aload_n hx hb d_CD_putBytes_I_21 rfl (lv_at hl_2 1 rfl) ?_
  refine va_get (D := (dC, dI)) (ci := 0) (v := .int 5) (C := R_CD) (T := F_CD) (N := 18) hx hb hts i_CD hown hK hP_4 0 rfl rfl 1 (by decide) (hts _ k_305) (fun _ h9 => h9) rfl d_CD_putBytes_I_22 ?_
  refine lv_iload_n hx hb d_CD_putBytes_I_25 rfl (lv_at hl_2 2 rfl) ?_
  refine lv_iload_n hx hb d_CD_putBytes_I_26 rfl (lv_at hl_2 0 rfl) ?_
  refine lv_ishr hx hb d_CD_putBytes_I_27 ?_
  refine lv_i2b (v := (p0 >>> (16 &&& 31)).toInt8.toInt32) hx hb d_CD_putBytes_I_28 rfl ?_
  refine za_bast hx hb hK hP_4 hD_4 hS_2 1 0 rfl rfl (by unfold vp_in; decide) rfl d_CD_putBytes_I_29 (fun H_3 locs_3 hP_5 hD_5 hS_3 => ?_)
  clear hP_4 hD_4 hS_2
  generalize upd zf1 (5 : Int32).toNatClampNeg (vp_nar .byte ((p0 >>> (16 &&& 31)).toInt8.toInt32)) = zf2 at hP_5 hD_5
  have hP_6 : va_P (dC, dI) classes [(h0, .inr (0, [.ref h1, .int 5, .int 0, .ref h2, .ref h3, .ref h4, .ref h5, .ref h6, .ref h7, .ref h8, .ref h9, .ref h10, .ref h11, .ref h12, .ref h13, .int (-1), .int (-1), .ref h14])), (h1, .inl (g0, 600, .inl zf2))] H_3 := hP_5
  clear hP_5
  have hD_6 : va_D A [(h0, .inr (0, [.ref h1, .int 5, .int 0, .ref h2, .ref h3, .ref h4, .ref h5, .ref h6, .ref h7, .ref h8, .ref h9, .ref h10, .ref h11, .ref h12, .ref h13, .int (-1), .int (-1), .ref h14])), (h1, .inl (g0, 600, .inl zf2))] := hD_5
  clear hD_5
  refine lv_aload_n hx hb d_CD_putBytes_I_30 rfl (lv_at hl_2 1 rfl) ?_
  refine lv_dup hx hb d_CD_putBytes_I_31 rfl ?_
  refine va_get (D := (dC, dI)) (ci := 0) (v := .int 5) (C := R_CD) (T := F_CD) (N := 18) hx hb hts i_CD hown hK hP_6 0 rfl rfl 1 (by decide) (hts _ k_305) (fun _ h9 => h9) rfl d_CD_putBytes_I_32 ?_
  refine lv_iconst (v := 1) hx hb d_CD_putBytes_I_35 (by decide) ?_
  refine lv_iadd hx hb d_CD_putBytes_I_36 ?_
  refine zi_top (y := 6) (by decide) ?_
  refine va_put (D := (dC, dI)) (ci := 0) (v := .int 6) (ty := .int) (C := R_CD) (T := F_CD) (N := 18) hx hb hts i_CD t_CD t_CD_ok n_CD hown hK hP_6 hD_6 hS_3 0 rfl rfl 1 (by decide) (hts _ k_305) (fun _ h9 => h9) rfl (by decide +kernel) rfl rfl (Nat.le_of_ble_eq_true rfl) d_CD_putBytes_I_37 (fun H_4 locs_4 hP_7 hD_7 hS_4 => ?_)
  clear hP_6 hD_6 hS_3
  have hP_8 : va_P (dC, dI) classes [(h0, .inr (0, [.ref h1, .int 6, .int 0, .ref h2, .ref h3, .ref h4, .ref h5, .ref h6, .ref h7, .ref h8, .ref h9, .ref h10, .ref h11, .ref h12, .ref h13, .int (-1), .int (-1), .ref h14])), (h1, .inl (g0, 600, .inl zf2))] H_4 := hP_7
  clear hP_7
  have hD_8 : va_D A [(h0, .inr (0, [.ref h1, .int 6, .int 0, .ref h2, .ref h3, .ref h4, .ref h5, .ref h6, .ref h7, .ref h8, .ref h9, .ref h10, .ref h11, .ref h12, .ref h13, .int (-1), .int (-1), .ref h14])), (h1, .inl (g0, 600, .inl zf2))] := hD_7
  clear hD_7
  refine lv_iinc (v := 8) (lv' := [(2, .int 8), (0, .ref h0), (1, .int p0)]) hx hb d_CD_putBytes_I_40 hl_2 (k := 0) rfl (by decide) (by decide) rfl (fun ls_3 hl_3 => ?_)
  clear hl_2
  refine lv_goto (tgt := 3) hx hb d_CD_putBytes_I_43 (by decide) ?_
  refine lv_iload_n hx hb d_CD_putBytes_I_3 rfl (lv_at hl_3 0 rfl) ?_
  refine lv_if_lt (tgt := 46) hx hb d_CD_putBytes_I_4 (by decide) (fun h => absurd h (by decide)) (fun _ => ?_)
  refine lv_aload_n hx hb d_CD_putBytes_I_7 rfl (lv_at hl_3 1 rfl) ?_
  refine va_get (D := (dC, dI)) (ci := 0) (v := .int 6) (C := R_CD) (T := F_CD) (N := 18) hx hb hts i_CD hown hK hP_8 0 rfl rfl 1 (by decide) (hts _ k_305) (fun _ h9 => h9) rfl d_CD_putBytes_I_8 ?_
  refine lv_sipush (v := 600) hx hb d_CD_putBytes_I_11 (by decide) ?_
  refine lv_icmp_ge (tgt := 46) hx hb d_CD_putBytes_I_14 (by decide) (fun h => absurd h (by decide)) (fun _ => ?_)
  refine lv_aload_n hx hb d_CD_putBytes_I_17 rfl (lv_at hl_3 1 rfl) ?_
  refine va_get (D := (dC, dI)) (ci := 0) (v := .ref h1) (C := R_CD) (T := F_CD) (N := 18) hx hb hts i_CD hown hK hP_8 0 rfl rfl 0 (by decide) (hts _ k_4) (fun _ h9 => h9) rfl d_CD_putBytes_I_18 ?_
  refine lv_aload_n hx hb d_CD_putBytes_I_21 rfl (lv_at hl_3 1 rfl) ?_
  refine va_get (D := (dC, dI)) (ci := 0) (v := .int 6) (C := R_CD) (T := F_CD) (N := 18) hx hb hts i_CD hown hK hP_8 0 rfl rfl 1 (by decide) (hts _ k_305) (fun _ h9 => h9) rfl d_CD_putBytes_I_22 ?_
  refine lv_iload_n hx hb d_CD_putBytes_I_25 rfl (lv_at hl_3 2 rfl) ?_
  refine lv_iload_n hx hb d_CD_putBytes_I_26 rfl (lv_at hl_3 0 rfl) ?_
  refine lv_ishr hx hb d_CD_putBytes_I_27 ?_
  refine lv_i2b (v := (p0 >>> (8 &&& 31)).toInt8.toInt32) hx hb d_CD_putBytes_I_28 rfl ?_
  refine za_bast hx hb hK hP_8 hD_8 hS_4 1 0 rfl rfl (by unfold vp_in; decide) rfl d_CD_putBytes_I_29 (fun H_5 locs_5 hP_9 hD_9 hS_5 => ?_)
  clear hP_8 hD_8 hS_4
  generalize upd zf2 (6 : Int32).toNatClampNeg (vp_nar .byte ((p0 >>> (8 &&& 31)).toInt8.toInt32)) = zf3 at hP_9 hD_9
  have hP_10 : va_P (dC, dI) classes [(h0, .inr (0, [.ref h1, .int 6, .int 0, .ref h2, .ref h3, .ref h4, .ref h5, .ref h6, .ref h7, .ref h8, .ref h9, .ref h10, .ref h11, .ref h12, .ref h13, .int (-1), .int (-1), .ref h14])), (h1, .inl (g0, 600, .inl zf3))] H_5 := hP_9
  clear hP_9
  have hD_10 : va_D A [(h0, .inr (0, [.ref h1, .int 6, .int 0, .ref h2, .ref h3, .ref h4, .ref h5, .ref h6, .ref h7, .ref h8, .ref h9, .ref h10, .ref h11, .ref h12, .ref h13, .int (-1), .int (-1), .ref h14])), (h1, .inl (g0, 600, .inl zf3))] := hD_9
  clear hD_9
  refine lv_aload_n hx hb d_CD_putBytes_I_30 rfl (lv_at hl_3 1 rfl) ?_
  refine lv_dup hx hb d_CD_putBytes_I_31 rfl ?_
  refine va_get (D := (dC, dI)) (ci := 0) (v := .int 6) (C := R_CD) (T := F_CD) (N := 18) hx hb hts i_CD hown hK hP_10 0 rfl rfl 1 (by decide) (hts _ k_305) (fun _ h9 => h9) rfl d_CD_putBytes_I_32 ?_
  refine lv_iconst (v := 1) hx hb d_CD_putBytes_I_35 (by decide) ?_
  refine lv_iadd hx hb d_CD_putBytes_I_36 ?_
  refine zi_top (y := 7) (by decide) ?_
  refine va_put (D := (dC, dI)) (ci := 0) (v := .int 7) (ty := .int) (C := R_CD) (T := F_CD) (N := 18) hx hb hts i_CD t_CD t_CD_ok n_CD hown hK hP_10 hD_10 hS_5 0 rfl rfl 1 (by decide) (hts _ k_305) (fun _ h9 => h9) rfl (by decide +kernel) rfl rfl (Nat.le_of_ble_eq_true rfl) d_CD_putBytes_I_37 (fun H_6 locs_6 hP_11 hD_11 hS_6 => ?_)
  clear hP_10 hD_10 hS_5
  have hP_12 : va_P (dC, dI) classes [(h0, .inr (0, [.ref h1, .int 7, .int 0, .ref h2, .ref h3, .ref h4, .ref h5, .ref h6, .ref h7, .ref h8, .ref h9, .ref h10, .ref h11, .ref h12, .ref h13, .int (-1), .int (-1), .ref h14])), (h1, .inl (g0, 600, .inl zf3))] H_6 := hP_11
  clear hP_11
  have hD_12 : va_D A [(h0, .inr (0, [.ref h1, .int 7, .int 0, .ref h2, .ref h3, .ref h4, .ref h5, .ref h6, .ref h7, .ref h8, .ref h9, .ref h10, .ref h11, .ref h12, .ref h13, .int (-1), .int (-1), .ref h14])), (h1, .inl (g0, 600, .inl zf3))] := hD_11
  clear hD_11
  refine lv_iinc (v := 0) (lv' := [(2, .int 0), (0, .ref h0), (1, .int p0)]) hx hb d_CD_putBytes_I_40 hl_3 (k := 0) rfl (by decide) (by decide) rfl (fun ls_4 hl_4 => ?_)
  clear hl_3
  refine lv_goto (tgt := 3) hx hb d_CD_putBytes_I_43 (by decide) ?_
  refine lv_iload_n hx hb d_CD_putBytes_I_3 rfl (lv_at hl_4 0 rfl) ?_
  refine lv_if_lt (tgt := 46) hx hb d_CD_putBytes_I_4 (by decide) (fun h => absurd h (by decide)) (fun _ => ?_)
  refine lv_aload_n hx hb d_CD_putBytes_I_7 rfl (lv_at hl_4 1 rfl) ?_
  refine va_get (D := (dC, dI)) (ci := 0) (v := .int 7) (C := R_CD) (T := F_CD) (N := 18) hx hb hts i_CD hown hK hP_12 0 rfl rfl 1 (by decide) (hts _ k_305) (fun _ h9 => h9) rfl d_CD_putBytes_I_8 ?_
  refine lv_sipush (v := 600) hx hb d_CD_putBytes_I_11 (by decide) ?_
  refine lv_icmp_ge (tgt := 46) hx hb d_CD_putBytes_I_14 (by decide) (fun h => absurd h (by decide)) (fun _ => ?_)
  refine lv_aload_n hx hb d_CD_putBytes_I_17 rfl (lv_at hl_4 1 rfl) ?_
  refine va_get (D := (dC, dI)) (ci := 0) (v := .ref h1) (C := R_CD) (T := F_CD) (N := 18) hx hb hts i_CD hown hK hP_12 0 rfl rfl 0 (by decide) (hts _ k_4) (fun _ h9 => h9) rfl d_CD_putBytes_I_18 ?_
  refine lv_aload_n hx hb d_CD_putBytes_I_21 rfl (lv_at hl_4 1 rfl) ?_
  refine va_get (D := (dC, dI)) (ci := 0) (v := .int 7) (C := R_CD) (T := F_CD) (N := 18) hx hb hts i_CD hown hK hP_12 0 rfl rfl 1 (by decide) (hts _ k_305) (fun _ h9 => h9) rfl d_CD_putBytes_I_22 ?_
  refine lv_iload_n hx hb d_CD_putBytes_I_25 rfl (lv_at hl_4 2 rfl) ?_
  refine lv_iload_n hx hb d_CD_putBytes_I_26 rfl (lv_at hl_4 0 rfl) ?_
  refine lv_ishr hx hb d_CD_putBytes_I_27 ?_
  refine lv_i2b (v := (p0 >>> (0 &&& 31)).toInt8.toInt32) hx hb d_CD_putBytes_I_28 rfl ?_
  refine za_bast hx hb hK hP_12 hD_12 hS_6 1 0 rfl rfl (by unfold vp_in; decide) rfl d_CD_putBytes_I_29 (fun H_7 locs_7 hP_13 hD_13 hS_7 => ?_)
  clear hP_12 hD_12 hS_6
  generalize upd zf3 (7 : Int32).toNatClampNeg (vp_nar .byte ((p0 >>> (0 &&& 31)).toInt8.toInt32)) = zf4 at hP_13 hD_13
  have hP_14 : va_P (dC, dI) classes [(h0, .inr (0, [.ref h1, .int 7, .int 0, .ref h2, .ref h3, .ref h4, .ref h5, .ref h6, .ref h7, .ref h8, .ref h9, .ref h10, .ref h11, .ref h12, .ref h13, .int (-1), .int (-1), .ref h14])), (h1, .inl (g0, 600, .inl zf4))] H_7 := hP_13
  clear hP_13
  have hD_14 : va_D A [(h0, .inr (0, [.ref h1, .int 7, .int 0, .ref h2, .ref h3, .ref h4, .ref h5, .ref h6, .ref h7, .ref h8, .ref h9, .ref h10, .ref h11, .ref h12, .ref h13, .int (-1), .int (-1), .ref h14])), (h1, .inl (g0, 600, .inl zf4))] := hD_13
  clear hD_13
  refine lv_aload_n hx hb d_CD_putBytes_I_30 rfl (lv_at hl_4 1 rfl) ?_
  refine lv_dup hx hb d_CD_putBytes_I_31 rfl ?_
  refine va_get (D := (dC, dI)) (ci := 0) (v := .int 7) (C := R_CD) (T := F_CD) (N := 18) hx hb hts i_CD hown hK hP_14 0 rfl rfl 1 (by decide) (hts _ k_305) (fun _ h9 => h9) rfl d_CD_putBytes_I_32 ?_
  refine lv_iconst (v := 1) hx hb d_CD_putBytes_I_35 (by decide) ?_
  refine lv_iadd hx hb d_CD_putBytes_I_36 ?_
  refine zi_top (y := 8) (by decide) ?_
  refine va_put (D := (dC, dI)) (ci := 0) (v := .int 8) (ty := .int) (C := R_CD) (T := F_CD) (N := 18) hx hb hts i_CD t_CD t_CD_ok n_CD hown hK hP_14 hD_14 hS_7 0 rfl rfl 1 (by decide) (hts _ k_305) (fun _ h9 => h9) rfl (by decide +kernel) rfl rfl (Nat.le_of_ble_eq_true rfl) d_CD_putBytes_I_37 (fun H_8 locs_8 hP_15 hD_15 hS_8 => ?_)
  clear hP_14 hD_14 hS_7
  have hP_16 : va_P (dC, dI) classes [(h0, .inr (0, [.ref h1, .int 8, .int 0, .ref h2, .ref h3, .ref h4, .ref h5, .ref h6, .ref h7, .ref h8, .ref h9, .ref h10, .ref h11, .ref h12, .ref h13, .int (-1), .int (-1), .ref h14])), (h1, .inl (g0, 600, .inl zf4))] H_8 := hP_15
  clear hP_15
  have hD_16 : va_D A [(h0, .inr (0, [.ref h1, .int 8, .int 0, .ref h2, .ref h3, .ref h4, .ref h5, .ref h6, .ref h7, .ref h8, .ref h9, .ref h10, .ref h11, .ref h12, .ref h13, .int (-1), .int (-1), .ref h14])), (h1, .inl (g0, 600, .inl zf4))] := hD_15
  clear hD_15
  refine lv_iinc (v := (-8)) (lv' := [(2, .int (-8)), (0, .ref h0), (1, .int p0)]) hx hb d_CD_putBytes_I_40 hl_4 (k := 0) rfl (by decide) (by decide) rfl (fun ls_5 hl_5 => ?_)
  clear hl_4
  refine lv_goto (tgt := 3) hx hb d_CD_putBytes_I_43 (by decide) ?_
  refine lv_iload_n hx hb d_CD_putBytes_I_3 rfl (lv_at hl_5 0 rfl) ?_
  refine lv_if_lt (tgt := 46) hx hb d_CD_putBytes_I_4 (by decide) (fun _ => ?_) (fun h => absurd (by decide) h)
  refine W.widen (k := 0) (n := 0) (Nat.le_of_ble_eq_true rfl) (Nat.le_of_ble_eq_true rfl) ?_
  have hK9 := hK.sub (tys' := []) [] rfl
  exact W.vret hx hb hr (fun t ht hW => ⟨⟨(), rfl, trivial, zf4, by rw [ht]; exact hP_16, va_K.moved hW.alike hK9, hD_16⟩, hS_8.F ht⟩) hS_8.2.2 d_CD_putBytes_I_46
set_option maxHeartbeats 4000000 in
set_option maxRecDepth 100000 in
theorem c_CD_putBytes_I_v3 (l : Launch) (dC : Nat → ClassId) (dI : Nat → Nat → Nat) (h0 : Nat) (p0 : Int32) (h1 : Nat) (h2 : Nat) (h3 : Nat) (h4 : Nat) (h5 : Nat) (h6 : Nat) (h7 : Nat) (h8 : Nat) (h9 : Nat) (h10 : Nat) (h11 : Nat) (h12 : Nat) (h13 : Nat) (h14 : Nat) (g0 : ClassId) (f0 : Nat → Int32) (sz : Nat) : Met l y_CD_putBytes_I w_CD_putBytes_I ({ frames := 0, cells := 0, slots := 0, locals := 0 }) (va_Pc [.ref h0, .int p0] (fun U => U.heap.size = sz ∧ va_P (dC, dI) classes [(h0, .inr (0, [.ref h1, .int 8, .int 0, .ref h2, .ref h3, .ref h4, .ref h5, .ref h6, .ref h7, .ref h8, .ref h9, .ref h10, .ref h11, .ref h12, .ref h13, .int (-1), .int (-1), .ref h14])), (h1, .inl (g0, 600, .inl f0))] U.heap ∧ va_K (dC, dI) classes [(g0, .byte)] U ∧ va_D (fun _ => True) [(h0, .inr (0, [.ref h1, .int 8, .int 0, .ref h2, .ref h3, .ref h4, .ref h5, .ref h6, .ref h7, .ref h8, .ref h9, .ref h10, .ref h11, .ref h12, .ref h13, .int (-1), .int (-1), .ref h14])), (h1, .inl (g0, 600, .inl f0))] ∧ zX U)) (va_Qv (fun _ : Unit => True) (fun _ t => ∃ (zf4 : Nat → Int32), va_P (dC, dI) classes [(h0, .inr (0, [.ref h1, .int 12, .int 0, .ref h2, .ref h3, .ref h4, .ref h5, .ref h6, .ref h7, .ref h8, .ref h9, .ref h10, .ref h11, .ref h12, .ref h13, .int (-1), .int (-1), .ref h14])), (h1, .inl (g0, 600, .inl zf4))] t.heap ∧ va_K (dC, dI) classes [] t ∧ va_D (va_A [(h0, .inr (0, [.ref h1, .int 8, .int 0, .ref h2, .ref h3, .ref h4, .ref h5, .ref h6, .ref h7, .ref h8, .ref h9, .ref h10, .ref h11, .ref h12, .ref h13, .int (-1), .int (-1), .ref h14])), (h1, .inl (g0, 600, .inl f0))] sz) [(h0, .inr (0, [.ref h1, .int 12, .int 0, .ref h2, .ref h3, .ref h4, .ref h5, .ref h6, .ref h7, .ref h8, .ref h9, .ref h10, .ref h11, .ref h12, .ref h13, .int (-1), .int (-1), .ref h14])), (h1, .inl (g0, 600, .inl zf4))]) (va_A [(h0, .inr (0, [.ref h1, .int 8, .int 0, .ref h2, .ref h3, .ref h4, .ref h5, .ref h6, .ref h7, .ref h8, .ref h9, .ref h10, .ref h11, .ref h12, .ref h13, .int (-1), .int (-1), .ref h14])), (h1, .inl (g0, 600, .inl f0))] sz)) 0 0 (va_A [(h0, .inr (0, [.ref h1, .int 8, .int 0, .ref h2, .ref h3, .ref h4, .ref h5, .ref h6, .ref h7, .ref h8, .ref h9, .ref h10, .ref h11, .ref h12, .ref h13, .int (-1), .int (-1), .ref h14])), (h1, .inl (g0, 600, .inl f0))] sz) := by
  refine Met.ofW (cc := prog_1_method_3_code) (maxL := 3) (ret := (Option.none : Option Jvm.ClassFile.FieldType)) (by decide) rfl ?_
  intro p e s m args below meth c s₁ B hml hv
  obtain ⟨rfl, hsz, hP, hK, hD0, hX⟩ := hv
  have hx := B.exec
  have hb := B.bytes
  have hr := B.returns
  have hts0 := atoms_spec (ws := w_CD_putBytes_I) B.pre
  have hts : ∀ w ∈ zg_tbl, w.before _ s = true := fun w h => hts0 w (List.mem_cons_of_mem _ h)
  have hown : s.vm.findClass "CellDecide" = some m.cls := findClass_of_methodNamed B.named
  have hlocks := B.notSynchronized
  subst hsz
  have hD := hD0.self (sz := s.heap.size)
  generalize hAe : va_A [(h0, .inr (0, [.ref h1, .int 8, .int 0, .ref h2, .ref h3, .ref h4, .ref h5, .ref h6, .ref h7, .ref h8, .ref h9, .ref h10, .ref h11, .ref h12, .ref h13, .int (-1), .int (-1), .ref h14])), (h1, .inl (g0, 600, .inl f0))] s.heap.size = A at hD ⊢
  have hA : ∀ q : Nat, s.heap.size ≤ q → A q := fun q h => by rw [← hAe]; exact Or.inr h
  have hS : va_S A s.heap s.heap [] := va_S.rf
  have hl := lv_entry ([.ref h0, .int p0]) (n := 3) (Nat.le_of_ble_eq_true rfl)
  rw [lg_entry_eq]
  generalize (lg_sl ([.ref h0, .int p0]) ++ List.replicate (3 - (lg_sl ([.ref h0, .int p0])).length) Slot.unset).toArray = ls at hl ⊢
  have hl : lv_has ls 3 [(0, .ref h0), (1, .int p0)] := hl
  refine lv_bipush (v := 24) hx hb d_CD_putBytes_I_0 (by decide) ?_
  refine lv_istore_n (lv' := [(2, .int 24), (0, .ref h0), (1, .int p0)]) hx hb d_CD_putBytes_I_2 rfl hl (by decide) rfl (fun ls_1 hl_1 => ?_)
  clear hl
  refine lv_iload_n hx hb d_CD_putBytes_I_3 rfl (lv_at hl_1 0 rfl) ?_
  refine lv_if_lt (tgt := 46) hx hb d_CD_putBytes_I_4 (by decide) (fun h => absurd h (by decide)) (fun _ => ?_)
  refine lv_aload_n hx hb d_CD_putBytes_I_7 rfl (lv_at hl_1 1 rfl) ?_
  refine va_get (D := (dC, dI)) (ci := 0) (v := .int 8) (C := R_CD) (T := F_CD) (N := 18) hx hb hts i_CD hown hK hP 0 rfl rfl 1 (by decide) (hts _ k_305) (fun _ h9 => h9) rfl d_CD_putBytes_I_8 ?_
  refine lv_sipush (v := 600) hx hb d_CD_putBytes_I_11 (by decide) ?_
  refine lv_icmp_ge (tgt := 46) hx hb d_CD_putBytes_I_14 (by decide) (fun h => absurd h (by decide)) (fun _ => ?_)
  refine lv_aload_n hx hb d_CD_putBytes_I_17 rfl (lv_at hl_1 1 rfl) ?_
  refine va_get (D := (dC, dI)) (ci := 0) (v := .ref h1) (C := R_CD) (T := F_CD) (N := 18) hx hb hts i_CD hown hK hP 0 rfl rfl 0 (by decide) (hts _ k_4) (fun _ h9 => h9) rfl d_CD_putBytes_I_18 ?_
  refine lv_aload_n hx hb d_CD_putBytes_I_21 rfl (lv_at hl_1 1 rfl) ?_
  refine va_get (D := (dC, dI)) (ci := 0) (v := .int 8) (C := R_CD) (T := F_CD) (N := 18) hx hb hts i_CD hown hK hP 0 rfl rfl 1 (by decide) (hts _ k_305) (fun _ h9 => h9) rfl d_CD_putBytes_I_22 ?_
  refine lv_iload_n hx hb d_CD_putBytes_I_25 rfl (lv_at hl_1 2 rfl) ?_
  refine lv_iload_n hx hb d_CD_putBytes_I_26 rfl (lv_at hl_1 0 rfl) ?_
  refine lv_ishr hx hb d_CD_putBytes_I_27 ?_
  refine lv_i2b (v := (p0 >>> (24 &&& 31)).toInt8.toInt32) hx hb d_CD_putBytes_I_28 rfl ?_
  refine za_bast hx hb hK hP hD hS 1 0 rfl rfl (by unfold vp_in; decide) rfl d_CD_putBytes_I_29 (fun H_1 locs_1 hP_1 hD_1 hS_1 => ?_)
  clear hP hD hS
  generalize upd f0 (8 : Int32).toNatClampNeg (vp_nar .byte ((p0 >>> (24 &&& 31)).toInt8.toInt32)) = zf1 at hP_1 hD_1
  have hP_2 : va_P (dC, dI) classes [(h0, .inr (0, [.ref h1, .int 8, .int 0, .ref h2, .ref h3, .ref h4, .ref h5, .ref h6, .ref h7, .ref h8, .ref h9, .ref h10, .ref h11, .ref h12, .ref h13, .int (-1), .int (-1), .ref h14])), (h1, .inl (g0, 600, .inl zf1))] H_1 := hP_1
  clear hP_1
  have hD_2 : va_D A [(h0, .inr (0, [.ref h1, .int 8, .int 0, .ref h2, .ref h3, .ref h4, .ref h5, .ref h6, .ref h7, .ref h8, .ref h9, .ref h10, .ref h11, .ref h12, .ref h13, .int (-1), .int (-1), .ref h14])), (h1, .inl (g0, 600, .inl zf1))] := hD_1
  clear hD_1
  refine lv_aload_n hx hb d_CD_putBytes_I_30 rfl (lv_at hl_1 1 rfl) ?_
  refine lv_dup hx hb d_CD_putBytes_I_31 rfl ?_
  refine va_get (D := (dC, dI)) (ci := 0) (v := .int 8) (C := R_CD) (T := F_CD) (N := 18) hx hb hts i_CD hown hK hP_2 0 rfl rfl 1 (by decide) (hts _ k_305) (fun _ h9 => h9) rfl d_CD_putBytes_I_32 ?_
  refine lv_iconst (v := 1) hx hb d_CD_putBytes_I_35 (by decide) ?_
  refine lv_iadd hx hb d_CD_putBytes_I_36 ?_
  refine zi_top (y := 9) (by decide) ?_
  refine va_put (D := (dC, dI)) (ci := 0) (v := .int 9) (ty := .int) (C := R_CD) (T := F_CD) (N := 18) hx hb hts i_CD t_CD t_CD_ok n_CD hown hK hP_2 hD_2 hS_1 0 rfl rfl 1 (by decide) (hts _ k_305) (fun _ h9 => h9) rfl (by decide +kernel) rfl rfl (Nat.le_of_ble_eq_true rfl) d_CD_putBytes_I_37 (fun H_2 locs_2 hP_3 hD_3 hS_2 => ?_)
  clear hP_2 hD_2 hS_1
  have hP_4 : va_P (dC, dI) classes [(h0, .inr (0, [.ref h1, .int 9, .int 0, .ref h2, .ref h3, .ref h4, .ref h5, .ref h6, .ref h7, .ref h8, .ref h9, .ref h10, .ref h11, .ref h12, .ref h13, .int (-1), .int (-1), .ref h14])), (h1, .inl (g0, 600, .inl zf1))] H_2 := hP_3
  clear hP_3
  have hD_4 : va_D A [(h0, .inr (0, [.ref h1, .int 9, .int 0, .ref h2, .ref h3, .ref h4, .ref h5, .ref h6, .ref h7, .ref h8, .ref h9, .ref h10, .ref h11, .ref h12, .ref h13, .int (-1), .int (-1), .ref h14])), (h1, .inl (g0, 600, .inl zf1))] := hD_3
  clear hD_3
  refine lv_iinc (v := 16) (lv' := [(2, .int 16), (0, .ref h0), (1, .int p0)]) hx hb d_CD_putBytes_I_40 hl_1 (k := 0) rfl (by decide) (by decide) rfl (fun ls_2 hl_2 => ?_)
  clear hl_1
  refine lv_goto (tgt := 3) hx hb d_CD_putBytes_I_43 (by decide) ?_
  refine lv_iload_n hx hb d_CD_putBytes_I_3 rfl (lv_at hl_2 0 rfl) ?_
  refine lv_if_lt (tgt := 46) hx hb d_CD_putBytes_I_4 (by decide) (fun h => absurd h (by decide)) (fun _ => ?_)
  refine lv_aload_n hx hb d_CD_putBytes_I_7 rfl (lv_at hl_2 1 rfl) ?_
  refine va_get (D := (dC, dI)) (ci := 0) (v := .int 9) (C := R_CD) (T := F_CD) (N := 18) hx hb hts i_CD hown hK hP_4 0 rfl rfl 1 (by decide) (hts _ k_305) (fun _ h9 => h9) rfl d_CD_putBytes_I_8 ?_
  refine lv_sipush (v := 600) hx hb d_CD_putBytes_I_11 (by decide) ?_
  refine lv_icmp_ge (tgt := 46) hx hb d_CD_putBytes_I_14 (by decide) (fun h => absurd h (by decide)) (fun _ => ?_)
  refine lv_aload_n hx hb d_CD_putBytes_I_17 rfl (lv_at hl_2 1 rfl) ?_
  refine va_get (D := (dC, dI)) (ci := 0) (v := .ref h1) (C := R_CD) (T := F_CD) (N := 18) hx hb hts i_CD hown hK hP_4 0 rfl rfl 0 (by decide) (hts _ k_4) (fun _ h9 => h9) rfl d_CD_putBytes_I_18 ?_
  refine lv_aload_n hx hb d_CD_putBytes_I_21 rfl (lv_at hl_2 1 rfl) ?_
  refine va_get (D := (dC, dI)) (ci := 0) (v := .int 9) (C := R_CD) (T := F_CD) (N := 18) hx hb hts i_CD hown hK hP_4 0 rfl rfl 1 (by decide) (hts _ k_305) (fun _ h9 => h9) rfl d_CD_putBytes_I_22 ?_
  refine lv_iload_n hx hb d_CD_putBytes_I_25 rfl (lv_at hl_2 2 rfl) ?_
  refine lv_iload_n hx hb d_CD_putBytes_I_26 rfl (lv_at hl_2 0 rfl) ?_
  refine lv_ishr hx hb d_CD_putBytes_I_27 ?_
  refine lv_i2b (v := (p0 >>> (16 &&& 31)).toInt8.toInt32) hx hb d_CD_putBytes_I_28 rfl ?_
  refine za_bast hx hb hK hP_4 hD_4 hS_2 1 0 rfl rfl (by unfold vp_in; decide) rfl d_CD_putBytes_I_29 (fun H_3 locs_3 hP_5 hD_5 hS_3 => ?_)
  clear hP_4 hD_4 hS_2
  generalize upd zf1 (9 : Int32).toNatClampNeg (vp_nar .byte ((p0 >>> (16 &&& 31)).toInt8.toInt32)) = zf2 at hP_5 hD_5
  have hP_6 : va_P (dC, dI) classes [(h0, .inr (0, [.ref h1, .int 9, .int 0, .ref h2, .ref h3, .ref h4, .ref h5, .ref h6, .ref h7, .ref h8, .ref h9, .ref h10, .ref h11, .ref h12, .ref h13, .int (-1), .int (-1), .ref h14])), (h1, .inl (g0, 600, .inl zf2))] H_3 := hP_5
  clear hP_5
  have hD_6 : va_D A [(h0, .inr (0, [.ref h1, .int 9, .int 0, .ref h2, .ref h3, .ref h4, .ref h5, .ref h6, .ref h7, .ref h8, .ref h9, .ref h10, .ref h11, .ref h12, .ref h13, .int (-1), .int (-1), .ref h14])), (h1, .inl (g0, 600, .inl zf2))] := hD_5
  clear hD_5
  refine lv_aload_n hx hb d_CD_putBytes_I_30 rfl (lv_at hl_2 1 rfl) ?_
  refine lv_dup hx hb d_CD_putBytes_I_31 rfl ?_
  refine va_get (D := (dC, dI)) (ci := 0) (v := .int 9) (C := R_CD) (T := F_CD) (N := 18) hx hb hts i_CD hown hK hP_6 0 rfl rfl 1 (by decide) (hts _ k_305) (fun _ h9 => h9) rfl d_CD_putBytes_I_32 ?_
  refine lv_iconst (v := 1) hx hb d_CD_putBytes_I_35 (by decide) ?_
  refine lv_iadd hx hb d_CD_putBytes_I_36 ?_
  refine zi_top (y := 10) (by decide) ?_
  refine va_put (D := (dC, dI)) (ci := 0) (v := .int 10) (ty := .int) (C := R_CD) (T := F_CD) (N := 18) hx hb hts i_CD t_CD t_CD_ok n_CD hown hK hP_6 hD_6 hS_3 0 rfl rfl 1 (by decide) (hts _ k_305) (fun _ h9 => h9) rfl (by decide +kernel) rfl rfl (Nat.le_of_ble_eq_true rfl) d_CD_putBytes_I_37 (fun H_4 locs_4 hP_7 hD_7 hS_4 => ?_)
  clear hP_6 hD_6 hS_3
  have hP_8 : va_P (dC, dI) classes [(h0, .inr (0, [.ref h1, .int 10, .int 0, .ref h2, .ref h3, .ref h4, .ref h5, .ref h6, .ref h7, .ref h8, .ref h9, .ref h10, .ref h11, .ref h12, .ref h13, .int (-1), .int (-1), .ref h14])), (h1, .inl (g0, 600, .inl zf2))] H_4 := hP_7
  clear hP_7
  have hD_8 : va_D A [(h0, .inr (0, [.ref h1, .int 10, .int 0, .ref h2, .ref h3, .ref h4, .ref h5, .ref h6, .ref h7, .ref h8, .ref h9, .ref h10, .ref h11, .ref h12, .ref h13, .int (-1), .int (-1), .ref h14])), (h1, .inl (g0, 600, .inl zf2))] := hD_7
  clear hD_7
  refine lv_iinc (v := 8) (lv' := [(2, .int 8), (0, .ref h0), (1, .int p0)]) hx hb d_CD_putBytes_I_40 hl_2 (k := 0) rfl (by decide) (by decide) rfl (fun ls_3 hl_3 => ?_)
  clear hl_2
  refine lv_goto (tgt := 3) hx hb d_CD_putBytes_I_43 (by decide) ?_
  refine lv_iload_n hx hb d_CD_putBytes_I_3 rfl (lv_at hl_3 0 rfl) ?_
  refine lv_if_lt (tgt := 46) hx hb d_CD_putBytes_I_4 (by decide) (fun h => absurd h (by decide)) (fun _ => ?_)
  refine lv_aload_n hx hb d_CD_putBytes_I_7 rfl (lv_at hl_3 1 rfl) ?_
  refine va_get (D := (dC, dI)) (ci := 0) (v := .int 10) (C := R_CD) (T := F_CD) (N := 18) hx hb hts i_CD hown hK hP_8 0 rfl rfl 1 (by decide) (hts _ k_305) (fun _ h9 => h9) rfl d_CD_putBytes_I_8 ?_
  refine lv_sipush (v := 600) hx hb d_CD_putBytes_I_11 (by decide) ?_
  refine lv_icmp_ge (tgt := 46) hx hb d_CD_putBytes_I_14 (by decide) (fun h => absurd h (by decide)) (fun _ => ?_)
  refine lv_aload_n hx hb d_CD_putBytes_I_17 rfl (lv_at hl_3 1 rfl) ?_
  refine va_get (D := (dC, dI)) (ci := 0) (v := .ref h1) (C := R_CD) (T := F_CD) (N := 18) hx hb hts i_CD hown hK hP_8 0 rfl rfl 0 (by decide) (hts _ k_4) (fun _ h9 => h9) rfl d_CD_putBytes_I_18 ?_
  refine lv_aload_n hx hb d_CD_putBytes_I_21 rfl (lv_at hl_3 1 rfl) ?_
  refine va_get (D := (dC, dI)) (ci := 0) (v := .int 10) (C := R_CD) (T := F_CD) (N := 18) hx hb hts i_CD hown hK hP_8 0 rfl rfl 1 (by decide) (hts _ k_305) (fun _ h9 => h9) rfl d_CD_putBytes_I_22 ?_
  refine lv_iload_n hx hb d_CD_putBytes_I_25 rfl (lv_at hl_3 2 rfl) ?_
  refine lv_iload_n hx hb d_CD_putBytes_I_26 rfl (lv_at hl_3 0 rfl) ?_
  refine lv_ishr hx hb d_CD_putBytes_I_27 ?_
  refine lv_i2b (v := (p0 >>> (8 &&& 31)).toInt8.toInt32) hx hb d_CD_putBytes_I_28 rfl ?_
  refine za_bast hx hb hK hP_8 hD_8 hS_4 1 0 rfl rfl (by unfold vp_in; decide) rfl d_CD_putBytes_I_29 (fun H_5 locs_5 hP_9 hD_9 hS_5 => ?_)
  clear hP_8 hD_8 hS_4
  generalize upd zf2 (10 : Int32).toNatClampNeg (vp_nar .byte ((p0 >>> (8 &&& 31)).toInt8.toInt32)) = zf3 at hP_9 hD_9
  have hP_10 : va_P (dC, dI) classes [(h0, .inr (0, [.ref h1, .int 10, .int 0, .ref h2, .ref h3, .ref h4, .ref h5, .ref h6, .ref h7, .ref h8, .ref h9, .ref h10, .ref h11, .ref h12, .ref h13, .int (-1), .int (-1), .ref h14])), (h1, .inl (g0, 600, .inl zf3))] H_5 := hP_9
  clear hP_9
  have hD_10 : va_D A [(h0, .inr (0, [.ref h1, .int 10, .int 0, .ref h2, .ref h3, .ref h4, .ref h5, .ref h6, .ref h7, .ref h8, .ref h9, .ref h10, .ref h11, .ref h12, .ref h13, .int (-1), .int (-1), .ref h14])), (h1, .inl (g0, 600, .inl zf3))] := hD_9
  clear hD_9
  refine lv_aload_n hx hb d_CD_putBytes_I_30 rfl (lv_at hl_3 1 rfl) ?_
  refine lv_dup hx hb d_CD_putBytes_I_31 rfl ?_
  refine va_get (D := (dC, dI)) (ci := 0) (v := .int 10) (C := R_CD) (T := F_CD) (N := 18) hx hb hts i_CD hown hK hP_10 0 rfl rfl 1 (by decide) (hts _ k_305) (fun _ h9 => h9) rfl d_CD_putBytes_I_32 ?_
  refine lv_iconst (v := 1) hx hb d_CD_putBytes_I_35 (by decide) ?_
  refine lv_iadd hx hb d_CD_putBytes_I_36 ?_
  refine zi_top (y := 11) (by decide) ?_
  refine va_put (D := (dC, dI)) (ci := 0) (v := .int 11) (ty := .int) (C := R_CD) (T := F_CD) (N := 18) hx hb hts i_CD t_CD t_CD_ok n_CD hown hK hP_10 hD_10 hS_5 0 rfl rfl 1 (by decide) (hts _ k_305) (fun _ h9 => h9) rfl (by decide +kernel) rfl rfl (Nat.le_of_ble_eq_true rfl) d_CD_putBytes_I_37 (fun H_6 locs_6 hP_11 hD_11 hS_6 => ?_)
  clear hP_10 hD_10 hS_5
  have hP_12 : va_P (dC, dI) classes [(h0, .inr (0, [.ref h1, .int 11, .int 0, .ref h2, .ref h3, .ref h4, .ref h5, .ref h6, .ref h7, .ref h8, .ref h9, .ref h10, .ref h11, .ref h12, .ref h13, .int (-1), .int (-1), .ref h14])), (h1, .inl (g0, 600, .inl zf3))] H_6 := hP_11
  clear hP_11
  have hD_12 : va_D A [(h0, .inr (0, [.ref h1, .int 11, .int 0, .ref h2, .ref h3, .ref h4, .ref h5, .ref h6, .ref h7, .ref h8, .ref h9, .ref h10, .ref h11, .ref h12, .ref h13, .int (-1), .int (-1), .ref h14])), (h1, .inl (g0, 600, .inl zf3))] := hD_11
  clear hD_11
  refine lv_iinc (v := 0) (lv' := [(2, .int 0), (0, .ref h0), (1, .int p0)]) hx hb d_CD_putBytes_I_40 hl_3 (k := 0) rfl (by decide) (by decide) rfl (fun ls_4 hl_4 => ?_)
  clear hl_3
  refine lv_goto (tgt := 3) hx hb d_CD_putBytes_I_43 (by decide) ?_
  refine lv_iload_n hx hb d_CD_putBytes_I_3 rfl (lv_at hl_4 0 rfl) ?_
  refine lv_if_lt (tgt := 46) hx hb d_CD_putBytes_I_4 (by decide) (fun h => absurd h (by decide)) (fun _ => ?_)
  refine lv_aload_n hx hb d_CD_putBytes_I_7 rfl (lv_at hl_4 1 rfl) ?_
  refine va_get (D := (dC, dI)) (ci := 0) (v := .int 11) (C := R_CD) (T := F_CD) (N := 18) hx hb hts i_CD hown hK hP_12 0 rfl rfl 1 (by decide) (hts _ k_305) (fun _ h9 => h9) rfl d_CD_putBytes_I_8 ?_
  refine lv_sipush (v := 600) hx hb d_CD_putBytes_I_11 (by decide) ?_
  refine lv_icmp_ge (tgt := 46) hx hb d_CD_putBytes_I_14 (by decide) (fun h => absurd h (by decide)) (fun _ => ?_)
  refine lv_aload_n hx hb d_CD_putBytes_I_17 rfl (lv_at hl_4 1 rfl) ?_
  refine va_get (D := (dC, dI)) (ci := 0) (v := .ref h1) (C := R_CD) (T := F_CD) (N := 18) hx hb hts i_CD hown hK hP_12 0 rfl rfl 0 (by decide) (hts _ k_4) (fun _ h9 => h9) rfl d_CD_putBytes_I_18 ?_
  refine lv_aload_n hx hb d_CD_putBytes_I_21 rfl (lv_at hl_4 1 rfl) ?_
  refine va_get (D := (dC, dI)) (ci := 0) (v := .int 11) (C := R_CD) (T := F_CD) (N := 18) hx hb hts i_CD hown hK hP_12 0 rfl rfl 1 (by decide) (hts _ k_305) (fun _ h9 => h9) rfl d_CD_putBytes_I_22 ?_
  refine lv_iload_n hx hb d_CD_putBytes_I_25 rfl (lv_at hl_4 2 rfl) ?_
  refine lv_iload_n hx hb d_CD_putBytes_I_26 rfl (lv_at hl_4 0 rfl) ?_
  refine lv_ishr hx hb d_CD_putBytes_I_27 ?_
  refine lv_i2b (v := (p0 >>> (0 &&& 31)).toInt8.toInt32) hx hb d_CD_putBytes_I_28 rfl ?_
  refine za_bast hx hb hK hP_12 hD_12 hS_6 1 0 rfl rfl (by unfold vp_in; decide) rfl d_CD_putBytes_I_29 (fun H_7 locs_7 hP_13 hD_13 hS_7 => ?_)
  clear hP_12 hD_12 hS_6
  generalize upd zf3 (11 : Int32).toNatClampNeg (vp_nar .byte ((p0 >>> (0 &&& 31)).toInt8.toInt32)) = zf4 at hP_13 hD_13
  have hP_14 : va_P (dC, dI) classes [(h0, .inr (0, [.ref h1, .int 11, .int 0, .ref h2, .ref h3, .ref h4, .ref h5, .ref h6, .ref h7, .ref h8, .ref h9, .ref h10, .ref h11, .ref h12, .ref h13, .int (-1), .int (-1), .ref h14])), (h1, .inl (g0, 600, .inl zf4))] H_7 := hP_13
  clear hP_13
  have hD_14 : va_D A [(h0, .inr (0, [.ref h1, .int 11, .int 0, .ref h2, .ref h3, .ref h4, .ref h5, .ref h6, .ref h7, .ref h8, .ref h9, .ref h10, .ref h11, .ref h12, .ref h13, .int (-1), .int (-1), .ref h14])), (h1, .inl (g0, 600, .inl zf4))] := hD_13
  clear hD_13
  refine lv_aload_n hx hb d_CD_putBytes_I_30 rfl (lv_at hl_4 1 rfl) ?_
  refine lv_dup hx hb d_CD_putBytes_I_31 rfl ?_
  refine va_get (D := (dC, dI)) (ci := 0) (v := .int 11) (C := R_CD) (T := F_CD) (N := 18) hx hb hts i_CD hown hK hP_14 0 rfl rfl 1 (by decide) (hts _ k_305) (fun _ h9 => h9) rfl d_CD_putBytes_I_32 ?_
  refine lv_iconst (v := 1) hx hb d_CD_putBytes_I_35 (by decide) ?_
  refine lv_iadd hx hb d_CD_putBytes_I_36 ?_
  refine zi_top (y := 12) (by decide) ?_
  refine va_put (D := (dC, dI)) (ci := 0) (v := .int 12) (ty := .int) (C := R_CD) (T := F_CD) (N := 18) hx hb hts i_CD t_CD t_CD_ok n_CD hown hK hP_14 hD_14 hS_7 0 rfl rfl 1 (by decide) (hts _ k_305) (fun _ h9 => h9) rfl (by decide +kernel) rfl rfl (Nat.le_of_ble_eq_true rfl) d_CD_putBytes_I_37 (fun H_8 locs_8 hP_15 hD_15 hS_8 => ?_)
  clear hP_14 hD_14 hS_7
  have hP_16 : va_P (dC, dI) classes [(h0, .inr (0, [.ref h1, .int 12, .int 0, .ref h2, .ref h3, .ref h4, .ref h5, .ref h6, .ref h7, .ref h8, .ref h9, .ref h10, .ref h11, .ref h12, .ref h13, .int (-1), .int (-1), .ref h14])), (h1, .inl (g0, 600, .inl zf4))] H_8 := hP_15
  clear hP_15
  have hD_16 : va_D A [(h0, .inr (0, [.ref h1, .int 12, .int 0, .ref h2, .ref h3, .ref h4, .ref h5, .ref h6, .ref h7, .ref h8, .ref h9, .ref h10, .ref h11, .ref h12, .ref h13, .int (-1), .int (-1), .ref h14])), (h1, .inl (g0, 600, .inl zf4))] := hD_15
  clear hD_15
  refine lv_iinc (v := (-8)) (lv' := [(2, .int (-8)), (0, .ref h0), (1, .int p0)]) hx hb d_CD_putBytes_I_40 hl_4 (k := 0) rfl (by decide) (by decide) rfl (fun ls_5 hl_5 => ?_)
  clear hl_4
  refine lv_goto (tgt := 3) hx hb d_CD_putBytes_I_43 (by decide) ?_
  refine lv_iload_n hx hb d_CD_putBytes_I_3 rfl (lv_at hl_5 0 rfl) ?_
  refine lv_if_lt (tgt := 46) hx hb d_CD_putBytes_I_4 (by decide) (fun _ => ?_) (fun h => absurd (by decide) h)
  refine W.widen (k := 0) (n := 0) (Nat.le_of_ble_eq_true rfl) (Nat.le_of_ble_eq_true rfl) ?_
  have hK9 := hK.sub (tys' := []) [] rfl
  exact W.vret hx hb hr (fun t ht hW => ⟨⟨(), rfl, trivial, zf4, by rw [ht]; exact hP_16, va_K.moved hW.alike hK9, hD_16⟩, hS_8.F ht⟩) hS_8.2.2 d_CD_putBytes_I_46
set_option maxHeartbeats 4000000 in
set_option maxRecDepth 100000 in
theorem c_CD_putBytes_I_v4 (l : Launch) (dC : Nat → ClassId) (dI : Nat → Nat → Nat) (h0 : Nat) (p0 : Int32) (h1 : Nat) (h2 : Nat) (h3 : Nat) (h4 : Nat) (h5 : Nat) (h6 : Nat) (h7 : Nat) (h8 : Nat) (h9 : Nat) (h10 : Nat) (h11 : Nat) (h12 : Nat) (h13 : Nat) (h14 : Nat) (g0 : ClassId) (f0 : Nat → Int32) (sz : Nat) : Met l y_CD_putBytes_I w_CD_putBytes_I ({ frames := 0, cells := 0, slots := 0, locals := 0 }) (va_Pc [.ref h0, .int p0] (fun U => U.heap.size = sz ∧ va_P (dC, dI) classes [(h0, .inr (0, [.ref h1, .int 12, .int 0, .ref h2, .ref h3, .ref h4, .ref h5, .ref h6, .ref h7, .ref h8, .ref h9, .ref h10, .ref h11, .ref h12, .ref h13, .int (-1), .int (-1), .ref h14])), (h1, .inl (g0, 600, .inl f0))] U.heap ∧ va_K (dC, dI) classes [(g0, .byte)] U ∧ va_D (fun _ => True) [(h0, .inr (0, [.ref h1, .int 12, .int 0, .ref h2, .ref h3, .ref h4, .ref h5, .ref h6, .ref h7, .ref h8, .ref h9, .ref h10, .ref h11, .ref h12, .ref h13, .int (-1), .int (-1), .ref h14])), (h1, .inl (g0, 600, .inl f0))] ∧ zX U)) (va_Qv (fun _ : Unit => True) (fun _ t => ∃ (zf4 : Nat → Int32), va_P (dC, dI) classes [(h0, .inr (0, [.ref h1, .int 16, .int 0, .ref h2, .ref h3, .ref h4, .ref h5, .ref h6, .ref h7, .ref h8, .ref h9, .ref h10, .ref h11, .ref h12, .ref h13, .int (-1), .int (-1), .ref h14])), (h1, .inl (g0, 600, .inl zf4))] t.heap ∧ va_K (dC, dI) classes [] t ∧ va_D (va_A [(h0, .inr (0, [.ref h1, .int 12, .int 0, .ref h2, .ref h3, .ref h4, .ref h5, .ref h6, .ref h7, .ref h8, .ref h9, .ref h10, .ref h11, .ref h12, .ref h13, .int (-1), .int (-1), .ref h14])), (h1, .inl (g0, 600, .inl f0))] sz) [(h0, .inr (0, [.ref h1, .int 16, .int 0, .ref h2, .ref h3, .ref h4, .ref h5, .ref h6, .ref h7, .ref h8, .ref h9, .ref h10, .ref h11, .ref h12, .ref h13, .int (-1), .int (-1), .ref h14])), (h1, .inl (g0, 600, .inl zf4))]) (va_A [(h0, .inr (0, [.ref h1, .int 12, .int 0, .ref h2, .ref h3, .ref h4, .ref h5, .ref h6, .ref h7, .ref h8, .ref h9, .ref h10, .ref h11, .ref h12, .ref h13, .int (-1), .int (-1), .ref h14])), (h1, .inl (g0, 600, .inl f0))] sz)) 0 0 (va_A [(h0, .inr (0, [.ref h1, .int 12, .int 0, .ref h2, .ref h3, .ref h4, .ref h5, .ref h6, .ref h7, .ref h8, .ref h9, .ref h10, .ref h11, .ref h12, .ref h13, .int (-1), .int (-1), .ref h14])), (h1, .inl (g0, 600, .inl f0))] sz) := by
  refine Met.ofW (cc := prog_1_method_3_code) (maxL := 3) (ret := (Option.none : Option Jvm.ClassFile.FieldType)) (by decide) rfl ?_
  intro p e s m args below meth c s₁ B hml hv
  obtain ⟨rfl, hsz, hP, hK, hD0, hX⟩ := hv
  have hx := B.exec
  have hb := B.bytes
  have hr := B.returns
  have hts0 := atoms_spec (ws := w_CD_putBytes_I) B.pre
  have hts : ∀ w ∈ zg_tbl, w.before _ s = true := fun w h => hts0 w (List.mem_cons_of_mem _ h)
  have hown : s.vm.findClass "CellDecide" = some m.cls := findClass_of_methodNamed B.named
  have hlocks := B.notSynchronized
  subst hsz
  have hD := hD0.self (sz := s.heap.size)
  generalize hAe : va_A [(h0, .inr (0, [.ref h1, .int 12, .int 0, .ref h2, .ref h3, .ref h4, .ref h5, .ref h6, .ref h7, .ref h8, .ref h9, .ref h10, .ref h11, .ref h12, .ref h13, .int (-1), .int (-1), .ref h14])), (h1, .inl (g0, 600, .inl f0))] s.heap.size = A at hD ⊢
  have hA : ∀ q : Nat, s.heap.size ≤ q → A q := fun q h => by rw [← hAe]; exact Or.inr h
  have hS : va_S A s.heap s.heap [] := va_S.rf
  have hl := lv_entry ([.ref h0, .int p0]) (n := 3) (Nat.le_of_ble_eq_true rfl)
  rw [lg_entry_eq]
  generalize (lg_sl ([.ref h0, .int p0]) ++ List.replicate (3 - (lg_sl ([.ref h0, .int p0])).length) Slot.unset).toArray = ls at hl ⊢
  have hl : lv_has ls 3 [(0, .ref h0), (1, .int p0)] := hl
  refine lv_bipush (v := 24) hx hb d_CD_putBytes_I_0 (by decide) ?_
  refine lv_istore_n (lv' := [(2, .int 24), (0, .ref h0), (1, .int p0)]) hx hb d_CD_putBytes_I_2 rfl hl (by decide) rfl (fun ls_1 hl_1 => ?_)
  clear hl
  refine lv_iload_n hx hb d_CD_putBytes_I_3 rfl (lv_at hl_1 0 rfl) ?_
  refine lv_if_lt (tgt := 46) hx hb d_CD_putBytes_I_4 (by decide) (fun h => absurd h (by decide)) (fun _ => ?_)
  refine lv_aload_n hx hb d_CD_putBytes_I_7 rfl (lv_at hl_1 1 rfl) ?_
  refine va_get (D := (dC, dI)) (ci := 0) (v := .int 12) (C := R_CD) (T := F_CD) (N := 18) hx hb hts i_CD hown hK hP 0 rfl rfl 1 (by decide) (hts _ k_305) (fun _ h9 => h9) rfl d_CD_putBytes_I_8 ?_
  refine lv_sipush (v := 600) hx hb d_CD_putBytes_I_11 (by decide) ?_
  refine lv_icmp_ge (tgt := 46) hx hb d_CD_putBytes_I_14 (by decide) (fun h => absurd h (by decide)) (fun _ => ?_)
  refine lv_aload_n hx hb d_CD_putBytes_I_17 rfl (lv_at hl_1 1 rfl) ?_
  refine va_get (D := (dC, dI)) (ci := 0) (v := .ref h1) (C := R_CD) (T := F_CD) (N := 18) hx hb hts i_CD hown hK hP 0 rfl rfl 0 (by decide) (hts _ k_4) (fun _ h9 => h9) rfl d_CD_putBytes_I_18 ?_
  refine lv_aload_n hx hb d_CD_putBytes_I_21 rfl (lv_at hl_1 1 rfl) ?_
  refine va_get (D := (dC, dI)) (ci := 0) (v := .int 12) (C := R_CD) (T := F_CD) (N := 18) hx hb hts i_CD hown hK hP 0 rfl rfl 1 (by decide) (hts _ k_305) (fun _ h9 => h9) rfl d_CD_putBytes_I_22 ?_
  refine lv_iload_n hx hb d_CD_putBytes_I_25 rfl (lv_at hl_1 2 rfl) ?_
  refine lv_iload_n hx hb d_CD_putBytes_I_26 rfl (lv_at hl_1 0 rfl) ?_
  refine lv_ishr hx hb d_CD_putBytes_I_27 ?_
  refine lv_i2b (v := (p0 >>> (24 &&& 31)).toInt8.toInt32) hx hb d_CD_putBytes_I_28 rfl ?_
  refine za_bast hx hb hK hP hD hS 1 0 rfl rfl (by unfold vp_in; decide) rfl d_CD_putBytes_I_29 (fun H_1 locs_1 hP_1 hD_1 hS_1 => ?_)
  clear hP hD hS
  generalize upd f0 (12 : Int32).toNatClampNeg (vp_nar .byte ((p0 >>> (24 &&& 31)).toInt8.toInt32)) = zf1 at hP_1 hD_1
  have hP_2 : va_P (dC, dI) classes [(h0, .inr (0, [.ref h1, .int 12, .int 0, .ref h2, .ref h3, .ref h4, .ref h5, .ref h6, .ref h7, .ref h8, .ref h9, .ref h10, .ref h11, .ref h12, .ref h13, .int (-1), .int (-1), .ref h14])), (h1, .inl (g0, 600, .inl zf1))] H_1 := hP_1
  clear hP_1
  have hD_2 : va_D A [(h0, .inr (0, [.ref h1, .int 12, .int 0, .ref h2, .ref h3, .ref h4, .ref h5, .ref h6, .ref h7, .ref h8, .ref h9, .ref h10, .ref h11, .ref h12, .ref h13, .int (-1), .int (-1), .ref h14])), (h1, .inl (g0, 600, .inl zf1))] := hD_1
  clear hD_1
  refine lv_aload_n hx hb d_CD_putBytes_I_30 rfl (lv_at hl_1 1 rfl) ?_
  refine lv_dup hx hb d_CD_putBytes_I_31 rfl ?_
  refine va_get (D := (dC, dI)) (ci := 0) (v := .int 12) (C := R_CD) (T := F_CD) (N := 18) hx hb hts i_CD hown hK hP_2 0 rfl rfl 1 (by decide) (hts _ k_305) (fun _ h9 => h9) rfl d_CD_putBytes_I_32 ?_
  refine lv_iconst (v := 1) hx hb d_CD_putBytes_I_35 (by decide) ?_
  refine lv_iadd hx hb d_CD_putBytes_I_36 ?_
  refine zi_top (y := 13) (by decide) ?_
  refine va_put (D := (dC, dI)) (ci := 0) (v := .int 13) (ty := .int) (C := R_CD) (T := F_CD) (N := 18) hx hb hts i_CD t_CD t_CD_ok n_CD hown hK hP_2 hD_2 hS_1 0 rfl rfl 1 (by decide) (hts _ k_305) (fun _ h9 => h9) rfl (by decide +kernel) rfl rfl (Nat.le_of_ble_eq_true rfl) d_CD_putBytes_I_37 (fun H_2 locs_2 hP_3 hD_3 hS_2 => ?_)
  clear hP_2 hD_2 hS_1
  have hP_4 : va_P (dC, dI) classes [(h0, .inr (0, [.ref h1, .int 13, .int 0, .ref h2, .ref h3, .ref h4, .ref h5, .ref h6, .ref h7, .ref h8, .ref h9, .ref h10, .ref h11, .ref h12, .ref h13, .int (-1), .int (-1), .ref h14])), (h1, .inl (g0, 600, .inl zf1))] H_2 := hP_3
  clear hP_3
  have hD_4 : va_D A [(h0, .inr (0, [.ref h1, .int 13, .int 0, .ref h2, .ref h3, .ref h4, .ref h5, .ref h6, .ref h7, .ref h8, .ref h9, .ref h10, .ref h11, .ref h12, .ref h13, .int (-1), .int (-1), .ref h14])), (h1, .inl (g0, 600, .inl zf1))] := hD_3
  clear hD_3
  refine lv_iinc (v := 16) (lv' := [(2, .int 16), (0, .ref h0), (1, .int p0)]) hx hb d_CD_putBytes_I_40 hl_1 (k := 0) rfl (by decide) (by decide) rfl (fun ls_2 hl_2 => ?_)
  clear hl_1
  refine lv_goto (tgt := 3) hx hb d_CD_putBytes_I_43 (by decide) ?_
  refine lv_iload_n hx hb d_CD_putBytes_I_3 rfl (lv_at hl_2 0 rfl) ?_
  refine lv_if_lt (tgt := 46) hx hb d_CD_putBytes_I_4 (by decide) (fun h => absurd h (by decide)) (fun _ => ?_)
  refine lv_aload_n hx hb d_CD_putBytes_I_7 rfl (lv_at hl_2 1 rfl) ?_
  refine va_get (D := (dC, dI)) (ci := 0) (v := .int 13) (C := R_CD) (T := F_CD) (N := 18) hx hb hts i_CD hown hK hP_4 0 rfl rfl 1 (by decide) (hts _ k_305) (fun _ h9 => h9) rfl d_CD_putBytes_I_8 ?_
  refine lv_sipush (v := 600) hx hb d_CD_putBytes_I_11 (by decide) ?_
  refine lv_icmp_ge (tgt := 46) hx hb d_CD_putBytes_I_14 (by decide) (fun h => absurd h (by decide)) (fun _ => ?_)
  refine lv_aload_n hx hb d_CD_putBytes_I_17 rfl (lv_at hl_2 1 rfl) ?_
  refine va_get (D := (dC, dI)) (ci := 0) (v := .ref h1) (C := R_CD) (T := F_CD) (N := 18) hx hb hts i_CD hown hK hP_4 0 rfl rfl 0 (by decide) (hts _ k_4) (fun _ h9 => h9) rfl d_CD_putBytes_I_18 ?_
  refine lv_aload_n hx hb d_CD_putBytes_I_21 rfl (lv_at hl_2 1 rfl) ?_
  refine va_get (D := (dC, dI)) (ci := 0) (v := .int 13) (C := R_CD) (T := F_CD) (N := 18) hx hb hts i_CD hown hK hP_4 0 rfl rfl 1 (by decide) (hts _ k_305) (fun _ h9 => h9) rfl d_CD_putBytes_I_22 ?_
  refine lv_iload_n hx hb d_CD_putBytes_I_25 rfl (lv_at hl_2 2 rfl) ?_
  refine lv_iload_n hx hb d_CD_putBytes_I_26 rfl (lv_at hl_2 0 rfl) ?_
  refine lv_ishr hx hb d_CD_putBytes_I_27 ?_
  refine lv_i2b (v := (p0 >>> (16 &&& 31)).toInt8.toInt32) hx hb d_CD_putBytes_I_28 rfl ?_
  refine za_bast hx hb hK hP_4 hD_4 hS_2 1 0 rfl rfl (by unfold vp_in; decide) rfl d_CD_putBytes_I_29 (fun H_3 locs_3 hP_5 hD_5 hS_3 => ?_)
  clear hP_4 hD_4 hS_2
  generalize upd zf1 (13 : Int32).toNatClampNeg (vp_nar .byte ((p0 >>> (16 &&& 31)).toInt8.toInt32)) = zf2 at hP_5 hD_5
  have hP_6 : va_P (dC, dI) classes [(h0, .inr (0, [.ref h1, .int 13, .int 0, .ref h2, .ref h3, .ref h4, .ref h5, .ref h6, .ref h7, .ref h8, .ref h9, .ref h10, .ref h11, .ref h12, .ref h13, .int (-1), .int (-1), .ref h14])), (h1, .inl (g0, 600, .inl zf2))] H_3 := hP_5
  clear hP_5
  have hD_6 : va_D A [(h0, .inr (0, [.ref h1, .int 13, .int 0, .ref h2, .ref h3, .ref h4, .ref h5, .ref h6, .ref h7, .ref h8, .ref h9, .ref h10, .ref h11, .ref h12, .ref h13, .int (-1), .int (-1), .ref h14])), (h1, .inl (g0, 600, .inl zf2))] := hD_5
  clear hD_5
  refine lv_aload_n hx hb d_CD_putBytes_I_30 rfl (lv_at hl_2 1 rfl) ?_
  refine lv_dup hx hb d_CD_putBytes_I_31 rfl ?_
  refine va_get (D := (dC, dI)) (ci := 0) (v := .int 13) (C := R_CD) (T := F_CD) (N := 18) hx hb hts i_CD hown hK hP_6 0 rfl rfl 1 (by decide) (hts _ k_305) (fun _ h9 => h9) rfl d_CD_putBytes_I_32 ?_
  refine lv_iconst (v := 1) hx hb d_CD_putBytes_I_35 (by decide) ?_
  refine lv_iadd hx hb d_CD_putBytes_I_36 ?_
  refine zi_top (y := 14) (by decide) ?_
  refine va_put (D := (dC, dI)) (ci := 0) (v := .int 14) (ty := .int) (C := R_CD) (T := F_CD) (N := 18) hx hb hts i_CD t_CD t_CD_ok n_CD hown hK hP_6 hD_6 hS_3 0 rfl rfl 1 (by decide) (hts _ k_305) (fun _ h9 => h9) rfl (by decide +kernel) rfl rfl (Nat.le_of_ble_eq_true rfl) d_CD_putBytes_I_37 (fun H_4 locs_4 hP_7 hD_7 hS_4 => ?_)
  clear hP_6 hD_6 hS_3
  have hP_8 : va_P (dC, dI) classes [(h0, .inr (0, [.ref h1, .int 14, .int 0, .ref h2, .ref h3, .ref h4, .ref h5, .ref h6, .ref h7, .ref h8, .ref h9, .ref h10, .ref h11, .ref h12, .ref h13, .int (-1), .int (-1), .ref h14])), (h1, .inl (g0, 600, .inl zf2))] H_4 := hP_7
  clear hP_7
  have hD_8 : va_D A [(h0, .inr (0, [.ref h1, .int 14, .int 0, .ref h2, .ref h3, .ref h4, .ref h5, .ref h6, .ref h7, .ref h8, .ref h9, .ref h10, .ref h11, .ref h12, .ref h13, .int (-1), .int (-1), .ref h14])), (h1, .inl (g0, 600, .inl zf2))] := hD_7
  clear hD_7
  refine lv_iinc (v := 8) (lv' := [(2, .int 8), (0, .ref h0), (1, .int p0)]) hx hb d_CD_putBytes_I_40 hl_2 (k := 0) rfl (by decide) (by decide) rfl (fun ls_3 hl_3 => ?_)
  clear hl_2
  refine lv_goto (tgt := 3) hx hb d_CD_putBytes_I_43 (by decide) ?_
  refine lv_iload_n hx hb d_CD_putBytes_I_3 rfl (lv_at hl_3 0 rfl) ?_
  refine lv_if_lt (tgt := 46) hx hb d_CD_putBytes_I_4 (by decide) (fun h => absurd h (by decide)) (fun _ => ?_)
  refine lv_aload_n hx hb d_CD_putBytes_I_7 rfl (lv_at hl_3 1 rfl) ?_
  refine va_get (D := (dC, dI)) (ci := 0) (v := .int 14) (C := R_CD) (T := F_CD) (N := 18) hx hb hts i_CD hown hK hP_8 0 rfl rfl 1 (by decide) (hts _ k_305) (fun _ h9 => h9) rfl d_CD_putBytes_I_8 ?_
  refine lv_sipush (v := 600) hx hb d_CD_putBytes_I_11 (by decide) ?_
  refine lv_icmp_ge (tgt := 46) hx hb d_CD_putBytes_I_14 (by decide) (fun h => absurd h (by decide)) (fun _ => ?_)
  refine lv_aload_n hx hb d_CD_putBytes_I_17 rfl (lv_at hl_3 1 rfl) ?_
  refine va_get (D := (dC, dI)) (ci := 0) (v := .ref h1) (C := R_CD) (T := F_CD) (N := 18) hx hb hts i_CD hown hK hP_8 0 rfl rfl 0 (by decide) (hts _ k_4) (fun _ h9 => h9) rfl d_CD_putBytes_I_18 ?_
  refine lv_aload_n hx hb d_CD_putBytes_I_21 rfl (lv_at hl_3 1 rfl) ?_
  refine va_get (D := (dC, dI)) (ci := 0) (v := .int 14) (C := R_CD) (T := F_CD) (N := 18) hx hb hts i_CD hown hK hP_8 0 rfl rfl 1 (by decide) (hts _ k_305) (fun _ h9 => h9) rfl d_CD_putBytes_I_22 ?_
  refine lv_iload_n hx hb d_CD_putBytes_I_25 rfl (lv_at hl_3 2 rfl) ?_
  refine lv_iload_n hx hb d_CD_putBytes_I_26 rfl (lv_at hl_3 0 rfl) ?_
  refine lv_ishr hx hb d_CD_putBytes_I_27 ?_
  refine lv_i2b (v := (p0 >>> (8 &&& 31)).toInt8.toInt32) hx hb d_CD_putBytes_I_28 rfl ?_
  refine za_bast hx hb hK hP_8 hD_8 hS_4 1 0 rfl rfl (by unfold vp_in; decide) rfl d_CD_putBytes_I_29 (fun H_5 locs_5 hP_9 hD_9 hS_5 => ?_)
  clear hP_8 hD_8 hS_4
  generalize upd zf2 (14 : Int32).toNatClampNeg (vp_nar .byte ((p0 >>> (8 &&& 31)).toInt8.toInt32)) = zf3 at hP_9 hD_9
  have hP_10 : va_P (dC, dI) classes [(h0, .inr (0, [.ref h1, .int 14, .int 0, .ref h2, .ref h3, .ref h4, .ref h5, .ref h6, .ref h7, .ref h8, .ref h9, .ref h10, .ref h11, .ref h12, .ref h13, .int (-1), .int (-1), .ref h14])), (h1, .inl (g0, 600, .inl zf3))] H_5 := hP_9
  clear hP_9
  have hD_10 : va_D A [(h0, .inr (0, [.ref h1, .int 14, .int 0, .ref h2, .ref h3, .ref h4, .ref h5, .ref h6, .ref h7, .ref h8, .ref h9, .ref h10, .ref h11, .ref h12, .ref h13, .int (-1), .int (-1), .ref h14])), (h1, .inl (g0, 600, .inl zf3))] := hD_9
  clear hD_9
  refine lv_aload_n hx hb d_CD_putBytes_I_30 rfl (lv_at hl_3 1 rfl) ?_
  refine lv_dup hx hb d_CD_putBytes_I_31 rfl ?_
  refine va_get (D := (dC, dI)) (ci := 0) (v := .int 14) (C := R_CD) (T := F_CD) (N := 18) hx hb hts i_CD hown hK hP_10 0 rfl rfl 1 (by decide) (hts _ k_305) (fun _ h9 => h9) rfl d_CD_putBytes_I_32 ?_
  refine lv_iconst (v := 1) hx hb d_CD_putBytes_I_35 (by decide) ?_
  refine lv_iadd hx hb d_CD_putBytes_I_36 ?_
  refine zi_top (y := 15) (by decide) ?_
  refine va_put (D := (dC, dI)) (ci := 0) (v := .int 15) (ty := .int) (C := R_CD) (T := F_CD) (N := 18) hx hb hts i_CD t_CD t_CD_ok n_CD hown hK hP_10 hD_10 hS_5 0 rfl rfl 1 (by decide) (hts _ k_305) (fun _ h9 => h9) rfl (by decide +kernel) rfl rfl (Nat.le_of_ble_eq_true rfl) d_CD_putBytes_I_37 (fun H_6 locs_6 hP_11 hD_11 hS_6 => ?_)
  clear hP_10 hD_10 hS_5
  have hP_12 : va_P (dC, dI) classes [(h0, .inr (0, [.ref h1, .int 15, .int 0, .ref h2, .ref h3, .ref h4, .ref h5, .ref h6, .ref h7, .ref h8, .ref h9, .ref h10, .ref h11, .ref h12, .ref h13, .int (-1), .int (-1), .ref h14])), (h1, .inl (g0, 600, .inl zf3))] H_6 := hP_11
  clear hP_11
  have hD_12 : va_D A [(h0, .inr (0, [.ref h1, .int 15, .int 0, .ref h2, .ref h3, .ref h4, .ref h5, .ref h6, .ref h7, .ref h8, .ref h9, .ref h10, .ref h11, .ref h12, .ref h13, .int (-1), .int (-1), .ref h14])), (h1, .inl (g0, 600, .inl zf3))] := hD_11
  clear hD_11
  refine lv_iinc (v := 0) (lv' := [(2, .int 0), (0, .ref h0), (1, .int p0)]) hx hb d_CD_putBytes_I_40 hl_3 (k := 0) rfl (by decide) (by decide) rfl (fun ls_4 hl_4 => ?_)
  clear hl_3
  refine lv_goto (tgt := 3) hx hb d_CD_putBytes_I_43 (by decide) ?_
  refine lv_iload_n hx hb d_CD_putBytes_I_3 rfl (lv_at hl_4 0 rfl) ?_
  refine lv_if_lt (tgt := 46) hx hb d_CD_putBytes_I_4 (by decide) (fun h => absurd h (by decide)) (fun _ => ?_)
  refine lv_aload_n hx hb d_CD_putBytes_I_7 rfl (lv_at hl_4 1 rfl) ?_
  refine va_get (D := (dC, dI)) (ci := 0) (v := .int 15) (C := R_CD) (T := F_CD) (N := 18) hx hb hts i_CD hown hK hP_12 0 rfl rfl 1 (by decide) (hts _ k_305) (fun _ h9 => h9) rfl d_CD_putBytes_I_8 ?_
  refine lv_sipush (v := 600) hx hb d_CD_putBytes_I_11 (by decide) ?_
  refine lv_icmp_ge (tgt := 46) hx hb d_CD_putBytes_I_14 (by decide) (fun h => absurd h (by decide)) (fun _ => ?_)
  refine lv_aload_n hx hb d_CD_putBytes_I_17 rfl (lv_at hl_4 1 rfl) ?_
  refine va_get (D := (dC, dI)) (ci := 0) (v := .ref h1) (C := R_CD) (T := F_CD) (N := 18) hx hb hts i_CD hown hK hP_12 0 rfl rfl 0 (by decide) (hts _ k_4) (fun _ h9 => h9) rfl d_CD_putBytes_I_18 ?_
  refine lv_aload_n hx hb d_CD_putBytes_I_21 rfl (lv_at hl_4 1 rfl) ?_
  refine va_get (D := (dC, dI)) (ci := 0) (v := .int 15) (C := R_CD) (T := F_CD) (N := 18) hx hb hts i_CD hown hK hP_12 0 rfl rfl 1 (by decide) (hts _ k_305) (fun _ h9 => h9) rfl d_CD_putBytes_I_22 ?_
  refine lv_iload_n hx hb d_CD_putBytes_I_25 rfl (lv_at hl_4 2 rfl) ?_
  refine lv_iload_n hx hb d_CD_putBytes_I_26 rfl (lv_at hl_4 0 rfl) ?_
  refine lv_ishr hx hb d_CD_putBytes_I_27 ?_
  refine lv_i2b (v := (p0 >>> (0 &&& 31)).toInt8.toInt32) hx hb d_CD_putBytes_I_28 rfl ?_
  refine za_bast hx hb hK hP_12 hD_12 hS_6 1 0 rfl rfl (by unfold vp_in; decide) rfl d_CD_putBytes_I_29 (fun H_7 locs_7 hP_13 hD_13 hS_7 => ?_)
  clear hP_12 hD_12 hS_6
  generalize upd zf3 (15 : Int32).toNatClampNeg (vp_nar .byte ((p0 >>> (0 &&& 31)).toInt8.toInt32)) = zf4 at hP_13 hD_13
  have hP_14 : va_P (dC, dI) classes [(h0, .inr (0, [.ref h1, .int 15, .int 0, .ref h2, .ref h3, .ref h4, .ref h5, .ref h6, .ref h7, .ref h8, .ref h9, .ref h10, .ref h11, .ref h12, .ref h13, .int (-1), .int (-1), .ref h14])), (h1, .inl (g0, 600, .inl zf4))] H_7 := hP_13
  clear hP_13
  have hD_14 : va_D A [(h0, .inr (0, [.ref h1, .int 15, .int 0, .ref h2, .ref h3, .ref h4, .ref h5, .ref h6, .ref h7, .ref h8, .ref h9, .ref h10, .ref h11, .ref h12, .ref h13, .int (-1), .int (-1), .ref h14])), (h1, .inl (g0, 600, .inl zf4))] := hD_13
  clear hD_13
  refine lv_aload_n hx hb d_CD_putBytes_I_30 rfl (lv_at hl_4 1 rfl) ?_
  refine lv_dup hx hb d_CD_putBytes_I_31 rfl ?_
  refine va_get (D := (dC, dI)) (ci := 0) (v := .int 15) (C := R_CD) (T := F_CD) (N := 18) hx hb hts i_CD hown hK hP_14 0 rfl rfl 1 (by decide) (hts _ k_305) (fun _ h9 => h9) rfl d_CD_putBytes_I_32 ?_
  refine lv_iconst (v := 1) hx hb d_CD_putBytes_I_35 (by decide) ?_
  refine lv_iadd hx hb d_CD_putBytes_I_36 ?_
  refine zi_top (y := 16) (by decide) ?_
  refine va_put (D := (dC, dI)) (ci := 0) (v := .int 16) (ty := .int) (C := R_CD) (T := F_CD) (N := 18) hx hb hts i_CD t_CD t_CD_ok n_CD hown hK hP_14 hD_14 hS_7 0 rfl rfl 1 (by decide) (hts _ k_305) (fun _ h9 => h9) rfl (by decide +kernel) rfl rfl (Nat.le_of_ble_eq_true rfl) d_CD_putBytes_I_37 (fun H_8 locs_8 hP_15 hD_15 hS_8 => ?_)
  clear hP_14 hD_14 hS_7
  have hP_16 : va_P (dC, dI) classes [(h0, .inr (0, [.ref h1, .int 16, .int 0, .ref h2, .ref h3, .ref h4, .ref h5, .ref h6, .ref h7, .ref h8, .ref h9, .ref h10, .ref h11, .ref h12, .ref h13, .int (-1), .int (-1), .ref h14])), (h1, .inl (g0, 600, .inl zf4))] H_8 := hP_15
  clear hP_15
  have hD_16 : va_D A [(h0, .inr (0, [.ref h1, .int 16, .int 0, .ref h2, .ref h3, .ref h4, .ref h5, .ref h6, .ref h7, .ref h8, .ref h9, .ref h10, .ref h11, .ref h12, .ref h13, .int (-1), .int (-1), .ref h14])), (h1, .inl (g0, 600, .inl zf4))] := hD_15
  clear hD_15
  refine lv_iinc (v := (-8)) (lv' := [(2, .int (-8)), (0, .ref h0), (1, .int p0)]) hx hb d_CD_putBytes_I_40 hl_4 (k := 0) rfl (by decide) (by decide) rfl (fun ls_5 hl_5 => ?_)
  clear hl_4
  refine lv_goto (tgt := 3) hx hb d_CD_putBytes_I_43 (by decide) ?_
  refine lv_iload_n hx hb d_CD_putBytes_I_3 rfl (lv_at hl_5 0 rfl) ?_
  refine lv_if_lt (tgt := 46) hx hb d_CD_putBytes_I_4 (by decide) (fun _ => ?_) (fun h => absurd (by decide) h)
  refine W.widen (k := 0) (n := 0) (Nat.le_of_ble_eq_true rfl) (Nat.le_of_ble_eq_true rfl) ?_
  have hK9 := hK.sub (tys' := []) [] rfl
  exact W.vret hx hb hr (fun t ht hW => ⟨⟨(), rfl, trivial, zf4, by rw [ht]; exact hP_16, va_K.moved hW.alike hK9, hD_16⟩, hS_8.F ht⟩) hS_8.2.2 d_CD_putBytes_I_46
set_option maxHeartbeats 4000000 in
set_option maxRecDepth 100000 in
theorem c_CD_putBytes_I_v5 (l : Launch) (dC : Nat → ClassId) (dI : Nat → Nat → Nat) (h0 : Nat) (p0 : Int32) (h1 : Nat) (h2 : Nat) (h3 : Nat) (h4 : Nat) (h5 : Nat) (h6 : Nat) (h7 : Nat) (h8 : Nat) (h9 : Nat) (h10 : Nat) (h11 : Nat) (h12 : Nat) (h13 : Nat) (h14 : Nat) (g0 : ClassId) (f0 : Nat → Int32) (sz : Nat) : Met l y_CD_putBytes_I w_CD_putBytes_I ({ frames := 0, cells := 0, slots := 0, locals := 0 }) (va_Pc [.ref h0, .int p0] (fun U => U.heap.size = sz ∧ va_P (dC, dI) classes [(h0, .inr (0, [.ref h1, .int 16, .int 0, .ref h2, .ref h3, .ref h4, .ref h5, .ref h6, .ref h7, .ref h8, .ref h9, .ref h10, .ref h11, .ref h12, .ref h13, .int (-1), .int (-1), .ref h14])), (h1, .inl (g0, 600, .inl f0))] U.heap ∧ va_K (dC, dI) classes [(g0, .byte)] U ∧ va_D (fun _ => True) [(h0, .inr (0, [.ref h1, .int 16, .int 0, .ref h2, .ref h3, .ref h4, .ref h5, .ref h6, .ref h7, .ref h8, .ref h9, .ref h10, .ref h11, .ref h12, .ref h13, .int (-1), .int (-1), .ref h14])), (h1, .inl (g0, 600, .inl f0))] ∧ zX U)) (va_Qv (fun _ : Unit => True) (fun _ t => ∃ (zf4 : Nat → Int32), va_P (dC, dI) classes [(h0, .inr (0, [.ref h1, .int 20, .int 0, .ref h2, .ref h3, .ref h4, .ref h5, .ref h6, .ref h7, .ref h8, .ref h9, .ref h10, .ref h11, .ref h12, .ref h13, .int (-1), .int (-1), .ref h14])), (h1, .inl (g0, 600, .inl zf4))] t.heap ∧ va_K (dC, dI) classes [] t ∧ va_D (va_A [(h0, .inr (0, [.ref h1, .int 16, .int 0, .ref h2, .ref h3, .ref h4, .ref h5, .ref h6, .ref h7, .ref h8, .ref h9, .ref h10, .ref h11, .ref h12, .ref h13, .int (-1), .int (-1), .ref h14])), (h1, .inl (g0, 600, .inl f0))] sz) [(h0, .inr (0, [.ref h1, .int 20, .int 0, .ref h2, .ref h3, .ref h4, .ref h5, .ref h6, .ref h7, .ref h8, .ref h9, .ref h10, .ref h11, .ref h12, .ref h13, .int (-1), .int (-1), .ref h14])), (h1, .inl (g0, 600, .inl zf4))]) (va_A [(h0, .inr (0, [.ref h1, .int 16, .int 0, .ref h2, .ref h3, .ref h4, .ref h5, .ref h6, .ref h7, .ref h8, .ref h9, .ref h10, .ref h11, .ref h12, .ref h13, .int (-1), .int (-1), .ref h14])), (h1, .inl (g0, 600, .inl f0))] sz)) 0 0 (va_A [(h0, .inr (0, [.ref h1, .int 16, .int 0, .ref h2, .ref h3, .ref h4, .ref h5, .ref h6, .ref h7, .ref h8, .ref h9, .ref h10, .ref h11, .ref h12, .ref h13, .int (-1), .int (-1), .ref h14])), (h1, .inl (g0, 600, .inl f0))] sz) := by
  refine Met.ofW (cc := prog_1_method_3_code) (maxL := 3) (ret := (Option.none : Option Jvm.ClassFile.FieldType)) (by decide) rfl ?_
  intro p e s m args below meth c s₁ B hml hv
  obtain ⟨rfl, hsz, hP, hK, hD0, hX⟩ := hv
  have hx := B.exec
  have hb := B.bytes
  have hr := B.returns
  have hts0 := atoms_spec (ws := w_CD_putBytes_I) B.pre
  have hts : ∀ w ∈ zg_tbl, w.before _ s = true := fun w h => hts0 w (List.mem_cons_of_mem _ h)
  have hown : s.vm.findClass "CellDecide" = some m.cls := findClass_of_methodNamed B.named
  have hlocks := B.notSynchronized
  subst hsz
  have hD := hD0.self (sz := s.heap.size)
  generalize hAe : va_A [(h0, .inr (0, [.ref h1, .int 16, .int 0, .ref h2, .ref h3, .ref h4, .ref h5, .ref h6, .ref h7, .ref h8, .ref h9, .ref h10, .ref h11, .ref h12, .ref h13, .int (-1), .int (-1), .ref h14])), (h1, .inl (g0, 600, .inl f0))] s.heap.size = A at hD ⊢
  have hA : ∀ q : Nat, s.heap.size ≤ q → A q := fun q h => by rw [← hAe]; exact Or.inr h
  have hS : va_S A s.heap s.heap [] := va_S.rf
  have hl := lv_entry ([.ref h0, .int p0]) (n := 3) (Nat.le_of_ble_eq_true rfl)
  rw [lg_entry_eq]
  generalize (lg_sl ([.ref h0, .int p0]) ++ List.replicate (3 - (lg_sl ([.ref h0, .int p0])).length) Slot.unset).toArray = ls at hl ⊢
  have hl : lv_has ls 3 [(0, .ref h0), (1, .int p0)] := hl
  refine lv_bipush (v := 24) hx hb d_CD_putBytes_I_0 (by decide) ?_
  refine lv_istore_n (lv' := [(2, .int 24), (0, .ref h0), (1, .int p0)]) hx hb d_CD_putBytes_I_2 rfl hl (by decide) rfl (fun ls_1 hl_1 => ?_)
  clear hl
  refine lv_iload_n hx hb d_CD_putBytes_I_3 rfl (lv_at hl_1 0 rfl) ?_
  refine lv_if_lt (tgt := 46) hx hb d_CD_putBytes_I_4 (by decide) (fun h => absurd h (by decide)) (fun _ => ?_)
  refine lv_aload_n hx hb d_CD_putBytes_I_7 rfl (lv_at hl_1 1 rfl) ?_
  refine va_get (D := (dC, dI)) (ci := 0) (v := .int 16) (C := R_CD) (T := F_CD) (N := 18) hx hb hts i_CD hown hK hP 0 rfl rfl 1 (by decide) (hts _ k_305) (fun _ h9 => h9) rfl d_CD_putBytes_I_8 ?_
  refine lv_sipush (v := 600) hx hb d_CD_putBytes_I_11 (by decide) ?_
  refine lv_icmp_ge (tgt := 46) hx hb d_CD_putBytes_I_14 (by decide) (fun h => absurd h (by decide)) (fun _ => ?_)
  refine lv_aload_n hx hb d_CD_putBytes_I_17 rfl (lv_at hl_1 1 rfl) ?_
  refine va_get (D := (dC, dI)) (ci := 0) (v := .ref h1) (C := R_CD) (T := F_CD) (N := 18) hx hb hts i_CD hown hK hP 0 rfl rfl 0 (by decide) (hts _ k_4) (fun _ h9 => h9) rfl d_CD_putBytes_I_18 ?_
  refine lv_aload_n hx hb d_CD_putBytes_I_21 rfl (lv_at hl_1 1 rfl) ?_
  refine va_get (D := (dC, dI)) (ci := 0) (v := .int 16) (C := R_CD) (T := F_CD) (N := 18) hx hb hts i_CD hown hK hP 0 rfl rfl 1 (by decide) (hts _ k_305) (fun _ h9 => h9) rfl d_CD_putBytes_I_22 ?_
  refine lv_iload_n hx hb d_CD_putBytes_I_25 rfl (lv_at hl_1 2 rfl) ?_
  refine lv_iload_n hx hb d_CD_putBytes_I_26 rfl (lv_at hl_1 0 rfl) ?_
  refine lv_ishr hx hb d_CD_putBytes_I_27 ?_
  refine lv_i2b (v := (p0 >>> (24 &&& 31)).toInt8.toInt32) hx hb d_CD_putBytes_I_28 rfl ?_
  refine za_bast hx hb hK hP hD hS 1 0 rfl rfl (by unfold vp_in; decide) rfl d_CD_putBytes_I_29 (fun H_1 locs_1 hP_1 hD_1 hS_1 => ?_)
  clear hP hD hS
  generalize upd f0 (16 : Int32).toNatClampNeg (vp_nar .byte ((p0 >>> (24 &&& 31)).toInt8.toInt32)) = zf1 at hP_1 hD_1
  have hP_2 : va_P (dC, dI) classes [(h0, .inr (0, [.ref h1, .int 16, .int 0, .ref h2, .ref h3, .ref h4, .ref h5, .ref h6, .ref h7, .ref h8, .ref h9, .ref h10, .ref h11, .ref h12, .ref h13, .int (-1), .int (-1), .ref h14])), (h1, .inl (g0, 600, .inl zf1))] H_1 := hP_1
  clear hP_1
  have hD_2 : va_D A [(h0, .inr (0, [.ref h1, .int 16, .int 0, .ref h2, .ref h3, .ref h4, .ref h5, .ref h6, .ref h7, .ref h8, .ref h9, .ref h10, .ref h11, .ref h12, .ref h13, .int (-1), .int (-1), .ref h14])), (h1, .inl (g0, 600, .inl zf1))] := hD_1
  clear hD_1
  refine lv_aload_n hx hb d_CD_putBytes_I_30 rfl (lv_at hl_1 1 rfl) ?_
  refine lv_dup hx hb d_CD_putBytes_I_31 rfl ?_
  refine va_get (D := (dC, dI)) (ci := 0) (v := .int 16) (C := R_CD) (T := F_CD) (N := 18) hx hb hts i_CD hown hK hP_2 0 rfl rfl 1 (by decide) (hts _ k_305) (fun _ h9 => h9) rfl d_CD_putBytes_I_32 ?_
  refine lv_iconst (v := 1) hx hb d_CD_putBytes_I_35 (by decide) ?_
  refine lv_iadd hx hb d_CD_putBytes_I_36 ?_
  refine zi_top (y := 17) (by decide) ?_
  refine va_put (D := (dC, dI)) (ci := 0) (v := .int 17) (ty := .int) (C := R_CD) (T := F_CD) (N := 18) hx hb hts i_CD t_CD t_CD_ok n_CD hown hK hP_2 hD_2 hS_1 0 rfl rfl 1 (by decide) (hts _ k_305) (fun _ h9 => h9) rfl (by decide +kernel) rfl rfl (Nat.le_of_ble_eq_true rfl) d_CD_putBytes_I_37 (fun H_2 locs_2 hP_3 hD_3 hS_2 => ?_)
  clear hP_2 hD_2 hS_1
  have hP_4 : va_P (dC, dI) classes [(h0, .inr (0, [.ref h1, .int 17, .int 0, .ref h2, .ref h3, .ref h4, .ref h5, .ref h6, .ref h7, .ref h8, .ref h9, .ref h10, .ref h11, .ref h12, .ref h13, .int (-1), .int (-1), .ref h14])), (h1, .inl (g0, 600, .inl zf1))] H_2 := hP_3
  clear hP_3
  have hD_4 : va_D A [(h0, .inr (0, [.ref h1, .int 17, .int 0, .ref h2, .ref h3, .ref h4, .ref h5, .ref h6, .ref h7, .ref h8, .ref h9, .ref h10, .ref h11, .ref h12, .ref h13, .int (-1), .int (-1), .ref h14])), (h1, .inl (g0, 600, .inl zf1))] := hD_3
  clear hD_3
  refine lv_iinc (v := 16) (lv' := [(2, .int 16), (0, .ref h0), (1, .int p0)]) hx hb d_CD_putBytes_I_40 hl_1 (k := 0) rfl (by decide) (by decide) rfl (fun ls_2 hl_2 => ?_)
  clear hl_1
  refine lv_goto (tgt := 3) hx hb d_CD_putBytes_I_43 (by decide) ?_
  refine lv_iload_n hx hb d_CD_putBytes_I_3 rfl (lv_at hl_2 0 rfl) ?_
  refine lv_if_lt (tgt := 46) hx hb d_CD_putBytes_I_4 (by decide) (fun h => absurd h (by decide)) (fun _ => ?_)
  refine lv_aload_n hx hb d_CD_putBytes_I_7 rfl (lv_at hl_2 1 rfl) ?_
  refine va_get (D := (dC, dI)) (ci := 0) (v := .int 17) (C := R_CD) (T := F_CD) (N := 18) hx hb hts i_CD hown hK hP_4 0 rfl rfl 1 (by decide) (hts _ k_305) (fun _ h9 => h9) rfl d_CD_putBytes_I_8 ?_
  refine lv_sipush (v := 600) hx hb d_CD_putBytes_I_11 (by decide) ?_
  refine lv_icmp_ge (tgt := 46) hx hb d_CD_putBytes_I_14 (by decide) (fun h => absurd h (by decide)) (fun _ => ?_)
  refine lv_aload_n hx hb d_CD_putBytes_I_17 rfl (lv_at hl_2 1 rfl) ?_
  refine va_get (D := (dC, dI)) (ci := 0) (v := .ref h1) (C := R_CD) (T := F_CD) (N := 18) hx hb hts i_CD hown hK hP_4 0 rfl rfl 0 (by decide) (hts _ k_4) (fun _ h9 => h9) rfl d_CD_putBytes_I_18 ?_
  refine lv_aload_n hx hb d_CD_putBytes_I_21 rfl (lv_at hl_2 1 rfl) ?_
  refine va_get (D := (dC, dI)) (ci := 0) (v := .int 17) (C := R_CD) (T := F_CD) (N := 18) hx hb hts i_CD hown hK hP_4 0 rfl rfl 1 (by decide) (hts _ k_305) (fun _ h9 => h9) rfl d_CD_putBytes_I_22 ?_
  refine lv_iload_n hx hb d_CD_putBytes_I_25 rfl (lv_at hl_2 2 rfl) ?_
  refine lv_iload_n hx hb d_CD_putBytes_I_26 rfl (lv_at hl_2 0 rfl) ?_
  refine lv_ishr hx hb d_CD_putBytes_I_27 ?_
  refine lv_i2b (v := (p0 >>> (16 &&& 31)).toInt8.toInt32) hx hb d_CD_putBytes_I_28 rfl ?_
  refine za_bast hx hb hK hP_4 hD_4 hS_2 1 0 rfl rfl (by unfold vp_in; decide) rfl d_CD_putBytes_I_29 (fun H_3 locs_3 hP_5 hD_5 hS_3 => ?_)
  clear hP_4 hD_4 hS_2
  generalize upd zf1 (17 : Int32).toNatClampNeg (vp_nar .byte ((p0 >>> (16 &&& 31)).toInt8.toInt32)) = zf2 at hP_5 hD_5
  have hP_6 : va_P (dC, dI) classes [(h0, .inr (0, [.ref h1, .int 17, .int 0, .ref h2, .ref h3, .ref h4, .ref h5, .ref h6, .ref h7, .ref h8, .ref h9, .ref h10, .ref h11, .ref h12, .ref h13, .int (-1), .int (-1), .ref h14])), (h1, .inl (g0, 600, .inl zf2))] H_3 := hP_5
  clear hP_5
  have hD_6 : va_D A [(h0, .inr (0, [.ref h1, .int 17, .int 0, .ref h2, .ref h3, .ref h4, .ref h5, .ref h6, .ref h7, .ref h8, .ref h9, .ref h10, .ref h11, .ref h12, .ref h13, .int (-1), .int (-1), .ref h14])), (h1, .inl (g0, 600, .inl zf2))] := hD_5
  clear hD_5
  refine lv_aload_n hx hb d_CD_putBytes_I_30 rfl (lv_at hl_2 1 rfl) ?_
  refine lv_dup hx hb d_CD_putBytes_I_31 rfl ?_
  refine va_get (D := (dC, dI)) (ci := 0) (v := .int 17) (C := R_CD) (T := F_CD) (N := 18) hx hb hts i_CD hown hK hP_6 0 rfl rfl 1 (by decide) (hts _ k_305) (fun _ h9 => h9) rfl d_CD_putBytes_I_32 ?_
  refine lv_iconst (v := 1) hx hb d_CD_putBytes_I_35 (by decide) ?_
  refine lv_iadd hx hb d_CD_putBytes_I_36 ?_
  refine zi_top (y := 18) (by decide) ?_
  refine va_put (D := (dC, dI)) (ci := 0) (v := .int 18) (ty := .int) (C := R_CD) (T := F_CD) (N := 18) hx hb hts i_CD t_CD t_CD_ok n_CD hown hK hP_6 hD_6 hS_3 0 rfl rfl 1 (by decide) (hts _ k_305) (fun _ h9 => h9) rfl (by decide +kernel) rfl rfl (Nat.le_of_ble_eq_true rfl) d_CD_putBytes_I_37 (fun H_4 locs_4 hP_7 hD_7 hS_4 => ?_)
  clear hP_6 hD_6 hS_3
  have hP_8 : va_P (dC, dI) classes [(h0, .inr (0, [.ref h1, .int 18, .int 0, .ref h2, .ref h3, .ref h4, .ref h5, .ref h6, .ref h7, .ref h8, .ref h9, .ref h10, .ref h11, .ref h12, .ref h13, .int (-1), .int (-1), .ref h14])), (h1, .inl (g0, 600, .inl zf2))] H_4 := hP_7
  clear hP_7
  have hD_8 : va_D A [(h0, .inr (0, [.ref h1, .int 18, .int 0, .ref h2, .ref h3, .ref h4, .ref h5, .ref h6, .ref h7, .ref h8, .ref h9, .ref h10, .ref h11, .ref h12, .ref h13, .int (-1), .int (-1), .ref h14])), (h1, .inl (g0, 600, .inl zf2))] := hD_7
  clear hD_7
  refine lv_iinc (v := 8) (lv' := [(2, .int 8), (0, .ref h0), (1, .int p0)]) hx hb d_CD_putBytes_I_40 hl_2 (k := 0) rfl (by decide) (by decide) rfl (fun ls_3 hl_3 => ?_)
  clear hl_2
  refine lv_goto (tgt := 3) hx hb d_CD_putBytes_I_43 (by decide) ?_
  refine lv_iload_n hx hb d_CD_putBytes_I_3 rfl (lv_at hl_3 0 rfl) ?_
  refine lv_if_lt (tgt := 46) hx hb d_CD_putBytes_I_4 (by decide) (fun h => absurd h (by decide)) (fun _ => ?_)
  refine lv_aload_n hx hb d_CD_putBytes_I_7 rfl (lv_at hl_3 1 rfl) ?_
  refine va_get (D := (dC, dI)) (ci := 0) (v := .int 18) (C := R_CD) (T := F_CD) (N := 18) hx hb hts i_CD hown hK hP_8 0 rfl rfl 1 (by decide) (hts _ k_305) (fun _ h9 => h9) rfl d_CD_putBytes_I_8 ?_
  refine lv_sipush (v := 600) hx hb d_CD_putBytes_I_11 (by decide) ?_
  refine lv_icmp_ge (tgt := 46) hx hb d_CD_putBytes_I_14 (by decide) (fun h => absurd h (by decide)) (fun _ => ?_)
  refine lv_aload_n hx hb d_CD_putBytes_I_17 rfl (lv_at hl_3 1 rfl) ?_
  refine va_get (D := (dC, dI)) (ci := 0) (v := .ref h1) (C := R_CD) (T := F_CD) (N := 18) hx hb hts i_CD hown hK hP_8 0 rfl rfl 0 (by decide) (hts _ k_4) (fun _ h9 => h9) rfl d_CD_putBytes_I_18 ?_
  refine lv_aload_n hx hb d_CD_putBytes_I_21 rfl (lv_at hl_3 1 rfl) ?_
  refine va_get (D := (dC, dI)) (ci := 0) (v := .int 18) (C := R_CD) (T := F_CD) (N := 18) hx hb hts i_CD hown hK hP_8 0 rfl rfl 1 (by decide) (hts _ k_305) (fun _ h9 => h9) rfl d_CD_putBytes_I_22 ?_
  refine lv_iload_n hx hb d_CD_putBytes_I_25 rfl (lv_at hl_3 2 rfl) ?_
  refine lv_iload_n hx hb d_CD_putBytes_I_26 rfl (lv_at hl_3 0 rfl) ?_
  refine lv_ishr hx hb d_CD_putBytes_I_27 ?_
  refine lv_i2b (v := (p0 >>> (8 &&& 31)).toInt8.toInt32) hx hb d_CD_putBytes_I_28 rfl ?_
  refine za_bast hx hb hK hP_8 hD_8 hS_4 1 0 rfl rfl (by unfold vp_in; decide) rfl d_CD_putBytes_I_29 (fun H_5 locs_5 hP_9 hD_9 hS_5 => ?_)
  clear hP_8 hD_8 hS_4
  generalize upd zf2 (18 : Int32).toNatClampNeg (vp_nar .byte ((p0 >>> (8 &&& 31)).toInt8.toInt32)) = zf3 at hP_9 hD_9
  have hP_10 : va_P (dC, dI) classes [(h0, .inr (0, [.ref h1, .int 18, .int 0, .ref h2, .ref h3, .ref h4, .ref h5, .ref h6, .ref h7, .ref h8, .ref h9, .ref h10, .ref h11, .ref h12, .ref h13, .int (-1), .int (-1), .ref h14])), (h1, .inl (g0, 600, .inl zf3))] H_5 := hP_9
  clear hP_9
  have hD_10 : va_D A [(h0, .inr (0, [.ref h1, .int 18, .int 0, .ref h2, .ref h3, .ref h4, .ref h5, .ref h6, .ref h7, .ref h8, .ref h9, .ref h10, .ref h11, .ref h12, .ref h13, .int (-1), .int (-1), .ref h14])), (h1, .inl (g0, 600, .inl zf3))] := hD_9
  clear hD_9
  refine lv_aload_n hx hb d_CD_putBytes_I_30 rfl (lv_at hl_3 1 rfl) ?_
  refine lv_dup hx hb d_CD_putBytes_I_31 rfl ?_
  refine va_get (D := (dC, dI)) (ci := 0) (v := .int 18) (C := R_CD) (T := F_CD) (N := 18) hx hb hts i_CD hown hK hP_10 0 rfl rfl 1 (by decide) (hts _ k_305) (fun _ h9 => h9) rfl d_CD_putBytes_I_32 ?_
  refine lv_iconst (v := 1) hx hb d_CD_putBytes_I_35 (by decide) ?_
  refine lv_iadd hx hb d_CD_putBytes_I_36 ?_
  refine zi_top (y := 19) (by decide) ?_
  refine va_put (D := (dC, dI)) (ci := 0) (v := .int 19) (ty := .int) (C := R_CD) (T := F_CD) (N := 18) hx hb hts i_CD t_CD t_CD_ok n_CD hown hK hP_10 hD_10 hS_5 0 rfl rfl 1 (by decide) (hts _ k_305) (fun _ h9 => h9) rfl (by decide +kernel) rfl rfl (Nat.le_of_ble_eq_true rfl) d_CD_putBytes_I_37 (fun H_6 locs_6 hP_11 hD_11 hS_6 => ?_)
  clear hP_10 hD_10 hS_5
  have hP_12 : va_P (dC, dI) classes [(h0, .inr (0, [.ref h1, .int 19, .int 0, .ref h2, .ref h3, .ref h4, .ref h5, .ref h6, .ref h7, .ref h8, .ref h9, .ref h10, .ref h11, .ref h12, .ref h13, .int (-1), .int (-1), .ref h14])), (h1, .inl (g0, 600, .inl zf3))] H_6 := hP_11
  clear hP_11
  have hD_12 : va_D A [(h0, .inr (0, [.ref h1, .int 19, .int 0, .ref h2, .ref h3, .ref h4, .ref h5, .ref h6, .ref h7, .ref h8, .ref h9, .ref h10, .ref h11, .ref h12, .ref h13, .int (-1), .int (-1), .ref h14])), (h1, .inl (g0, 600, .inl zf3))] := hD_11
  clear hD_11
  refine lv_iinc (v := 0) (lv' := [(2, .int 0), (0, .ref h0), (1, .int p0)]) hx hb d_CD_putBytes_I_40 hl_3 (k := 0) rfl (by decide) (by decide) rfl (fun ls_4 hl_4 => ?_)
  clear hl_3
  refine lv_goto (tgt := 3) hx hb d_CD_putBytes_I_43 (by decide) ?_
  refine lv_iload_n hx hb d_CD_putBytes_I_3 rfl (lv_at hl_4 0 rfl) ?_
  refine lv_if_lt (tgt := 46) hx hb d_CD_putBytes_I_4 (by decide) (fun h => absurd h (by decide)) (fun _ => ?_)
  refine lv_aload_n hx hb d_CD_putBytes_I_7 rfl (lv_at hl_4 1 rfl) ?_
  refine va_get (D := (dC, dI)) (ci := 0) (v := .int 19) (C := R_CD) (T := F_CD) (N := 18) hx hb hts i_CD hown hK hP_12 0 rfl rfl 1 (by decide) (hts _ k_305) (fun _ h9 => h9) rfl d_CD_putBytes_I_8 ?_
  refine lv_sipush (v := 600) hx hb d_CD_putBytes_I_11 (by decide) ?_
  refine lv_icmp_ge (tgt := 46) hx hb d_CD_putBytes_I_14 (by decide) (fun h => absurd h (by decide)) (fun _ => ?_)
  refine lv_aload_n hx hb d_CD_putBytes_I_17 rfl (lv_at hl_4 1 rfl) ?_
  refine va_get (D := (dC, dI)) (ci := 0) (v := .ref h1) (C := R_CD) (T := F_CD) (N := 18) hx hb hts i_CD hown hK hP_12 0 rfl rfl 0 (by decide) (hts _ k_4) (fun _ h9 => h9) rfl d_CD_putBytes_I_18 ?_
  refine lv_aload_n hx hb d_CD_putBytes_I_21 rfl (lv_at hl_4 1 rfl) ?_
  refine va_get (D := (dC, dI)) (ci := 0) (v := .int 19) (C := R_CD) (T := F_CD) (N := 18) hx hb hts i_CD hown hK hP_12 0 rfl rfl 1 (by decide) (hts _ k_305) (fun _ h9 => h9) rfl d_CD_putBytes_I_22 ?_
  refine lv_iload_n hx hb d_CD_putBytes_I_25 rfl (lv_at hl_4 2 rfl) ?_
  refine lv_iload_n hx hb d_CD_putBytes_I_26 rfl (lv_at hl_4 0 rfl) ?_
  refine lv_ishr hx hb d_CD_putBytes_I_27 ?_
  refine lv_i2b (v := (p0 >>> (0 &&& 31)).toInt8.toInt32) hx hb d_CD_putBytes_I_28 rfl ?_
  refine za_bast hx hb hK hP_12 hD_12 hS_6 1 0 rfl rfl (by unfold vp_in; decide) rfl d_CD_putBytes_I_29 (fun H_7 locs_7 hP_13 hD_13 hS_7 => ?_)
  clear hP_12 hD_12 hS_6
  generalize upd zf3 (19 : Int32).toNatClampNeg (vp_nar .byte ((p0 >>> (0 &&& 31)).toInt8.toInt32)) = zf4 at hP_13 hD_13
  have hP_14 : va_P (dC, dI) classes [(h0, .inr (0, [.ref h1, .int 19, .int 0, .ref h2, .ref h3, .ref h4, .ref h5, .ref h6, .ref h7, .ref h8, .ref h9, .ref h10, .ref h11, .ref h12, .ref h13, .int (-1), .int (-1), .ref h14])), (h1, .inl (g0, 600, .inl zf4))] H_7 := hP_13
  clear hP_13
  have hD_14 : va_D A [(h0, .inr (0, [.ref h1, .int 19, .int 0, .ref h2, .ref h3, .ref h4, .ref h5, .ref h6, .ref h7, .ref h8, .ref h9, .ref h10, .ref h11, .ref h12, .ref h13, .int (-1), .int (-1), .ref h14])), (h1, .inl (g0, 600, .inl zf4))] := hD_13
  clear hD_13
  refine lv_aload_n hx hb d_CD_putBytes_I_30 rfl (lv_at hl_4 1 rfl) ?_
  refine lv_dup hx hb d_CD_putBytes_I_31 rfl ?_
  refine va_get (D := (dC, dI)) (ci := 0) (v := .int 19) (C := R_CD) (T := F_CD) (N := 18) hx hb hts i_CD hown hK hP_14 0 rfl rfl 1 (by decide) (hts _ k_305) (fun _ h9 => h9) rfl d_CD_putBytes_I_32 ?_
  refine lv_iconst (v := 1) hx hb d_CD_putBytes_I_35 (by decide) ?_
  refine lv_iadd hx hb d_CD_putBytes_I_36 ?_
  refine zi_top (y := 20) (by decide) ?_
  refine va_put (D := (dC, dI)) (ci := 0) (v := .int 20) (ty := .int) (C := R_CD) (T := F_CD) (N := 18) hx hb hts i_CD t_CD t_CD_ok n_CD hown hK hP_14 hD_14 hS_7 0 rfl rfl 1 (by decide) (hts _ k_305) (fun _ h9 => h9) rfl (by decide +kernel) rfl rfl (Nat.le_of_ble_eq_true rfl) d_CD_putBytes_I_37 (fun H_8 locs_8 hP_15 hD_15 hS_8 => ?_)
  clear hP_14 hD_14 hS_7
  have hP_16 : va_P (dC, dI) classes [(h0, .inr (0, [.ref h1, .int 20, .int 0, .ref h2, .ref h3, .ref h4, .ref h5, .ref h6, .ref h7, .ref h8, .ref h9, .ref h10, .ref h11, .ref h12, .ref h13, .int (-1), .int (-1), .ref h14])), (h1, .inl (g0, 600, .inl zf4))] H_8 := hP_15
  clear hP_15
  have hD_16 : va_D A [(h0, .inr (0, [.ref h1, .int 20, .int 0, .ref h2, .ref h3, .ref h4, .ref h5, .ref h6, .ref h7, .ref h8, .ref h9, .ref h10, .ref h11, .ref h12, .ref h13, .int (-1), .int (-1), .ref h14])), (h1, .inl (g0, 600, .inl zf4))] := hD_15
  clear hD_15
  refine lv_iinc (v := (-8)) (lv' := [(2, .int (-8)), (0, .ref h0), (1, .int p0)]) hx hb d_CD_putBytes_I_40 hl_4 (k := 0) rfl (by decide) (by decide) rfl (fun ls_5 hl_5 => ?_)
  clear hl_4
  refine lv_goto (tgt := 3) hx hb d_CD_putBytes_I_43 (by decide) ?_
  refine lv_iload_n hx hb d_CD_putBytes_I_3 rfl (lv_at hl_5 0 rfl) ?_
  refine lv_if_lt (tgt := 46) hx hb d_CD_putBytes_I_4 (by decide) (fun _ => ?_) (fun h => absurd (by decide) h)
  refine W.widen (k := 0) (n := 0) (Nat.le_of_ble_eq_true rfl) (Nat.le_of_ble_eq_true rfl) ?_
  have hK9 := hK.sub (tys' := []) [] rfl
  exact W.vret hx hb hr (fun t ht hW => ⟨⟨(), rfl, trivial, zf4, by rw [ht]; exact hP_16, va_K.moved hW.alike hK9, hD_16⟩, hS_8.F ht⟩) hS_8.2.2 d_CD_putBytes_I_46
set_option maxHeartbeats 4000000 in
set_option maxRecDepth 100000 in
theorem c_CD_feed_IIIII (l : Launch) (dC : Nat → ClassId) (dI : Nat → Nat → Nat) (h0 : Nat) (p0 : Int32) (p1 : Int32) (p2 : Int32) (p3 : Int32) (p4 : Int32) (h1 : Nat) (h2 : Nat) (h3 : Nat) (h4 : Nat) (h5 : Nat) (h6 : Nat) (h7 : Nat) (h8 : Nat) (h9 : Nat) (h10 : Nat) (h11 : Nat) (h12 : Nat) (h13 : Nat) (h14 : Nat) (g0 : ClassId) (sz : Nat) : Met l y_CD_feed_IIIII w_CD_feed_IIIII ({ frames := 1, cells := 0, slots := 0, locals := 22 }) (va_Pc [.ref h0, .int p0, .int p1, .int p2, .int p3, .int p4] (fun U => U.heap.size = sz ∧ va_P (dC, dI) classes [(h0, .inr (0, [.ref h1, .int 0, .int 0, .ref h2, .ref h3, .ref h4, .ref h5, .ref h6, .ref h7, .ref h8, .ref h9, .ref h10, .ref h11, .ref h12, .ref h13, .int (-1), .int (-1), .ref h14])), (h1, .inl (g0, 600, .inl (fun _ => 0)))] U.heap ∧ va_K (dC, dI) classes [(g0, .byte)] U ∧ va_D (fun _ => True) [(h0, .inr (0, [.ref h1, .int 0, .int 0, .ref h2, .ref h3, .ref h4, .ref h5, .ref h6, .ref h7, .ref h8, .ref h9, .ref h10, .ref h11, .ref h12, .ref h13, .int (-1), .int (-1), .ref h14])), (h1, .inl (g0, 600, .inl (fun _ => 0)))] ∧ zX U)) (va_Qi (fun (r : Int32) (_ : Unit) => r = 20) (fun _ t => ∃ (zf5 : Nat → Int32), va_P (dC, dI) classes [(h0, .inr (0, [.ref h1, .int 20, .int 0, .ref h2, .ref h3, .ref h4, .ref h5, .ref h6, .ref h7, .ref h8, .ref h9, .ref h10, .ref h11, .ref h12, .ref h13, .int (-1), .int (-1), .ref h14])), (h1, .inl (g0, 600, .inl zf5))] t.heap ∧ va_K (dC, dI) classes [] t ∧ va_D (va_A [(h0, .inr (0, [.ref h1, .int 0, .int 0, .ref h2, .ref h3, .ref h4, .ref h5, .ref h6, .ref h7, .ref h8, .ref h9, .ref h10, .ref h11, .ref h12, .ref h13, .int (-1), .int (-1), .ref h14])), (h1, .inl (g0, 600, .inl (fun _ => 0)))] sz) [(h0, .inr (0, [.ref h1, .int 20, .int 0, .ref h2, .ref h3, .ref h4, .ref h5, .ref h6, .ref h7, .ref h8, .ref h9, .ref h10, .ref h11, .ref h12, .ref h13, .int (-1), .int (-1), .ref h14])), (h1, .inl (g0, 600, .inl zf5))]) (va_A [(h0, .inr (0, [.ref h1, .int 0, .int 0, .ref h2, .ref h3, .ref h4, .ref h5, .ref h6, .ref h7, .ref h8, .ref h9, .ref h10, .ref h11, .ref h12, .ref h13, .int (-1), .int (-1), .ref h14])), (h1, .inl (g0, 600, .inl (fun _ => 0)))] sz)) 0 0 (va_A [(h0, .inr (0, [.ref h1, .int 0, .int 0, .ref h2, .ref h3, .ref h4, .ref h5, .ref h6, .ref h7, .ref h8, .ref h9, .ref h10, .ref h11, .ref h12, .ref h13, .int (-1), .int (-1), .ref h14])), (h1, .inl (g0, 600, .inl (fun _ => 0)))] sz) := by
  refine Met.ofW (cc := prog_1_method_2_code) (maxL := 6) (ret := (Option.some Jvm.ClassFile.FieldType.int)) (by decide) rfl ?_
  intro p e s m args below meth c s₁ B hml hv
  obtain ⟨rfl, hsz, hP, hK, hD0, hX⟩ := hv
  have hx := B.exec
  have hb := B.bytes
  have hr := B.returns
  have hts0 := atoms_spec (ws := w_CD_feed_IIIII) B.pre
  have hts : ∀ w ∈ zg_tbl, w.before _ s = true := fun w h => hts0 w (List.mem_cons_of_mem _ h)
  have hown : s.vm.findClass "CellDecide" = some m.cls := findClass_of_methodNamed B.named
  have hlocks := B.notSynchronized
  subst hsz
  have hD := hD0.self (sz := s.heap.size)
  generalize hAe : va_A [(h0, .inr (0, [.ref h1, .int 0, .int 0, .ref h2, .ref h3, .ref h4, .ref h5, .ref h6, .ref h7, .ref h8, .ref h9, .ref h10, .ref h11, .ref h12, .ref h13, .int (-1), .int (-1), .ref h14])), (h1, .inl (g0, 600, .inl (fun _ => 0)))] s.heap.size = A at hD ⊢
  have hA : ∀ q : Nat, s.heap.size ≤ q → A q := fun q h => by rw [← hAe]; exact Or.inr h
  have hS : va_S A s.heap s.heap [] := va_S.rf
  have hl := lv_entry ([.ref h0, .int p0, .int p1, .int p2, .int p3, .int p4]) (n := 6) (Nat.le_of_ble_eq_true rfl)
  rw [lg_entry_eq]
  generalize (lg_sl ([.ref h0, .int p0, .int p1, .int p2, .int p3, .int p4]) ++ List.replicate (6 - (lg_sl ([.ref h0, .int p0, .int p1, .int p2, .int p3, .int p4])).length) Slot.unset).toArray = ls at hl ⊢
  have hl : lv_has ls 6 [(0, .ref h0), (1, .int p0), (2, .int p1), (3, .int p2), (4, .int p3), (5, .int p4)] := hl
  refine lv_aload_n hx hb d_CD_feed_IIIII_0 rfl (lv_at hl 0 rfl) ?_
  refine va_get (D := (dC, dI)) (ci := 0) (v := .int 0) (C := R_CD) (T := F_CD) (N := 18) hx hb hts i_CD hown hK hP 0 rfl rfl 1 (by decide) (hts _ k_305) (fun _ h9 => h9) rfl d_CD_feed_IIIII_1 ?_
  refine lv_bipush (v := 20) hx hb d_CD_feed_IIIII_4 (by decide) ?_
  refine lv_iadd hx hb d_CD_feed_IIIII_6 ?_
  refine zi_top (y := 20) (by decide) ?_
  refine lv_sipush (v := 600) hx hb d_CD_feed_IIIII_7 (by decide) ?_
  refine lv_icmp_le (tgt := 23) hx hb d_CD_feed_IIIII_10 (by decide) (fun _ => ?_) (fun h => absurd (by decide) h)
  refine lv_aload_n hx hb d_CD_feed_IIIII_23 rfl (lv_at hl 0 rfl) ?_
  refine lv_iload_n hx hb d_CD_feed_IIIII_24 rfl (lv_at hl 1 rfl) ?_
  have hPc := hP.sub (ws' := [(h0, .inr (0, [.ref h1, .int 0, .int 0, .ref h2, .ref h3, .ref h4, .ref h5, .ref h6, .ref h7, .ref h8, .ref h9, .ref h10, .ref h11, .ref h12, .ref h13, .int (-1), .int (-1), .ref h14])), (h1, .inl (g0, 600, .inl (fun _ => 0)))]) [0, 1] rfl
  have hDc := hD.sub (ws' := [(h0, .inr (0, [.ref h1, .int 0, .int 0, .ref h2, .ref h3, .ref h4, .ref h5, .ref h6, .ref h7, .ref h8, .ref h9, .ref h10, .ref h11, .ref h12, .ref h13, .int (-1), .int (-1), .ref h14])), (h1, .inl (g0, 600, .inl (fun _ => 0)))]) [0, 1] (by decide) rfl
  have hKc := hK.sub (tys' := [(g0, .byte)]) [0] rfl
  have hFc := va_free (wc := [(h0, .inr (0, [.ref h1, .int 0, .int 0, .ref h2, .ref h3, .ref h4, .ref h5, .ref h6, .ref h7, .ref h8, .ref h9, .ref h10, .ref h11, .ref h12, .ref h13, .int (-1), .int (-1), .ref h14])), (h1, .inl (g0, 600, .inl (fun _ => 0)))]) hD hS hA [0, 1] rfl
  refine va_callv (va_runV (As := [.int p0]) (rest := []) ⟨hx, hb, hml, hown, hts⟩ (c_CD_putBytes_I l dC dI h0 p0 h1 h2 h3 h4 h5 h6 h7 h8 h9 h10 h11 h12 h13 h14 g0 s.heap.size) (cwV 1 hts (zt_V k_307 k_308 k_309 k_310 k_306) rfl rfl rfl (by decide +kernel) ⟨Nat.le_of_ble_eq_true rfl, Nat.le_of_ble_eq_true rfl⟩) ⟨fun a U g mk q => by obtain ⟨q0, q1, qP, qK, qD, qX⟩ := q; exact ⟨q0, q1, qP, va_K.moved (u := U) (U := U.calling g mk a) (Vm.Alike.refl U.vm) qK, qD, qX.call⟩, va_recv hKc hPc (ci := 0) (q0 := 0) rfl rfl, fun U hU hW => ⟨rfl, by rw [hU], by rw [hU]; exact hPc, va_K.moved hW.alike hKc, hDc.weaken (fun _ _ _ _ => trivial), hX.warm hW⟩⟩ rfl rfl hl.1 rfl (lv_room (Nat.le_of_ble_eq_true rfl)) d_CD_feed_IIIII_25 ⟨Nat.le_of_ble_eq_true rfl, Nat.le_of_ble_eq_true rfl⟩) hS (fun q _ h => hFc q h) hFc (fun u t H1 locs_1 ht hvm hw hB hz1 hk1 hS_1 => ?_)
  obtain ⟨zf1, hP1, hK1, hD1⟩ := hB
  rw [ht] at hP1
  have hK1 := va_K.moved hvm.symm hK1
  obtain ⟨hP_1, hD_1⟩ := va_join (wr := []) (w1 := [(h0, .inr (0, [.ref h1, .int 4, .int 0, .ref h2, .ref h3, .ref h4, .ref h5, .ref h6, .ref h7, .ref h8, .ref h9, .ref h10, .ref h11, .ref h12, .ref h13, .int (-1), .int (-1), .ref h14])), (h1, .inl (g0, 600, .inl zf1))]) hP hD [0, 1] [] rfl rfl (by decide) (by decide) hk1 hFc hP1 hD1
  clear hP hD hP1 hD1 hPc hDc hKc hFc hk1 hz1
  generalize H1 = H_1 at hP_1 hS_1 ⊢
  have hP_2 : va_P (dC, dI) classes [(h0, .inr (0, [.ref h1, .int 4, .int 0, .ref h2, .ref h3, .ref h4, .ref h5, .ref h6, .ref h7, .ref h8, .ref h9, .ref h10, .ref h11, .ref h12, .ref h13, .int (-1), .int (-1), .ref h14])), (h1, .inl (g0, 600, .inl zf1))] H_1 := hP_1
  clear hP_1
  have hD_2 : va_D A [(h0, .inr (0, [.ref h1, .int 4, .int 0, .ref h2, .ref h3, .ref h4, .ref h5, .ref h6, .ref h7, .ref h8, .ref h9, .ref h10, .ref h11, .ref h12, .ref h13, .int (-1), .int (-1), .ref h14])), (h1, .inl (g0, 600, .inl zf1))] := hD_1
  clear hD_1
  refine W.widen (k := 0) (n := 0) (Nat.le_of_ble_eq_true rfl) (Nat.le_of_ble_eq_true rfl) ?_
  refine lv_aload_n hx hb d_CD_feed_IIIII_28 rfl (lv_at hl 0 rfl) ?_
  refine lv_iload_n hx hb d_CD_feed_IIIII_29 rfl (lv_at hl 2 rfl) ?_
  have hPc := hP_2.sub (ws' := [(h0, .inr (0, [.ref h1, .int 4, .int 0, .ref h2, .ref h3, .ref h4, .ref h5, .ref h6, .ref h7, .ref h8, .ref h9, .ref h10, .ref h11, .ref h12, .ref h13, .int (-1), .int (-1), .ref h14])), (h1, .inl (g0, 600, .inl zf1))]) [0, 1] rfl
  have hDc := hD_2.sub (ws' := [(h0, .inr (0, [.ref h1, .int 4, .int 0, .ref h2, .ref h3, .ref h4, .ref h5, .ref h6, .ref h7, .ref h8, .ref h9, .ref h10, .ref h11, .ref h12, .ref h13, .int (-1), .int (-1), .ref h14])), (h1, .inl (g0, 600, .inl zf1))]) [0, 1] (by decide) rfl
  have hKc := hK.sub (tys' := [(g0, .byte)]) [0] rfl
  have hFc := va_free (wc := [(h0, .inr (0, [.ref h1, .int 4, .int 0, .ref h2, .ref h3, .ref h4, .ref h5, .ref h6, .ref h7, .ref h8, .ref h9, .ref h10, .ref h11, .ref h12, .ref h13, .int (-1), .int (-1), .ref h14])), (h1, .inl (g0, 600, .inl zf1))]) hD_2 hS_1 hA [0, 1] rfl
  refine va_callv (va_runV (As := [.int p1]) (rest := []) ⟨hx, hb, hml, hown, hts⟩ (c_CD_putBytes_I_v2 l dC dI h0 p1 h1 h2 h3 h4 h5 h6 h7 h8 h9 h10 h11 h12 h13 h14 g0 zf1 H_1.size) (cwV 1 hts (zt_V k_307 k_308 k_309 k_310 k_306) rfl rfl rfl (by decide +kernel) ⟨Nat.le_of_ble_eq_true rfl, Nat.le_of_ble_eq_true rfl⟩) ⟨fun a U g mk q => by obtain ⟨q0, q1, qP, qK, qD, qX⟩ := q; exact ⟨q0, q1, qP, va_K.moved (u := U) (U := U.calling g mk a) (Vm.Alike.refl U.vm) qK, qD, qX.call⟩, va_recv hKc hPc (ci := 0) (q0 := 0) rfl rfl, fun U hU hW => ⟨rfl, by rw [hU], by rw [hU]; exact hPc, va_K.moved hW.alike hKc, hDc.weaken (fun _ _ _ _ => trivial), hX.warm hW⟩⟩ rfl rfl hl.1 rfl (lv_room (Nat.le_of_ble_eq_true rfl)) d_CD_feed_IIIII_30 ⟨Nat.le_of_ble_eq_true rfl, Nat.le_of_ble_eq_true rfl⟩) hS_1 (fun q _ h => hFc q h) hFc (fun u t H1 locs_2 ht hvm hw hB hz1 hk1 hS_2 => ?_)
  obtain ⟨zf2, hP1, hK1, hD1⟩ := hB
  rw [ht] at hP1
  have hK1 := va_K.moved hvm.symm hK1
  obtain ⟨hP_3, hD_3⟩ := va_join (wr := []) (w1 := [(h0, .inr (0, [.ref h1, .int 8, .int 0, .ref h2, .ref h3, .ref h4, .ref h5, .ref h6, .ref h7, .ref h8, .ref h9, .ref h10, .ref h11, .ref h12, .ref h13, .int (-1), .int (-1), .ref h14])), (h1, .inl (g0, 600, .inl zf2))]) hP_2 hD_2 [0, 1] [] rfl rfl (by decide) (by decide) hk1 hFc hP1 hD1
  clear hP_2 hD_2 hP1 hD1 hPc hDc hKc hFc hk1 hz1
  generalize H1 = H_2 at hP_3 hS_2 ⊢
  have hP_4 : va_P (dC, dI) classes [(h0, .inr (0, [.ref h1, .int 8, .int 0, .ref h2, .ref h3, .ref h4, .ref h5, .ref h6, .ref h7, .ref h8, .ref h9, .ref h10, .ref h11, .ref h12, .ref h13, .int (-1), .int (-1), .ref h14])), (h1, .inl (g0, 600, .inl zf2))] H_2 := hP_3
  clear hP_3
  have hD_4 : va_D A [(h0, .inr (0, [.ref h1, .int 8, .int 0, .ref h2, .ref h3, .ref h4, .ref h5, .ref h6, .ref h7, .ref h8, .ref h9, .ref h10, .ref h11, .ref h12, .ref h13, .int (-1), .int (-1), .ref h14])), (h1, .inl (g0, 600, .inl zf2))] := hD_3
  clear hD_3
  refine W.widen (k := 0) (n := 0) (Nat.le_of_ble_eq_true rfl) (Nat.le_of_ble_eq_true rfl) ?_
  refine lv_aload_n hx hb d_CD_feed_IIIII_33 rfl (lv_at hl 0 rfl) ?_
  refine lv_iload_n hx hb d_CD_feed_IIIII_34 rfl (lv_at hl 3 rfl) ?_
  have hPc := hP_4.sub (ws' := [(h0, .inr (0, [.ref h1, .int 8, .int 0, .ref h2, .ref h3, .ref h4, .ref h5, .ref h6, .ref h7, .ref h8, .ref h9, .ref h10, .ref h11, .ref h12, .ref h13, .int (-1), .int (-1), .ref h14])), (h1, .inl (g0, 600, .inl zf2))]) [0, 1] rfl
  have hDc := hD_4.sub (ws' := [(h0, .inr (0, [.ref h1, .int 8, .int 0, .ref h2, .ref h3, .ref h4, .ref h5, .ref h6, .ref h7, .ref h8, .ref h9, .ref h10, .ref h11, .ref h12, .ref h13, .int (-1), .int (-1), .ref h14])), (h1, .inl (g0, 600, .inl zf2))]) [0, 1] (by decide) rfl
  have hKc := hK.sub (tys' := [(g0, .byte)]) [0] rfl
  have hFc := va_free (wc := [(h0, .inr (0, [.ref h1, .int 8, .int 0, .ref h2, .ref h3, .ref h4, .ref h5, .ref h6, .ref h7, .ref h8, .ref h9, .ref h10, .ref h11, .ref h12, .ref h13, .int (-1), .int (-1), .ref h14])), (h1, .inl (g0, 600, .inl zf2))]) hD_4 hS_2 hA [0, 1] rfl
  refine va_callv (va_runV (As := [.int p2]) (rest := []) ⟨hx, hb, hml, hown, hts⟩ (c_CD_putBytes_I_v3 l dC dI h0 p2 h1 h2 h3 h4 h5 h6 h7 h8 h9 h10 h11 h12 h13 h14 g0 zf2 H_2.size) (cwV 1 hts (zt_V k_307 k_308 k_309 k_310 k_306) rfl rfl rfl (by decide +kernel) ⟨Nat.le_of_ble_eq_true rfl, Nat.le_of_ble_eq_true rfl⟩) ⟨fun a U g mk q => by obtain ⟨q0, q1, qP, qK, qD, qX⟩ := q; exact ⟨q0, q1, qP, va_K.moved (u := U) (U := U.calling g mk a) (Vm.Alike.refl U.vm) qK, qD, qX.call⟩, va_recv hKc hPc (ci := 0) (q0 := 0) rfl rfl, fun U hU hW => ⟨rfl, by rw [hU], by rw [hU]; exact hPc, va_K.moved hW.alike hKc, hDc.weaken (fun _ _ _ _ => trivial), hX.warm hW⟩⟩ rfl rfl hl.1 rfl (lv_room (Nat.le_of_ble_eq_true rfl)) d_CD_feed_IIIII_35 ⟨Nat.le_of_ble_eq_true rfl, Nat.le_of_ble_eq_true rfl⟩) hS_2 (fun q _ h => hFc q h) hFc (fun u t H1 locs_3 ht hvm hw hB hz1 hk1 hS_3 => ?_)
  obtain ⟨zf3, hP1, hK1, hD1⟩ := hB
  rw [ht] at hP1
  have hK1 := va_K.moved hvm.symm hK1
  obtain ⟨hP_5, hD_5⟩ := va_join (wr := []) (w1 := [(h0, .inr (0, [.ref h1, .int 12, .int 0, .ref h2, .ref h3, .ref h4, .ref h5, .ref h6, .ref h7, .ref h8, .ref h9, .ref h10, .ref h11, .ref h12, .ref h13, .int (-1), .int (-1), .ref h14])), (h1, .inl (g0, 600, .inl zf3))]) hP_4 hD_4 [0, 1] [] rfl rfl (by decide) (by decide) hk1 hFc hP1 hD1
  clear hP_4 hD_4 hP1 hD1 hPc hDc hKc hFc hk1 hz1
  generalize H1 = H_3 at hP_5 hS_3 ⊢
  have hP_6 : va_P (dC, dI) classes [(h0, .inr (0, [.ref h1, .int 12, .int 0, .ref h2, .ref h3, .ref h4, .ref h5, .ref h6, .ref h7, .ref h8, .ref h9, .ref h10, .ref h11, .ref h12, .ref h13, .int (-1), .int (-1), .ref h14])), (h1, .inl (g0, 600, .inl zf3))] H_3 := hP_5
  clear hP_5
  have hD_6 : va_D A [(h0, .inr (0, [.ref h1, .int 12, .int 0, .ref h2, .ref h3, .ref h4, .ref h5, .ref h6, .ref h7, .ref h8, .ref h9, .ref h10, .ref h11, .ref h12, .ref h13, .int (-1), .int (-1), .ref h14])), (h1, .inl (g0, 600, .inl zf3))] := hD_5
  clear hD_5
  refine W.widen (k := 0) (n := 0) (Nat.le_of_ble_eq_true rfl) (Nat.le_of_ble_eq_true rfl) ?_
  refine lv_aload_n hx hb d_CD_feed_IIIII_38 rfl (lv_at hl 0 rfl) ?_
  refine lv_iload hx hb d_CD_feed_IIIII_39 (lv_at hl 4 rfl) ?_
  have hPc := hP_6.sub (ws' := [(h0, .inr (0, [.ref h1, .int 12, .int 0, .ref h2, .ref h3, .ref h4, .ref h5, .ref h6, .ref h7, .ref h8, .ref h9, .ref h10, .ref h11, .ref h12, .ref h13, .int (-1), .int (-1), .ref h14])), (h1, .inl (g0, 600, .inl zf3))]) [0, 1] rfl
  have hDc := hD_6.sub (ws' := [(h0, .inr (0, [.ref h1, .int 12, .int 0, .ref h2, .ref h3, .ref h4, .ref h5, .ref h6, .ref h7, .ref h8, .ref h9, .ref h10, .ref h11, .ref h12, .ref h13, .int (-1), .int (-1), .ref h14])), (h1, .inl (g0, 600, .inl zf3))]) [0, 1] (by decide) rfl
  have hKc := hK.sub (tys' := [(g0, .byte)]) [0] rfl
  have hFc := va_free (wc := [(h0, .inr (0, [.ref h1, .int 12, .int 0, .ref h2, .ref h3, .ref h4, .ref h5, .ref h6, .ref h7, .ref h8, .ref h9, .ref h10, .ref h11, .ref h12, .ref h13, .int (-1), .int (-1), .ref h14])), (h1, .inl (g0, 600, .inl zf3))]) hD_6 hS_3 hA [0, 1] rfl
  refine va_callv (va_runV (As := [.int p3]) (rest := []) ⟨hx, hb, hml, hown, hts⟩ (c_CD_putBytes_I_v4 l dC dI h0 p3 h1 h2 h3 h4 h5 h6 h7 h8 h9 h10 h11 h12 h13 h14 g0 zf3 H_3.size) (cwV 1 hts (zt_V k_307 k_308 k_309 k_310 k_306) rfl rfl rfl (by decide +kernel) ⟨Nat.le_of_ble_eq_true rfl, Nat.le_of_ble_eq_true rfl⟩) ⟨fun a U g mk q => by obtain ⟨q0, q1, qP, qK, qD, qX⟩ := q; exact ⟨q0, q1, qP, va_K.moved (u := U) (U := U.calling g mk a) (Vm.Alike.refl U.vm) qK, qD, qX.call⟩, va_recv hKc hPc (ci := 0) (q0 := 0) rfl rfl, fun U hU hW => ⟨rfl, by rw [hU], by rw [hU]; exact hPc, va_K.moved hW.alike hKc, hDc.weaken (fun _ _ _ _ => trivial), hX.warm hW⟩⟩ rfl rfl hl.1 rfl (lv_room (Nat.le_of_ble_eq_true rfl)) d_CD_feed_IIIII_41 ⟨Nat.le_of_ble_eq_true rfl, Nat.le_of_ble_eq_true rfl⟩) hS_3 (fun q _ h => hFc q h) hFc (fun u t H1 locs_4 ht hvm hw hB hz1 hk1 hS_4 => ?_)
  obtain ⟨zf4, hP1, hK1, hD1⟩ := hB
  rw [ht] at hP1
  have hK1 := va_K.moved hvm.symm hK1
  obtain ⟨hP_7, hD_7⟩ := va_join (wr := []) (w1 := [(h0, .inr (0, [.ref h1, .int 16, .int 0, .ref h2, .ref h3, .ref h4, .ref h5, .ref h6, .ref h7, .ref h8, .ref h9, .ref h10, .ref h11, .ref h12, .ref h13, .int (-1), .int (-1), .ref h14])), (h1, .inl (g0, 600, .inl zf4))]) hP_6 hD_6 [0, 1] [] rfl rfl (by decide) (by decide) hk1 hFc hP1 hD1
  clear hP_6 hD_6 hP1 hD1 hPc hDc hKc hFc hk1 hz1
  generalize H1 = H_4 at hP_7 hS_4 ⊢
  have hP_8 : va_P (dC, dI) classes [(h0, .inr (0, [.ref h1, .int 16, .int 0, .ref h2, .ref h3, .ref h4, .ref h5, .ref h6, .ref h7, .ref h8, .ref h9, .ref h10, .ref h11, .ref h12, .ref h13, .int (-1), .int (-1), .ref h14])), (h1, .inl (g0, 600, .inl zf4))] H_4 := hP_7
  clear hP_7
  have hD_8 : va_D A [(h0, .inr (0, [.ref h1, .int 16, .int 0, .ref h2, .ref h3, .ref h4, .ref h5, .ref h6, .ref h7, .ref h8, .ref h9, .ref h10, .ref h11, .ref h12, .ref h13, .int (-1), .int (-1), .ref h14])), (h1, .inl (g0, 600, .inl zf4))] := hD_7
  clear hD_7
  refine W.widen (k := 0) (n := 0) (Nat.le_of_ble_eq_true rfl) (Nat.le_of_ble_eq_true rfl) ?_
  refine lv_aload_n hx hb d_CD_feed_IIIII_44 rfl (lv_at hl 0 rfl) ?_
  refine lv_iload hx hb d_CD_feed_IIIII_45 (lv_at hl 5 rfl) ?_
  have hPc := hP_8.sub (ws' := [(h0, .inr (0, [.ref h1, .int 16, .int 0, .ref h2, .ref h3, .ref h4, .ref h5, .ref h6, .ref h7, .ref h8, .ref h9, .ref h10, .ref h11, .ref h12, .ref h13, .int (-1), .int (-1), .ref h14])), (h1, .inl (g0, 600, .inl zf4))]) [0, 1] rfl
  have hDc := hD_8.sub (ws' := [(h0, .inr (0, [.ref h1, .int 16, .int 0, .ref h2, .ref h3, .ref h4, .ref h5, .ref h6, .ref h7, .ref h8, .ref h9, .ref h10, .ref h11, .ref h12, .ref h13, .int (-1), .int (-1), .ref h14])), (h1, .inl (g0, 600, .inl zf4))]) [0, 1] (by decide) rfl
  have hKc := hK.sub (tys' := [(g0, .byte)]) [0] rfl
  have hFc := va_free (wc := [(h0, .inr (0, [.ref h1, .int 16, .int 0, .ref h2, .ref h3, .ref h4, .ref h5, .ref h6, .ref h7, .ref h8, .ref h9, .ref h10, .ref h11, .ref h12, .ref h13, .int (-1), .int (-1), .ref h14])), (h1, .inl (g0, 600, .inl zf4))]) hD_8 hS_4 hA [0, 1] rfl
  refine va_callv (va_runV (As := [.int p4]) (rest := []) ⟨hx, hb, hml, hown, hts⟩ (c_CD_putBytes_I_v5 l dC dI h0 p4 h1 h2 h3 h4 h5 h6 h7 h8 h9 h10 h11 h12 h13 h14 g0 zf4 H_4.size) (cwV 1 hts (zt_V k_307 k_308 k_309 k_310 k_306) rfl rfl rfl (by decide +kernel) ⟨Nat.le_of_ble_eq_true rfl, Nat.le_of_ble_eq_true rfl⟩) ⟨fun a U g mk q => by obtain ⟨q0, q1, qP, qK, qD, qX⟩ := q; exact ⟨q0, q1, qP, va_K.moved (u := U) (U := U.calling g mk a) (Vm.Alike.refl U.vm) qK, qD, qX.call⟩, va_recv hKc hPc (ci := 0) (q0 := 0) rfl rfl, fun U hU hW => ⟨rfl, by rw [hU], by rw [hU]; exact hPc, va_K.moved hW.alike hKc, hDc.weaken (fun _ _ _ _ => trivial), hX.warm hW⟩⟩ rfl rfl hl.1 rfl (lv_room (Nat.le_of_ble_eq_true rfl)) d_CD_feed_IIIII_47 ⟨Nat.le_of_ble_eq_true rfl, Nat.le_of_ble_eq_true rfl⟩) hS_4 (fun q _ h => hFc q h) hFc (fun u t H1 locs_5 ht hvm hw hB hz1 hk1 hS_5 => ?_)
  obtain ⟨zf5, hP1, hK1, hD1⟩ := hB
  rw [ht] at hP1
  have hK1 := va_K.moved hvm.symm hK1
  obtain ⟨hP_9, hD_9⟩ := va_join (wr := []) (w1 := [(h0, .inr (0, [.ref h1, .int 20, .int 0, .ref h2, .ref h3, .ref h4, .ref h5, .ref h6, .ref h7, .ref h8, .ref h9, .ref h10, .ref h11, .ref h12, .ref h13, .int (-1), .int (-1), .ref h14])), (h1, .inl (g0, 600, .inl zf5))]) hP_8 hD_8 [0, 1] [] rfl rfl (by decide) (by decide) hk1 hFc hP1 hD1
  clear hP_8 hD_8 hP1 hD1 hPc hDc hKc hFc hk1 hz1
  generalize H1 = H_5 at hP_9 hS_5 ⊢
  have hP_10 : va_P (dC, dI) classes [(h0, .inr (0, [.ref h1, .int 20, .int 0, .ref h2, .ref h3, .ref h4, .ref h5, .ref h6, .ref h7, .ref h8, .ref h9, .ref h10, .ref h11, .ref h12, .ref h13, .int (-1), .int (-1), .ref h14])), (h1, .inl (g0, 600, .inl zf5))] H_5 := hP_9
  clear hP_9
  have hD_10 : va_D A [(h0, .inr (0, [.ref h1, .int 20, .int 0, .ref h2, .ref h3, .ref h4, .ref h5, .ref h6, .ref h7, .ref h8, .ref h9, .ref h10, .ref h11, .ref h12, .ref h13, .int (-1), .int (-1), .ref h14])), (h1, .inl (g0, 600, .inl zf5))] := hD_9
  clear hD_9
  refine W.widen (k := 0) (n := 0) (Nat.le_of_ble_eq_true rfl) (Nat.le_of_ble_eq_true rfl) ?_
  refine lv_aload_n hx hb d_CD_feed_IIIII_50 rfl (lv_at hl 0 rfl) ?_
  refine va_get (D := (dC, dI)) (ci := 0) (v := .int 20) (C := R_CD) (T := F_CD) (N := 18) hx hb hts i_CD hown hK hP_10 0 rfl rfl 1 (by decide) (hts _ k_305) (fun _ h9 => h9) rfl d_CD_feed_IIIII_51 ?_
  refine W.widen (k := 0) (n := 0) (Nat.le_of_ble_eq_true rfl) (Nat.le_of_ble_eq_true rfl) ?_
  have hK9 := hK.sub (tys' := []) [] rfl
  exact W.iret (v := 20) hx hb hr (fun t ht hW => ⟨⟨_, (), rfl, rfl, zf5, by rw [ht]; exact hP_10, va_K.moved hW.alike hK9, hD_10⟩, hS_5.F ht⟩) hS_5.2.2 d_CD_feed_IIIII_54
