theorem k_516 : Cond.instantiable "CellDecide" 18 ∈ zg_tbl := zt_1 (List.mem_of_getElem? (i := 34) rfl) rfl
theorem k_517 : Cond.instantiable "CellDecideModel" 117 ∈ zg_tbl := zt_9 (List.mem_of_getElem? (i := 111) rfl) rfl
theorem k_518 : Cond.initialized "java/lang/String" ∈ zg_tbl := zt_1 (List.mem_of_getElem? (i := 8) rfl) rfl
/-! THE CLAIM OUT OF ONE WALK OF THE LAW'S BODY. Your part is whole_start (and what it stands on); all else here is the same for every law, but numbers. -/
def R_law : String := "CellDecideLaw"
def lw_P (b : Addr) (xs : List Int32) (args : Array Value) (s : State) : Prop := args = #[.ref b] ∧ s.IntsAt b xs ∧ xs.length ≤ 6 ∧ (Jvm.Cond.and given_1 narrow_1).before args s = true
def lw_Q (_ : Array Value) (s : State) (o : Outcome) (t : State) : Prop := o = .returned (some (.int 1)) ∧ Framed s o t [] 165474 8605816
def lw_Z (below : List Frame) (a : Array Value) (s : State) : State → Prop := fun t => ∃ o, t.status = .running ∧ Ended t below o ∧ lw_Q a s o t
/-- the law's own end, with 1 on the stack, nothing written that was there before, its room as the claim has it -/
theorem lw_ret {p : Program} {l : Launch} {e : Env} {s : State} {m : MethodId} {below : List Frame} {meth : Method} {c : Code} {b : Nat} (hx : p.tables.exec = Jvm.exec) (hb : c.code = code) (hr : meth.sig.returnType = ret) (hlocks : meth.locks = false) {pc : Nat} {H : Heap} {ls : Array Slot} (hdg : decode code pc = .ok (.ireturn, 1)) : W p l e room_1 s m #[Value.ref b] below meth c H [] 165474 8605816 (lw_Z below #[Value.ref b] s) (F0 m pc ls [.int 1]) := by
  intro T hT X
  obtain ⟨fs, hret, hrun, hended, hW, hframe⟩ := X.leave (v := some (.int 1)) (hlocks := hlocks) (fun h => by rw [hr] at h; cases h)
  have hmeth' : T.vm.method? m = some meth := X.method'
  refine ⟨T.setFrames fs, ?_, .returned (some (.int 1)), hrun, hended, rfl, ⟨_, rfl⟩, hW, hframe⟩
  jvm_step X.here [X.here.top, hx, hb, hdg, hmeth', hr, ret, narrow_b1]
  (try refine ⟨rfl, ?_⟩); (try refine ⟨rfl, ?_⟩)
  first | (intro acts; rw [hret _ acts rfl rfl rfl]) | rw [hret _ _ rfl rfl rfl]
  exact Steps.refl _
/-- what holds at the law's entry: the machine, the code, the tables' words (any of lw_tbl by 'hts w (by decide +kernel)'), the script of L ints xs at the cell b, what the Statement gives of the start (any of its parts by flat_of_before) -/
def lw_At (p : Program) (s : State) (m : MethodId) (meth : Method) (c : Code) (b L : Nat) (xs : Nat → Int32) : Prop :=
  p.tables.exec = Jvm.exec ∧ c.code = code ∧ meth.sig.returnType = ret ∧ c.maxLocals = 7 ∧ s.vm.findClass R_law = some m.cls ∧ (∀ w ∈ lw_tbl, w.before #[Value.ref b] s = true) ∧ va_X b L xs s s.heap ∧ b < s.heap.size ∧ meth.locks = false ∧ (Jvm.Cond.and given_1 narrow_1).before #[Value.ref b] s = true
set_option maxHeartbeats 4000000 in
set_option maxRecDepth 100000 in
theorem zl_facts {p : Program} {s : State} {m : MethodId} {meth : Method} {c : Code} {b L : Nat} {xs : Nat → Int32} (C0 : lw_At p s m meth c b L xs) : ∃ (dC : Nat → ClassId) (dI : Nat → Nat → Nat) (zde str : Nat), (∀ w ∈ zg_tbl, w.before #[Value.ref b] s = true) ∧ va_K (dC, dI) classes [] s ∧ zX s ∧ va_Z "java/lang/String" "COMPACT_STRINGS" "Z" (.int 1) (fun q : Nat => s.heap.size ≤ q) s s.heap ∧ va_Z "java/util/ArrayList" "DEFAULTCAPACITY_EMPTY_ELEMENTDATA" "[Ljava/lang/Object;" (.ref zde) (fun q : Nat => s.heap.size ≤ q) s s.heap ∧ zE (fun q : Nat => s.heap.size ≤ q) s s.heap ∧ zN str s := by
  obtain ⟨hx, hb, hr, hml, hown, htsL, hXs, hbl, hlocks, hgv⟩ := C0
  have hts : ∀ w ∈ zg_tbl, w.before #[Value.ref b] s = true := fun w h => htsL w (zg_in h)
  have hs := flat_of_before _ hgv
  have hA0 : ∀ a : Nat, a < s.heap.size → ¬ (fun q : Nat => s.heap.size ≤ q) a := fun a h => Nat.not_le.mpr h
  obtain ⟨c0, i0, hKn0⟩ := u_known (C := R_CD) (T := F_CD) (N := 18) (n := 18) hts i_CD (hts _ k_516)
  obtain ⟨c1, i1, hKn1⟩ := u_known (C := R_C_Statement) (T := F_C_Statement) (N := 19) (n := 19) hts i_C_Statement (hts _ k_6)
  obtain ⟨c2, i2, hKn2⟩ := u_known (C := R_C_Reader) (T := F_C_Reader) (N := 19) (n := 19) hts i_C_Reader (hts _ k_30)
  obtain ⟨c3, i3, hKn3⟩ := u_known (C := R_C_Polys) (T := F_C_Polys) (N := 1) (n := 1) hts i_C_Polys (hts _ k_46)
  obtain ⟨c4, i4, hKn4⟩ := u_known (C := R_C_Numbers) (T := F_C_Numbers) (N := 4) (n := 4) hts i_C_Numbers (hts _ k_49)
  obtain ⟨c5, i5, hKn5⟩ := u_known (C := R_StringBuilder) (T := F_StringBuilder) (N := 4) (n := 4) hts i_StringBuilder (hts _ k_54)
  obtain ⟨c6, i6, hKn6⟩ := u_known (C := R_C_Splitter) (T := F_C_Splitter) (N := 20) (n := 20) hts i_C_Splitter (hts _ k_83)
  obtain ⟨c7, i7, hKn7⟩ := u_known (C := R_C_Curves) (T := F_C_Curves) (N := 8) (n := 8) hts i_C_Curves (hts _ k_108)
  obtain ⟨c8, i8, hKn8⟩ := u_known (C := R_C_Spot) (T := F_C_Spot) (N := 11) (n := 11) hts i_C_Spot (hts _ k_125)
  obtain ⟨c9, i9, hKn9⟩ := u_known (C := R_C_Line) (T := F_C_Line) (N := 19) (n := 19) hts i_C_Line (hts _ k_136)
  obtain ⟨c10, i10, hKn10⟩ := u_known (C := R_C_Root) (T := F_C_Root) (N := 13) (n := 13) hts i_C_Root (hts _ k_159)
  obtain ⟨c11, i11, hKn11⟩ := u_known (C := R_C_Roots) (T := F_C_Roots) (N := 9) (n := 9) hts i_C_Roots (hts _ k_170)
  obtain ⟨c12, i12, hKn12⟩ := u_known (C := R_ArrayList) (T := F_ArrayList) (N := 3) (n := 3) hts i_ArrayList (hts _ k_179)
  obtain ⟨c13, i13, hKn13⟩ := u_known (C := R_Mod) (T := F_Mod) (N := 117) (n := 117) hts i_Mod (hts _ k_517)
  obtain ⟨dC, dI, hKc⟩ : ∃ (dC : Nat → ClassId) (dI : Nat → Nat → Nat), ∀ (k : Nat) (q : vw_C), classes[k]? = some q → u_Kn s q.1 q.2.1 q.2.2 (dC k) (dI k) := by
    refine ⟨fun k => if k = 0 then c0 else if k = 1 then c1 else if k = 2 then c2 else if k = 3 then c3 else if k = 4 then c4 else if k = 5 then c5 else if k = 6 then c6 else if k = 7 then c7 else if k = 8 then c8 else if k = 9 then c9 else if k = 10 then c10 else if k = 11 then c11 else if k = 12 then c12 else c13, fun k => if k = 0 then i0 else if k = 1 then i1 else if k = 2 then i2 else if k = 3 then i3 else if k = 4 then i4 else if k = 5 then i5 else if k = 6 then i6 else if k = 7 then i7 else if k = 8 then i8 else if k = 9 then i9 else if k = 10 then i10 else if k = 11 then i11 else if k = 12 then i12 else i13, ?_⟩
    intro k q hq
    match k, hq with
    | 0, hq => cases hq; exact hKn0
    | 1, hq => cases hq; exact hKn1
    | 2, hq => cases hq; exact hKn2
    | 3, hq => cases hq; exact hKn3
    | 4, hq => cases hq; exact hKn4
    | 5, hq => cases hq; exact hKn5
    | 6, hq => cases hq; exact hKn6
    | 7, hq => cases hq; exact hKn7
    | 8, hq => cases hq; exact hKn8
    | 9, hq => cases hq; exact hKn9
    | 10, hq => cases hq; exact hKn10
    | 11, hq => cases hq; exact hKn11
    | 12, hq => cases hq; exact hKn12
    | 13, hq => cases hq; exact hKn13
    | k + 14, hq => simp [classes] at hq
  have hde : (Cond.exactly (.static "java/util/ArrayList" "DEFAULTCAPACITY_EMPTY_ELEMENTDATA" "[Ljava/lang/Object;") "[Ljava/lang/Object;").before #[Value.ref b] s = true := hs _ (by decide +kernel)
  obtain ⟨zde, cz, cAz, kAz, q1, -⟩ := Cond.exactly_spec (args := #[Value.ref b]) (first := s) (o := none) (s := s) (idx := []) hde
  have hst : (Cond.exactly (.string "CellDecide" 126) "java/lang/String").before #[Value.ref b] s = true := hs _ (by decide +kernel)
  obtain ⟨str, cs, cAs, kAs, r1, -⟩ := Cond.exactly_spec (args := #[Value.ref b]) (first := s) (o := none) (s := s) (idx := []) hst
  refine ⟨dC, dI, zde, str, hts, ⟨hKc, fun k q h => by simp at h⟩, ⟨va_Nw.of rfl (htsL _ (zt_l1 _ (List.mem_of_getElem? (i := 43) rfl))), va_Nw.of rfl (htsL _ (zt_l2 _ (List.mem_of_getElem? (i := 127) rfl))), va_Nw.of rfl (htsL _ (zt_l2 _ (List.mem_of_getElem? (i := 205) rfl))), va_Nw.of rfl (htsL _ (zt_l7 _ (List.mem_of_getElem? (i := 2) rfl))), (htsL _ (zt_l1 _ (List.mem_of_getElem? (i := 48) rfl))), va_AO.of (htsL _ (zt_l2 _ (List.mem_of_getElem? (i := 203) rfl))), va_AO.of (htsL _ (zt_l7 _ (List.mem_of_getElem? (i := 48) rfl)))⟩, ?_, ?_, ⟨?_, ?_⟩, ?_⟩
  · exact va_Zof (htsL _ (zt_l1 _ (List.mem_of_getElem? (i := 225) rfl))) (hts _ k_518) (va_eqi (hs _ (by decide +kernel))) hA0
  · exact va_Zref (htsL _ (zt_l3 _ (List.mem_of_getElem? (i := 104) rfl))) (hts _ k_180) q1 hA0
  · exact zS.of (htsL _ (zt_l4 _ (List.mem_of_getElem? (i := 193) rfl))) (hs _ (by decide +kernel)) hA0
  · exact zS.of (htsL _ (zt_l4 _ (List.mem_of_getElem? (i := 195) rfl))) (hs _ (by decide +kernel)) hA0
  · exact ⟨va_Nw.of rfl (htsL _ (zt_l4 _ (List.mem_of_getElem? (i := 170) rfl))), va_Nw.of rfl (htsL _ (zt_l4 _ (List.mem_of_getElem? (i := 172) rfl))), va_Nw.of rfl (htsL _ (zt_l4 _ (List.mem_of_getElem? (i := 174) rfl))), va_Nw.of rfl (htsL _ (zt_l4 _ (List.mem_of_getElem? (i := 168) rfl))), vk_R.of (htsL _ (zt_l9 _ (List.mem_of_getElem? (i := 108) rfl))) r1⟩
