section
variable {p : Program} {l : Launch} {e : Env} {R : Room} {s : State} {m : MethodId} {args : Array Value} {below : List Frame} {meth : Method} {c : Code} {H : Heap} {locs : List Loc} {cells slots : Nat} {Q : State → Prop}
variable {cc : ByteArray} {pc : Nat} {ls : Array Slot}
/-- invokevirtual of a method that throws, taken by the one handler of this method -/
theorem zx_callV (hexec : p.tables.exec = Jvm.exec) (hb : c.code = cc) (hml : c.maxLocals = ls.size) {own C XC : String} {index ct hp st0 en0 : Nat} {y : MethodName} {bytes : ByteArray} {maxL : Nat} {ret : Option FieldType} {ws : List Cond} {rm : Room} {Pc : Array Value → State → Prop} {mc ms : Nat}
    (hown : s.vm.findClass own = some m.cls) (hM : zx_Met l y ws rm Pc XC mc ms) (hfb : FrameBlind Pc)
    (hlink : (Cond.methodLink own index y).before args s = true) (hinst : (Cond.instanceMethod y).before args s = true) (hsel : (Cond.selects C y y).before args s = true) (hcode : (Cond.code y bytes maxL ret).before args s = true)
    (hini : (Cond.initialized y.cls).before args s = true) (hy : y.cls ≠ "java/lang/invoke/MethodHandle" ∧ y.cls ≠ "java/lang/invoke/VarHandle")
    (hws : ∀ w ∈ ws, ∀ a' U, s.WarmedH U.vm → w.before a' U = true) (hcw : Cond.code y bytes maxL ret ∈ ws) (hiw : ∀ a' U, s.WarmedH U.vm → (Cond.initialized y.cls).before a' U = true)
    (hframes : rm.frames + 1 ≤ R.frames) (hlocals : 8 + (maxL + 11) + rm.locals ≤ R.locals) (hrc : rm.cells = mc) (hrs : rm.slots = ms) (hf1 : cells + mc ≤ R.cells) (hf2 : slots + ms ≤ R.slots)
    (htab : c.exceptionTable.toList.map (fun h => (h.startPc, h.endPc, h.handlerPc, h.catchType)) = [(st0, en0, hp, ct)]) (hcov1 : st0 ≤ pc) (hcov2 : pc < en0) (hct : ct ≠ 0)
    (hclink : (Cond.classLink own ct XC).before args s = true) (hcast : (Cond.castable XC XC).before args s = true) (hins : (Cond.instantiable XC 6).before args s = true)
    {b : Addr} {cellB : Cell} (hcell : H[b]? = some cellB) (hobj : cellB.vm.isStatics = false) (hcls : s.vm.findClass C = some cellB.cls)
    {As rest : List Value} (hlen : ∀ sig, parseMethodDescriptor y.desc = some sig → As.length = sig.parameters.length) (hdg : decode cc pc = .ok (.invokevirtual index, 3))
    (hW : (rest.map fun v => v.category).sum ≤ 8) (hpre : ∀ U : State, U.heap = H → s.WarmedH U.vm → Pc (Value.ref b :: As).toArray U)
    (kk : ∀ (q : Nat) (H1 : Heap), H.size ≤ H1.size → (∀ a : Nat, a < H.size → H1[a]? = H[a]?) → W p l e R s m args below meth c H1 locs (cells + mc) (slots + ms) Q (F0 m hp ls [.ref q])) :
    W p l e R s m args below meth c H locs cells slots Q (F0 m pc ls (As.reverse ++ .ref b :: rest)) := by
  intro T hT X
  subst hT
  have hpl : e.platform.magicAccessors = ({} : Platform).magicAccessors := by rw [X.admits.platform]
  obtain ⟨mk, methM, hnamed, hmethM, hstM, habM⟩ := Cond.instanceMethod_spec hinst
  obtain ⟨methM', cM, hmethM', hcM, -, hlM, -, -, -, hsigM⟩ := Cond.code_spec hnamed hcode
  cases hmethM.symm.trans hmethM'
  obtain ⟨c2, r2, m2, q1, q2, q3, q4, kP, hkP, hkPi⟩ := Cond.selects_spec hsel
  cases hcls.symm.trans q1
  cases (State.methodFound?_of_named hnamed hy).symm.trans q2
  cases hnamed.symm.trans q3
  have hselP : selectMethod e.platform s.vm cellB.cls mk = .method mk := by rw [Launch.admits_selectMethod X.admits]; exact q4
  obtain ⟨vm₁, X₁, hstep₁⟩ := X.invokevirtual hexec hown hlink hnamed hmethM hstM hkP hkPi hy (a := b) (cell := cellB) hcell
    (fun z h => by rw [h] at hobj; cases hobj) hselP hmethM habM hkP hkPi (g := F0 m pc ls (As.reverse ++ .ref b :: rest)) rfl (argsL := As) (rest := rest) (hlen _ hsigM) rfl (by rw [hb]; exact hdg)
  have hn₁ : (T.setVm vm₁).methodNamed? y = some mk := X₁.named hnamed
  obtain ⟨m9, methY, cY, hn9, hmY, hcY, -, hlY, -⟩ : ∃ m9 methY cY, (T.setVm vm₁).methodNamed? y = some m9 ∧ (T.setVm vm₁).vm.method? m9 = some methY ∧ methY.code = some cY ∧ True ∧ cY.maxLocals = maxL ∧ True := by
    obtain ⟨a1, a2, a3, a4, a5, a6, -⟩ := Cond.code_spec hn₁ (hws _ hcw (Value.ref b :: As).toArray (T.setVm vm₁) X₁.warmed)
    exact ⟨mk, a1, a2, hn₁, a3, a4, trivial, a6, trivial⟩
  cases hn₁.symm.trans hn9
  obtain ⟨kY, hkY, -⟩ := className_of_methodNamed hn₁
  have hinitY : kY.init = .initialized := Cond.initialized_spec (findClass_of_methodNamed hn₁) hkY (hiw (Value.ref b :: As).toArray (T.setVm vm₁) X₁.warmed)
  have h : At (T.setVm vm₁) m c below := X₁.here
  have happ : (headSpec ws rm).appliesLoose y e.platform ((T.setVm vm₁).calling (F0 m pc ls rest) mk (Value.ref b :: As).toArray) = true :=
    Spec.appliesLoose_calling (g := F0 m pc ls rest) h (by rw [hb]; exact hdg) hn₁ hkY hinitY
      (X₁.room_calling (g := F0 m pc ls rest) (R' := rm) hml.symm hmY hcY hframes (by rw [hlY]; have h8 : 2 * (F0 m pc ls rest).monitorRoom + ((F0 m pc ls rest).stack.map fun v => v.category).sum ≤ 8 := lv_room hW; omega) (by rw [hrc]; exact hf1) (by rw [hrs]; exact hf2)) (atoms_intro fun w hw => hws w hw _ _ X₁.warmed)
  obtain ⟨mid, hmid⟩ := h.above
  have hfr : ((T.setVm vm₁).setTop (F0 m pc ls rest)).frames = (.java (F0 m pc ls rest) :: mid) ++ below := by rw [State.frames_setTop' (F0 m pc ls rest) h.top, hmid]; rfl
  obtain ⟨o, s₂, hsteps, -, hend, hq⟩ := Jvm.Free.Steps.callFree hM p X₁.admits X₁.cas X₁.clock (acts := []) hfr happ (hfb _ _ _ _ (hpre (T.setVm vm₁) rfl X₁.warmed)) trivial
  obtain ⟨q, rfl, hW₂, hsb, ce, hce, hceC, hcev⟩ := hq
  have hW' : (T.setVm vm₁).WarmedH s₂.vm := hW₂
  have hWs : s.WarmedH s₂.vm := State.WarmedH.trans X₁.warmed hW'
  obtain ⟨e2, p2, p3, p4, p5, p6⟩ := id hsb
  have e3 : s₂ = ({ ((T.setVm vm₁).calling (F0 m pc ls rest) mk (Value.ref b :: As).toArray).setFrames s₂.frames with heap := s₂.heap, slotsUsed := s₂.slotsUsed } : State).setVm s₂.vm := by
    have e4 : s₂ = ({ s₂ with vm := ((T.setVm vm₁).calling (F0 m pc ls rest) mk (Value.ref b :: As).toArray).vm } : State).setVm s₂.vm := rfl
    have e2' : ({ s₂ with vm := ((T.setVm vm₁).calling (F0 m pc ls rest) mk (Value.ref b :: As).toArray).vm } : State) = ({ ((T.setVm vm₁).calling (F0 m pc ls rest) mk (Value.ref b :: As).toArray).setFrames s₂.frames with heap := s₂.heap, slotsUsed := s₂.slotsUsed } : State) := e2
    rw [e2'] at e4
    exact e4
  rw [State.frames_setTop' (F0 m pc ls rest) h.top] at hend
  have hf₂ : s₂.frames = .throwing q :: .java (F0 m pc ls rest) :: (T.setVm vm₁).frames.tail := hend
  obtain ⟨g₀, hg0⟩ := Option.isSome_iff_exists.mp h.top
  obtain ⟨r, hr⟩ := State.topJava?_eq_some.mp hg0
  generalize hU' : (({ T.setVm vm₁ with heap := s₂.heap, slotsUsed := s₂.slotsUsed } : State).setVm s₂.vm) = U'
  have hr' : U'.frames = .java g₀ :: r := by rw [← hU']; exact hr
  have hs₂ : s₂ = (U'.setTop (F0 m pc ls rest)).pushFrame (.throwing q) := by
    refine e3.trans ?_
    rw [hf₂, State.calling_eq h.top, State.setFrames_setFrames, State.pushFrame, State.frames_setTop _ hr', State.setTop_of_frames _ hr', State.setFrames_setFrames, hr, ← hU']
    rfl
  have hsame : (T.setVm vm₁).sameButNew ({ T.setVm vm₁ with heap := s₂.heap, slotsUsed := s₂.slotsUsed } : State) [] mc ms := by
    refine ⟨?_, p2, p3, p4, p5, p6⟩
    obtain ⟨t, ht, -⟩ := State.frames_cons hr
    show ({ T.setVm vm₁ with heap := s₂.heap, slotsUsed := s₂.slotsUsed } : State) = { (T.setVm vm₁).setFrames (T.setVm vm₁).frames with heap := s₂.heap, slotsUsed := s₂.slotsUsed }
    rw [State.setFrames_self ht]
  have X' : Stand p l e R s m args below meth c U' locs (cells + mc) (slots + ms) := by
    have X2 : Stand p l e R s m args below meth c (({ T.setVm vm₁ with heap := s₂.heap, slotsUsed := s₂.slotsUsed } : State).setVm s₂.vm) (locs ++ []) (cells + mc) (slots + ms) :=
      ⟨X₁.admits, X₁.cas, X₁.clock, X₁.frames, X₁.room, X₁.hears, X₁.method, X₁.code, (X₁.here.setHeapUsed s₂.heap s₂.slotsUsed).setVm hW'.alike, X₁.tail, hWs, X₁.limits, X₁.bytes, X₁.same.trans (hsame.setVm s.vm)⟩
    rw [hU', List.append_nil] at X2
    exact X2
  have hUh : U'.heap = s₂.heap := by rw [← hU']; rfl
  have hUv : U'.vm = s₂.vm := by rw [← hU']; rfl
  obtain ⟨c0, hfc0, hcl⟩ := Cond.classLink_spec hown hclink e.platform hpl
  obtain ⟨hg₃, hwarm₃, hready₃⟩ := State.classEntry (e := e) X'.warmed hcl
  generalize U'.vm.noted m.cls ct (.cls c0) = vm₃ at hg₃ hwarm₃ hready₃
  have hex : ∃ x : ExceptionTableEntry, c.exceptionTable.toList = [x] ∧ x.startPc = st0 ∧ x.endPc = en0 ∧ x.handlerPc = hp ∧ x.catchType = ct := by
    match hL : c.exceptionTable.toList, htab with
    | [x], h1 =>
      have h2 := List.cons.inj h1
      have h3 := Prod.mk.inj h2.1
      have h4 := Prod.mk.inj h3.2
      have h5 := Prod.mk.inj h4.2
      exact ⟨x, rfl, h3.1, h4.1, h5.1, h5.2⟩
    | [], h1 => cases h1
    | x :: y :: z, h1 => exact absurd (List.cons.inj h1).2 (by simp)
  obtain ⟨x, hx0, hx1, hx2, hx3, hx4⟩ := hex
  have hceC' : s.vm.findClass XC = some ce.cls := by rw [← X₁.warmed.alike.findClass]; exact hceC
  cases hceC'.symm.trans hfc0
  have hcast3 : (Cond.castable XC XC).before #[] (U'.setVm vm₃) = true := va_Nw.warmC (s := s) (U := U'.setVm vm₃) hwarm₃ (va_Nw.of rfl hcast)
  obtain ⟨c3, c4, hc3, hc4, hasg⟩ := Cond.castable_spec hcast3
  have hf3 : (U'.setVm vm₃).vm.findClass XC = some ce.cls := by show vm₃.findClass XC = _; rw [hwarm₃.alike.findClass]; exact hceC'
  cases hc3.symm.trans hf3
  cases hc4.symm.trans hf3
  obtain ⟨kX, hkX⟩ : ∃ k, s.vm.classes[ce.cls]? = some k := by
    obtain ⟨c9, k9, h91, h92, -⟩ := Cond.instantiable_spec hins
    cases h91.symm.trans hceC'
    exact ⟨k9, h92⟩
  obtain ⟨kX3, hkX3, -⟩ := hwarm₃.alike.2.2 _ _ hkX
  have hfind : zx_F e ((U'.setTop (F0 m pc ls rest)).pushFrame (.throwing q)) (F0 m pc ls rest) q (.found hp) vm₃ := by
    rw [← hx3]
    refine zx_find (meth := meth) (code := c) (x := x) (cX := ce.cls) (cell := ce) (by rw [Stand.throwing_vm]; exact X'.method') X'.code hx0 (by unfold covers; rw [hx1, hx2]; simp [hcov1, hcov2]) (by rw [hx4]; exact hct) (by rw [Stand.throwing_vm, hx4]; exact hg₃) ?_ (by rw [Stand.throwing_heap, hUh]; exact hce) (fun k h => by rw [hcev] at h; cases h) ⟨kX3, hkX3⟩ ⟨kX3, hkX3⟩ hasg
    rw [Stand.throwing_vm]
    no_record
  have hkeep : ∀ a : Nat, a < T.heap.size → s₂.heap[a]? = T.heap[a]? := fun a ha => by
    obtain ⟨c1, hc1⟩ : ∃ c1, T.heap[a]? = some c1 := ⟨_, Array.getElem?_eq_getElem ha⟩
    obtain ⟨c', h1, h2, h3, h4⟩ := p6 a c1 hc1
    rw [hc1]
    show s₂.heap[a]? = some c1
    have h5 : c'.slots = c1.slots := by
      apply Array.ext_getElem?
      intro i
      exact h4 i (by simp)
    have h6 : c' = c1 := by rw [h2, h5]
    rw [← h6]
    exact h1
  obtain ⟨t, t1, t2⟩ := kk q s₂.heap p2 hkeep (U'.setVm vm₃) hUh (X'.noted hwarm₃)
  refine ⟨t, hstep₁ _ (fun acts => ?_), t2⟩
  rw [doInvoke_state]
  refine hsteps.trans ?_
  rw [hs₂]
  exact zx_caught (g := F0 m pc ls rest) X'.here hfind t1
end
