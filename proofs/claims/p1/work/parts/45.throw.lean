/-! A throw that is caught by the caller's own handler, the handler's class not yet looked up. -/
def zx_F (e : Env) (s : State) (f : JFrame) (a : Addr) (h : Handler) (vm' : Vm) : Prop :=
  ∀ (Q : Handler → Pre) (E : CtlPost) (d : Bool) (acts : List Action), wp (findHandler f a) Q E e d acts s ↔ Q h d acts (s.setVm vm')
theorem zx_catch {e : Env} {s : State} {a : Addr} {f : JFrame} {r : List Frame} {pc : Nat} {vm' : Vm} (hfind : zx_F e s f a (.found pc) vm') :
    (stepThrowing e s a (.java f :: r)).Is ((s.setVm vm').setFrames (.java { f with pc := pc, stack := [.ref a] } :: r)) [] := by
  simp only [stepThrowing, searchFrame, vmDo]
  generalize hr : Sem.go _ e false [] s = res
  obtain ⟨as, rfl, ha⟩ := Sem.eq_ok_of hr (a := Handler.found pc) (s' := s.setVm vm') (acts' := []) (by simp [hfind _ _ _ _])
  exact ⟨rfl, ha⟩
theorem zx_caught {tb : Tables} {e : Env} {s target : State} {g : JFrame} {c : Code} {below : List Frame} {a : Addr} (h : At s g.method c below) {pc : Nat} {vm' : Vm} (hfind : zx_F e ((s.setTop g).pushFrame (.throwing a)) g a (.found pc) vm')
    (hrest : Steps tb e below ((s.setVm vm').setTop { g with pc := pc, stack := [.ref a] }) target) : Steps tb e below ((s.setTop g).pushFrame (.throwing a)) target := by
  obtain ⟨hgo, hw⟩ := h.throwing a
  refine Steps.head hgo hw ?_
  rw [stepThread_throwing (frames_entered h.top _), (zx_catch (s := (s.setTop g).pushFrame (.throwing a)) hfind).1]
  obtain ⟨g₀, hg⟩ := Option.isSome_iff_exists.mp h.top
  obtain ⟨r, hr⟩ := State.topJava?_eq_some.mp hg
  have hr' : (s.setVm vm').frames = .java g₀ :: r := hr
  rw [State.setTop_of_frames _ hr'] at hrest
  have e1 : (((s.setTop g).pushFrame (.throwing a)).setVm vm').setFrames (.java { g with pc := pc, stack := [.ref a] } :: s.frames.tail) = (s.setVm vm').setFrames (.java { g with pc := pc, stack := [.ref a] } :: r) := by
    rw [State.setTop_of_frames _ hr, State.pushFrame, State.setFrames_setFrames]
    show ((s.setVm vm').setFrames _).setFrames _ = _
    rw [State.setFrames_setFrames, hr]
    rfl
  rw [e1]
  exact hrest
theorem zx_find {e : Env} {s : State} {f : JFrame} {a : Addr} {meth : Method} {code : Code} {x : ExceptionTableEntry} (hm : s.vm.method? f.method = some meth) (hc : meth.code = some code) (htab : code.exceptionTable.toList = [x])
    (hx : covers x f.pc = true) (h0 : x.catchType ≠ 0) {cX : ClassId} {vm' : Vm} (hg : (Jvm.resolveClass f.method.cls x.catchType).Gives e.toSetting s.vm (.ok cX) vm') (hsz : vm'.classes.size ≤ s.vm.classes.size)
    {cell : Cell} (hcell : s.heap[a]? = some cell) (hobj : ∀ k, cell.vm ≠ .statics k) (hk : ∃ k, vm'.classes[cell.cls]? = some k) (hcl : ∃ k, vm'.classes[cX]? = some k) (hfit : vm'.assignable cell.cls cX = true) :
    zx_F e s f a (.found x.handlerPc) vm' := by
  intro Q E d acts
  rw [W.findHandler_eq hm hc, htab]
  simp only [covers] at hx
  obtain ⟨ha, ht⟩ := hg.op (op := VmOp.resolveClass f.method.cls x.catchType) rfl
  simp [findHandler.go, hx, h0, ha, ht, hsz, hcell, hobj, hk, hcl, hfit, VmOp.dirties, VmOp.acts]
/-- how a method ends that throws an object of class XC, no old cell written -/
def zx_Q (XC : String) (below : List Frame) (s : State) (mc ms : Nat) : State → Prop := fun t =>
  t.status = .running ∧ ∃ q : Addr, Ended t below (.threw q) ∧ s.WarmedH t.vm ∧ s.sameButNew ({ t with vm := s.vm } : State) [] mc ms ∧ ∃ ce : Cell, t.heap[q]? = some ce ∧ s.vm.findClass XC = some ce.cls ∧ ce.vm = .none
def zx_Met (l : Launch) (y : MethodName) (ws : List Cond) (rm : Room) (Pc : Array Value → State → Prop) (XC : String) (mc ms : Nat) : Prop :=
  MetFree l y (headSpec ws rm) Pc (fun _ _ _ _ _ => True) (fun _ st o t => ∃ q : Addr, o = .threw q ∧ st.WarmedH t.vm ∧ st.sameButNew ({ t with vm := st.vm } : State) [] mc ms ∧ ∃ ce : Cell, t.heap[q]? = some ce ∧ st.vm.findClass XC = some ce.cls ∧ ce.vm = .none)
theorem zx_ofW {l : Launch} {y : MethodName} {ws ws' : List Cond} {rm : Room} {Pc : Array Value → State → Prop} {XC : String} {mc ms : Nat} {cc : ByteArray} {maxL : Nat} {ret : Option FieldType}
    (hy : plainName y.cls = true) (hw : ws = Cond.code y cc maxL ret :: ws')
    (body : ∀ p e s m args below meth c s₁, BodyLoose p l y (headSpec ws rm) cc maxL ret e s m args below meth c s₁ → c.maxLocals = maxL → Pc args s →
      W p l e (headSpec ws rm).room s m args below meth c s.heap [] 0 0 (zx_Q XC below s mc ms) (entryFrame m args maxL)) : zx_Met l y ws rm Pc XC mc ms := by
  subst hw
  refine MetFree.of_bodyS (code := cc) (maxLocals := maxL) (ret := ret) hy ?_ ?_
  · intro args s m h hn
    obtain ⟨meth, c, h1, h2, h3, h4, h5, h6, -, -⟩ := Cond.code_spec hn (atoms_spec (ws := Jvm.Cond.code y cc maxL ret :: ws') h _ List.mem_cons_self)
    exact ⟨meth, c, h1, h2, h3, h4, h5, h6⟩
  · intro p e s m args below meth c s₁ B hml0 hP _
    have hml : c.maxLocals = maxL := B.maxLocals_eq (atoms_spec (ws := Jvm.Cond.code y cc maxL ret :: ws') B.pre _ List.mem_cons_self)
    have hh0 : s₁.heap = s.heap := by rw [B.state]; rfl
    obtain ⟨t, a1, b1, q, b2, b3, b4, b5⟩ := body p e s m args below meth c s₁ B hml hP s₁ hh0 (Stand.of_body B)
    exact ⟨t, .threw q, a1, b1, b2, q, rfl, b3, b4, b5⟩
section
variable {p : Program} {l : Launch} {e : Env} {R : Room} {s : State} {m : MethodId} {args : Array Value} {below : List Frame} {meth : Method} {c : Code} {H : Heap} {cells slots : Nat}
variable {cc : ByteArray} {pc : Nat} {ls : Array Slot}
/-- 'new E(text); athrow' out of a method without handlers: five instructions in one row -/
theorem zx_throw (hexec : p.tables.exec = Jvm.exec) (hb : c.code = cc) (hfl : l.flags = pinnedFlags ++ [noTraceFlag]) {own XC : String} {names : List String} {ia ib ic : Nat} {tx : String} {str : Nat} (hown : s.vm.findClass own = some m.cls)
    (hclink : (Cond.classLink own ia XC).before args s = true) (hins : (Cond.instantiable XC 6).before args s = true) (hini : (Cond.initialized XC).before args s = true) (hfit : Jvm.Bundle.fit XC = true) (hnames : ∀ n ∈ names, Jvm.Bundle.fit n = true)
    (hat : ∀ a ∈ Jvm.Bundle.ownAtoms own ic XC names, a.before args s = true) (hstr : vk_R own ib tx str s)
    (hml : c.maxLocals = ls.size) (hempty : c.exceptionTable.toList = []) (hlocks : meth.locks = false)
    (hd0 : decode cc pc = .ok (.new ia, 3)) (hd3 : decode cc (pc + 3) = .ok (.dup, 1)) (hd4 : decode cc (pc + 4) = .ok (.ldc ib, 2)) (hd6 : decode cc (pc + 6) = .ok (.invokespecial ic, 3)) (hd9 : decode cc (pc + 9) = .ok (.athrow, 1))
    (hRf : names.length + 3 < R.frames) (hRl : 1 + (13 * (names.length + 1) + 42) ≤ R.locals) (hcells : cells + 1 ≤ R.cells) (hslots : slots + 6 ≤ R.slots) (hH : s.heap.size ≤ H.size) :
    W p l e R s m args below meth c H [] cells slots (zx_Q XC below s (cells + 1) (slots + 6)) (F0 m pc ls []) := by
  intro T hT X
  obtain ⟨vm', cC, kC, hfC, hkC, hord, hsz, X1, st1⟩ := X.newCold hexec hown hclink hins hini (g := F0 m pc ls []) rfl (by rw [hb]; exact hd0) hcells hslots
  have hnew : s.heap.size ≤ T.heap.size := by rw [hT]; exact hH
  have hTh : ((T.setVm vm').pushCell { cls := cC, slots := kC.instanceTypes.map defaultValue, vm := .none }).heap[T.heap.size]? = some (freshCell cC kC) := State.heap_pushCell_size _ _
  generalize hF : (T.setVm vm').pushCell { cls := cC, slots := kC.instanceTypes.map defaultValue, vm := .none } = F at X1 st1 hTh
  have K : W p l e R s m args below meth c F.heap [] (cells + 1) (slots + 6) (zx_Q XC below s (cells + 1) (slots + 6)) (F0 m (pc + 3) ls [.ref T.heap.size]) := by
    refine lv_dup hexec hb hd3 rfl ?_
    refine va_ldcS hexec hb hown hstr hd4 ?_
    intro F2 hF2 X2
    obtain ⟨U, u1, u2, u3, u4, u5, ce, u6, u7⟩ := X2.ctorThrowS hexec (Launch.traces_off hfl X2.admits) hown hfit hnames hat (fun x hx => absurd hx List.not_mem_nil) hfC hkC (a := T.heap.size) (by rw [hF2]; exact hTh) hnew (msg := .ref str) rfl
      (g := F0 m (pc + 3 + 1 + 2) ls [.ref str, .ref T.heap.size, .ref T.heap.size]) rfl hml.symm rfl rfl (rest := []) rfl (by rw [hb]; exact hd6) (by rw [hb]; exact hd9) (fun x hx => by rw [hempty] at hx; cases hx) hRf hRl
    exact ⟨U, u1, u2, T.heap.size, u3, u4, u5, ce, u6, u7.cls, u7.vm⟩
  obtain ⟨t, a1, b1⟩ := K F rfl X1
  exact ⟨t, st1 t a1, b1⟩
end
