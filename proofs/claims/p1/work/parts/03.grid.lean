/-! Arrays of int arrays: the machine's 'multianewarray' of two dimensions over a world, and 'aaload' out of one. -/
def zm_o (cA : ClassId) (N h i : Nat) : Cell := arrV cA N (fun j => if j < i then .ref (h + 1 + j) else .null)
theorem zm_o_next (cA : ClassId) (N h i : Nat) : (zm_o cA N h i).setSlot i (.ref (h + 1 + i)) = zm_o cA N h (i + 1) := by
  unfold zm_o
  rw [arrV_store]
  refine congrArg (arrV cA N) (funext fun j => ?_)
  by_cases e : j = i
  · subst e
    simp [updV]
  · by_cases h1 : j < i
    · simp [updV, e, h1, Nat.lt_succ_of_lt h1]
    · simp [updV, e, h1, show ¬ j < i + 1 by omega]
def zm_r (T : State) (cA cI : ClassId) (N K : Nat) : Nat → State
  | 0 => T.pushCell (zm_o cA N T.heap.size 0)
  | i + 1 => ((zm_r T cA cI N K i).pushCell (arrV cI K (fun _ => .int 0))).setCell T.heap.size (zm_o cA N T.heap.size (i + 1))
theorem zm_f (T : State) (cA cI : ClassId) (N K : Nat) : ∀ i, (zm_r T cA cI N K i).heap.size = T.heap.size + 1 + i ∧ (zm_r T cA cI N K i).heap[T.heap.size]? = some (zm_o cA N T.heap.size i) ∧ (zm_r T cA cI N K i).vm = T.vm ∧ (zm_r T cA cI N K i).slotsUsed = T.slotsUsed + N + i * K ∧ (∀ a : Nat, a < T.heap.size → (zm_r T cA cI N K i).heap[a]? = T.heap[a]?) ∧ ∀ j : Nat, j < i → (zm_r T cA cI N K i).heap[T.heap.size + 1 + j]? = some (arrV cI K (fun _ => .int 0))
  | 0 => ⟨by simp [zm_r], by simp [zm_r], rfl, by simp [zm_r, zm_o, arrV], fun a h => State.heap_pushCell_of_lt _ _ h, fun j h => absurd h (Nat.not_lt_zero _)⟩
  | i + 1 => by
    obtain ⟨f1, f2, f3, f4, f5, f6⟩ := zm_f T cA cI N K i
    have h0 : T.heap.size < (zm_r T cA cI N K i).heap.size := by omega
    have hb : ((zm_r T cA cI N K i).pushCell (arrV cI K (fun _ => .int 0))).heap[T.heap.size]? = some (zm_o cA N T.heap.size i) := by
      rw [State.heap_pushCell_of_lt (h := h0)]
      exact f2
    refine ⟨?_, State.heap_setCell_self hb, by simp [zm_r, f3], ?_, fun a h => ?_, fun j h => ?_⟩
    · simp [zm_r, State.setCell, f1]
      omega
    · simp [zm_r, f4, arrV, Nat.succ_mul]
      omega
    · show (((zm_r T cA cI N K i).pushCell (arrV cI K (fun _ => .int 0))).setCell T.heap.size _).heap[a]? = _
      rw [State.heap_setCell_other (Nat.ne_of_gt h), State.heap_pushCell_of_lt (h := (show a < (zm_r T cA cI N K i).heap.size by omega))]
      exact f5 a h
    · show (((zm_r T cA cI N K i).pushCell (arrV cI K (fun _ => .int 0))).setCell T.heap.size _).heap[T.heap.size + 1 + j]? = _
      rw [State.heap_setCell_other (show T.heap.size ≠ T.heap.size + 1 + j by omega)]
      rcases Nat.lt_or_ge j i with hj | hj
      · rw [State.heap_pushCell_of_lt (h := (show T.heap.size + 1 + j < (zm_r T cA cI N K i).heap.size by omega))]
        exact f6 j hj
      · have e : j = i := by omega
        subst e
        rw [← f1]
        exact State.heap_pushCell_size _ _
theorem zm_top (T : State) (f : JFrame) (cA cI : ClassId) (N K : Nat) : ∀ i, zm_r (T.setTop f) cA cI N K i = (zm_r T cA cI N K i).setTop f
  | 0 => rfl
  | i + 1 => by simp only [zm_r, zm_top T f cA cI N K i, State.heap_setTop, State.pushCell_setTop, State.setCell_setTop]
section
variable {p : Program} {l : Launch} {e : Env} {R : Room} {s : State} {m : MethodId} {args : Array Value} {below : List Frame} {meth : Method} {c : Code} {T : State} {locs : List Loc} {cells slots : Nat}
theorem zm_stand (X : Stand p l e R s m args below meth c T locs cells slots) (cA cI : ClassId) (N K : Nat) : ∀ i, ∃ L : List Loc, (∀ q ∈ L, q.base = T.heap.size) ∧ Stand p l e R s m args below meth c (zm_r T cA cI N K i) (locs ++ L) (cells + 1 + i) (slots + N + i * K)
  | 0 => by
    have h := X.pushed (zm_o cA N T.heap.size 0)
    rw [show (zm_o cA N T.heap.size 0).slots.size = N from arrV_size _ _ _] at h
    exact ⟨[], fun q h => absurd h List.not_mem_nil, by simpa [zm_r] using h⟩
  | i + 1 => by
    obtain ⟨L, hL, Xi⟩ := zm_stand X cA cI N K i
    obtain ⟨f1, f2, -, -, -, -⟩ := zm_f T cA cI N K i
    have h0 : T.heap.size < (zm_r T cA cI N K i).heap.size := by omega
    have hb : ((zm_r T cA cI N K i).pushCell (arrV cI K (fun _ => .int 0))).heap[T.heap.size]? = some (zm_o cA N T.heap.size i) := by
      rw [State.heap_pushCell_of_lt (h := h0)]
      exact f2
    have h := (Xi.pushed (arrV cI K (fun _ => .int 0))).stored hb i (.ref (T.heap.size + 1 + i))
    rw [arrV_size, zm_o_next, List.append_assoc] at h
    refine ⟨L ++ [⟨T.heap.size, i⟩], fun q hq => ?_, ?_⟩
    · rcases List.mem_append.mp hq with hq | hq
      · exact hL q hq
      · rw [List.mem_singleton.mp hq]
    · rw [show slots + N + (i + 1) * K = slots + N + i * K + K by rw [Nat.succ_mul]; omega]
      exact h
end
section
variable {E : CtlPost} {e : Env} {d : Bool} {acts : List Action} {s : State}
theorem zm_make1 {cI cc : ClassId} {kc : Class} {k : Int32} (hkc : s.vm.classes[cI]? = some kc) (hkind : kc.kind = .array cc .int) (hk : ¬ k < 0) (hl : ¬ k.toNatClampNeg > e.platform.arrayLengthLimit) (hh : ¬ k.toNatClampNeg * componentBytes .int > e.platform.maxHeapBytes)
    (h1 : s.heap.size < e.platform.maxCells) (h2 : s.slotsUsed + k.toNatClampNeg ≤ e.platform.maxSlots) {Q : Addr → Pre} (hq : ∀ acts', Q s.heap.size d acts' (s.pushCell (arrV cI k.toNatClampNeg (fun _ => .int 0)))) : wp (multianewarray.make cI [k]) Q E e d acts s := by
  rw [multianewarray.make]
  simp only [wp_bind', W.ite, hk, if_false, wp_pure', W.theClass, hkc, hkind, Option.some.injEq, exists_eq_left']
  refine W.newArray_of hkc hkind hl hh h1 h2 rfl (fun acts' => ?_)
  have h := hq acts'
  rw [← arrV_new] at h
  exact h
theorem zm_make2 {cA cI cc : ClassId} {kA kc : Class} {n k : Int32} (hkA : s.vm.classes[cA]? = some kA) (hkindA : kA.kind = .array cI (.array .int)) (hkc : s.vm.classes[cI]? = some kc) (hkind : kc.kind = .array cc .int) (hn : ¬ n < 0) (hk : ¬ k < 0)
    (hl1 : ¬ n.toNatClampNeg > e.platform.arrayLengthLimit) (hh1 : ¬ n.toNatClampNeg * componentBytes (.array .int) > e.platform.maxHeapBytes) (hl : ¬ k.toNatClampNeg > e.platform.arrayLengthLimit) (hh : ¬ k.toNatClampNeg * componentBytes .int > e.platform.maxHeapBytes)
    (hc : s.heap.size + 1 + n.toNatClampNeg ≤ e.platform.maxCells) (hs : s.slotsUsed + n.toNatClampNeg + n.toNatClampNeg * k.toNatClampNeg ≤ e.platform.maxSlots)
    {Q : Addr → Pre} (hq : ∀ d' acts', Q s.heap.size d' acts' (zm_r s cA cI n.toNatClampNeg k.toNatClampNeg n.toNatClampNeg)) : wp (multianewarray.make cA [n, k]) Q E e d acts s := by
  have hnone : ([k].find? (· < 0)) = none := by simp [hk]
  rw [multianewarray.make]
  simp only [wp_bind', W.ite, hn, if_false, wp_pure', W.theClass, hkA, hkindA, Option.some.injEq, exists_eq_left']
  refine W.newArray_of hkA hkindA hl1 hh1 (by omega) (by have := Nat.zero_le (n.toNatClampNeg * k.toNatClampNeg); omega) rfl (fun acts' => ?_)
  simp only [hnone]
  rw [ite_self, wp_bind', Std.Legacy.Range.forIn_eq_forIn_range']
  rw [show ([:n.toNatClampNeg] : Std.Legacy.Range).size = n.toNatClampNeg by simp [Std.Legacy.Range.size]]
  show wp (forIn (List.range' 0 n.toNatClampNeg 1) PUnit.unit _) _ E e d acts' _
  refine wp_forIn_inv (fun rest s' => ∃ i, i ≤ n.toNatClampNeg ∧ rest = List.range' i (n.toNatClampNeg - i) ∧ s' = zm_r s cA cI n.toNatClampNeg k.toNatClampNeg i) _ _ ⟨0, Nat.zero_le _, rfl, ?_⟩ ?_ ?_
  · show s.pushCell _ = s.pushCell _
    rw [arrV_new]
    rfl
  · rintro x rest s' d' acts'' Q' ⟨i, hi, hr, rfl⟩ hnext
    have hlt : i < n.toNatClampNeg := by
      rcases Nat.lt_or_ge i n.toNatClampNeg with h | h
      · exact h
      · rw [show n.toNatClampNeg - i = 0 by omega] at hr
        simp at hr
    rw [show n.toNatClampNeg - i = (n.toNatClampNeg - (i + 1)) + 1 by omega, List.range'_succ] at hr
    obtain ⟨rfl, hr2⟩ := List.cons.inj hr
    obtain ⟨f1, f2, f3, f4, -, -⟩ := zm_f s cA cI n.toNatClampNeg k.toNatClampNeg x
    have hmul : x * k.toNatClampNeg + k.toNatClampNeg ≤ n.toNatClampNeg * k.toNatClampNeg := by
      have := Nat.mul_le_mul_right k.toNatClampNeg (show x + 1 ≤ n.toNatClampNeg from hlt)
      rw [Nat.succ_mul] at this
      exact this
    simp only [wp_bind']
    refine zm_make1 (by rw [f3]; exact hkc) hkind hk hl hh (by omega) (by omega) (fun acts3 => ?_)
    have h0 : s.heap.size < (zm_r s cA cI n.toNatClampNeg k.toNatClampNeg x).heap.size := by omega
    simp only [wp_bind', W.writeLoc, wp_pure']
    refine ⟨zm_o cA n.toNatClampNeg s.heap.size x, by rw [State.heap_pushCell_of_lt (h := h0)]; exact f2, (fun h => by cases h), by rw [show (zm_o cA n.toNatClampNeg s.heap.size x).slots.size = n.toNatClampNeg from arrV_size _ _ _]; exact hlt, ?_, hnext _ _ _ ⟨x + 1, hlt, hr2, ?_⟩⟩
    · simp [zm_o, arrV, State.fitsSlot, State.slotType?, f3, hkA, hkindA, fits]
    · rw [f1, zm_o_next]
      rfl
  · rintro s' d' acts'' ⟨i, hi, hr, rfl⟩
    have hiN : i = n.toNatClampNeg := by
      rcases Nat.lt_or_ge i n.toNatClampNeg with h | h
      · rw [show n.toNatClampNeg - i = (n.toNatClampNeg - (i + 1)) + 1 by omega, List.range'_succ] at hr
        cases hr
      · omega
    subst hiN
    simp only [wp_pure']
    exact hq _ _
end
section
variable {p : Program} {l : Launch} {e : Env} {R : Room} {s : State} {m : MethodId} {args : Array Value} {below : List Frame} {meth : Method} {c : Code} {T : State} {locs : List Loc} {cells slots : Nat}
theorem zm_step (X : Stand p l e R s m args below meth c T locs cells slots) (hexec : p.tables.exec = Jvm.exec) {own : String} {index : Nat} (hown : s.vm.findClass own = some m.cls) (hclink : (Cond.classLink own index "[[I").before args s = true)
    (hover : (Cond.arrayOver (.array .int)).before #[] s = true) (harr : (Cond.arrayClass .int).before args s = true) {g : JFrame} (hg : g.method = m) (hdg : decode c.code g.pc = .ok (.multianewarray index 2, 4)) {n k : Int32} {rest : List Value} (hstack : g.stack = .int k :: .int n :: rest)
    (hn : ¬ n < 0) (hk : ¬ k < 0) (hb1 : n.toNatClampNeg * 4 ≤ 536870912) (hb2 : k.toNatClampNeg * 4 ≤ 536870912) (hcells : cells + (1 + n.toNatClampNeg) ≤ R.cells) (hslots : slots + (n.toNatClampNeg + n.toNatClampNeg * k.toNatClampNeg) ≤ R.slots) :
    ∃ (vm₁ : Vm) (cA cI : ClassId) (L : List Loc), (∀ q ∈ L, q.base = T.heap.size) ∧ (∃ kA : Class, s.vm.classes[cA]? = some kA ∧ kA.kind = .array cI (.array .int)) ∧ (∃ (kC : Class) (cc : ClassId), s.vm.classes[cI]? = some kC ∧ kC.kind = .array cc .int) ∧ s.vm.findClass "[[I" = some cA ∧ s.vm.findClass "[I" = some cI ∧
      Stand p l e R s m args below meth c (zm_r (T.setVm vm₁) cA cI n.toNatClampNeg k.toNatClampNeg n.toNatClampNeg) (locs ++ L) (cells + 1 + n.toNatClampNeg) (slots + n.toNatClampNeg + n.toNatClampNeg * k.toNatClampNeg) ∧
      ∀ target, Steps p.tables e below ((zm_r (T.setVm vm₁) cA cI n.toNatClampNeg k.toNatClampNeg n.toNatClampNeg).setTop { g with pc := g.pc + 4, stack := .ref T.heap.size :: rest }) target → Steps p.tables e below (T.setTop g) target := by
  subst hg
  have hpl : e.platform.magicAccessors = ({} : Platform).magicAccessors := by rw [X.admits.platform]
  obtain ⟨cI, cA, kA, hcI, -, hkA, hkindA, hnA⟩ := arrayOverA_spec hover
  obtain ⟨cJ, kC, cc, hcJ, hkC, hkindC⟩ := Cond.arrayClass_spec harr
  have eJ : cJ = cI := Option.some.inj (hcJ.symm.trans hcI)
  subst eJ
  obtain ⟨c0, hfc0, hcl⟩ := Cond.classLink_spec hown hclink e.platform hpl
  have hnA : s.vm.findClass "[[I" = some cA := hnA
  cases hnA.symm.trans hfc0
  obtain ⟨hg₁, hwarm₁, hready₁⟩ := State.classEntry (e := e) X.warmed hcl
  generalize T.vm.noted g.method.cls index (.cls cA) = vm₁ at hg₁ hwarm₁ hready₁
  obtain ⟨kA₁, hkA₁, heA⟩ := hwarm₁.alike.2.2 _ _ hkA
  obtain ⟨kC₁, hkC₁, heC⟩ := hwarm₁.alike.2.2 _ _ hkC
  have hkindA₁ : kA₁.kind = .array cJ (.array .int) := by rw [heA]; exact hkindA
  have hkindC₁ : kC₁.kind = .array cc .int := by rw [heC]; exact hkindC
  have X₁ := X.noted hwarm₁
  obtain ⟨L, hL, XL⟩ := zm_stand X₁ cA cJ n.toNatClampNeg k.toNatClampNeg n.toNatClampNeg
  obtain ⟨hr1, hr2⟩ := X.roomAbove hcells hslots
  refine ⟨vm₁, cA, cJ, L, hL, ⟨kA, hkA, hkindA⟩, ⟨kC, cc, hkC, hkindC⟩, hnA, hcI, XL, fun target hrest => ?_⟩
  have hl1 : ¬ n.toNatClampNeg > e.platform.arrayLengthLimit := by rw [Launch.admits_arrayLengthLimit X.admits]; omega
  have hh1 : ¬ n.toNatClampNeg * componentBytes (.array .int) > e.platform.maxHeapBytes := by
    rw [Launch.admits_maxHeapBytes X.admits]
    show ¬ n.toNatClampNeg * 4 > 536870912
    omega
  have hl2 : ¬ k.toNatClampNeg > e.platform.arrayLengthLimit := by rw [Launch.admits_arrayLengthLimit X.admits]; omega
  have hh2 : ¬ k.toNatClampNeg * componentBytes .int > e.platform.maxHeapBytes := by
    rw [Launch.admits_maxHeapBytes X.admits]
    show ¬ k.toNatClampNeg * 4 > 536870912
    omega
  jvm_step X.here [hexec, hdg]
  simp only [multianewarray.sem, wp_bind', W.resolveClassAt_links (State.method?_setTop g X.here.top) hg₁]
  rw [W.popN, if_neg (by decide)]
  refine ⟨g, State.topJava?_setTop' (s := T.setVm vm₁) g X.here.top, [.int n, .int k], rest, rfl, hstack, ?_⟩
  simp only [List.mapM_cons, List.mapM_nil, wp_bind', wp_pure']
  refine zm_make2 (kA := kA₁) (kc := kC₁) (cI := cJ) (cc := cc) hkA₁ hkindA₁ hkC₁ hkindC₁ hn hk hl1 hh1 hl2 hh2 (by show T.heap.size + 1 + _ ≤ _; omega) (by show T.slotsUsed + _ + _ ≤ _; omega) (fun d' acts' => ?_)
  have eS : ((T.setTop g).setVm vm₁).setTop { g with stack := rest } = (T.setVm vm₁).setTop { g with stack := rest } := by
    show ((T.setVm vm₁).setTop g).setTop _ = _
    rw [State.setTop_setTop]
  rw [eS, zm_top]
  simp only [wp_bind', W.mark, W.pushRef, State.topJava?_setTop' _ XL.here.top, Option.some.injEq, exists_eq_left', State.setTop_setTop, State.heap_setTop]
  intro acts
  simp [jvm, XL.here.top]
  exact hrest
end
section
variable {p : Program} {l : Launch} {e : Env} {R : Room} {s : State} {m : MethodId} {args : Array Value} {below : List Frame} {meth : Method} {c : Code} {H : Heap} {locs : List Loc} {cells slots : Nat} {Q : State → Prop}
variable {cc : ByteArray} {pc : Nat} {ls : Array Slot} {rest : List Value} {D : va_G} {cl : List vw_C} {A : Nat → Prop} {a : Nat} {tys : List (ClassId × FieldType)} {ws : va_W} {H0 : Heap}
theorem zm_mna (hexec : p.tables.exec = Jvm.exec) (hb : c.code = cc) {own : String} {index : Nat} (hown : s.vm.findClass own = some m.cls) (hclink : (Cond.classLink own index "[[I").before args s = true) (hover : (Cond.arrayOver (.array .int)).before #[] s = true) (harr : (Cond.arrayClass .int).before args s = true)
    (hK : va_K D cl tys s) (hP : va_P D cl ws H) (hD : va_D A ws) (hS : va_S A H0 H locs) (hA : ∀ q, H0.size ≤ q → A q) {n k : Int32} {N' K' : Nat} (hn : ¬ n < 0) (hk : ¬ k < 0) (hN : n.toNatClampNeg = N') (hM : k.toNatClampNeg = K')
    (hb1 : N' * 4 ≤ 536870912) (hb2 : K' * 4 ≤ 536870912) (hcells : cells + (1 + N') ≤ R.cells) (hslots : slots + (N' + N' * K') ≤ R.slots) (hdg : decode cc pc = .ok (.multianewarray index 2, 4))
    (kk : ∀ (q : Nat) (cA cI : ClassId) (L : List Nat) (H1 : Heap) (locs1 : List Loc), L.length = N' → va_K D cl (tys ++ [(cA, .array .int), (cI, .int)]) s →
      va_P D cl (ws ++ ((q, .inl (cA, N', .inr (.inr (.inr (.inr (zq L)))))) :: L.map (fun r => (r, .inl (cI, K', .inl (fun _ => 0)))))) H1 → va_D A (ws ++ ((q, .inl (cA, N', .inr (.inr (.inr (.inr (zq L)))))) :: L.map (fun r => (r, .inl (cI, K', .inl (fun _ => 0)))))) → va_S A H0 H1 locs1 →
      W p l e R s m args below meth c H1 locs1 (cells + 1 + N') (slots + N' + N' * K') Q (F0 m (pc + 4) ls (.ref q :: rest))) : W p l e R s m args below meth c H locs cells slots Q (F0 m pc ls (.int k :: .int n :: rest)) := by
  subst hN
  subst hM
  intro T hT X
  obtain ⟨vm₁, cA, cI, L, hL, ⟨kA, hkA, hkindA⟩, ⟨kC, cc', hkC, hkindC⟩, hnA, hnI, X1, step⟩ := zm_step X hexec hown hclink hover harr (g := F0 m pc ls (.int k :: .int n :: rest)) rfl (by rw [hb]; exact hdg) rfl hn hk hb1 hb2 hcells hslots
  obtain ⟨f1, f2, -, -, f5, f6⟩ := zm_f (T.setVm vm₁) cA cI n.toNatClampNeg k.toNatClampNeg n.toNatClampNeg
  have hh : (T.setVm vm₁).heap = H := hT
  rw [hh] at f1 f2 f5 f6
  generalize hF : zm_r (T.setVm vm₁) cA cI n.toNatClampNeg k.toNatClampNeg n.toNatClampNeg = F at X1 step f1 f2 f5 f6
  have hTH : T.heap.size = H.size := by rw [hT]
  rw [hTH] at step
  have hold : ∀ (i : Nat) (x : Nat × va_E), ws[i]? = some x → F.heap[x.1]? = H[x.1]? := fun i x hx => f5 x.1 ((hP i x hx).lt)
  have hin : ∀ (i : Nat) (x : Nat × va_E), ws[i]? = some x → x.1 < H.size := fun i x hx => (hP i x hx).lt
  let LL : List Nat := (List.range n.toNatClampNeg).map (fun j => H.size + 1 + j)
  have hLL : ∀ j : Nat, j < n.toNatClampNeg → LL[j]? = some (H.size + 1 + j) := fun j hj => by simp [LL, hj]
  have hlen : LL.length = n.toNatClampNeg := by simp [LL]
  have ho : va_at D cl (H.size, .inl (cA, n.toNatClampNeg, .inr (.inr (.inr (.inr (zq LL)))))) F.heap := by
    show F.heap[H.size]? = some (vp_cell cA (n.toNatClampNeg, .inr (.inr (.inr (.inr (zq LL))))))
    rw [f2, vp_cell_q]
    refine congrArg some ?_
    unfold zm_o arrV
    congr 1
    apply Array.ext
    · simp
    · intro i h1 h2
      have hi : i < n.toNatClampNeg := by simpa using h1
      simp [hi, zq, hLL i hi, va_rf]
  have hrow : ∀ (j : Nat) (x : Nat × va_E), (LL.map (fun r => ((r, .inl (cI, k.toNatClampNeg, .inl (fun _ => 0))) : Nat × va_E)))[j]? = some x → va_at D cl x F.heap := fun j x hx => by
    rw [List.getElem?_map] at hx
    have hj : j < n.toNatClampNeg := by
      rcases Nat.lt_or_ge j n.toNatClampNeg with h | h
      · exact h
      · rw [List.getElem?_eq_none (by omega)] at hx
        cases hx
    rw [hLL j hj] at hx
    cases hx
    show F.heap[H.size + 1 + j]? = some (vp_cell cI (k.toNatClampNeg, .inl (fun _ => 0)))
    exact f6 j hj
  have hP1 : va_P D cl (ws ++ ((H.size, .inl (cA, n.toNatClampNeg, .inr (.inr (.inr (.inr (zq LL)))))) :: LL.map (fun r => (r, .inl (cI, k.toNatClampNeg, .inl (fun _ => 0)))))) F.heap := by
    refine (hP.kept hold).app (fun i x hx => ?_)
    match i, hx with
    | 0, hx => cases hx; exact ho
    | i + 1, hx => exact hrow i x hx
  have hx2 : ∀ (i : Nat) (x : Nat × va_E), ((H.size, .inl (cA, n.toNatClampNeg, .inr (.inr (.inr (.inr (zq LL)))))) :: LL.map (fun r => ((r, .inl (cI, k.toNatClampNeg, .inl (fun _ => 0))) : Nat × va_E)))[i]? = some x → x.1 = H.size + i := fun i x hx => by
    match i, hx with
    | 0, hx => cases hx; rfl
    | i + 1, hx =>
      rw [List.getElem?_cons_succ, List.getElem?_map] at hx
      have hj : i < n.toNatClampNeg := by
        rcases Nat.lt_or_ge i n.toNatClampNeg with h | h
        · exact h
        · rw [List.getElem?_eq_none (by omega)] at hx
          cases hx
      rw [hLL i hj] at hx
      cases hx
      show H.size + 1 + i = H.size + (i + 1)
      omega
  have hD1 : va_D A (ws ++ ((H.size, .inl (cA, n.toNatClampNeg, .inr (.inr (.inr (.inr (zq LL)))))) :: LL.map (fun r => (r, .inl (cI, k.toNatClampNeg, .inl (fun _ => 0)))))) := by
    refine ⟨fun i j x y hx hy e => ?_, fun i x hx => ?_⟩
    · by_cases hi : i < ws.length
      · rw [List.getElem?_append_left hi] at hx
        by_cases hj : j < ws.length
        · rw [List.getElem?_append_left hj] at hy
          exact hD.1 i j x y hx hy e
        · rw [List.getElem?_append_right (by omega)] at hy
          have h1 := hx2 _ _ hy
          have h2 := hin _ _ hx
          omega
      · rw [List.getElem?_append_right (by omega)] at hx
        have h1 := hx2 _ _ hx
        by_cases hj : j < ws.length
        · rw [List.getElem?_append_left hj] at hy
          have h2 := hin _ _ hy
          omega
        · rw [List.getElem?_append_right (by omega)] at hy
          have h2 := hx2 _ _ hy
          omega
    · by_cases hi : i < ws.length
      · rw [List.getElem?_append_left hi] at hx
        exact hD.2 i x hx
      · rw [List.getElem?_append_right (by omega)] at hx
        rw [hx2 _ _ hx]
        exact hA _ (by have := hS.1; omega)
  have hS1 : va_S A H0 F.heap (locs ++ L) := by
    refine ⟨by have := hS.1; omega, fun x h1 h2 => (f5 x (Nat.lt_of_lt_of_le h1 hS.1)).trans (hS.2.1 x h1 h2), fun q hq => ?_⟩
    rcases List.mem_append.mp hq with hq | hq
    · exact hS.2.2 q hq
    · rw [hL q hq]
      exact hA _ (by have := hS.1; omega)
  have hK1 : va_K D cl (tys ++ [(cA, .array .int), (cI, .int)]) s := by
    refine ⟨hK.1, fun i x hx => ?_⟩
    by_cases hi : i < tys.length
    · rw [List.getElem?_append_left hi] at hx
      exact hK.2 i x hx
    · rw [List.getElem?_append_right (by omega)] at hx
      match i - tys.length, hx with
      | 0, hx => cases hx; exact ⟨fun N z => ⟨(fun k h => by cases h), kA, hkA, cI, hkindA⟩, hnA⟩
      | 1, hx => cases hx; exact ⟨fun N z => ⟨(fun k h => by cases h), kC, hkC, cc', hkindC⟩, hnI⟩
      | j + 2, hx => simp at hx
  obtain ⟨t, a1, b1⟩ := kk H.size cA cI LL F.heap (locs ++ L) hlen hK1 hP1 hD1 hS1 F rfl X1
  exact ⟨t, step t a1, b1⟩
theorem zm_ald (hexec : p.tables.exec = Jvm.exec) (hb : c.code = cc) (hK : va_K D cl tys s) (hP : va_P D cl ws H) (q0 t0 : Nat) {cA : ClassId} {ty : FieldType} {n : Nat} {f : Nat → Option Nat} (ha : ws[q0]? = some (a, .inl (cA, n, .inr (.inr (.inr (.inr f)))))) (ht : tys[t0]? = some (cA, ty)) (hty : ty.isReference = true) {i : Int32} (hin : vp_in i n) {r : Nat} (hr : f i.toNatClampNeg = some r) (hdg : decode cc pc = .ok (.aaload, 1))
    (kk : W p l e R s m args below meth c H locs cells slots Q (F0 m (pc + 1) ls (.ref r :: rest))) : W p l e R s m args below meth c H locs cells slots Q (F0 m pc ls (.int i :: .ref a :: rest)) := by
  have hlt : i.toNatClampNeg < n := Nat.not_le.mp fun q => hin (Or.inr q)
  exact W.aald (v := .ref r) (ty := ty) hexec hb (hP q0 _ ha) ((hK.2 t0 _ ht).1 n (fun j => va_rf (f j))) hty (fun q => by cases q) (by show ¬ (i < 0 ∨ (arrV _ _ _).slots.size ≤ _); rw [arrV_size]; exact hin) (by show (arrV _ _ _).slots[_]? = _; rw [arrV_read _ _ hlt, hr]; rfl) rfl rfl hdg kk
end
