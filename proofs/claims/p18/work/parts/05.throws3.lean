/-! a row of the method's own table takes the exception -/
/-- the search ends at a handler, and has noted classes on its way -/
def fdTo (e : Env) (s : State) (f : JFrame) (a : Addr) (h : Handler) (vm' : Vm) : Prop := ∀ (Q : Handler → Pre) (E : CtlPost) (d : Bool) (acts : List Action), wp (findHandler f a) Q E e d acts s ↔ Q h d acts (s.setVm vm')
theorem fd_step {e : Env} {s : State} {a : Addr} {f : JFrame} {r : List Frame} {pc : Nat} {vm' : Vm} (h : fdTo e s f a (.found pc) vm') :
    (stepThrowing e s a (.java f :: r)).Is ((s.setVm vm').setFrames (.java { f with pc := pc, stack := [.ref a] } :: r)) [] := by
  simp only [stepThrowing, searchFrame, vmDo]
  generalize hr : Sem.go _ e false [] s = res
  obtain ⟨as, rfl, ha⟩ := Sem.eq_ok_of hr (a := Handler.found pc) (s' := s.setVm vm') (acts' := []) (by simp [h _ _ _ _])
  exact ⟨rfl, ha⟩
theorem fd_steps {tb : Tables} {e : Env} {s target : State} {g : JFrame} {c : Code} {below : List Frame} {a : Addr} (h : At s g.method c below) {pc : Nat} {vm' : Vm}
    (hfind : fdTo e ((s.setTop g).pushFrame (.throwing a)) g a (.found pc) vm') (hrest : Steps tb e below ((s.setVm vm').setTop { g with pc := pc, stack := [.ref a] }) target) :
    Steps tb e below ((s.setTop g).pushFrame (.throwing a)) target := by
  obtain ⟨hgo, hw⟩ := h.throwing a
  obtain ⟨g₀, hg⟩ := Option.isSome_iff_exists.mp h.top
  obtain ⟨r, hr⟩ := State.topJava?_eq_some.mp hg
  refine Steps.head hgo hw ?_
  rw [stepThread_throwing (frames_entered h.top _), (fd_step hfind).1]
  have hr' : (s.setVm vm').frames = .java g₀ :: r := hr
  rw [State.setTop_of_frames _ hr'] at hrest
  have c1 : ∀ (u : State) (F G : List Frame), ((u.setFrames F).setVm vm').setFrames G = (u.setVm vm').setFrames G := fun u F G => by
    show ((u.setVm vm').setFrames F).setFrames G = _
    rw [State.setFrames_setFrames]
  rw [hr, List.tail_cons, State.pushFrame, c1, State.setTop_of_frames _ hr, c1]
  exact hrest
section FDG
variable {Q : Handler → Pre} {E : CtlPost} {e : Env} {d : Bool} {acts : List Action} {s : State} {f : JFrame} {a : Addr} {x : ExceptionTableEntry} {t : List ExceptionTableEntry} {c : ClassId} {cell : Cell}
theorem fd_yes (hx : covers x f.pc = true) (h0 : x.catchType ≠ 0) (hl : s.vm.ClassLinks e.platform f.method.cls x.catchType c) (hcell : s.heap[a]? = some cell) (hobj : ∀ k, cell.vm ≠ .statics k)
    (hk : ∃ k, s.vm.classes[cell.cls]? = some k) (hc : ∃ k, s.vm.classes[c]? = some k) (hfit : s.vm.assignable cell.cls c = true) :
    wp (findHandler.go f a (x :: t)) Q E e d acts s ↔ Q (.found x.handlerPc) d acts (s.setVm (s.vm.noted f.method.cls x.catchType (.cls c))) := by
  obtain ⟨ha, ht⟩ := (resolveClass_links e.toSetting hl).op (op := VmOp.resolveClass f.method.cls x.catchType) rfl
  have hal : s.vm.Alike (s.vm.noted f.method.cls x.catchType (.cls c)) := (Vm.Alike.refl s.vm).noted _ _ _
  obtain ⟨k1, hk1⟩ := hk
  obtain ⟨k2, hk2⟩ := hc
  obtain ⟨k1', hk1', -⟩ := hal.2.2 _ _ hk1
  obtain ⟨k2', hk2', -⟩ := hal.2.2 _ _ hk2
  rw [← hal.assignable] at hfit
  simp only [covers] at hx
  simp [findHandler.go, hx, h0, ha, ht, hcell, hobj, hk1', hk2', hfit, VmOp.dirties, VmOp.acts]
theorem fd_no (hx : covers x f.pc = true) (h0 : x.catchType ≠ 0) (hl : s.vm.ClassLinks e.platform f.method.cls x.catchType c) (hcell : s.heap[a]? = some cell) (hobj : ∀ k, cell.vm ≠ .statics k)
    (hk : ∃ k, s.vm.classes[cell.cls]? = some k) (hc : ∃ k, s.vm.classes[c]? = some k) (hfit : s.vm.assignable cell.cls c = false) :
    wp (findHandler.go f a (x :: t)) Q E e d acts s ↔ wp (findHandler.go f a t) Q E e d acts (s.setVm (s.vm.noted f.method.cls x.catchType (.cls c))) := by
  obtain ⟨ha, ht⟩ := (resolveClass_links e.toSetting hl).op (op := VmOp.resolveClass f.method.cls x.catchType) rfl
  have hal : s.vm.Alike (s.vm.noted f.method.cls x.catchType (.cls c)) := (Vm.Alike.refl s.vm).noted _ _ _
  obtain ⟨k1, hk1⟩ := hk
  obtain ⟨k2, hk2⟩ := hc
  obtain ⟨k1', hk1', -⟩ := hal.2.2 _ _ hk1
  obtain ⟨k2', hk2', -⟩ := hal.2.2 _ _ hk2
  rw [← hal.assignable] at hfit
  simp only [covers] at hx
  simp [findHandler.go, hx, h0, ha, ht, hcell, hobj, hk1', hk2', hfit, VmOp.dirties, VmOp.acts]
end FDG
section TC
variable {p : Program} {l : Launch} {e : Env} {R : Room} {s : State} {m : MethodId} {args : Array Value} {below : List Frame} {meth : Method} {c : Code} {H : Heap} {locs : List Loc} {cells slots : Nat} {Q : State → Prop} {E own : String} {pc : Nat} {ls : Array Slot} {rest st0 : List Value}
/-- the first row takes it -/
theorem th_catch1 {x : ExceptionTableEntry} {suf : List ExceptionTableEntry} (hrows : c.exceptionTable.toList = x :: suf) (hx : covers x pc = true) (h0 : x.catchType ≠ 0) (hown : s.vm.findClass own = some m.cls)
    (hlink : (Cond.classLink own x.catchType E).before args s = true) (hcast : (Cond.castable E E).before args s = true)
    (h : ∀ T : State, T.heap = H → Stand p l e R s m args below meth c T locs cells slots → thAt p l e R s m args below meth c H locs cells slots E (F0 m pc ls rest) (T.setTop (F0 m pc ls st0)))
    (kk : ∀ (q : Addr) (H1 : Heap), H.size ≤ H1.size → (∀ z : Nat, z < H.size → H1[z]? = H[z]?) → W p l e R s m args below meth c H1 locs (cells + 1) (slots + 6) Q (F0 m x.handlerPc ls [.ref q])) :
    W p l e R s m args below meth c H locs cells slots Q (F0 m pc ls st0) := by
  intro T hT X
  obtain ⟨q, T', ce, X', k1, k2, k3, k4, k5, k6⟩ := h T hT X
  have hpl : e.platform.magicAccessors = ({} : Platform).magicAccessors := by rw [X.admits.platform]
  obtain ⟨c3, c4, hc3, hc4, hasg⟩ := Cond.castable_spec hcast
  cases hc3.symm.trans k3
  cases hc4.symm.trans k3
  obtain ⟨c5, hc5, hcl5⟩ := Cond.classLink_spec hown hlink e.platform hpl
  cases hc5.symm.trans k3
  obtain ⟨kE, hkE, -⟩ := Vm.findClass_spec k3
  obtain ⟨dk, _, _, kt, hd, _, _, _, _, hkt, _, hopen⟩ := hcl5.here
  obtain ⟨kE', hkE', -⟩ := X'.warmed.alike.2.2 _ _ hkE
  have hW2 : s.WarmedH (T'.vm.noted m.cls x.catchType (.cls ce.cls)) := X'.warmed.noted hd hopen (State.rightAt_cls hcl5)
  have hfd : fdTo e ((T'.setTop (F0 m pc ls rest)).pushFrame (.throwing q)) (F0 m pc ls rest) q (.found x.handlerPc) (T'.vm.noted m.cls x.catchType (.cls ce.cls)) := fun Q1 E1 d1 a1 => by
    rw [W.findHandler_eq (meth := meth) (code := c) X'.method' X'.code, hrows]
    exact fd_yes (s := (T'.setTop (F0 m pc ls rest)).pushFrame (.throwing q)) (f := F0 m pc ls rest) hx h0 (X'.warmed.classLinks hcl5) k1 (fun k hk => by rw [k2] at hk; cases hk) ⟨kE', hkE'⟩ ⟨kE', hkE'⟩ (by show T'.vm.assignable _ _ = true; rw [X'.warmed.alike.assignable]; exact hasg)
  obtain ⟨t, a1, b1⟩ := kk q T'.heap k4 k5 (T'.setVm (T'.vm.noted m.cls x.catchType (.cls ce.cls))) rfl (X'.noted hW2)
  exact ⟨t, k6.trans (fd_steps X'.here hfd a1), b1⟩
/-- the first row doesn't take it, the second does -/
theorem th_catch2 {x y : ExceptionTableEntry} {suf : List ExceptionTableEntry} {N : String} (hrows : c.exceptionTable.toList = y :: x :: suf) (hy : covers y pc = true) (hy0 : y.catchType ≠ 0) (hx : covers x pc = true) (h0 : x.catchType ≠ 0) (hown : s.vm.findClass own = some m.cls)
    (hlinkN : (Cond.classLink own y.catchType N).before args s = true) (hno : va_Nc E N s) (hlink : (Cond.classLink own x.catchType E).before args s = true) (hcast : (Cond.castable E E).before args s = true)
    (h : ∀ T : State, T.heap = H → Stand p l e R s m args below meth c T locs cells slots → thAt p l e R s m args below meth c H locs cells slots E (F0 m pc ls rest) (T.setTop (F0 m pc ls st0)))
    (kk : ∀ (q : Addr) (H1 : Heap), H.size ≤ H1.size → (∀ z : Nat, z < H.size → H1[z]? = H[z]?) → W p l e R s m args below meth c H1 locs (cells + 1) (slots + 6) Q (F0 m x.handlerPc ls [.ref q])) :
    W p l e R s m args below meth c H locs cells slots Q (F0 m pc ls st0) := by
  intro T hT X
  obtain ⟨q, T', ce, X', k1, k2, k3, k4, k5, k6⟩ := h T hT X
  have hpl : e.platform.magicAccessors = ({} : Platform).magicAccessors := by rw [X.admits.platform]
  obtain ⟨c3, c4, hc3, hc4, hasg⟩ := Cond.castable_spec hcast
  cases hc3.symm.trans k3
  cases hc4.symm.trans k3
  obtain ⟨c5, hc5, hcl5⟩ := Cond.classLink_spec hown hlink e.platform hpl
  cases hc5.symm.trans k3
  obtain ⟨cN, hcN, hclN⟩ := Cond.classLink_spec hown hlinkN e.platform hpl
  obtain ⟨a8, b8, n1, n2, n3⟩ := hno
  cases n1.symm.trans k3
  cases n2.symm.trans hcN
  obtain ⟨kE, hkE, -⟩ := Vm.findClass_spec k3
  obtain ⟨kN, hkN, -⟩ := Vm.findClass_spec hcN
  obtain ⟨dk, _, _, kt, hd, _, _, _, _, hkt, _, hopen⟩ := hcl5.here
  obtain ⟨dk2, _, _, kt2, hd2, _, _, _, _, hkt2, _, hopen2⟩ := hclN.here
  have hW1 : s.WarmedH (T'.vm.noted m.cls y.catchType (.cls cN)) := X'.warmed.noted hd2 hopen2 (State.rightAt_cls hclN)
  have hW2 : s.WarmedH ((T'.vm.noted m.cls y.catchType (.cls cN)).noted m.cls x.catchType (.cls ce.cls)) := hW1.noted hd hopen (State.rightAt_cls hcl5)
  obtain ⟨kE', hkE', -⟩ := X'.warmed.alike.2.2 _ _ hkE
  obtain ⟨kN', hkN', -⟩ := X'.warmed.alike.2.2 _ _ hkN
  obtain ⟨kE2, hkE2, -⟩ := hW1.alike.2.2 _ _ hkE
  have hfd : fdTo e ((T'.setTop (F0 m pc ls rest)).pushFrame (.throwing q)) (F0 m pc ls rest) q (.found x.handlerPc) ((T'.vm.noted m.cls y.catchType (.cls cN)).noted m.cls x.catchType (.cls ce.cls)) := fun Q1 E1 d1 a1 => by
    rw [W.findHandler_eq (meth := meth) (code := c) X'.method' X'.code, hrows]
    rw [fd_no (s := (T'.setTop (F0 m pc ls rest)).pushFrame (.throwing q)) (f := F0 m pc ls rest) hy hy0 (X'.warmed.classLinks hclN) k1 (fun k hk => by rw [k2] at hk; cases hk) ⟨kE', hkE'⟩ ⟨kN', hkN'⟩ (by show T'.vm.assignable _ _ = false; rw [X'.warmed.alike.assignable]; exact n3)]
    exact fd_yes (s := ((T'.setTop (F0 m pc ls rest)).pushFrame (.throwing q)).setVm (T'.vm.noted m.cls y.catchType (.cls cN))) (f := F0 m pc ls rest) hx h0 (hW1.classLinks hcl5) k1 (fun k hk => by rw [k2] at hk; cases hk) ⟨kE2, hkE2⟩ ⟨kE2, hkE2⟩ (by show (T'.vm.noted m.cls y.catchType (.cls cN)).assignable _ _ = true; rw [hW1.alike.assignable]; exact hasg)
  obtain ⟨t, a1, b1⟩ := kk q T'.heap k4 k5 (T'.setVm ((T'.vm.noted m.cls y.catchType (.cls cN)).noted m.cls x.catchType (.cls ce.cls))) rfl (X'.noted hW2)
  exact ⟨t, k6.trans (fd_steps X'.here hfd a1), b1⟩
end TC
