/-! a call that throws: what the caller stands at then -/
section TB
variable {p : Program} {l : Launch} {e : Env} {R : Room} {s : State} {m : MethodId} {args : Array Value} {below : List Frame} {meth : Method} {c : Code} {y : MethodName} {ws : List Cond} {rm : Room} {Pc : Array Value → State → Prop} {E : String} {maxL : Nat}
/-- the exception q of class E lies over the frame g; nothing that was there in H was written -/
def thAt (p : Program) (l : Launch) (e : Env) (R : Room) (s : State) (m : MethodId) (args : Array Value) (below : List Frame) (meth : Method) (c : Code) (H : Heap) (locs : List Loc) (cells slots : Nat) (E : String) (g : JFrame) (S : State) : Prop :=
  ∃ (q : Addr) (T' : State) (ce : Cell), Stand p l e R s m args below meth c T' locs (cells + 1) (slots + 6) ∧ T'.heap[q]? = some ce ∧ ce.vm = .none ∧ s.vm.findClass E = some ce.cls ∧ H.size ≤ T'.heap.size ∧ (∀ z : Nat, z < H.size → T'.heap[z]? = H[z]?) ∧
    Steps p.tables e below S ((T'.setTop g).pushFrame (.throwing q))
theorem th_back (hM : Thr l y ws rm Pc E) (hblind : FrameBlind Pc) (hrc : rm.cells = 1) (hrs : rm.slots = 6) (hframes : rm.frames + 1 ≤ R.frames) (hlocals : 8 + (maxL + 11) + rm.locals ≤ R.locals)
    (hws : ∀ w ∈ ws, ∀ a' U, s.WarmedH U.vm → w.before a' U = true) {bytes : ByteArray} {ret : Option FieldType} (hcode : Cond.code y bytes maxL ret ∈ ws) (hinit : ∀ a' U, s.WarmedH U.vm → (Cond.initialized y.cls).before a' U = true)
    {U : State} {locs : List Loc} {cells slots : Nat} (X : Stand p l e R s m args below meth c U locs cells slots) {g : JFrame} (hg : g.method = m) (hsize : g.locals.size = c.maxLocals) {ig : Instr} {len : Nat} (hdg : decode c.code g.pc = .ok (ig, len))
    {mk : MethodId} {a : Array Value} (hn : U.methodNamed? y = some mk) (hW : 2 * g.monitorRoom + (g.stack.map fun v => v.category).sum ≤ 8) (hc : cells + 1 ≤ R.cells) (hs : slots + 6 ≤ R.slots) (hPc : Pc a U) :
    thAt p l e R s m args below meth c U.heap locs cells slots E g (doInvoke e (U.setTop g) [] mk a).1 := by
  have h2 : (Cond.code y bytes maxL ret).before a U = true := hws _ hcode _ _ X.warmed
  obtain ⟨methY, cY, hmY, hcY, -, hlY, -, -, -, -⟩ := Cond.code_spec hn h2
  obtain ⟨kY, hkY, -⟩ := className_of_methodNamed hn
  have hinitY : kY.init = .initialized := Cond.initialized_spec (findClass_of_methodNamed hn) hkY (hinit a U X.warmed)
  have h : At U g.method c below := by rw [hg]; exact X.here
  have happ : (headSpec ws rm).appliesLoose y e.platform (U.calling g mk a) = true :=
    Spec.appliesLoose_calling (g := g) h hdg hn hkY hinitY
      (X.room_calling (g := g) (R' := (headSpec ws rm).room) hsize hmY hcY hframes (by rw [hlY]; have : (headSpec ws rm).room.locals = rm.locals := rfl; omega) (by rw [show (headSpec ws rm).room.cells = 1 from hrc]; exact hc) (by rw [show (headSpec ws rm).room.slots = 6 from hrs]; exact hs)) (atoms_intro fun w hw => hws w hw _ _ X.warmed)
  obtain ⟨mid, hmid⟩ := h.above
  have hfr : (U.setTop g).frames = (.java g :: mid) ++ below := by rw [State.frames_setTop' g h.top, hmid]; rfl
  obtain ⟨o, s₂, hsteps, -, hend, q, ce, rfl, hce, hcv, hcl, hW₂, hsm⟩ := Steps.callFree hM p X.admits X.cas X.clock (acts := []) hfr happ (hblind _ _ _ _ hPc) trivial
  rw [State.frames_setTop' g h.top, X.tail] at hend
  obtain ⟨T', X', hWT, hsame, e1⟩ := X.outOfThrown hg (mk := mk) (a := a) hend hW₂ hsm
  rw [List.append_nil] at X'
  obtain ⟨f1, f2⟩ := same_frame hsame
  have hh : T'.heap = s₂.heap := by rw [e1]; exact (throwing_heap T' g q).symm
  refine ⟨q, T', ce, X', by rw [hh]; exact hce, hcv, ?_, f1, f2, by rw [← e1]; exact hsteps⟩
  have hcl' : U.vm.findClass E = some ce.cls := hcl
  rw [X.warmed.alike.findClass] at hcl'
  exact hcl'
variable {own : String} {index n : Nat} {bytes : ByteArray} {ret : Option FieldType} {cc : ByteArray} {nL : Nat} {Ts : List Cond} {As rest : List Value}
theorem th_runS (S : CallFix p m c cc nL s args Ts own) (hM : Thr l y ws rm Pc E) (cw : CallB R s args own index y bytes maxL ret ws rm 1 6 n ∧ (Cond.static y).before args s = true) {H : Heap} (hp : PreS s H Pc As)
    {g : JFrame} (hg : g.method = m) (hn : As.length = n) (hsize : g.locals.size = nL) (hstack : g.stack = As.reverse ++ rest) (hW : 2 * g.monitorRoom + (rest.map fun v => v.category).sum ≤ 8) (hdg : decode cc g.pc = .ok (.invokestatic index, 3))
    {locs : List Loc} {cells slots : Nat} (hf : cells + 1 ≤ R.cells ∧ slots + 6 ≤ R.slots) {T : State} (hT : T.heap = H) (X : Stand p l e R s m args below meth c T locs cells slots) :
    thAt p l e R s m args below meth c H locs cells slots E { g with stack := rest } (T.setTop g) := by
  obtain ⟨⟨hrc, hrs, hfr, hlo, hws, hcw, hcode, hini, hy, hlen, hl⟩, hstt⟩ := cw
  obtain ⟨hx, hb, hml, ho, -⟩ := S
  obtain ⟨mk, hnamed⟩ := Cond.code_named hcode
  obtain ⟨methM, cM, hmethM, -, -, -, -, -, -, hsigM⟩ := Cond.code_spec hnamed hcode
  obtain ⟨kP, hkP, -⟩ := className_of_methodNamed hnamed
  have hdg' : decode c.code g.pc = .ok (.invokestatic index, 3) := by rw [hb]; exact hdg
  obtain ⟨vm₁, X₁, hstep₁⟩ := X.invokestatic hx ho hl hnamed hmethM (Cond.static_spec hnamed hmethM hstt) hkP (Cond.initialized_spec (findClass_of_methodNamed hnamed) hkP hini) hy (g := g) hg (argsL := As) (rest := rest) (hn.trans (hlen _ hsigM)) hstack hdg'
  obtain ⟨q, T', ce, X', k1, k2, k3, k4, k5, k6⟩ := th_back (bytes := bytes) (ret := ret) hM hp.1 hrc hrs hfr hlo hws hcw (fun a' U hW => word_at hW (Or.inl (by first | rfl | simp [Cond.onTables, Cond.keeps, Cond.steady])) hini) X₁ (g := { g with stack := rest }) hg (hsize.trans hml.symm) hdg' (a := As.toArray) (X₁.named hnamed) hW hf.1 hf.2 (hp.2 _ hT X₁.warmed)
  have e1 : (T.setVm vm₁).heap = H := hT
  rw [e1] at k4 k5
  exact ⟨q, T', ce, X', k1, k2, k3, k4, k5, hstep₁ _ fun acts => by rw [doInvoke_state]; exact k6⟩
theorem th_runV {C : String} {b : Addr} (S : CallFix p m c cc nL s args Ts own) (hM : Thr l y ws rm Pc E) (cw : CallW R s args own C index y bytes maxL ret ws rm 1 6 n) {H : Heap} (hp : PreV s H C b Pc As)
    {g : JFrame} (hg : g.method = m) (hn : As.length = n) (hsize : g.locals.size = nL) (hstack : g.stack = As.reverse ++ .ref b :: rest) (hW : 2 * g.monitorRoom + (rest.map fun v => v.category).sum ≤ 8) (hdg : decode cc g.pc = .ok (.invokevirtual index, 3))
    {locs : List Loc} {cells slots : Nat} (hf : cells + 1 ≤ R.cells ∧ slots + 6 ≤ R.slots) {T : State} (hT : T.heap = H) (X : Stand p l e R s m args below meth c T locs cells slots) :
    thAt p l e R s m args below meth c H locs cells slots E { g with stack := rest } (T.setTop g) := by
  obtain ⟨⟨hrc, hrs, hfr, hlo, hws, hcw, hcode, hini, hy, hlen, hl⟩, hinst, hsel⟩ := cw
  obtain ⟨hx, hb, hml, ho, -⟩ := S
  obtain ⟨hbl, ⟨cellB, hcB, hoB, hclB⟩, hPc⟩ := hp
  obtain ⟨mk, methM, hnamed, hmethM, hstM, habM⟩ := Cond.instanceMethod_spec hinst
  obtain ⟨methM', cM, hmethM', -, -, -, -, -, -, hsigM⟩ := Cond.code_spec hnamed hcode
  cases hmethM.symm.trans hmethM'
  obtain ⟨c2, r2, m2, q1, q2, q3, q4, kP, hkP, hkPi⟩ := Cond.selects_spec hsel
  cases hclB.symm.trans q1
  cases (State.methodFound?_of_named hnamed hy).symm.trans q2
  cases hnamed.symm.trans q3
  have hselP : selectMethod e.platform s.vm cellB.cls mk = .method mk := by rw [Launch.admits_selectMethod X.admits]; exact q4
  have hdg' : decode c.code g.pc = .ok (.invokevirtual index, 3) := by rw [hb]; exact hdg
  obtain ⟨vm₁, X₁, hstep₁⟩ := X.invokevirtual hx ho hl hnamed hmethM hstM hkP hkPi hy (a := b) (cell := cellB) (by rw [hT]; exact hcB) (fun z h => by rw [h] at hoB; cases hoB) hselP hmethM habM hkP hkPi (g := g) hg (argsL := As) (rest := rest) (hn.trans (hlen _ hsigM)) hstack hdg'
  obtain ⟨q, T', ce, X', k1, k2, k3, k4, k5, k6⟩ := th_back (bytes := bytes) (ret := ret) hM hbl hrc hrs hfr hlo hws hcw (fun a' U hW => word_at hW (Or.inl (by first | rfl | simp [Cond.onTables, Cond.keeps, Cond.steady])) hini) X₁ (g := { g with stack := rest }) hg (hsize.trans hml.symm) hdg' (a := (Value.ref b :: As).toArray) (X₁.named hnamed) hW hf.1 hf.2 (hPc _ hT X₁.warmed)
  have e1 : (T.setVm vm₁).heap = H := hT
  rw [e1] at k4 k5
  exact ⟨q, T', ce, X', k1, k2, k3, k4, k5, hstep₁ _ fun acts => by rw [doInvoke_state]; exact k6⟩
/-- .. and no row of this method's takes it: it goes on to the caller -/
theorem th_out {pc : Nat} {ls : Array Slot} {st0 : List Value} (hnt : c.exceptionTable.isEmpty = true) (hlocks : meth.locks = false)
    (h : ∀ T : State, T.heap = s.heap → Stand p l e R s m args below meth c T [] 0 0 → thAt p l e R s m args below meth c s.heap [] 0 0 E (F0 m pc ls rest) (T.setTop (F0 m pc ls st0))) :
    W p l e R s m args below meth c s.heap [] 0 0 (tQ below args s E) (F0 m pc ls st0) := by
  intro T hT X
  obtain ⟨q, T', ce, X', k1, k2, k3, k4, k5, k6⟩ := h T hT X
  obtain ⟨st1, hrun, hend, hW, hsm⟩ := X'.leaveThrown q (g := F0 m pc ls rest) rfl rfl rfl (no_rows hnt _) hlocks
  exact ⟨_, k6.trans st1, .threw q, hrun, hend, q, ce, rfl, k1, k2, k3, hW, hsm⟩
end TB
