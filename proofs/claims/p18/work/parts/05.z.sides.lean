/-! worlds within worlds: the recorder's and the law's own array; what a wrapper may change; calls of methods that have an exception table -/
def oA (ao : Nat) (ad : Nat → Nat) (sz : Nat) : Nat → Prop := fun q => q = ao ∨ xA 15 ad sz q
theorem oA_up {ao : Nat} {ad : Nat → Nat} {a b : Nat} (h : a ≤ b) : ∀ q, oA ao ad b q → oA ao ad a q := fun q hq => hq.imp id (xA_up h q)
theorem xw_A {ad cd : Nat → Nat} {sz q : Nat} {w wr fl : Nat → Int32} {pw sc : Int32} {lw rot vb : Nat → Int32} {rec tk : Int32} {live row : Nat → Int32} {cur ser dur wo : Int32} {bts : Nat → Int32} {us : Int32} {act : Nat → Int32} {rd rs : Int32} (h : xA 15 ad sz q) : va_A (xw ad cd w wr fl pw sc lw rot vb rec tk live row cur ser dur wo bts us act rd rs) sz q := by
  rcases h with ⟨k, hk, rfl⟩ | h
  · refine Or.inl ⟨k, ?_⟩
    rcases (show k = 0 ∨ k = 1 ∨ k = 2 ∨ k = 3 ∨ k = 4 ∨ k = 5 ∨ k = 6 ∨ k = 7 ∨ k = 8 ∨ k = 9 ∨ k = 10 ∨ k = 11 ∨ k = 12 ∨ k = 13 ∨ k = 14 by omega) with rfl | rfl | rfl | rfl | rfl | rfl | rfl | rfl | rfl | rfl | rfl | rfl | rfl | rfl | rfl <;> exact ⟨_, rfl⟩
  · exact Or.inr h
theorem mw_A {am cm : Nat → Nat} {sz q : Nat} {th : Int32} {mw mwr mfl mact : Nat → Int32} {on cut mrec : Int32} {mlog mlive had : Nat → Int32} {mser mcur mrd mwt worn : Int32} {pg : Nat → Int32} {pla sou fou : Int32} (h : xA 9 am sz q) : va_A (mw_ am cm th mw mwr mfl mact on cut mrec mlog mlive had mser mcur mrd mwt worn pg pla sou fou) sz q := by
  rcases h with ⟨k, hk, rfl⟩ | h
  · refine Or.inl ⟨k, ?_⟩
    rcases (show k = 0 ∨ k = 1 ∨ k = 2 ∨ k = 3 ∨ k = 4 ∨ k = 5 ∨ k = 6 ∨ k = 7 ∨ k = 8 by omega) with rfl | rfl | rfl | rfl | rfl | rfl | rfl | rfl | rfl <;> exact ⟨_, rfl⟩
  · exact Or.inr h
theorem ow_A {ad cd : Nat → Nat} {ao co sz q : Nat} {w wr fl : Nat → Int32} {pw sc : Int32} {lw rot vb : Nat → Int32} {rec tk : Int32} {live row : Nat → Int32} {cur ser dur wo : Int32} {bts : Nat → Int32} {us : Int32} {act : Nat → Int32} {rd rs : Int32} {fo : Nat → Int64} (h : oA ao ad sz q) : va_A ((ao, .inl (co, 1, .inr (.inl fo))) :: xw ad cd w wr fl pw sc lw rot vb rec tk live row cur ser dur wo bts us act rd rs) sz q := by
  rcases h with rfl | h
  · exact Or.inl ⟨0, _, rfl⟩
  · rcases xw_A (cd := cd) (w := w) (wr := wr) (fl := fl) (pw := pw) (sc := sc) (lw := lw) (rot := rot) (vb := vb) (rec := rec) (tk := tk) (live := live) (row := row) (cur := cur) (ser := ser) (dur := dur) (wo := wo) (bts := bts) (us := us) (act := act) (rd := rd) (rs := rs) h with ⟨k, e, h⟩ | h
    · exact Or.inl ⟨k + 1, e, h⟩
    · exact Or.inr h
theorem ow_D {B : Nat → Prop} {ad cd : Nat → Nat} {ao co sz : Nat} {w wr fl : Nat → Int32} {pw sc : Int32} {lw rot vb : Nat → Int32} {rec tk : Int32} {live row : Nat → Int32} {cur ser dur wo : Int32} {bts : Nat → Int32} {us : Int32} {act : Nat → Int32} {rd rs : Int32} {fo : Nat → Int64} (h : va_D B ((ao, .inl (co, 1, .inr (.inl fo))) :: xw ad cd w wr fl pw sc lw rot vb rec tk live row cur ser dur wo bts us act rd rs)) : va_D (oA ao ad sz) ((ao, .inl (co, 1, .inr (.inl fo))) :: xw ad cd w wr fl pw sc lw rot vb rec tk live row cur ser dur wo bts us act rd rs) := by
  refine ⟨h.1, fun k q hk => ?_⟩
  have hl : k < 16 := (List.getElem?_eq_some_iff.mp hk).1
  rcases (show k = 0 ∨ k = 1 ∨ k = 2 ∨ k = 3 ∨ k = 4 ∨ k = 5 ∨ k = 6 ∨ k = 7 ∨ k = 8 ∨ k = 9 ∨ k = 10 ∨ k = 11 ∨ k = 12 ∨ k = 13 ∨ k = 14 ∨ k = 15 by omega) with rfl | rfl | rfl | rfl | rfl | rfl | rfl | rfl | rfl | rfl | rfl | rfl | rfl | rfl | rfl | rfl
  · cases hk; exact Or.inl rfl
  · cases hk; exact Or.inr (Or.inl ⟨0, by decide, rfl⟩)
  · cases hk; exact Or.inr (Or.inl ⟨1, by decide, rfl⟩)
  · cases hk; exact Or.inr (Or.inl ⟨2, by decide, rfl⟩)
  · cases hk; exact Or.inr (Or.inl ⟨3, by decide, rfl⟩)
  · cases hk; exact Or.inr (Or.inl ⟨4, by decide, rfl⟩)
  · cases hk; exact Or.inr (Or.inl ⟨5, by decide, rfl⟩)
  · cases hk; exact Or.inr (Or.inl ⟨6, by decide, rfl⟩)
  · cases hk; exact Or.inr (Or.inl ⟨7, by decide, rfl⟩)
  · cases hk; exact Or.inr (Or.inl ⟨8, by decide, rfl⟩)
  · cases hk; exact Or.inr (Or.inl ⟨9, by decide, rfl⟩)
  · cases hk; exact Or.inr (Or.inl ⟨10, by decide, rfl⟩)
  · cases hk; exact Or.inr (Or.inl ⟨11, by decide, rfl⟩)
  · cases hk; exact Or.inr (Or.inl ⟨12, by decide, rfl⟩)
  · cases hk; exact Or.inr (Or.inl ⟨13, by decide, rfl⟩)
  · cases hk; exact Or.inr (Or.inl ⟨14, by decide, rfl⟩)
section SW
variable {p : Program} {l : Launch} {e : Env} {R : Room} {s : State} {m : MethodId} {args : Array Value} {below : List Frame} {meth : Method} {c : Code} {H : Heap} {locs : List Loc} {cells slots : Nat}
variable {y : MethodName} {bytes cc : ByteArray} {maxL nL mc ms n index : Nat} {ret : Option FieldType} {hh : List (Nat × Nat × Nat × Nat)} {ws : List Cond} {rm : Room} {Pc : Array Value → State → Prop} {Qc : Array Value → State → Outcome → State → Prop} {free : Addr → Prop} {Ts : List Cond} {own : String} {As rest : List Value} {g : JFrame}
/-- a static call of a method that has an exception table -/
theorem sw_run (S : CallFix p m c cc nL s args Ts own) (hM : Met l y ws rm Pc Qc mc ms free) (hG : GoodIn Ts ws) (hcw : Cond.codeWith y bytes maxL ret hh ∈ ws) (hl : (Cond.methodLink own index y).before args s = true) (hstt : (Cond.static y).before args s = true) (hini : (Cond.initialized y.cls).before args s = true)
    (hrc : rm.cells = mc) (hrs : rm.slots = ms) (hfr : rm.frames + 1 ≤ R.frames) (hlo : 8 + (maxL + 11) + rm.locals ≤ R.locals) (hd : y.cls ≠ "java/lang/invoke/MethodHandle" ∧ y.cls ≠ "java/lang/invoke/VarHandle" ∧ (parseMethodDescriptor y.desc).map (fun d => d.parameters.length) = some n) (hp : PreS s H Pc As)
    (hg : g.method = m) (hn : As.length = n) (hsize : g.locals.size = nL) (hstack : g.stack = As.reverse ++ rest) (hW : 2 * g.monitorRoom + (rest.map fun v => v.category).sum ≤ 8) (hdg : decode cc g.pc = .ok (.invokestatic index, 3)) (hf : cells + mc ≤ R.cells ∧ slots + ms ≤ R.slots) :
    va_Run p l e R s m args below meth c H locs cells slots mc ms g rest (Qc As.toArray) free := by
  obtain ⟨hx, hb, hml, ho, hts⟩ := S
  have hK : Back l R p e below s args y 3 8 (PreOf R mc ms Pc) (PostOf Qc mc ms free) := va_backW (hh := hh) (bytes := bytes) (maxL := maxL) (ret := ret) hM hp.1 hrc hrs hfr hlo (pay_in hts hG) hcw (fun a' U hW => word_at hW (Or.inl (by first | rfl | simp [Cond.onTables, Cond.keeps, Cond.steady])) hini)
  obtain ⟨mk, methM, cM, hnamed, hmethM, -, -, -, -, -, -, hsigM⟩ := Cond.codeWith_spec (hts _ (hG _ hcw).1)
  obtain ⟨kP, hkP, -⟩ := className_of_methodNamed hnamed
  have hlen : As.length = methM.sig.parameters.length := by
    have h2 := hd.2.2
    rw [hsigM] at h2
    exact hn.trans (Option.some.inj h2).symm
  intro T hT X
  have hdg' : decode c.code g.pc = .ok (.invokestatic index, 3) := by rw [hb]; exact hdg
  obtain ⟨vm₁, X₁, hstep₁⟩ := X.invokestatic hx ho hl hnamed hmethM (Cond.static_spec hnamed hmethM hstt) hkP (Cond.initialized_spec (findClass_of_methodNamed hnamed) hkP hini) ⟨hd.1, hd.2.1⟩ (g := g) hg (argsL := As) (rest := rest) hlen hstack hdg'
  obtain ⟨v, ⟨U', l2, c2, s2⟩, X', ⟨g', mk', t, L, e1, e2, hq, h1, hL, h2, h3⟩, st⟩ := hK m meth c ⟨T.setVm vm₁, locs, cells, slots⟩ { g with stack := rest } (.invokestatic index) mk As.toArray X₁ hg (hsize.trans hml.symm) hdg' hW (X₁.named hnamed) ⟨hf.1, hf.2, hp.2 (T.setVm vm₁) hT X₁.warmed⟩
  dsimp only [Pt.U, Pt.locs, Pt.cells, Pt.slots] at X' e1 e2 h1 h2 h3 st
  subst h1; subst h2; subst h3
  exact ⟨v, (T.setVm vm₁).calling g' mk' As.toArray, t, U', L, hT, X', hL, e1, e2, hq, fun target h => hstep₁ _ fun acts => by rw [doInvoke_state]; exact st.trans h⟩
end SW
/-- a wrapper's start: its cells, Throwable's statics, what doesn't go into what -/
def oP (D : va_G) (cl : List vw_C) (tys : List (ClassId × FieldType)) (ws : va_W) (sz az : Nat) (av : List Value) : Array Value → State → Prop := va_Pc av (fun U => U.heap.size = sz ∧ va_P D cl ws U.heap ∧ va_K D cl tys U ∧ va_D (fun _ => True) ws ∧ tz U U.heap az ∧ nwz U ∧ (va_Nc E_I E_S U ∧ va_Nc E_S E_A U) ∧ nk U)
theorem oP_s {s : State} {H : Heap} {D : va_G} {cl : List vw_C} {tys : List (ClassId × FieldType)} {A : Nat → Prop} {ws : va_W} {As : List Value} {az : Nat} (hP : va_P D cl ws H) (hK : va_K D cl tys s) (hD : va_D A ws) (hz : tz s H az) (hn : nwz s) (hc : va_Nc E_I E_S s ∧ va_Nc E_S E_A s) (hN : nk s) : PreS s H (oP D cl tys ws H.size az As) As :=
  ⟨fun a U g mk q => by
    obtain ⟨q0, q1, qP, qK, qD, q3, q4, q5, qN⟩ := q
    exact ⟨q0, q1, qP, va_K.moved (u := U) (U := U.calling g mk a) (Vm.Alike.refl U.vm) qK, qD, q3.moved (Vm.Alike.refl U.vm) rfl, ⟨⟨va_Nw.same rfl rfl q4.1.1, va_Nw.same rfl rfl q4.1.2.1, va_Nw.same rfl rfl q4.1.2.2⟩, fun y hy => va_Nw.same rfl rfl (q4.2 y hy)⟩, ⟨va_Nc.moved (Vm.Alike.refl U.vm) q5.1, va_Nc.moved (Vm.Alike.refl U.vm) q5.2⟩, qN.same rfl⟩,
   fun U hU hW => ⟨rfl, by rw [hU], by rw [hU]; exact hP, va_K.moved hW.alike hK, hD.weaken (fun _ _ _ _ => trivial), by rw [hU]; exact hz.moved hW.alike rfl, hn.warm hW, ⟨va_Nc.moved hW.alike hc.1, va_Nc.moved hW.alike hc.2⟩, hN.warm hW⟩⟩
theorem rows_of {c : Code} {rows : List (Nat × Nat × Nat × Nat)} (h : c.exceptionTable.toList.map (fun h => (h.startPc, h.endPc, h.handlerPc, h.catchType)) = rows) : c.exceptionTable.toList = rows.map (fun q => ⟨q.1, q.2.1, q.2.2.1, q.2.2.2⟩) := by
  rw [← h, List.map_map]
  exact (List.map_id'' (fun x => by cases x; rfl) _).symm
