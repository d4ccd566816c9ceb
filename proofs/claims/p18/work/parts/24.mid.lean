/-! THE CLAIM OUT OF ONE WALK OF THE LAW'S BODY. Your part is whole_start (and what it stands on); all else here is the same for every law, but numbers. -/
def R_law : String := "WeighRecorderLaw"
def lw_P (b : Addr) (xs : List Int32) (args : Array Value) (s : State) : Prop := args = #[.ref b] ∧ s.IntsAt b xs ∧ xs.length ≤ 2560 ∧ (Jvm.Cond.and given_1 narrow_1).before args s = true
def lw_Q (_ : Array Value) (s : State) (o : Outcome) (t : State) : Prop := o = .returned (some (.int 1)) ∧ Framed s o t [] 1052 9985
def lw_Z (below : List Frame) (a : Array Value) (s : State) : State → Prop := fun t => ∃ o, t.status = .running ∧ Ended t below o ∧ lw_Q a s o t
/-- the law's own end, with 1 on the stack, nothing written that was there before, its room as the claim has it -/
theorem lw_ret {p : Program} {l : Launch} {e : Env} {s : State} {m : MethodId} {below : List Frame} {meth : Method} {c : Code} {b : Nat} (hx : p.tables.exec = Jvm.exec) (hb : c.code = code) (hr : meth.sig.returnType = ret) (hlocks : meth.locks = false) {pc : Nat} {H : Heap} {ls : Array Slot} (hdg : decode code pc = .ok (.ireturn, 1)) : W p l e room_1 s m #[Value.ref b] below meth c H [] 1052 9985 (lw_Z below #[Value.ref b] s) (F0 m pc ls [.int 1]) := by
  intro T hT X
  obtain ⟨fs, hret, hrun, hended, hW, hframe⟩ := X.leave (v := some (.int 1)) (hlocks := hlocks) (fun h => by rw [hr] at h; cases h)
  have hmeth' : T.vm.method? m = some meth := X.method'
  refine ⟨T.setFrames fs, ?_, .returned (some (.int 1)), hrun, hended, rfl, ⟨_, rfl⟩, hW, hframe⟩
  jvm_step X.here [X.here.top, hx, hb, hdg, hmeth', hr, ret, narrow_b1]
  (try refine ⟨rfl, ?_⟩); (try refine ⟨rfl, ?_⟩)
  first | (intro acts; rw [hret _ acts rfl rfl rfl]) | rw [hret _ _ rfl rfl rfl]
  exact Steps.refl _
/-- what holds at the law's entry: the machine, the code, the tables' words (any of lw_tbl by 'hts w (by decide +kernel)'), the script of L ints xs at the cell b, what the Statement gives of the start (any of its parts by flat_of_before) -/
def lw_At (p : Program) (s : State) (m : MethodId) (meth : Method) (c : Code) (b L : Nat) (xs : Nat → Int32) : Prop :=
  p.tables.exec = Jvm.exec ∧ c.code = code ∧ meth.sig.returnType = ret ∧ c.maxLocals = 8 ∧ s.vm.findClass R_law = some m.cls ∧ (∀ w ∈ lw_tbl, w.before #[Value.ref b] s = true) ∧ va_X b L xs s s.heap ∧ b < s.heap.size ∧ meth.locks = false ∧ (Jvm.Cond.and given_1 narrow_1).before #[Value.ref b] s = true
theorem in_nat {x : Int32} {n : Nat} (h : nI 0 ≤ x ∧ x ≤ nI n) (hn : n < 2 ^ 31 := by decide) : ∃ j : Nat, j ≤ n ∧ x = nI j :=
  nI_of2 (M := nI n) (nI_toInt hn) (fun h2 => absurd h.1 (by rw [nI_0]; exact Int32.not_le.mpr h2)) h.2
theorem lg_eq {f : Nat → Int64} {x y : Int64} (h : x = y) : lg_cmp (vp_updL f 0 x 0) y = 0 := (lg_cmp_eq _ _).mpr (by rw [← h]; rfl)
theorem xN_s {s : State} {H : Heap} {D : va_G} {cl : List vw_C} {tys : List (ClassId × FieldType)} {A : Nat → Prop} {ws : va_W} {As : List Value} {x1 x2 : MethodName} (hP : va_P D cl ws H) (hK : va_K D cl tys s) (hD : va_D A ws) (hN : nk s) (h1 : va_Nw (.methodLinkNest R_R 25 x1 R_R) s) (h2 : va_Nw (.methodLinkNest R_R 32 x2 R_R) s) :
    PreS s H (va_Pc As (fun U => (U.heap.size = H.size ∧ va_P D cl ws U.heap ∧ va_K D cl tys U ∧ va_D (fun _ => True) ws ∧ nk U) ∧ (va_Nw (.methodLinkNest R_R 25 x1 R_R) U ∧ va_Nw (.methodLinkNest R_R 32 x2 R_R) U))) As :=
  ⟨fun a U g mk q => by
    obtain ⟨q0, ⟨q1, qP, qK, qD, qN⟩, n1, n2⟩ := q
    exact ⟨q0, ⟨q1, qP, va_K.moved (u := U) (U := U.calling g mk a) (Vm.Alike.refl U.vm) qK, qD, qN.same rfl⟩, va_Nw.same rfl rfl n1, va_Nw.same rfl rfl n2⟩, fun U hU hW => ⟨rfl, ⟨by rw [hU], by rw [hU]; exact hP, va_K.moved hW.alike hK, hD.weaken (fun _ _ _ _ => trivial), hN.warm hW⟩, va_Nw.warmM hW h1, va_Nw.warmM hW h2⟩⟩
theorem tz_start {args : Array Value} {s : State} (l1 : (Cond.laysStatic Bundle.tN "UNASSIGNED_STACK" Bundle.steD).before args s = true) (l2 : (Cond.laysStatic Bundle.tN "SUPPRESSED_SENTINEL" Bundle.listD).before args s = true)
    (r1 : (Cond.isRef (.static Bundle.tN "UNASSIGNED_STACK" Bundle.steD)).before args s = true) (r2 : (Cond.isRef (.static Bundle.tN "SUPPRESSED_SENTINEL" Bundle.listD)).before args s = true) : ∃ az, az < s.heap.size ∧ tz s s.heap az := by
  obtain ⟨c, k, i, f, a, cell, hc, hf, hst, hsta, hcell, hiss, hcls, hlt, hty⟩ := Cond.laysStatic_spec l1
  obtain ⟨c', k', i', f', a', cell', hc', hf', hst', hsta', hcell', hiss', hcls', hlt', hty'⟩ := Cond.laysStatic_spec l2
  cases hc.symm.trans hc'
  cases Option.some.inj ((State.fieldFound?_spec hf).1.symm.trans (State.fieldFound?_spec hf').1)
  cases Option.some.inj (hsta.symm.trans hsta')
  cases Option.some.inj (hcell.symm.trans hcell')
  obtain ⟨v, hv, hvr⟩ := Cond.isRef_spec r1
  obtain ⟨v', hv', hvr'⟩ := Cond.isRef_spec r2
  have he : (Term.static Bundle.tN "UNASSIGNED_STACK" Bundle.steD).eval args s none [] s = cell.slots[f.slot]? := by
    simp [Term.eval, State.fieldNamed?, hf, hst, hsta, hcell, hiss]
  have he' : (Term.static Bundle.tN "SUPPRESSED_SENTINEL" Bundle.listD).eval args s none [] s = cell.slots[f'.slot]? := by
    simp [Term.eval, State.fieldNamed?, hf', hst', hsta, hcell, hiss]
  exact ⟨a, (Array.getElem?_eq_some_iff.mp hcell).1, ⟨c, k, i, f, cell, v, hc, hf, hst, hsta, hcell, hiss, hcls, hlt, hty, he.symm.trans hv, hvr⟩, ⟨c, k, i', f', cell, v', hc, hf', hst', hsta, hcell, hiss, hcls', hlt', hty', he'.symm.trans hv', hvr'⟩⟩
/-- the class's ranges -/
def XI (w wr fl : Nat → Int32) (pw sc : Int32) (lw rot vb : Nat → Int32) (rec tk : Int32) (live row : Nat → Int32) (cur ser dur wo : Int32) (bts : Nat → Int32) (us : Int32) (act : Nat → Int32) (rd rs : Int32) : Prop := ∃ rn tn un : Nat, rec = nI rn ∧ tk = nI tn ∧ us = nI un ∧ tn ≤ rn ∧ rn ≤ 48 ∧ un ≤ 32 ∧ B01 pw ∧ B01 wo ∧ (∀ i, i < 8 → B01 (fl i)) ∧ (∀ i, i < 48 → IX 48 (rot i)) ∧ (∀ i, i < 16 → PG 32 (live i)) ∧ PG 8 cur
def MJ (mrec : Int32) (mlive : Nat → Int32) (mcur : Int32) : Prop := ∃ rn : Nat, mrec = nI rn ∧ MI rn mlive mcur
theorem XI_mk {w wr fl : Nat → Int32} {pw sc : Int32} {lw rot vb : Nat → Int32} {live row : Nat → Int32} {cur ser dur wo : Int32} {bts : Nat → Int32} {act : Nat → Int32} {rd rs : Int32} {rn tn un : Nat} (h1 : tn ≤ rn) (h2 : rn ≤ 48) (h3 : un ≤ 32) (h4 : B01 pw) (h5 : B01 wo) (h6 : ∀ i, i < 8 → B01 (fl i)) (h7 : ∀ i, i < 48 → IX 48 (rot i)) (h8 : ∀ i, i < 16 → PG 32 (live i)) (h9 : PG 8 cur) : XI w wr fl pw sc lw rot vb (nI rn) (nI tn) live row cur ser dur wo bts (nI un) act rd rs :=
  ⟨rn, tn, un, rfl, rfl, rfl, h1, h2, h3, h4, h5, h6, h7, h8, h9⟩
theorem MJ_mk {rn : Nat} {mlive : Nat → Int32} {mcur : Int32} (h : MI rn mlive mcur) : MJ (nI rn) mlive mcur := ⟨rn, rfl, h⟩
theorem cmp_eq {x y : Int32} {P : Prop} (h1 : (x = nI 0 ∧ P) ∨ (x = nI 1 ∧ ¬ P)) (h2 : (y = nI 0 ∧ P) ∨ (y = nI 1 ∧ ¬ P)) : x = y := by
  rcases h1 with ⟨rfl, h1⟩ | ⟨rfl, h1⟩ <;> rcases h2 with ⟨rfl, h2⟩ | ⟨rfl, h2⟩
  · rfl
  · exact absurd h1 h2
  · exact absurd h2 h1
  · rfl
