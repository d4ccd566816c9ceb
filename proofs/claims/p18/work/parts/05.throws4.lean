/-! the class's three throws -/
def E_A : String := "java/lang/IllegalArgumentException"
def E_S : String := "java/lang/IllegalStateException"
def E_I : String := "java/lang/IndexOutOfBoundsException"
def e_up : List String := ["java/lang/RuntimeException", "java/lang/Exception"]
/-- what a throw needs of the tables beside the good words -/
def e_in (c d : String) : MethodName := ⟨c, "<init>", d⟩
def e_dec : List MethodName := [e_in "java/lang/RuntimeException" "()V", e_in "java/lang/RuntimeException" "(Ljava/lang/String;)V", e_in "java/lang/Exception" "()V", e_in "java/lang/Exception" "(Ljava/lang/String;)V", e_in "java/lang/Throwable" "()V", e_in "java/lang/Throwable" "(Ljava/lang/String;)V"]
def nwz (U : State) : Prop := (va_Nw (.castable E_A E_A) U ∧ va_Nw (.castable E_S E_S) U ∧ va_Nw (.castable E_I E_I) U) ∧ ∀ y ∈ e_dec, va_Nw (.declares y) U
theorem nwz.warm {s U : State} (hW : s.WarmedH U.vm) (h : nwz s) : nwz U := ⟨⟨va_Nw.warmC hW h.1.1, va_Nw.warmC hW h.1.2.1, va_Nw.warmC hW h.1.2.2⟩, fun y hy => va_Nw.warmD hW (h.2 y hy)⟩
/-- a start that may throw: Throwable's statics lie at az -/
def tP (az : Nat) (av : List Value) : Array Value → State → Prop := va_Pc av (fun U => tz U U.heap az ∧ nwz U)
theorem tP_blind {az : Nat} {av : List Value} : FrameBlind (tP az av) := fun a U g mk q => by
  obtain ⟨q0, q1, q2⟩ := q
  exact ⟨q0, q1.moved (Vm.Alike.refl U.vm) rfl, ⟨va_Nw.same rfl rfl q2.1.1, va_Nw.same rfl rfl q2.1.2.1, va_Nw.same rfl rfl q2.1.2.2⟩, fun y hy => va_Nw.same rfl rfl (q2.2 y hy)⟩
theorem tP_s {s : State} {H : Heap} {az : Nat} {As : List Value} (hz : tz s H az) (hn : nwz s) : PreS s H (tP az As) As := ⟨tP_blind, fun U hU hW => ⟨rfl, by rw [hU]; exact hz.moved hW.alike rfl, hn.warm hW⟩⟩
def zrest (E : String) : List Cond := e_dec.map Cond.declares ++ [.castable E E, .isRef (.static Bundle.tN "UNASSIGNED_STACK" Bundle.steD), .isRef (.static Bundle.tN "SUPPRESSED_SENTINEL" Bundle.listD), .laysStatic Bundle.tN "UNASSIGNED_STACK" Bundle.steD, .laysStatic Bundle.tN "SUPPRESSED_SENTINEL" Bundle.listD]
theorem own_all {own E : String} {ic : Nat} (h1 : ((Bundle.ownAtoms0 own ic E e_up).filter goodWord).all (fun w => decide (w ∈ lw_tbl)) = true) (h2 : ((Bundle.ownAtoms0 own ic E e_up).filter (fun w => !goodWord w)).all (fun w => decide (w ∈ zrest E)) = true)
    {M : Cond} {s : State} {args : Array Value} {az : Nat} (hts : ∀ w ∈ M :: gw, w.before args s = true) (hz : tz s s.heap az) (hn : va_Nw (.castable E E) s) (hd : ∀ y ∈ e_dec, va_Nw (.declares y) s) : ∀ w ∈ Bundle.ownAtoms0 own ic E e_up, w.before args s = true := by
  intro w hw
  cases hg : goodWord w with
  | true => exact hts w (List.mem_cons_of_mem _ (gw_in (of_decide_eq_true (List.all_eq_true.mp h1 w (List.mem_filter.mpr ⟨hw, hg⟩))) hg))
  | false =>
    have h3 : w ∈ zrest E := of_decide_eq_true (List.all_eq_true.mp h2 w (List.mem_filter.mpr ⟨hw, by simp [hg]⟩))
    rcases List.mem_append.mp h3 with h4 | h3
    · obtain ⟨y, hy, rfl⟩ := List.mem_map.mp h4
      exact va_Nw.use rfl (hd y hy)
    simp only [List.mem_cons, List.not_mem_nil, or_false] at h3
    rcases h3 with rfl | rfl | rfl | rfl | rfl
    · exact va_Nw.use rfl hn
    · exact hz.1.ref
    · exact hz.2.ref
    · exact hz.1.lays
    · exact hz.2.lays
/-- a start of the class's that may throw -/
def xT (D : va_G) (cl : List vw_C) (tys : List (ClassId × FieldType)) (ws : va_W) (az : Nat) (av : List Value) : Array Value → State → Prop := va_Pc av (fun U => va_P D cl ws U.heap ∧ va_K D cl tys U ∧ tz U U.heap az ∧ nwz U ∧ nk U)
theorem xT_blind {D : va_G} {cl : List vw_C} {tys : List (ClassId × FieldType)} {ws : va_W} {az : Nat} {av : List Value} : FrameBlind (xT D cl tys ws az av) := fun a U g mk q => by
  obtain ⟨q0, qP, qK, q1, q2, qN⟩ := q
  exact ⟨q0, qP, va_K.moved (u := U) (U := U.calling g mk a) (Vm.Alike.refl U.vm) qK, q1.moved (Vm.Alike.refl U.vm) rfl, ⟨⟨va_Nw.same rfl rfl q2.1.1, va_Nw.same rfl rfl q2.1.2.1, va_Nw.same rfl rfl q2.1.2.2⟩, fun y hy => va_Nw.same rfl rfl (q2.2 y hy)⟩, qN.same rfl⟩
theorem xT_v {s : State} {H : Heap} {D : va_G} {cl : List vw_C} {tys : List (ClassId × FieldType)} {ws : va_W} {As : List Value} {b ci az : Nat} {fs : List Value} {q : vw_C} (hP : va_P D cl ws H) (hK : va_K D cl tys s) (hz : tz s H az) (hn : nwz s) (hN : nk s) (k : Nat) (he : ws[k]? = some (b, .inr (ci, fs))) (hc : cl[ci]? = some q) : PreV s H q.1 b (xT D cl tys ws az (.ref b :: As)) As :=
  ⟨xT_blind, va_recv hK hP hc he, fun U hU hW => ⟨rfl, by rw [hU]; exact hP, va_K.moved hW.alike hK, by rw [hU]; exact hz.moved hW.alike rfl, hn.warm hW, hN.warm hW⟩⟩
