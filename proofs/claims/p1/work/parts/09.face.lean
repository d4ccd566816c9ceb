set_option maxHeartbeats 4000000 in
set_option maxRecDepth 100000 in
theorem c_R_forgetReadings (l : Launch) (dC : Nat → ClassId) (dI : Nat → Nat → Nat) (ad cd : Nat → Nat) (sz : Nat) (w wr fl : Nat → Int32) (pw sc : Int32) (lw rot vb : Nat → Int32) (rec tk : Int32) (live row : Nat → Int32) (cur ser dur wo : Int32) (bts : Nat → Int32) (us : Int32) (act : Nat → Int32) (rd rs : Int32)  : Met l y_R_forgetReadings w_R_forgetReadings ({ frames := 0, cells := 0, slots := 0, locals := 0 }) (xP (dC, dI) vwCl (xt cd) (xw ad cd w wr fl pw sc lw rot vb rec tk live row cur ser dur wo bts us act rd rs) sz [.ref (ad 0)]) (va_Qv (fun (u : Unit) => True) (fun (u : Unit) (t : State) => xB (dC, dI) vwCl (xt cd) (xA 15 ad sz) (xw ad cd w wr fl pw sc lw rot vb rec tk live row cur ser dur wo bts us act (nI 0) (nI 0)) t) (xA 15 ad sz)) 0 0 (xA 15 ad sz) := by
  refine Met.ofW (cc := b_R_forgetReadings) (maxL := 1) (ret := none) (by decide) rfl ?_
  intro P e s m args below meth c0 s₁ B hml hv
  obtain ⟨rfl, hsz, hP, hK, hD0⟩ := hv
  have hx := B.exec
  have hb := B.bytes
  have hr := B.returns
  have hts := atoms_spec (ws := w_R_forgetReadings) B.pre
  have hown : s.vm.findClass R_R = some m.cls := findClass_of_methodNamed B.named
  have hlocks := B.notSynchronized
  subst hsz
  have hD := xw_D (sz := s.heap.size) hD0
  have hS : va_S (xA 15 ad s.heap.size) s.heap s.heap [] := va_S.rf
  have hl := lv_entry ([.ref (ad 0)]) (n := 1) (Nat.le_of_ble_eq_true rfl)
  rw [lg_entry_eq]
  generalize (lg_sl ([.ref (ad 0)]) ++ List.replicate (1 - (lg_sl ([.ref (ad 0)])).length) Slot.unset).toArray = ls at hl ⊢
  have hl : lv_has ls 1 [(0, .ref (ad 0))] := hl
  refine lv_aload_n hx hb d_R_forgetReadings_0 rfl (lv_at hl 0 rfl) ?_
  refine lv_iconst (v := nI 0) hx hb d_R_forgetReadings_1 (by decide) ?_
  refine va_put (D := (dC, dI)) (ci := 4) (v := .int (nI 0)) (ty := .int) (C := R_R) (T := F_R) (N := 7) hx hb hts (fun w h => List.mem_cons_of_mem _ (in_R w h)) t_R ok_R nm_R hown hK hP hD hS 0 rfl rfl 5 (by decide) (hts (.fieldLink R_R 41 R_R "readings" "I") (List.mem_cons_of_mem _ t_119)) (fun _ h9 => h9) rfl (by decide +kernel) rfl rfl (Nat.le_of_ble_eq_true rfl) d_R_forgetReadings_2 (fun H locs hP hD hS => ?_)
  have hP : va_P (dC, dI) vwCl (xw ad cd w wr fl pw sc lw rot vb rec tk live row cur ser dur wo bts us act (nI 0) rs) H := hP
  have hD : va_D (xA 15 ad s.heap.size) (xw ad cd w wr fl pw sc lw rot vb rec tk live row cur ser dur wo bts us act (nI 0) rs) := hD
  refine lv_aload_n hx hb d_R_forgetReadings_5 rfl (lv_at hl 0 rfl) ?_
  refine lv_iconst (v := nI 0) hx hb d_R_forgetReadings_6 (by decide) ?_
  refine va_put (D := (dC, dI)) (ci := 4) (v := .int (nI 0)) (ty := .int) (C := R_R) (T := F_R) (N := 7) hx hb hts (fun w h => List.mem_cons_of_mem _ (in_R w h)) t_R ok_R nm_R hown hK hP hD hS 0 rfl rfl 6 (by decide) (hts (.fieldLink R_R 45 R_R "readSteps" "I") (List.mem_cons_of_mem _ t_120)) (fun _ h9 => h9) rfl (by decide +kernel) rfl rfl (Nat.le_of_ble_eq_true rfl) d_R_forgetReadings_7 (fun H locs hP hD hS => ?_)
  have hP : va_P (dC, dI) vwCl (xw ad cd w wr fl pw sc lw rot vb rec tk live row cur ser dur wo bts us act (nI 0) (nI 0)) H := hP
  have hD : va_D (xA 15 ad s.heap.size) (xw ad cd w wr fl pw sc lw rot vb rec tk live row cur ser dur wo bts us act (nI 0) (nI 0)) := hD
  exact W.vret hx hb hr (fun t ht hW => ⟨⟨(), rfl, by first | rfl | trivial | omega, ⟨by rw [ht]; exact hP, va_K.moved hW.alike hK, hD⟩⟩, hS.F ht⟩) hS.2.2 d_R_forgetReadings_10
