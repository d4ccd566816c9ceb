set_option maxHeartbeats 4000000 in
set_option maxRecDepth 100000 in
theorem c_C_isPowered (l : Launch) (dC : Nat → ClassId) (dI : Nat → Nat → Nat) (ad cd : Nat → Nat) (w wr fl : Nat → Int32) (pw sc : Int32) (lw rot vb : Nat → Int32) (rec tk : Int32) (live row : Nat → Int32) (cur ser dur wo : Int32) (bts : Nat → Int32) (us : Int32) (act : Nat → Int32) (rd rs : Int32)  (hpw : B01 pw) : Met l y_C_isPowered w_C_isPowered ({ frames := 0, cells := 0, slots := 0, locals := 0 }) (xR (dC, dI) vwCl (xt cd) (xw ad cd w wr fl pw sc lw rot vb rec tk live row cur ser dur wo bts us act rd rs) [.ref (ad 2)]) (vp_Si (fun r => r = pw)) 0 0 (fun _ => False) := by
  refine Met.ofW (cc := b_C_isPowered) (maxL := 1) (ret := (some (.boolean))) (by decide) rfl ?_
  intro P e s m args below meth c0 s₁ B hml hv
  obtain ⟨rfl, hP, hK, hN⟩ := hv
  have hx := B.exec
  have hb := B.bytes
  have hr := B.returns
  have hts := atoms_spec (ws := w_C_isPowered) B.pre
  have hown : s.vm.findClass R_C = some m.cls := findClass_of_methodNamed B.named
  have hlocks := B.notSynchronized
  have hl := lv_entry ([.ref (ad 2)]) (n := 1) (Nat.le_of_ble_eq_true rfl)
  rw [lg_entry_eq]
  generalize (lg_sl ([.ref (ad 2)]) ++ List.replicate (1 - (lg_sl ([.ref (ad 2)])).length) Slot.unset).toArray = ls at hl ⊢
  have hl : lv_has ls 1 [(0, .ref (ad 2))] := hl
  refine lv_aload_n hx hb d_C_isPowered_0 rfl (lv_at hl 0 rfl) ?_
  refine va_get (D := (dC, dI)) (ci := 0) (v := .int pw) (C := R_C) (T := F_C) (N := 5) hx hb hts (fun w h => List.mem_cons_of_mem _ (in_C w h)) hown hK hP 2 rfl rfl 3 (by decide) (hts (.fieldLink R_C 22 R_C "powered" "Z") (List.mem_cons_of_mem _ t_37)) (fun _ h9 => h9) rfl d_C_isPowered_1 ?_
  exact W.zret (v := pw) hx hb hr (hpw.nar) (fun t ht hW => ⟨pw, rfl, by first | rfl | trivial | omega, ht⟩) (fun q hq => by cases hq) d_C_isPowered_4
set_option maxHeartbeats 4000000 in
set_option maxRecDepth 100000 in
theorem c_C_read (l : Launch) (dC : Nat → ClassId) (dI : Nat → Nat → Nat) (ad cd : Nat → Nat) (w wr fl : Nat → Int32) (pw sc : Int32) (lw rot vb : Nat → Int32) (rec tk : Int32) (live row : Nat → Int32) (cur ser dur wo : Int32) (bts : Nat → Int32) (us : Int32) (act : Nat → Int32) (rd rs : Int32) (pa : Nat) (k : Nat) (hp : pa < 32) (hk : k < 16) : Met l y_C_read w_C_read ({ frames := 0, cells := 0, slots := 0, locals := 0 }) (xR (dC, dI) vwCl (xt cd) (xw ad cd w wr fl pw sc lw rot vb rec tk live row cur ser dur wo bts us act rd rs) [.ref (ad 2), .int (nI pa), .int (nI k)]) (vp_Si (fun r => r = w (16 * pa + k))) 0 0 (fun _ => False) := by
  refine Met.ofW (cc := b_C_read) (maxL := 3) (ret := (some (.int))) (by decide) rfl ?_
  intro P e s m args below meth c0 s₁ B hml hv
  obtain ⟨rfl, hP, hK, hN⟩ := hv
  have hx := B.exec
  have hb := B.bytes
  have hr := B.returns
  have hts := atoms_spec (ws := w_C_read) B.pre
  have hown : s.vm.findClass R_C = some m.cls := findClass_of_methodNamed B.named
  have hlocks := B.notSynchronized
  have hl := lv_entry ([.ref (ad 2), .int (nI pa), .int (nI k)]) (n := 3) (Nat.le_of_ble_eq_true rfl)
  rw [lg_entry_eq]
  generalize (lg_sl ([.ref (ad 2), .int (nI pa), .int (nI k)]) ++ List.replicate (3 - (lg_sl ([.ref (ad 2), .int (nI pa), .int (nI k)])).length) Slot.unset).toArray = ls at hl ⊢
  have hl : lv_has ls 3 [(0, .ref (ad 2)), (1, .int (nI pa)), (2, .int (nI k))] := hl
  refine lv_aload_n hx hb d_C_read_0 rfl (lv_at hl 0 rfl) ?_
  refine va_get (D := (dC, dI)) (ci := 0) (v := .ref (ad 8)) (C := R_C) (T := F_C) (N := 5) hx hb hts (fun w h => List.mem_cons_of_mem _ (in_C w h)) hown hK hP 2 rfl rfl 0 (by decide) (hts (.fieldLink R_C 9 R_C "words" "[I") (List.mem_cons_of_mem _ t_34)) (fun _ h9 => h9) rfl d_C_read_1 ?_
  refine lv_iload_n hx hb d_C_read_4 rfl (lv_at hl 1 rfl) ?_
  refine lv_bipush (v := nI 16) hx hb d_C_read_5 (by decide) ?_
  refine lv_imul hx hb d_C_read_7 ?_
  refine tp_i (y := nI (pa * 16)) (pk_mul _ _) ?_
  refine lv_iload_n hx hb d_C_read_8 rfl (lv_at hl 2 rfl) ?_
  refine lv_iadd hx hb d_C_read_9 ?_
  refine tp_i (y := nI ((pa * 16) + k)) (nI_add _ _) ?_
  refine va_iald hx hb hK hP 8 3 rfl rfl (vp_in_nI (by omega) (by decide)) d_C_read_10 ?_
  refine tp_i (y := w ((pa * 16) + k)) (by rw [nI_clamp (by omega)]) ?_
  exact W.iret (v := w ((pa * 16) + k)) hx hb hr (fun t ht hW => ⟨w ((pa * 16) + k), rfl, by rw [Nat.mul_comm 16 pa], ht⟩) (fun q hq => by cases hq) d_C_read_11
set_option maxHeartbeats 4000000 in
set_option maxRecDepth 100000 in
theorem c_C_wearAt (l : Launch) (dC : Nat → ClassId) (dI : Nat → Nat → Nat) (ad cd : Nat → Nat) (w wr fl : Nat → Int32) (pw sc : Int32) (lw rot vb : Nat → Int32) (rec tk : Int32) (live row : Nat → Int32) (cur ser dur wo : Int32) (bts : Nat → Int32) (us : Int32) (act : Nat → Int32) (rd rs : Int32) (b : Nat) (hp : b < 8) : Met l y_C_wearAt w_C_wearAt ({ frames := 0, cells := 0, slots := 0, locals := 0 }) (xR (dC, dI) vwCl (xt cd) (xw ad cd w wr fl pw sc lw rot vb rec tk live row cur ser dur wo bts us act rd rs) [.ref (ad 2), .int (nI b)]) (vp_Si (fun r => True)) 0 0 (fun _ => False) := by
  refine Met.ofW (cc := b_C_wearAt) (maxL := 2) (ret := (some (.int))) (by decide) rfl ?_
  intro P e s m args below meth c0 s₁ B hml hv
  obtain ⟨rfl, hP, hK, hN⟩ := hv
  have hx := B.exec
  have hb := B.bytes
  have hr := B.returns
  have hts := atoms_spec (ws := w_C_wearAt) B.pre
  have hown : s.vm.findClass R_C = some m.cls := findClass_of_methodNamed B.named
  have hlocks := B.notSynchronized
  have hl := lv_entry ([.ref (ad 2), .int (nI b)]) (n := 2) (Nat.le_of_ble_eq_true rfl)
  rw [lg_entry_eq]
  generalize (lg_sl ([.ref (ad 2), .int (nI b)]) ++ List.replicate (2 - (lg_sl ([.ref (ad 2), .int (nI b)])).length) Slot.unset).toArray = ls at hl ⊢
  have hl : lv_has ls 2 [(0, .ref (ad 2)), (1, .int (nI b))] := hl
  refine lv_aload_n hx hb d_C_wearAt_0 rfl (lv_at hl 0 rfl) ?_
  refine va_get (D := (dC, dI)) (ci := 0) (v := .ref (ad 9)) (C := R_C) (T := F_C) (N := 5) hx hb hts (fun w h => List.mem_cons_of_mem _ (in_C w h)) hown hK hP 2 rfl rfl 1 (by decide) (hts (.fieldLink R_C 15 R_C "wear" "[I") (List.mem_cons_of_mem _ t_35)) (fun _ h9 => h9) rfl d_C_wearAt_1 ?_
  refine lv_iload_n hx hb d_C_wearAt_4 rfl (lv_at hl 1 rfl) ?_
  refine va_iald hx hb hK hP 9 4 rfl rfl (vp_in_nI (by omega) (by decide)) d_C_wearAt_5 ?_
  refine tp_i (y := wr b) (by rw [nI_clamp (by omega)]) ?_
  exact W.iret (v := wr b) hx hb hr (fun t ht hW => ⟨wr b, rfl, by first | rfl | trivial | omega, ht⟩) (fun q hq => by cases hq) d_C_wearAt_6
set_option maxHeartbeats 4000000 in
set_option maxRecDepth 100000 in
theorem c_C_hasFailed (l : Launch) (dC : Nat → ClassId) (dI : Nat → Nat → Nat) (ad cd : Nat → Nat) (w wr fl : Nat → Int32) (pw sc : Int32) (lw rot vb : Nat → Int32) (rec tk : Int32) (live row : Nat → Int32) (cur ser dur wo : Int32) (bts : Nat → Int32) (us : Int32) (act : Nat → Int32) (rd rs : Int32) (b : Nat) (hp : b < 8) (hfl : ∀ i, i < 8 → B01 (fl i)) : Met l y_C_hasFailed w_C_hasFailed ({ frames := 0, cells := 0, slots := 0, locals := 0 }) (xR (dC, dI) vwCl (xt cd) (xw ad cd w wr fl pw sc lw rot vb rec tk live row cur ser dur wo bts us act rd rs) [.ref (ad 2), .int (nI b)]) (vp_Si (fun r => True)) 0 0 (fun _ => False) := by
  refine Met.ofW (cc := b_C_hasFailed) (maxL := 2) (ret := (some (.boolean))) (by decide) rfl ?_
  intro P e s m args below meth c0 s₁ B hml hv
  obtain ⟨rfl, hP, hK, hN⟩ := hv
  have hx := B.exec
  have hb := B.bytes
  have hr := B.returns
  have hts := atoms_spec (ws := w_C_hasFailed) B.pre
  have hown : s.vm.findClass R_C = some m.cls := findClass_of_methodNamed B.named
  have hlocks := B.notSynchronized
  have hl := lv_entry ([.ref (ad 2), .int (nI b)]) (n := 2) (Nat.le_of_ble_eq_true rfl)
  rw [lg_entry_eq]
  generalize (lg_sl ([.ref (ad 2), .int (nI b)]) ++ List.replicate (2 - (lg_sl ([.ref (ad 2), .int (nI b)])).length) Slot.unset).toArray = ls at hl ⊢
  have hl : lv_has ls 2 [(0, .ref (ad 2)), (1, .int (nI b))] := hl
  refine lv_aload_n hx hb d_C_hasFailed_0 rfl (lv_at hl 0 rfl) ?_
  refine va_get (D := (dC, dI)) (ci := 0) (v := .ref (ad 10)) (C := R_C) (T := F_C) (N := 5) hx hb hts (fun w h => List.mem_cons_of_mem _ (in_C w h)) hown hK hP 2 rfl rfl 2 (by decide) (hts (.fieldLink R_C 18 R_C "failed" "[Z") (List.mem_cons_of_mem _ t_36)) (fun _ h9 => h9) rfl d_C_hasFailed_1 ?_
  refine lv_iload_n hx hb d_C_hasFailed_4 rfl (lv_at hl 1 rfl) ?_
  refine va_zald hx hb hK hP 10 5 rfl rfl (vp_in_nI (by omega) (by decide)) d_C_hasFailed_5 ?_
  refine tp_i (y := fl b) (by rw [nI_clamp (by omega)]) ?_
  exact W.zret (v := fl b) hx hb hr ((hfl b hp).nar) (fun t ht hW => ⟨fl b, rfl, trivial, ht⟩) (fun q hq => by cases hq) d_C_hasFailed_6
set_option maxHeartbeats 4000000 in
set_option maxRecDepth 100000 in
theorem c_C_turnOff (l : Launch) (dC : Nat → ClassId) (dI : Nat → Nat → Nat) (ad cd : Nat → Nat) (sz : Nat) (w wr fl : Nat → Int32) (pw sc : Int32) (lw rot vb : Nat → Int32) (rec tk : Int32) (live row : Nat → Int32) (cur ser dur wo : Int32) (bts : Nat → Int32) (us : Int32) (act : Nat → Int32) (rd rs : Int32)  : Met l y_C_turnOff w_C_turnOff ({ frames := 0, cells := 0, slots := 0, locals := 0 }) (xP (dC, dI) vwCl (xt cd) (xw ad cd w wr fl pw sc lw rot vb rec tk live row cur ser dur wo bts us act rd rs) sz [.ref (ad 2)]) (va_Qv (fun (u : (Nat → Nat → Int32) × (Nat → Int32) × (Nat → Nat)) => B01 (u.2.1 0)) (fun (u : (Nat → Nat → Int32) × (Nat → Int32) × (Nat → Nat)) (t : State) => xB (dC, dI) vwCl (xt cd) (xA 15 ad sz) (xw ad cd w wr fl (u.2.1 0) (u.2.1 1) lw rot vb rec tk live row cur ser dur wo bts us act rd rs) t) (xA 15 ad sz)) 0 0 (xA 15 ad sz) := by
  refine Met.ofW (cc := b_C_turnOff) (maxL := 1) (ret := none) (by decide) rfl ?_
  intro P e s m args below meth c0 s₁ B hml hv
  obtain ⟨rfl, hsz, hP, hK, hD0, hN⟩ := hv
  have hx := B.exec
  have hb := B.bytes
  have hr := B.returns
  have hts := atoms_spec (ws := w_C_turnOff) B.pre
  have hown : s.vm.findClass R_C = some m.cls := findClass_of_methodNamed B.named
  have hlocks := B.notSynchronized
  subst hsz
  have hD := xw_D (sz := s.heap.size) hD0
  have hS : va_S (xA 15 ad s.heap.size) s.heap s.heap [] := va_S.rf
  have hA : ∀ q : Nat, s.heap.size ≤ q → (xA 15 ad s.heap.size) q := fun q h => Or.inr h
  have hl := lv_entry ([.ref (ad 2)]) (n := 1) (Nat.le_of_ble_eq_true rfl)
  rw [lg_entry_eq]
  generalize (lg_sl ([.ref (ad 2)]) ++ List.replicate (1 - (lg_sl ([.ref (ad 2)])).length) Slot.unset).toArray = ls at hl ⊢
  have hl : lv_has ls 1 [(0, .ref (ad 2))] := hl
  refine lv_aload_n hx hb d_C_turnOff_0 rfl (lv_at hl 0 rfl) ?_
  refine lv_iconst (v := nI 0) hx hb d_C_turnOff_1 (by decide) ?_
  refine va_put (D := (dC, dI)) (ci := 0) (v := .int (nI 0)) (ty := .boolean) (C := R_C) (T := F_C) (N := 5) hx hb hts (fun w h => List.mem_cons_of_mem _ (in_C w h)) t_C ok_C nm_C hown hK hP hD hS 2 rfl rfl 3 (by decide) (hts (.fieldLink R_C 22 R_C "powered" "Z") (List.mem_cons_of_mem _ t_37)) (fun _ h9 => h9) rfl (by decide +kernel) (by first | rfl | decide | assumption) rfl (Nat.le_of_ble_eq_true rfl) d_C_turnOff_2 (fun H locs hP hD hS => ?_)
  have hP : va_P (dC, dI) vwCl (xw ad cd w wr fl (nI 0) sc lw rot vb rec tk live row cur ser dur wo bts us act rd rs) H := hP
  have hD : va_D (xA 15 ad s.heap.size) (xw ad cd w wr fl (nI 0) sc lw rot vb rec tk live row cur ser dur wo bts us act rd rs) := hD
  refine lv_aload_n hx hb d_C_turnOff_5 rfl (lv_at hl 0 rfl) ?_
  refine lv_iconst (v := (-1)) hx hb d_C_turnOff_6 (by decide) ?_
  refine va_put (D := (dC, dI)) (ci := 0) (v := .int (-1)) (ty := .int) (C := R_C) (T := F_C) (N := 5) hx hb hts (fun w h => List.mem_cons_of_mem _ (in_C w h)) t_C ok_C nm_C hown hK hP hD hS 2 rfl rfl 4 (by decide) (hts (.fieldLink R_C 26 R_C "stepsToCut" "I") (List.mem_cons_of_mem _ t_38)) (fun _ h9 => h9) rfl (by decide +kernel) rfl rfl (Nat.le_of_ble_eq_true rfl) d_C_turnOff_7 (fun H locs hP hD hS => ?_)
  have hP : va_P (dC, dI) vwCl (xw ad cd w wr fl (nI 0) (-1) lw rot vb rec tk live row cur ser dur wo bts us act rd rs) H := hP
  have hD : va_D (xA 15 ad s.heap.size) (xw ad cd w wr fl (nI 0) (-1) lw rot vb rec tk live row cur ser dur wo bts us act rd rs) := hD
  exact W.vret hx hb hr (fun t ht hW => ⟨⟨(fun i => [].getD i (fun _ => 0), fun i => [nI 0, (-1)].getD i 0, fun i => [].getD i 0), rfl, B01.n0, ⟨by rw [ht]; exact hP, va_K.moved hW.alike hK, hD⟩⟩, hS.F ht⟩) hS.2.2 d_C_turnOff_10
set_option maxHeartbeats 4000000 in
set_option maxRecDepth 100000 in
theorem c_C_turnOn (l : Launch) (dC : Nat → ClassId) (dI : Nat → Nat → Nat) (ad cd : Nat → Nat) (sz : Nat) (w wr fl : Nat → Int32) (pw sc : Int32) (lw rot vb : Nat → Int32) (rec tk : Int32) (live row : Nat → Int32) (cur ser dur wo : Int32) (bts : Nat → Int32) (us : Int32) (act : Nat → Int32) (rd rs : Int32)  : Met l y_C_turnOn w_C_turnOn ({ frames := 0, cells := 0, slots := 0, locals := 0 }) (xP (dC, dI) vwCl (xt cd) (xw ad cd w wr fl pw sc lw rot vb rec tk live row cur ser dur wo bts us act rd rs) sz [.ref (ad 2)]) (va_Qv (fun (u : (Nat → Nat → Int32) × (Nat → Int32) × (Nat → Nat)) => B01 (u.2.1 0)) (fun (u : (Nat → Nat → Int32) × (Nat → Int32) × (Nat → Nat)) (t : State) => xB (dC, dI) vwCl (xt cd) (xA 15 ad sz) (xw ad cd w wr fl (u.2.1 0) sc lw rot vb rec tk live row cur ser dur wo bts us act rd rs) t) (xA 15 ad sz)) 0 0 (xA 15 ad sz) := by
  refine Met.ofW (cc := b_C_turnOn) (maxL := 1) (ret := none) (by decide) rfl ?_
  intro P e s m args below meth c0 s₁ B hml hv
  obtain ⟨rfl, hsz, hP, hK, hD0, hN⟩ := hv
  have hx := B.exec
  have hb := B.bytes
  have hr := B.returns
  have hts := atoms_spec (ws := w_C_turnOn) B.pre
  have hown : s.vm.findClass R_C = some m.cls := findClass_of_methodNamed B.named
  have hlocks := B.notSynchronized
  subst hsz
  have hD := xw_D (sz := s.heap.size) hD0
  have hS : va_S (xA 15 ad s.heap.size) s.heap s.heap [] := va_S.rf
  have hA : ∀ q : Nat, s.heap.size ≤ q → (xA 15 ad s.heap.size) q := fun q h => Or.inr h
  have hl := lv_entry ([.ref (ad 2)]) (n := 1) (Nat.le_of_ble_eq_true rfl)
  rw [lg_entry_eq]
  generalize (lg_sl ([.ref (ad 2)]) ++ List.replicate (1 - (lg_sl ([.ref (ad 2)])).length) Slot.unset).toArray = ls at hl ⊢
  have hl : lv_has ls 1 [(0, .ref (ad 2))] := hl
  refine lv_aload_n hx hb d_C_turnOn_0 rfl (lv_at hl 0 rfl) ?_
  refine lv_iconst (v := nI 1) hx hb d_C_turnOn_1 (by decide) ?_
  refine va_put (D := (dC, dI)) (ci := 0) (v := .int (nI 1)) (ty := .boolean) (C := R_C) (T := F_C) (N := 5) hx hb hts (fun w h => List.mem_cons_of_mem _ (in_C w h)) t_C ok_C nm_C hown hK hP hD hS 2 rfl rfl 3 (by decide) (hts (.fieldLink R_C 22 R_C "powered" "Z") (List.mem_cons_of_mem _ t_37)) (fun _ h9 => h9) rfl (by decide +kernel) (by first | rfl | decide | assumption) rfl (Nat.le_of_ble_eq_true rfl) d_C_turnOn_2 (fun H locs hP hD hS => ?_)
  have hP : va_P (dC, dI) vwCl (xw ad cd w wr fl (nI 1) sc lw rot vb rec tk live row cur ser dur wo bts us act rd rs) H := hP
  have hD : va_D (xA 15 ad s.heap.size) (xw ad cd w wr fl (nI 1) sc lw rot vb rec tk live row cur ser dur wo bts us act rd rs) := hD
  exact W.vret hx hb hr (fun t ht hW => ⟨⟨(fun i => [].getD i (fun _ => 0), fun i => [nI 1].getD i 0, fun i => [].getD i 0), rfl, B01.n1, ⟨by rw [ht]; exact hP, va_K.moved hW.alike hK, hD⟩⟩, hS.F ht⟩) hS.2.2 d_C_turnOn_5
set_option maxHeartbeats 4000000 in
set_option maxRecDepth 100000 in
theorem c_C_tellCut (l : Launch) (dC : Nat → ClassId) (dI : Nat → Nat → Nat) (ad cd : Nat → Nat) (sz : Nat) (w wr fl : Nat → Int32) (pw sc : Int32) (lw rot vb : Nat → Int32) (rec tk : Int32) (live row : Nat → Int32) (cur ser dur wo : Int32) (bts : Nat → Int32) (us : Int32) (act : Nat → Int32) (rd rs : Int32) (n : Int32) : Met l y_C_tellCut w_C_tellCut ({ frames := 0, cells := 0, slots := 0, locals := 0 }) (xP (dC, dI) vwCl (xt cd) (xw ad cd w wr fl pw sc lw rot vb rec tk live row cur ser dur wo bts us act rd rs) sz [.ref (ad 2), .int n]) (va_Qv (fun (u : (Nat → Nat → Int32) × (Nat → Int32) × (Nat → Nat)) => True) (fun (u : (Nat → Nat → Int32) × (Nat → Int32) × (Nat → Nat)) (t : State) => xB (dC, dI) vwCl (xt cd) (xA 15 ad sz) (xw ad cd w wr fl pw (u.2.1 0) lw rot vb rec tk live row cur ser dur wo bts us act rd rs) t) (xA 15 ad sz)) 0 0 (xA 15 ad sz) := by
  refine Met.ofW (cc := b_C_tellCut) (maxL := 2) (ret := none) (by decide) rfl ?_
  intro P e s m args below meth c0 s₁ B hml hv
  obtain ⟨rfl, hsz, hP, hK, hD0, hN⟩ := hv
  have hx := B.exec
  have hb := B.bytes
  have hr := B.returns
  have hts := atoms_spec (ws := w_C_tellCut) B.pre
  have hown : s.vm.findClass R_C = some m.cls := findClass_of_methodNamed B.named
  have hlocks := B.notSynchronized
  subst hsz
  have hD := xw_D (sz := s.heap.size) hD0
  have hS : va_S (xA 15 ad s.heap.size) s.heap s.heap [] := va_S.rf
  have hA : ∀ q : Nat, s.heap.size ≤ q → (xA 15 ad s.heap.size) q := fun q h => Or.inr h
  have hl := lv_entry ([.ref (ad 2), .int n]) (n := 2) (Nat.le_of_ble_eq_true rfl)
  rw [lg_entry_eq]
  generalize (lg_sl ([.ref (ad 2), .int n]) ++ List.replicate (2 - (lg_sl ([.ref (ad 2), .int n])).length) Slot.unset).toArray = ls at hl ⊢
  have hl : lv_has ls 2 [(0, .ref (ad 2)), (1, .int n)] := hl
  refine lv_aload_n hx hb d_C_tellCut_0 rfl (lv_at hl 0 rfl) ?_
  refine lv_iload_n hx hb d_C_tellCut_1 rfl (lv_at hl 1 rfl) ?_
  refine va_put (D := (dC, dI)) (ci := 0) (v := .int n) (ty := .int) (C := R_C) (T := F_C) (N := 5) hx hb hts (fun w h => List.mem_cons_of_mem _ (in_C w h)) t_C ok_C nm_C hown hK hP hD hS 2 rfl rfl 4 (by decide) (hts (.fieldLink R_C 26 R_C "stepsToCut" "I") (List.mem_cons_of_mem _ t_38)) (fun _ h9 => h9) rfl (by decide +kernel) rfl rfl (Nat.le_of_ble_eq_true rfl) d_C_tellCut_2 (fun H locs hP hD hS => ?_)
  have hP : va_P (dC, dI) vwCl (xw ad cd w wr fl pw n lw rot vb rec tk live row cur ser dur wo bts us act rd rs) H := hP
  have hD : va_D (xA 15 ad s.heap.size) (xw ad cd w wr fl pw n lw rot vb rec tk live row cur ser dur wo bts us act rd rs) := hD
  exact W.vret hx hb hr (fun t ht hW => ⟨⟨(fun i => [].getD i (fun _ => 0), fun i => [n].getD i 0, fun i => [].getD i 0), rfl, by first | rfl | trivial | omega, ⟨by rw [ht]; exact hP, va_K.moved hW.alike hK, hD⟩⟩, hS.F ht⟩) hS.2.2 d_C_tellCut_5
set_option maxHeartbeats 4000000 in
set_option maxRecDepth 100000 in
theorem c_C_flip (l : Launch) (dC : Nat → ClassId) (dI : Nat → Nat → Nat) (ad cd : Nat → Nat) (sz : Nat) (w wr fl : Nat → Int32) (pw sc : Int32) (lw rot vb : Nat → Int32) (rec tk : Int32) (live row : Nat → Int32) (cur ser dur wo : Int32) (bts : Nat → Int32) (us : Int32) (act : Nat → Int32) (rd rs : Int32) (pa : Nat) (k : Nat) (mask : Int32) (hp : pa < 32) (hk : k < 16) : Met l y_C_flip w_C_flip ({ frames := 0, cells := 0, slots := 0, locals := 0 }) (xP (dC, dI) vwCl (xt cd) (xw ad cd w wr fl pw sc lw rot vb rec tk live row cur ser dur wo bts us act rd rs) sz [.ref (ad 2), .int (nI pa), .int (nI k), .int mask]) (va_Qv (fun (u : (Nat → Nat → Int32) × (Nat → Int32) × (Nat → Nat)) => True) (fun (u : (Nat → Nat → Int32) × (Nat → Int32) × (Nat → Nat)) (t : State) => xB (dC, dI) vwCl (xt cd) (xA 15 ad sz) (xw ad cd (u.1 0) wr fl pw sc lw rot vb rec tk live row cur ser dur wo bts us act rd rs) t) (xA 15 ad sz)) 0 0 (xA 15 ad sz) := by
  refine Met.ofW (cc := b_C_flip) (maxL := 4) (ret := none) (by decide) rfl ?_
  intro P e s m args below meth c0 s₁ B hml hv
  obtain ⟨rfl, hsz, hP, hK, hD0, hN⟩ := hv
  have hx := B.exec
  have hb := B.bytes
  have hr := B.returns
  have hts := atoms_spec (ws := w_C_flip) B.pre
  have hown : s.vm.findClass R_C = some m.cls := findClass_of_methodNamed B.named
  have hlocks := B.notSynchronized
  subst hsz
  have hD := xw_D (sz := s.heap.size) hD0
  have hS : va_S (xA 15 ad s.heap.size) s.heap s.heap [] := va_S.rf
  have hA : ∀ q : Nat, s.heap.size ≤ q → (xA 15 ad s.heap.size) q := fun q h => Or.inr h
  have hl := lv_entry ([.ref (ad 2), .int (nI pa), .int (nI k), .int mask]) (n := 4) (Nat.le_of_ble_eq_true rfl)
  rw [lg_entry_eq]
  generalize (lg_sl ([.ref (ad 2), .int (nI pa), .int (nI k), .int mask]) ++ List.replicate (4 - (lg_sl ([.ref (ad 2), .int (nI pa), .int (nI k), .int mask])).length) Slot.unset).toArray = ls at hl ⊢
  have hl : lv_has ls 4 [(0, .ref (ad 2)), (1, .int (nI pa)), (2, .int (nI k)), (3, .int mask)] := hl
  refine lv_aload_n hx hb d_C_flip_0 rfl (lv_at hl 0 rfl) ?_
  refine va_get (D := (dC, dI)) (ci := 0) (v := .ref (ad 8)) (C := R_C) (T := F_C) (N := 5) hx hb hts (fun w h => List.mem_cons_of_mem _ (in_C w h)) hown hK hP 2 rfl rfl 0 (by decide) (hts (.fieldLink R_C 9 R_C "words" "[I") (List.mem_cons_of_mem _ t_34)) (fun _ h9 => h9) rfl d_C_flip_1 ?_
  refine lv_iload_n hx hb d_C_flip_4 rfl (lv_at hl 1 rfl) ?_
  refine lv_bipush (v := nI 16) hx hb d_C_flip_5 (by decide) ?_
  refine lv_imul hx hb d_C_flip_7 ?_
  refine tp_i (y := nI (pa * 16)) (pk_mul _ _) ?_
  refine lv_iload_n hx hb d_C_flip_8 rfl (lv_at hl 2 rfl) ?_
  refine lv_iadd hx hb d_C_flip_9 ?_
  refine tp_i (y := nI ((pa * 16) + k)) (nI_add _ _) ?_
  refine lv_dup2_11 hx hb d_C_flip_10 rfl rfl ?_
  refine va_iald hx hb hK hP 8 3 rfl rfl (vp_in_nI (by omega) (by decide)) d_C_flip_11 ?_
  refine tp_i (y := w ((pa * 16) + k)) (by rw [nI_clamp (by omega)]) ?_
  refine lv_iload_n hx hb d_C_flip_12 rfl (lv_at hl 3 rfl) ?_
  refine lv_ixor hx hb d_C_flip_13 ?_
  refine va_iast hx hb hK hP hD hS 8 3 rfl rfl (vp_in_nI (by omega) (by decide)) d_C_flip_14 (fun H locs hP hD hS => ?_)
  rw [nI_clamp (by omega)] at hP hD
  have hP : va_P (dC, dI) vwCl (xw ad cd (upd w ((pa * 16) + k) ((w ((pa * 16) + k)) ^^^ mask)) wr fl pw sc lw rot vb rec tk live row cur ser dur wo bts us act rd rs) H := hP
  have hD : va_D (xA 15 ad s.heap.size) (xw ad cd (upd w ((pa * 16) + k) ((w ((pa * 16) + k)) ^^^ mask)) wr fl pw sc lw rot vb rec tk live row cur ser dur wo bts us act rd rs) := hD
  exact W.vret hx hb hr (fun t ht hW => ⟨⟨(fun i => [upd w ((pa * 16) + k) ((w ((pa * 16) + k)) ^^^ mask)].getD i (fun _ => 0), fun i => [].getD i 0, fun i => [].getD i 0), rfl, by first | rfl | trivial | omega, ⟨by rw [ht]; exact hP, va_K.moved hW.alike hK, hD⟩⟩, hS.F ht⟩) hS.2.2 d_C_flip_15
set_option maxHeartbeats 4000000 in
set_option maxRecDepth 100000 in
theorem c_C_markFailed (l : Launch) (dC : Nat → ClassId) (dI : Nat → Nat → Nat) (ad cd : Nat → Nat) (sz : Nat) (w wr fl : Nat → Int32) (pw sc : Int32) (lw rot vb : Nat → Int32) (rec tk : Int32) (live row : Nat → Int32) (cur ser dur wo : Int32) (bts : Nat → Int32) (us : Int32) (act : Nat → Int32) (rd rs : Int32) (b : Nat) (hp : b < 8) (hfl : ∀ i, i < 8 → B01 (fl i)) : Met l y_C_markFailed w_C_markFailed ({ frames := 0, cells := 0, slots := 0, locals := 0 }) (xP (dC, dI) vwCl (xt cd) (xw ad cd w wr fl pw sc lw rot vb rec tk live row cur ser dur wo bts us act rd rs) sz [.ref (ad 2), .int (nI b)]) (va_Qv (fun (u : (Nat → Nat → Int32) × (Nat → Int32) × (Nat → Nat)) => ∀ i, i < 8 → B01 ((u.1 0) i)) (fun (u : (Nat → Nat → Int32) × (Nat → Int32) × (Nat → Nat)) (t : State) => xB (dC, dI) vwCl (xt cd) (xA 15 ad sz) (xw ad cd w wr (u.1 0) pw sc lw rot vb rec tk live row cur ser dur wo bts us act rd rs) t) (xA 15 ad sz)) 0 0 (xA 15 ad sz) := by
  refine Met.ofW (cc := b_C_markFailed) (maxL := 2) (ret := none) (by decide) rfl ?_
  intro P e s m args below meth c0 s₁ B hml hv
  obtain ⟨rfl, hsz, hP, hK, hD0, hN⟩ := hv
  have hx := B.exec
  have hb := B.bytes
  have hr := B.returns
  have hts := atoms_spec (ws := w_C_markFailed) B.pre
  have hown : s.vm.findClass R_C = some m.cls := findClass_of_methodNamed B.named
  have hlocks := B.notSynchronized
  subst hsz
  have hD := xw_D (sz := s.heap.size) hD0
  have hS : va_S (xA 15 ad s.heap.size) s.heap s.heap [] := va_S.rf
  have hA : ∀ q : Nat, s.heap.size ≤ q → (xA 15 ad s.heap.size) q := fun q h => Or.inr h
  have hl := lv_entry ([.ref (ad 2), .int (nI b)]) (n := 2) (Nat.le_of_ble_eq_true rfl)
  rw [lg_entry_eq]
  generalize (lg_sl ([.ref (ad 2), .int (nI b)]) ++ List.replicate (2 - (lg_sl ([.ref (ad 2), .int (nI b)])).length) Slot.unset).toArray = ls at hl ⊢
  have hl : lv_has ls 2 [(0, .ref (ad 2)), (1, .int (nI b))] := hl
  refine lv_aload_n hx hb d_C_markFailed_0 rfl (lv_at hl 0 rfl) ?_
  refine va_get (D := (dC, dI)) (ci := 0) (v := .ref (ad 10)) (C := R_C) (T := F_C) (N := 5) hx hb hts (fun w h => List.mem_cons_of_mem _ (in_C w h)) hown hK hP 2 rfl rfl 2 (by decide) (hts (.fieldLink R_C 18 R_C "failed" "[Z") (List.mem_cons_of_mem _ t_36)) (fun _ h9 => h9) rfl d_C_markFailed_1 ?_
  refine lv_iload_n hx hb d_C_markFailed_4 rfl (lv_at hl 1 rfl) ?_
  refine lv_iconst (v := nI 1) hx hb d_C_markFailed_5 (by decide) ?_
  refine va_zast hx hb hK hP hD hS 10 5 rfl rfl (vp_in_nI (by omega) (by decide)) d_C_markFailed_6 (fun H locs hP hD hS => ?_)
  rw [nI_clamp (by omega)] at hP hD
  have hP : va_P (dC, dI) vwCl (xw ad cd w wr (upd fl b (vp_nar .boolean (nI 1))) pw sc lw rot vb rec tk live row cur ser dur wo bts us act rd rs) H := hP
  have hD : va_D (xA 15 ad s.heap.size) (xw ad cd w wr (upd fl b (vp_nar .boolean (nI 1))) pw sc lw rot vb rec tk live row cur ser dur wo bts us act rd rs) := hD
  exact W.vret hx hb hr (fun t ht hW => ⟨⟨(fun i => [upd fl b (vp_nar .boolean (nI 1))].getD i (fun _ => 0), fun i => [].getD i 0, fun i => [].getD i 0), rfl, B01_upd hfl (Or.inr rfl), ⟨by rw [ht]; exact hP, va_K.moved hW.alike hK, hD⟩⟩, hS.F ht⟩) hS.2.2 d_C_markFailed_7
set_option maxHeartbeats 4000000 in
set_option maxRecDepth 100000 in
theorem c_C_mayStep (l : Launch) (dC : Nat → ClassId) (dI : Nat → Nat → Nat) (ad cd : Nat → Nat) (sz : Nat) (w wr fl : Nat → Int32) (pw sc : Int32) (lw rot vb : Nat → Int32) (rec tk : Int32) (live row : Nat → Int32) (cur ser dur wo : Int32) (bts : Nat → Int32) (us : Int32) (act : Nat → Int32) (rd rs : Int32)  (hpw : B01 pw) : Met l y_C_mayStep w_C_mayStep ({ frames := 0, cells := 0, slots := 0, locals := 0 }) (xP (dC, dI) vwCl (xt cd) (xw ad cd w wr fl pw sc lw rot vb rec tk live row cur ser dur wo bts us act rd rs) sz [.ref (ad 2)]) (va_Qi (fun r (u : (Nat → Nat → Int32) × (Nat → Int32) × (Nat → Nat)) => B01 r ∧ B01 (u.2.1 0)) (fun (u : (Nat → Nat → Int32) × (Nat → Int32) × (Nat → Nat)) (t : State) => xB (dC, dI) vwCl (xt cd) (xA 15 ad sz) (xw ad cd w wr fl (u.2.1 0) (u.2.1 1) lw rot vb rec tk live row cur ser dur wo bts us act rd rs) t) (xA 15 ad sz)) 0 0 (xA 15 ad sz) := by
  refine Met.ofW (cc := b_C_mayStep) (maxL := 1) (ret := (some (.boolean))) (by decide) rfl ?_
  intro P e s m args below meth c0 s₁ B hml hv
  obtain ⟨rfl, hsz, hP, hK, hD0, hN⟩ := hv
  have hx := B.exec
  have hb := B.bytes
  have hr := B.returns
  have hts := atoms_spec (ws := w_C_mayStep) B.pre
  have hown : s.vm.findClass R_C = some m.cls := findClass_of_methodNamed B.named
  have hlocks := B.notSynchronized
  subst hsz
  have hD := xw_D (sz := s.heap.size) hD0
  have hS : va_S (xA 15 ad s.heap.size) s.heap s.heap [] := va_S.rf
  have hA : ∀ q : Nat, s.heap.size ≤ q → (xA 15 ad s.heap.size) q := fun q h => Or.inr h
  have hl := lv_entry ([.ref (ad 2)]) (n := 1) (Nat.le_of_ble_eq_true rfl)
  rw [lg_entry_eq]
  generalize (lg_sl ([.ref (ad 2)]) ++ List.replicate (1 - (lg_sl ([.ref (ad 2)])).length) Slot.unset).toArray = ls at hl ⊢
  have hl : lv_has ls 1 [(0, .ref (ad 2))] := hl
  refine lv_aload_n hx hb d_C_mayStep_0 rfl (lv_at hl 0 rfl) ?_
  refine va_get (D := (dC, dI)) (ci := 0) (v := .int sc) (C := R_C) (T := F_C) (N := 5) hx hb hts (fun w h => List.mem_cons_of_mem _ (in_C w h)) hown hK hP 2 rfl rfl 4 (by decide) (hts (.fieldLink R_C 26 R_C "stepsToCut" "I") (List.mem_cons_of_mem _ t_38)) (fun _ h9 => h9) rfl d_C_mayStep_1 ?_
  refine lv_if_ne (tgt := 20) hx hb d_C_mayStep_4 (by decide) (fun c4 => ?_) (fun c4 => ?_)
  ·
    refine lv_aload_n hx hb d_C_mayStep_20 rfl (lv_at hl 0 rfl) ?_
    refine va_get (D := (dC, dI)) (ci := 0) (v := .int sc) (C := R_C) (T := F_C) (N := 5) hx hb hts (fun w h => List.mem_cons_of_mem _ (in_C w h)) hown hK hP 2 rfl rfl 4 (by decide) (hts (.fieldLink R_C 26 R_C "stepsToCut" "I") (List.mem_cons_of_mem _ t_38)) (fun _ h9 => h9) rfl d_C_mayStep_21 ?_
    refine lv_if_le (tgt := 37) hx hb d_C_mayStep_24 (by decide) (fun c24 => ?_) (fun c24 => ?_)
    ·
      refine lv_aload_n hx hb d_C_mayStep_37 rfl (lv_at hl 0 rfl) ?_
      refine va_get (D := (dC, dI)) (ci := 0) (v := .int pw) (C := R_C) (T := F_C) (N := 5) hx hb hts (fun w h => List.mem_cons_of_mem _ (in_C w h)) hown hK hP 2 rfl rfl 3 (by decide) (hts (.fieldLink R_C 22 R_C "powered" "Z") (List.mem_cons_of_mem _ t_37)) (fun _ h9 => h9) rfl d_C_mayStep_38 ?_
      exact W.zret (v := pw) hx hb hr (by first | rfl | exact hpw.nar) (fun t ht hW => ⟨⟨pw, (fun i => [].getD i (fun _ => 0), fun i => [pw, sc].getD i 0, fun i => [].getD i 0), rfl, ⟨by first | exact hpw | exact Or.inl rfl, by first | exact hpw | exact Or.inl rfl⟩, ⟨by rw [ht]; exact hP, va_K.moved hW.alike hK, hD⟩⟩, hS.F ht⟩) hS.2.2 d_C_mayStep_41
    ·
      refine lv_aload_n hx hb d_C_mayStep_27 rfl (lv_at hl 0 rfl) ?_
      refine lv_dup hx hb d_C_mayStep_28 rfl ?_
      refine va_get (D := (dC, dI)) (ci := 0) (v := .int sc) (C := R_C) (T := F_C) (N := 5) hx hb hts (fun w h => List.mem_cons_of_mem _ (in_C w h)) hown hK hP 2 rfl rfl 4 (by decide) (hts (.fieldLink R_C 26 R_C "stepsToCut" "I") (List.mem_cons_of_mem _ t_38)) (fun _ h9 => h9) rfl d_C_mayStep_29 ?_
      refine lv_iconst (v := nI 1) hx hb d_C_mayStep_32 (by decide) ?_
      refine lv_isub hx hb d_C_mayStep_33 ?_
      refine va_put (D := (dC, dI)) (ci := 0) (v := .int (sc - (nI 1))) (ty := .int) (C := R_C) (T := F_C) (N := 5) hx hb hts (fun w h => List.mem_cons_of_mem _ (in_C w h)) t_C ok_C nm_C hown hK hP hD hS 2 rfl rfl 4 (by decide) (hts (.fieldLink R_C 26 R_C "stepsToCut" "I") (List.mem_cons_of_mem _ t_38)) (fun _ h9 => h9) rfl (by decide +kernel) rfl rfl (Nat.le_of_ble_eq_true rfl) d_C_mayStep_34 (fun H locs hP hD hS => ?_)
      have hP : va_P (dC, dI) vwCl (xw ad cd w wr fl pw (sc - (nI 1)) lw rot vb rec tk live row cur ser dur wo bts us act rd rs) H := hP
      have hD : va_D (xA 15 ad s.heap.size) (xw ad cd w wr fl pw (sc - (nI 1)) lw rot vb rec tk live row cur ser dur wo bts us act rd rs) := hD
      refine lv_aload_n hx hb d_C_mayStep_37 rfl (lv_at hl 0 rfl) ?_
      refine va_get (D := (dC, dI)) (ci := 0) (v := .int pw) (C := R_C) (T := F_C) (N := 5) hx hb hts (fun w h => List.mem_cons_of_mem _ (in_C w h)) hown hK hP 2 rfl rfl 3 (by decide) (hts (.fieldLink R_C 22 R_C "powered" "Z") (List.mem_cons_of_mem _ t_37)) (fun _ h9 => h9) rfl d_C_mayStep_38 ?_
      exact W.zret (v := pw) hx hb hr (by first | rfl | exact hpw.nar) (fun t ht hW => ⟨⟨pw, (fun i => [].getD i (fun _ => 0), fun i => [pw, sc - (nI 1)].getD i 0, fun i => [].getD i 0), rfl, ⟨by first | exact hpw | exact Or.inl rfl, by first | exact hpw | exact Or.inl rfl⟩, ⟨by rw [ht]; exact hP, va_K.moved hW.alike hK, hD⟩⟩, hS.F ht⟩) hS.2.2 d_C_mayStep_41
  ·
    refine lv_aload_n hx hb d_C_mayStep_7 rfl (lv_at hl 0 rfl) ?_
    refine lv_iconst (v := nI 0) hx hb d_C_mayStep_8 (by decide) ?_
    refine va_put (D := (dC, dI)) (ci := 0) (v := .int (nI 0)) (ty := .boolean) (C := R_C) (T := F_C) (N := 5) hx hb hts (fun w h => List.mem_cons_of_mem _ (in_C w h)) t_C ok_C nm_C hown hK hP hD hS 2 rfl rfl 3 (by decide) (hts (.fieldLink R_C 22 R_C "powered" "Z") (List.mem_cons_of_mem _ t_37)) (fun _ h9 => h9) rfl (by decide +kernel) (by first | rfl | decide | assumption) rfl (Nat.le_of_ble_eq_true rfl) d_C_mayStep_9 (fun H locs hP hD hS => ?_)
    have hP : va_P (dC, dI) vwCl (xw ad cd w wr fl (nI 0) sc lw rot vb rec tk live row cur ser dur wo bts us act rd rs) H := hP
    have hD : va_D (xA 15 ad s.heap.size) (xw ad cd w wr fl (nI 0) sc lw rot vb rec tk live row cur ser dur wo bts us act rd rs) := hD
    refine lv_aload_n hx hb d_C_mayStep_12 rfl (lv_at hl 0 rfl) ?_
    refine lv_iconst (v := (-1)) hx hb d_C_mayStep_13 (by decide) ?_
    refine va_put (D := (dC, dI)) (ci := 0) (v := .int (-1)) (ty := .int) (C := R_C) (T := F_C) (N := 5) hx hb hts (fun w h => List.mem_cons_of_mem _ (in_C w h)) t_C ok_C nm_C hown hK hP hD hS 2 rfl rfl 4 (by decide) (hts (.fieldLink R_C 26 R_C "stepsToCut" "I") (List.mem_cons_of_mem _ t_38)) (fun _ h9 => h9) rfl (by decide +kernel) rfl rfl (Nat.le_of_ble_eq_true rfl) d_C_mayStep_14 (fun H locs hP hD hS => ?_)
    have hP : va_P (dC, dI) vwCl (xw ad cd w wr fl (nI 0) (-1) lw rot vb rec tk live row cur ser dur wo bts us act rd rs) H := hP
    have hD : va_D (xA 15 ad s.heap.size) (xw ad cd w wr fl (nI 0) (-1) lw rot vb rec tk live row cur ser dur wo bts us act rd rs) := hD
    refine lv_goto (tgt := 37) hx hb d_C_mayStep_17 (by decide) ?_
    refine lv_aload_n hx hb d_C_mayStep_37 rfl (lv_at hl 0 rfl) ?_
    refine va_get (D := (dC, dI)) (ci := 0) (v := .int (nI 0)) (C := R_C) (T := F_C) (N := 5) hx hb hts (fun w h => List.mem_cons_of_mem _ (in_C w h)) hown hK hP 2 rfl rfl 3 (by decide) (hts (.fieldLink R_C 22 R_C "powered" "Z") (List.mem_cons_of_mem _ t_37)) (fun _ h9 => h9) rfl d_C_mayStep_38 ?_
    exact W.zret (v := nI 0) hx hb hr (by first | rfl | exact hpw.nar) (fun t ht hW => ⟨⟨nI 0, (fun i => [].getD i (fun _ => 0), fun i => [nI 0, (-1)].getD i 0, fun i => [].getD i 0), rfl, ⟨by first | exact hpw | exact Or.inl rfl, by first | exact hpw | exact Or.inl rfl⟩, ⟨by rw [ht]; exact hP, va_K.moved hW.alike hK, hD⟩⟩, hS.F ht⟩) hS.2.2 d_C_mayStep_41
set_option maxHeartbeats 4000000 in
set_option maxRecDepth 100000 in
theorem c_C_writePage (l : Launch) (dC : Nat → ClassId) (dI : Nat → Nat → Nat) (ad cd : Nat → Nat) (sz : Nat) (w wr fl : Nat → Int32) (pw sc : Int32) (lw rot vb : Nat → Int32) (rec tk : Int32) (live row : Nat → Int32) (cur ser dur wo : Int32) (bts : Nat → Int32) (us : Int32) (act : Nat → Int32) (rd rs : Int32) (pa : Nat) (hp : pa < 32) (hpw : B01 pw) : Met l y_C_writePage w_C_writePage ({ frames := 1, cells := 0, slots := 0, locals := 20 }) (xP (dC, dI) vwCl (xt cd) (xw ad cd w wr fl pw sc lw rot vb rec tk live row cur ser dur wo bts us act rd rs) sz [.ref (ad 2), .int (nI pa), .ref (ad 7)]) (va_Qi (fun r (u : (Nat → Nat → Int32) × (Nat → Int32) × (Nat → Nat)) => B01 r ∧ B01 (u.2.1 0)) (fun (u : (Nat → Nat → Int32) × (Nat → Int32) × (Nat → Nat)) (t : State) => xB (dC, dI) vwCl (xt cd) (xA 15 ad sz) (xw ad cd (u.1 0) wr fl (u.2.1 0) (u.2.1 1) lw rot vb rec tk live row cur ser dur wo bts us act rd rs) t) (xA 15 ad sz)) 0 0 (xA 15 ad sz) := by
  refine Met.ofW (cc := b_C_writePage) (maxL := 4) (ret := (some (.boolean))) (by decide) rfl ?_
  intro P e s m args below meth c0 s₁ B hml hv
  obtain ⟨rfl, hsz, hP, hK, hD0, hN⟩ := hv
  have hx := B.exec
  have hb := B.bytes
  have hr := B.returns
  have hts := atoms_spec (ws := w_C_writePage) B.pre
  have hown : s.vm.findClass R_C = some m.cls := findClass_of_methodNamed B.named
  have hlocks := B.notSynchronized
  subst hsz
  have hD := xw_D (sz := s.heap.size) hD0
  have hS : va_S (xA 15 ad s.heap.size) s.heap s.heap [] := va_S.rf
  have hA : ∀ q : Nat, s.heap.size ≤ q → (xA 15 ad s.heap.size) q := fun q h => Or.inr h
  have hl := lv_entry ([.ref (ad 2), .int (nI pa), .ref (ad 7)]) (n := 4) (Nat.le_of_ble_eq_true rfl)
  rw [lg_entry_eq]
  generalize (lg_sl ([.ref (ad 2), .int (nI pa), .ref (ad 7)]) ++ List.replicate (4 - (lg_sl ([.ref (ad 2), .int (nI pa), .ref (ad 7)])).length) Slot.unset).toArray = ls at hl ⊢
  have hl : lv_has ls 4 [(0, .ref (ad 2)), (1, .int (nI pa)), (2, .ref (ad 7))] := hl
  refine lv_iconst (v := nI 0) hx hb d_C_writePage_0 (by decide) ?_
  refine lv_istore_n hx hb d_C_writePage_1 rfl hl (by decide) rfl (fun ls hl => ?_)
  have hl : lv_has ls 4 [(3, .int (nI 0)), (0, .ref (ad 2)), (1, .int (nI pa)), (2, .ref (ad 7))] := hl
  have lp2 : ∀ (n : Nat) (k : Nat) (wv : Nat → Int32) (pv : Int32) (sv : Int32) (H : Heap) (locs : List Loc) (ls : Array Slot), (16 - k) < n → (k ≤ 16) → (B01 pv) → lv_has ls 4 [(0, .ref (ad 2)), (1, .int (nI pa)), (2, .ref (ad 7)), (3, .int (nI k))] → va_P (dC, dI) vwCl (xw ad cd wv wr fl pv sv lw rot vb rec tk live row cur ser dur wo bts us act rd rs) H → va_D (xA 15 ad s.heap.size) (xw ad cd wv wr fl pv sv lw rot vb rec tk live row cur ser dur wo bts us act rd rs) → va_S (xA 15 ad s.heap.size) s.heap H locs → W P l e (headSpec w_C_writePage ({ frames := 1, cells := 0, slots := 0, locals := 20 })).room s m (([.ref (ad 2), .int (nI pa), .ref (ad 7)] : List Value).toArray) below meth c0 H locs 0 0 (MQ below (va_Qi (fun r (u : (Nat → Nat → Int32) × (Nat → Int32) × (Nat → Nat)) => B01 r ∧ B01 (u.2.1 0)) (fun (u : (Nat → Nat → Int32) × (Nat → Int32) × (Nat → Nat)) (t : State) => xB (dC, dI) vwCl (xt cd) (xA 15 ad s.heap.size) (xw ad cd (u.1 0) wr fl (u.2.1 0) (u.2.1 1) lw rot vb rec tk live row cur ser dur wo bts us act rd rs) t) (xA 15 ad s.heap.size)) (([.ref (ad 2), .int (nI pa), .ref (ad 7)] : List Value).toArray) s 0 0 (xA 15 ad s.heap.size)) (F0 m 2 ls []) := by
    intro n
    induction n with
    | zero => intro k wv pv sv H locs ls hm; intros; omega
    | succ n ih2 =>
      intro k wv pv sv H locs ls hm hk hpw hl hP hD hS
      refine lv_iload_n hx hb d_C_writePage_2 rfl (lv_at hl 3 rfl) ?_
      refine lv_bipush (v := nI 16) hx hb d_C_writePage_3 (by decide) ?_
      refine lv_icmp_ge (tgt := 37) hx hb d_C_writePage_5 (by decide) (fun c5 => ?_) (fun c5 => ?_)
      ·
        have c5 := cd_ge_t (by omega) (by omega) c5
        refine lv_iconst (v := nI 1) hx hb d_C_writePage_37 (by decide) ?_
        exact W.zret (v := nI 1) hx hb hr (by first | rfl | decide | assumption) (fun t ht hW => ⟨⟨nI 1, (fun i => [wv].getD i (fun _ => 0), fun i => [pv, sv].getD i 0, fun i => [].getD i 0), rfl, ⟨by first | exact Or.inl rfl | exact Or.inr rfl, hpw⟩, ⟨by rw [ht]; exact hP, va_K.moved hW.alike hK, hD⟩⟩, hS.F ht⟩) hS.2.2 d_C_writePage_38
      ·
        have c5 := cd_ge_f (by omega) (by omega) c5
        refine lv_aload_n hx hb d_C_writePage_8 rfl (lv_at hl 0 rfl) ?_
        have hSz := hS.1
        refine va_calli (va_runV (C := R_C) (As := []) (rest := []) ⟨hx, hb, hml, hown, hts⟩ (c_C_mayStep l dC dI ad cd H.size wv wr fl pv sv lw rot vb rec tk live row cur ser dur wo bts us act rd rs  (by first | omega | rfl | assumption | decide)) (cwV 0 hts (g_V t_432 t_434 s_13 t_3 t_435) rfl rfl rfl (by decide +kernel) ⟨by decide, by decide⟩) (xP_v hP hK hD hN 2 rfl rfl) rfl rfl hl.1 rfl (lv_room (Nat.le_of_ble_eq_true rfl)) d_C_writePage_9 ⟨Nat.le_refl _, Nat.le_refl _⟩) hS (fun q _ h => xA_up hS.1 q h) (fun q h => xA_up hS.1 q h) (fun r9 u9 t H1 locs1 ht hvm q9 hB hz1 hk1 hS => ?_)
        obtain ⟨hP1, hK1, hD1⟩ := hB
        rw [ht] at hP1
        have hD : va_D (xA 15 ad s.heap.size) (xw ad cd wv wr fl (u9.2.1 0) (u9.2.1 1) lw rot vb rec tk live row cur ser dur wo bts us act rd rs) := hD1.weaken (fun _ q _ h => xA_up hSz _ h)
        have hP : va_P (dC, dI) vwCl (xw ad cd wv wr fl (u9.2.1 0) (u9.2.1 1) lw rot vb rec tk live row cur ser dur wo bts us act rd rs) H1 := hP1
        generalize H1 = H at hP hS ⊢
        generalize locs1 = locs at hS ⊢
        obtain ⟨hr9, hpw⟩ := q9
        refine lv_if_ne (tgt := 17) hx hb d_C_writePage_12 (by decide) (fun c12 => ?_) (fun c12 => ?_)
        ·
          refine lv_aload_n hx hb d_C_writePage_17 rfl (lv_at hl 0 rfl) ?_
          refine va_get (D := (dC, dI)) (ci := 0) (v := .ref (ad 8)) (C := R_C) (T := F_C) (N := 5) hx hb hts (fun w h => List.mem_cons_of_mem _ (in_C w h)) hown hK hP 2 rfl rfl 0 (by decide) (hts (.fieldLink R_C 9 R_C "words" "[I") (List.mem_cons_of_mem _ t_34)) (fun _ h9 => h9) rfl d_C_writePage_18 ?_
          refine lv_iload_n hx hb d_C_writePage_21 rfl (lv_at hl 1 rfl) ?_
          refine lv_bipush (v := nI 16) hx hb d_C_writePage_22 (by decide) ?_
          refine lv_imul hx hb d_C_writePage_24 ?_
          refine tp_i (y := nI (pa * 16)) (pk_mul _ _) ?_
          refine lv_iload_n hx hb d_C_writePage_25 rfl (lv_at hl 3 rfl) ?_
          refine lv_iadd hx hb d_C_writePage_26 ?_
          refine tp_i (y := nI ((pa * 16) + k)) (nI_add _ _) ?_
          refine lv_aload_n hx hb d_C_writePage_27 rfl (lv_at hl 2 rfl) ?_
          refine lv_iload_n hx hb d_C_writePage_28 rfl (lv_at hl 3 rfl) ?_
          refine va_iald hx hb hK hP 7 2 rfl rfl (vp_in_nI (by omega) (by decide)) d_C_writePage_29 ?_
          refine tp_i (y := row k) (by rw [nI_clamp (by omega)]) ?_
          refine va_iast hx hb hK hP hD hS 8 3 rfl rfl (vp_in_nI (by omega) (by decide)) d_C_writePage_30 (fun H locs hP hD hS => ?_)
          rw [nI_clamp (by omega)] at hP hD
          have hP : va_P (dC, dI) vwCl (xw ad cd (upd wv ((pa * 16) + k) (row k)) wr fl (u9.2.1 0) (u9.2.1 1) lw rot vb rec tk live row cur ser dur wo bts us act rd rs) H := hP
          have hD : va_D (xA 15 ad s.heap.size) (xw ad cd (upd wv ((pa * 16) + k) (row k)) wr fl (u9.2.1 0) (u9.2.1 1) lw rot vb rec tk live row cur ser dur wo bts us act rd rs) := hD
          refine lv_iinc (k := 3) (v := nI (k + 1)) hx hb d_C_writePage_31 hl rfl (nI_1 _) (by decide) rfl (fun ls hl => ?_)
          have hl : lv_has ls 4 [(3, .int (nI (k + 1))), (0, .ref (ad 2)), (1, .int (nI pa)), (2, .ref (ad 7))] := hl
          refine lv_goto (tgt := 2) hx hb d_C_writePage_34 (by decide) ?_
          exact ih2 (k + 1) (upd wv ((pa * 16) + k) (row k)) (u9.2.1 0) (u9.2.1 1) H locs ls (by omega) (by omega) hpw (lv_sub hl [1, 2, 3, 0] rfl) hP hD hS
        ·
          refine lv_iconst (v := nI 0) hx hb d_C_writePage_15 (by decide) ?_
          exact W.zret (v := nI 0) hx hb hr (by first | rfl | decide | assumption) (fun t ht hW => ⟨⟨nI 0, (fun i => [wv].getD i (fun _ => 0), fun i => [u9.2.1 0, u9.2.1 1].getD i 0, fun i => [].getD i 0), rfl, ⟨by first | exact Or.inl rfl | exact Or.inr rfl, hpw⟩, ⟨by rw [ht]; exact hP, va_K.moved hW.alike hK, hD⟩⟩, hS.F ht⟩) hS.2.2 d_C_writePage_16
  exact lp2 _ 0 w pw sc s.heap [] ls (Nat.lt_succ_self _) (by omega) hpw (lv_sub hl [1, 2, 3, 0] rfl) hP hD hS
set_option maxHeartbeats 4000000 in
set_option maxRecDepth 100000 in
theorem c_C_eraseBlock (l : Launch) (dC : Nat → ClassId) (dI : Nat → Nat → Nat) (ad cd : Nat → Nat) (sz : Nat) (w wr fl : Nat → Int32) (pw sc : Int32) (lw rot vb : Nat → Int32) (rec tk : Int32) (live row : Nat → Int32) (cur ser dur wo : Int32) (bts : Nat → Int32) (us : Int32) (act : Nat → Int32) (rd rs : Int32) (b : Nat) (hp : b < 8) (hpw : B01 pw) : Met l y_C_eraseBlock w_C_eraseBlock ({ frames := 1, cells := 0, slots := 0, locals := 20 }) (xP (dC, dI) vwCl (xt cd) (xw ad cd w wr fl pw sc lw rot vb rec tk live row cur ser dur wo bts us act rd rs) sz [.ref (ad 2), .int (nI b)]) (va_Qi (fun r (u : (Nat → Nat → Int32) × (Nat → Int32) × (Nat → Nat)) => B01 r ∧ B01 (u.2.1 0)) (fun (u : (Nat → Nat → Int32) × (Nat → Int32) × (Nat → Nat)) (t : State) => xB (dC, dI) vwCl (xt cd) (xA 15 ad sz) (xw ad cd (u.1 0) (u.1 1) fl (u.2.1 0) (u.2.1 1) lw rot vb rec tk live row cur ser dur wo bts us act rd rs) t) (xA 15 ad sz)) 0 0 (xA 15 ad sz) := by
  refine Met.ofW (cc := b_C_eraseBlock) (maxL := 4) (ret := (some (.boolean))) (by decide) rfl ?_
  intro P e s m args below meth c0 s₁ B hml hv
  obtain ⟨rfl, hsz, hP, hK, hD0, hN⟩ := hv
  have hx := B.exec
  have hb := B.bytes
  have hr := B.returns
  have hts := atoms_spec (ws := w_C_eraseBlock) B.pre
  have hown : s.vm.findClass R_C = some m.cls := findClass_of_methodNamed B.named
  have hlocks := B.notSynchronized
  subst hsz
  have hD := xw_D (sz := s.heap.size) hD0
  have hS : va_S (xA 15 ad s.heap.size) s.heap s.heap [] := va_S.rf
  have hA : ∀ q : Nat, s.heap.size ≤ q → (xA 15 ad s.heap.size) q := fun q h => Or.inr h
  have hl := lv_entry ([.ref (ad 2), .int (nI b)]) (n := 4) (Nat.le_of_ble_eq_true rfl)
  rw [lg_entry_eq]
  generalize (lg_sl ([.ref (ad 2), .int (nI b)]) ++ List.replicate (4 - (lg_sl ([.ref (ad 2), .int (nI b)])).length) Slot.unset).toArray = ls at hl ⊢
  have hl : lv_has ls 4 [(0, .ref (ad 2)), (1, .int (nI b))] := hl
  refine lv_aload_n hx hb d_C_eraseBlock_0 rfl (lv_at hl 0 rfl) ?_
  have hSz := hS.1
  refine va_calli (va_runV (C := R_C) (As := []) (rest := []) ⟨hx, hb, hml, hown, hts⟩ (c_C_mayStep l dC dI ad cd s.heap.size w wr fl pw sc lw rot vb rec tk live row cur ser dur wo bts us act rd rs  (by first | omega | rfl | assumption | decide)) (cwV 0 hts (g_V t_432 t_434 s_13 t_3 t_435) rfl rfl rfl (by decide +kernel) ⟨by decide, by decide⟩) (xP_v hP hK hD hN 2 rfl rfl) rfl rfl hl.1 rfl (lv_room (Nat.le_of_ble_eq_true rfl)) d_C_eraseBlock_1 ⟨Nat.le_refl _, Nat.le_refl _⟩) hS (fun q _ h => xA_up hS.1 q h) (fun q h => xA_up hS.1 q h) (fun r1 u1 t H1 locs1 ht hvm q1 hB hz1 hk1 hS => ?_)
  obtain ⟨hP1, hK1, hD1⟩ := hB
  rw [ht] at hP1
  have hD : va_D (xA 15 ad s.heap.size) (xw ad cd w wr fl (u1.2.1 0) (u1.2.1 1) lw rot vb rec tk live row cur ser dur wo bts us act rd rs) := hD1.weaken (fun _ q _ h => xA_up hSz _ h)
  have hP : va_P (dC, dI) vwCl (xw ad cd w wr fl (u1.2.1 0) (u1.2.1 1) lw rot vb rec tk live row cur ser dur wo bts us act rd rs) H1 := hP1
  generalize H1 = H at hP hS ⊢
  generalize locs1 = locs at hS ⊢
  obtain ⟨hr1, hpw⟩ := q1
  refine lv_if_ne (tgt := 9) hx hb d_C_eraseBlock_4 (by decide) (fun c4 => ?_) (fun c4 => ?_)
  ·
    refine lv_iload_n hx hb d_C_eraseBlock_9 rfl (lv_at hl 1 rfl) ?_
    refine lv_iconst (v := nI 4) hx hb d_C_eraseBlock_10 (by decide) ?_
    refine lv_imul hx hb d_C_eraseBlock_11 ?_
    refine tp_i (y := nI (b * 4)) (pk_mul _ _) ?_
    refine lv_bipush (v := nI 16) hx hb d_C_eraseBlock_12 (by decide) ?_
    refine lv_imul hx hb d_C_eraseBlock_14 ?_
    refine tp_i (y := nI ((b * 4) * 16)) (pk_mul _ _) ?_
    refine lv_istore_n hx hb d_C_eraseBlock_15 rfl hl (by decide) rfl (fun ls hl => ?_)
    have hl : lv_has ls 4 [(2, .int (nI ((b * 4) * 16))), (0, .ref (ad 2)), (1, .int (nI b))] := hl
    refine lv_iconst (v := nI 0) hx hb d_C_eraseBlock_16 (by decide) ?_
    refine lv_istore_n hx hb d_C_eraseBlock_17 rfl hl (by decide) rfl (fun ls hl => ?_)
    have hl : lv_has ls 4 [(3, .int (nI 0)), (2, .int (nI ((b * 4) * 16))), (0, .ref (ad 2)), (1, .int (nI b))] := hl
    have lp18 : ∀ (n : Nat) (k : Nat) (wv : Nat → Int32) (H : Heap) (locs : List Loc) (ls : Array Slot), (64 - k) < n → (k ≤ 64) → lv_has ls 4 [(0, .ref (ad 2)), (1, .int (nI b)), (2, .int (nI (b * 4 * 16))), (3, .int (nI k))] → va_P (dC, dI) vwCl (xw ad cd wv wr fl (u1.2.1 0) (u1.2.1 1) lw rot vb rec tk live row cur ser dur wo bts us act rd rs) H → va_D (xA 15 ad s.heap.size) (xw ad cd wv wr fl (u1.2.1 0) (u1.2.1 1) lw rot vb rec tk live row cur ser dur wo bts us act rd rs) → va_S (xA 15 ad s.heap.size) s.heap H locs → W P l e (headSpec w_C_eraseBlock ({ frames := 1, cells := 0, slots := 0, locals := 20 })).room s m (([.ref (ad 2), .int (nI b)] : List Value).toArray) below meth c0 H locs 0 0 (MQ below (va_Qi (fun r (u : (Nat → Nat → Int32) × (Nat → Int32) × (Nat → Nat)) => B01 r ∧ B01 (u.2.1 0)) (fun (u : (Nat → Nat → Int32) × (Nat → Int32) × (Nat → Nat)) (t : State) => xB (dC, dI) vwCl (xt cd) (xA 15 ad s.heap.size) (xw ad cd (u.1 0) (u.1 1) fl (u.2.1 0) (u.2.1 1) lw rot vb rec tk live row cur ser dur wo bts us act rd rs) t) (xA 15 ad s.heap.size)) (([.ref (ad 2), .int (nI b)] : List Value).toArray) s 0 0 (xA 15 ad s.heap.size)) (F0 m 18 ls []) := by
      intro n
      induction n with
      | zero => intro k wv H locs ls hm; intros; omega
      | succ n ih18 =>
        intro k wv H locs ls hm hk hl hP hD hS
        refine lv_iload_n hx hb d_C_eraseBlock_18 rfl (lv_at hl 3 rfl) ?_
        refine lv_bipush (v := nI 64) hx hb d_C_eraseBlock_19 (by decide) ?_
        refine lv_icmp_ge (tgt := 39) hx hb d_C_eraseBlock_21 (by decide) (fun c21 => ?_) (fun c21 => ?_)
        ·
          have c21 := cd_ge_t (by omega) (by omega) c21
          refine lv_aload_n hx hb d_C_eraseBlock_39 rfl (lv_at hl 0 rfl) ?_
          refine va_get (D := (dC, dI)) (ci := 0) (v := .ref (ad 9)) (C := R_C) (T := F_C) (N := 5) hx hb hts (fun w h => List.mem_cons_of_mem _ (in_C w h)) hown hK hP 2 rfl rfl 1 (by decide) (hts (.fieldLink R_C 15 R_C "wear" "[I") (List.mem_cons_of_mem _ t_35)) (fun _ h9 => h9) rfl d_C_eraseBlock_40 ?_
          refine lv_iload_n hx hb d_C_eraseBlock_43 rfl (lv_at hl 1 rfl) ?_
          refine lv_dup2_11 hx hb d_C_eraseBlock_44 rfl rfl ?_
          refine va_iald hx hb hK hP 9 4 rfl rfl (vp_in_nI (by omega) (by decide)) d_C_eraseBlock_45 ?_
          refine tp_i (y := wr b) (by rw [nI_clamp (by omega)]) ?_
          refine lv_iconst (v := nI 1) hx hb d_C_eraseBlock_46 (by decide) ?_
          refine lv_iadd hx hb d_C_eraseBlock_47 ?_
          refine va_iast hx hb hK hP hD hS 9 4 rfl rfl (vp_in_nI (by omega) (by decide)) d_C_eraseBlock_48 (fun H locs hP hD hS => ?_)
          rw [nI_clamp (by omega)] at hP hD
          have hP : va_P (dC, dI) vwCl (xw ad cd wv (upd wr b ((wr b) + (nI 1))) fl (u1.2.1 0) (u1.2.1 1) lw rot vb rec tk live row cur ser dur wo bts us act rd rs) H := hP
          have hD : va_D (xA 15 ad s.heap.size) (xw ad cd wv (upd wr b ((wr b) + (nI 1))) fl (u1.2.1 0) (u1.2.1 1) lw rot vb rec tk live row cur ser dur wo bts us act rd rs) := hD
          refine lv_iconst (v := nI 1) hx hb d_C_eraseBlock_49 (by decide) ?_
          exact W.zret (v := nI 1) hx hb hr (by first | rfl | decide | assumption) (fun t ht hW => ⟨⟨nI 1, (fun i => [wv, upd wr b ((wr b) + (nI 1))].getD i (fun _ => 0), fun i => [u1.2.1 0, u1.2.1 1].getD i 0, fun i => [].getD i 0), rfl, ⟨by first | exact Or.inl rfl | exact Or.inr rfl, hpw⟩, ⟨by rw [ht]; exact hP, va_K.moved hW.alike hK, hD⟩⟩, hS.F ht⟩) hS.2.2 d_C_eraseBlock_50
        ·
          have c21 := cd_ge_f (by omega) (by omega) c21
          refine lv_aload_n hx hb d_C_eraseBlock_24 rfl (lv_at hl 0 rfl) ?_
          refine va_get (D := (dC, dI)) (ci := 0) (v := .ref (ad 8)) (C := R_C) (T := F_C) (N := 5) hx hb hts (fun w h => List.mem_cons_of_mem _ (in_C w h)) hown hK hP 2 rfl rfl 0 (by decide) (hts (.fieldLink R_C 9 R_C "words" "[I") (List.mem_cons_of_mem _ t_34)) (fun _ h9 => h9) rfl d_C_eraseBlock_25 ?_
          refine lv_iload_n hx hb d_C_eraseBlock_28 rfl (lv_at hl 2 rfl) ?_
          refine lv_iload_n hx hb d_C_eraseBlock_29 rfl (lv_at hl 3 rfl) ?_
          refine lv_iadd hx hb d_C_eraseBlock_30 ?_
          refine tp_i (y := nI ((b * 4 * 16) + k)) (nI_add _ _) ?_
          refine lv_iconst (v := (-1)) hx hb d_C_eraseBlock_31 (by decide) ?_
          refine va_iast hx hb hK hP hD hS 8 3 rfl rfl (vp_in_nI (by omega) (by decide)) d_C_eraseBlock_32 (fun H locs hP hD hS => ?_)
          rw [nI_clamp (by omega)] at hP hD
          have hP : va_P (dC, dI) vwCl (xw ad cd (upd wv ((b * 4 * 16) + k) (-1)) wr fl (u1.2.1 0) (u1.2.1 1) lw rot vb rec tk live row cur ser dur wo bts us act rd rs) H := hP
          have hD : va_D (xA 15 ad s.heap.size) (xw ad cd (upd wv ((b * 4 * 16) + k) (-1)) wr fl (u1.2.1 0) (u1.2.1 1) lw rot vb rec tk live row cur ser dur wo bts us act rd rs) := hD
          refine lv_iinc (k := 3) (v := nI (k + 1)) hx hb d_C_eraseBlock_33 hl rfl (nI_1 _) (by decide) rfl (fun ls hl => ?_)
          have hl : lv_has ls 4 [(3, .int (nI (k + 1))), (0, .ref (ad 2)), (1, .int (nI b)), (2, .int (nI (b * 4 * 16)))] := hl
          refine lv_goto (tgt := 18) hx hb d_C_eraseBlock_36 (by decide) ?_
          exact ih18 (k + 1) (upd wv ((b * 4 * 16) + k) (-1)) H locs ls (by omega) (by omega) (lv_sub hl [1, 2, 3, 0] rfl) hP hD hS
    exact lp18 _ 0 w H locs ls (Nat.lt_succ_self _) (by omega) (lv_sub hl [2, 3, 1, 0] rfl) hP hD hS
  ·
    refine lv_iconst (v := nI 0) hx hb d_C_eraseBlock_7 (by decide) ?_
    exact W.zret (v := nI 0) hx hb hr (by first | rfl | decide | assumption) (fun t ht hW => ⟨⟨nI 0, (fun i => [w, wr].getD i (fun _ => 0), fun i => [u1.2.1 0, u1.2.1 1].getD i 0, fun i => [].getD i 0), rfl, ⟨by first | exact Or.inl rfl | exact Or.inr rfl, hpw⟩, ⟨by rw [ht]; exact hP, va_K.moved hW.alike hK, hD⟩⟩, hS.F ht⟩) hS.2.2 d_C_eraseBlock_8
set_option maxHeartbeats 4000000 in
set_option maxRecDepth 100000 in
theorem c_C_isFree (l : Launch) (dC : Nat → ClassId) (dI : Nat → Nat → Nat) (ad cd : Nat → Nat) (w wr fl : Nat → Int32) (pw sc : Int32) (lw rot vb : Nat → Int32) (rec tk : Int32) (live row : Nat → Int32) (cur ser dur wo : Int32) (bts : Nat → Int32) (us : Int32) (act : Nat → Int32) (rd rs : Int32) (pa : Nat) (hp : pa < 32) : Met l y_C_isFree w_C_isFree ({ frames := 0, cells := 0, slots := 0, locals := 0 }) (xR (dC, dI) vwCl (xt cd) (xw ad cd w wr fl pw sc lw rot vb rec tk live row cur ser dur wo bts us act rd rs) [.ref (ad 2), .int (nI pa)]) (vp_Si (fun r => (r = nI 1 ∧ fp w pa) ∨ (r = nI 0 ∧ ¬ fp w pa))) 0 0 (fun _ => False) := by
  refine Met.ofW (cc := b_C_isFree) (maxL := 4) (ret := (some (.boolean))) (by decide) rfl ?_
  intro P e s m args below meth c0 s₁ B hml hv
  obtain ⟨rfl, hP, hK, hN⟩ := hv
  have hx := B.exec
  have hb := B.bytes
  have hr := B.returns
  have hts := atoms_spec (ws := w_C_isFree) B.pre
  have hown : s.vm.findClass R_C = some m.cls := findClass_of_methodNamed B.named
  have hlocks := B.notSynchronized
  have hl := lv_entry ([.ref (ad 2), .int (nI pa)]) (n := 4) (Nat.le_of_ble_eq_true rfl)
  rw [lg_entry_eq]
  generalize (lg_sl ([.ref (ad 2), .int (nI pa)]) ++ List.replicate (4 - (lg_sl ([.ref (ad 2), .int (nI pa)])).length) Slot.unset).toArray = ls at hl ⊢
  have hl : lv_has ls 4 [(0, .ref (ad 2)), (1, .int (nI pa))] := hl
  refine lv_iload_n hx hb d_C_isFree_0 rfl (lv_at hl 1 rfl) ?_
  refine lv_bipush (v := nI 16) hx hb d_C_isFree_1 (by decide) ?_
  refine lv_imul hx hb d_C_isFree_3 ?_
  refine tp_i (y := nI (pa * 16)) (pk_mul _ _) ?_
  refine lv_istore_n hx hb d_C_isFree_4 rfl hl (by decide) rfl (fun ls hl => ?_)
  have hl : lv_has ls 4 [(2, .int (nI (pa * 16))), (0, .ref (ad 2)), (1, .int (nI pa))] := hl
  refine lv_iload_n hx hb d_C_isFree_5 rfl (lv_at hl 0 rfl) ?_
  refine lv_istore_n hx hb d_C_isFree_6 rfl hl (by decide) rfl (fun ls hl => ?_)
  have hl : lv_has ls 4 [(3, .int (nI (pa * 16))), (2, .int (nI (pa * 16))), (0, .ref (ad 2)), (1, .int (nI pa))] := hl
  have lp7 : ∀ (n : Nat) (k : Nat) (ls : Array Slot), (16 - k) < n → (k ≤ 16) → (∀ i, i < k → w (16 * pa + i) = -1) → lv_has ls 4 [(0, .ref (ad 2)), (1, .int (nI pa)), (2, .int (nI (pa * 16))), (3, .int (nI (pa * 16 + k)))] → W P l e (headSpec w_C_isFree ({ frames := 0, cells := 0, slots := 0, locals := 0 })).room s m (([.ref (ad 2), .int (nI pa)] : List Value).toArray) below meth c0 s.heap [] 0 0 (MQ below (vp_Si (fun r => (r = nI 1 ∧ fp w pa) ∨ (r = nI 0 ∧ ¬ fp w pa))) (([.ref (ad 2), .int (nI pa)] : List Value).toArray) s 0 0 (fun _ => False)) (F0 m 7 ls []) := by
    intro n
    induction n with
    | zero => intro k ls hm; intros; omega
    | succ n ih7 =>
      intro k ls hm hk hf hl
      refine lv_iload_n hx hb d_C_isFree_7 rfl (lv_at hl 3 rfl) ?_
      refine lv_iload_n hx hb d_C_isFree_8 rfl (lv_at hl 2 rfl) ?_
      refine lv_bipush (v := nI 16) hx hb d_C_isFree_9 (by decide) ?_
      refine lv_iadd hx hb d_C_isFree_11 ?_
      refine tp_i (y := nI ((pa * 16) + 16)) (nI_add _ _) ?_
      refine lv_icmp_ge (tgt := 33) hx hb d_C_isFree_12 (by decide) (fun c12 => ?_) (fun c12 => ?_)
      ·
        have c12 := cd_ge_t (by omega) (by omega) c12
        refine lv_iconst (v := nI 1) hx hb d_C_isFree_33 (by decide) ?_
        exact W.zret (v := nI 1) hx hb hr (by first | rfl | decide | assumption) (fun t ht hW => ⟨nI 1, rfl, Or.inl ⟨rfl, fun i hi => hf i (by omega)⟩, ht⟩) (fun q hq => by cases hq) d_C_isFree_34
      ·
        have c12 := cd_ge_f (by omega) (by omega) c12
        refine lv_aload_n hx hb d_C_isFree_15 rfl (lv_at hl 0 rfl) ?_
        refine va_get (D := (dC, dI)) (ci := 0) (v := .ref (ad 8)) (C := R_C) (T := F_C) (N := 5) hx hb hts (fun w h => List.mem_cons_of_mem _ (in_C w h)) hown hK hP 2 rfl rfl 0 (by decide) (hts (.fieldLink R_C 9 R_C "words" "[I") (List.mem_cons_of_mem _ t_34)) (fun _ h9 => h9) rfl d_C_isFree_16 ?_
        refine lv_iload_n hx hb d_C_isFree_19 rfl (lv_at hl 3 rfl) ?_
        refine va_iald hx hb hK hP 8 3 rfl rfl (vp_in_nI (by omega) (by decide)) d_C_isFree_20 ?_
        refine tp_i (y := w (pa * 16 + k)) (by rw [nI_clamp (by omega)]) ?_
        refine lv_iconst (v := (-1)) hx hb d_C_isFree_21 (by decide) ?_
        refine lv_icmp_eq (tgt := 27) hx hb d_C_isFree_22 (by decide) (fun c22 => ?_) (fun c22 => ?_)
        ·
          refine lv_iinc (k := 3) (v := nI ((pa * 16 + k) + 1)) hx hb d_C_isFree_27 hl rfl (nI_1 _) (by decide) rfl (fun ls hl => ?_)
          have hl : lv_has ls 4 [(3, .int (nI ((pa * 16 + k) + 1))), (0, .ref (ad 2)), (1, .int (nI pa)), (2, .int (nI (pa * 16)))] := hl
          refine lv_goto (tgt := 7) hx hb d_C_isFree_30 (by decide) ?_
          exact ih7 (k + 1) ls (by omega) (by omega) (lt_s hf (by rw [Nat.mul_comm 16 pa]; exact c22)) (lv_sub hl [1, 2, 3, 0] rfl)
        ·
          refine lv_iconst (v := nI 0) hx hb d_C_isFree_25 (by decide) ?_
          exact W.zret (v := nI 0) hx hb hr (by first | rfl | decide | assumption) (fun t ht hW => ⟨nI 0, rfl, Or.inr ⟨rfl, fun h => c22 (by have := h k (by omega); rw [Nat.mul_comm 16 pa] at this; exact this)⟩, ht⟩) (fun q hq => by cases hq) d_C_isFree_26
  exact lp7 _ 0 ls (Nat.lt_succ_self _) (by omega) (fun i hi => absurd hi (Nat.not_lt_zero i)) (lv_sub hl [2, 3, 1, 0] rfl)
set_option maxHeartbeats 4000000 in
set_option maxRecDepth 100000 in
theorem c_R_sumOf_w (l : Launch) (dC : Nat → ClassId) (dI : Nat → Nat → Nat) (ad cd : Nat → Nat) (w wr fl : Nat → Int32) (pw sc : Int32) (lw rot vb : Nat → Int32) (rec tk : Int32) (live row : Nat → Int32) (cur ser dur wo : Int32) (bts : Nat → Int32) (us : Int32) (act : Nat → Int32) (rd rs : Int32) (st : Nat) (cnt : Nat) (hn : st + cnt ≤ 512) : Met l y_R_sumOf w_R_sumOf ({ frames := 0, cells := 0, slots := 0, locals := 0 }) (xR (dC, dI) vwCl (xt cd) (xw ad cd w wr fl pw sc lw rot vb rec tk live row cur ser dur wo bts us act rd rs) [.ref (ad 8), .int (nI st), .int (nI cnt)]) (vp_Si (fun r => True)) 0 0 (fun _ => False) := by
  refine Met.ofW (cc := b_R_sumOf) (maxL := 5) (ret := (some (.int))) (by decide) rfl ?_
  intro P e s m args below meth c0 s₁ B hml hv
  obtain ⟨rfl, hP, hK, hN⟩ := hv
  have hx := B.exec
  have hb := B.bytes
  have hr := B.returns
  have hts := atoms_spec (ws := w_R_sumOf) B.pre
  have hown : s.vm.findClass R_R = some m.cls := findClass_of_methodNamed B.named
  have hlocks := B.notSynchronized
  have hl := lv_entry ([.ref (ad 8), .int (nI st), .int (nI cnt)]) (n := 5) (Nat.le_of_ble_eq_true rfl)
  rw [lg_entry_eq]
  generalize (lg_sl ([.ref (ad 8), .int (nI st), .int (nI cnt)]) ++ List.replicate (5 - (lg_sl ([.ref (ad 8), .int (nI st), .int (nI cnt)])).length) Slot.unset).toArray = ls at hl ⊢
  have hl : lv_has ls 5 [(0, .ref (ad 8)), (1, .int (nI st)), (2, .int (nI cnt))] := hl
  refine lv_sipush (v := nI 7989) hx hb d_R_sumOf_0 (by decide) ?_
  refine lv_istore_n hx hb d_R_sumOf_3 rfl hl (by decide) rfl (fun ls hl => ?_)
  have hl : lv_has ls 5 [(3, .int (nI 7989)), (0, .ref (ad 8)), (1, .int (nI st)), (2, .int (nI cnt))] := hl
  refine lv_iload_n hx hb d_R_sumOf_4 rfl (lv_at hl 2 rfl) ?_
  refine lv_istore hx hb d_R_sumOf_5 hl (by decide) rfl (fun ls hl => ?_)
  have hl : lv_has ls 5 [(4, .int (nI st)), (3, .int (nI 7989)), (0, .ref (ad 8)), (1, .int (nI st)), (2, .int (nI cnt))] := hl
  have lp7 : ∀ (n : Nat) (k : Nat) (x : Int32) (ls : Array Slot), (cnt - k) < n → (k ≤ cnt) → lv_has ls 5 [(0, .ref (ad 8)), (1, .int (nI st)), (2, .int (nI cnt)), (3, .int x), (4, .int (nI (st + k)))] → W P l e (headSpec w_R_sumOf ({ frames := 0, cells := 0, slots := 0, locals := 0 })).room s m (([.ref (ad 8), .int (nI st), .int (nI cnt)] : List Value).toArray) below meth c0 s.heap [] 0 0 (MQ below (vp_Si (fun r => True)) (([.ref (ad 8), .int (nI st), .int (nI cnt)] : List Value).toArray) s 0 0 (fun _ => False)) (F0 m 7 ls []) := by
    intro n
    induction n with
    | zero => intro k x ls hm; intros; omega
    | succ n ih7 =>
      intro k x ls hm hk hl
      refine lv_iload hx hb d_R_sumOf_7 (lv_at hl 4 rfl) ?_
      refine lv_iload_n hx hb d_R_sumOf_9 rfl (lv_at hl 1 rfl) ?_
      refine lv_iload_n hx hb d_R_sumOf_10 rfl (lv_at hl 2 rfl) ?_
      refine lv_iadd hx hb d_R_sumOf_11 ?_
      refine tp_i (y := nI (st + cnt)) (nI_add _ _) ?_
      refine lv_icmp_ge (tgt := 42) hx hb d_R_sumOf_12 (by decide) (fun c12 => ?_) (fun c12 => ?_)
      ·
        have c12 := cd_ge_t (by omega) (by omega) c12
        refine lv_iload_n hx hb d_R_sumOf_42 rfl (lv_at hl 3 rfl) ?_
        exact W.iret (v := x) hx hb hr (fun t ht hW => ⟨x, rfl, by first | rfl | trivial | omega, ht⟩) (fun q hq => by cases hq) d_R_sumOf_43
      ·
        have c12 := cd_ge_f (by omega) (by omega) c12
        refine lv_iload_n hx hb d_R_sumOf_15 rfl (lv_at hl 3 rfl) ?_
        refine lv_aload_n hx hb d_R_sumOf_16 rfl (lv_at hl 0 rfl) ?_
        refine lv_iload hx hb d_R_sumOf_17 (lv_at hl 4 rfl) ?_
        refine va_iald hx hb hK hP 8 3 rfl rfl (vp_in_nI (by omega) (by decide)) d_R_sumOf_19 ?_
        refine tp_i (y := w (st + k)) (by rw [nI_clamp (by omega)]) ?_
        refine lv_ixor hx hb d_R_sumOf_20 ?_
        refine lv_istore_n hx hb d_R_sumOf_21 rfl hl (by decide) rfl (fun ls hl => ?_)
        have hl : lv_has ls 5 [(3, .int (x ^^^ (w (st + k)))), (0, .ref (ad 8)), (1, .int (nI st)), (2, .int (nI cnt)), (4, .int (nI (st + k)))] := hl
        refine lv_iload_n hx hb d_R_sumOf_22 rfl (lv_at hl 0 rfl) ?_
        refine lv_iconst (v := 5) hx hb d_R_sumOf_23 (by decide) ?_
        refine lv_ishl hx hb d_R_sumOf_24 ?_
        refine lv_iload_n hx hb d_R_sumOf_25 rfl (lv_at hl 0 rfl) ?_
        refine lv_bipush (v := 27) hx hb d_R_sumOf_26 (by decide) ?_
        refine lv_iushr hx hb d_R_sumOf_28 rfl ?_
        refine lv_ior hx hb d_R_sumOf_29 ?_
        refine lv_istore_n hx hb d_R_sumOf_30 rfl hl (by decide) rfl (fun ls hl => ?_)
        have hl : lv_has ls 5 [(3, .int (((x ^^^ (w (st + k))) <<< (5 &&& 31)) ||| (((x ^^^ (w (st + k))).toUInt32 >>> (Int32.toUInt32 27 &&& Int32.toUInt32 31)).toInt32))), (0, .ref (ad 8)), (1, .int (nI st)), (2, .int (nI cnt)), (4, .int (nI (st + k)))] := hl
        refine lv_iload_n hx hb d_R_sumOf_31 rfl (lv_at hl 0 rfl) ?_
        refine lv_ldc (v := nI 40503) hx hb hown (hts (.constant R_R 219 40503) (List.mem_cons_of_mem _ t_172)) d_R_sumOf_32 ?_
        refine lv_iadd hx hb d_R_sumOf_34 ?_
        refine lv_istore_n hx hb d_R_sumOf_35 rfl hl (by decide) rfl (fun ls hl => ?_)
        have hl : lv_has ls 5 [(3, .int ((((x ^^^ (w (st + k))) <<< (5 &&& 31)) ||| (((x ^^^ (w (st + k))).toUInt32 >>> (Int32.toUInt32 27 &&& Int32.toUInt32 31)).toInt32)) + (nI 40503))), (0, .ref (ad 8)), (1, .int (nI st)), (2, .int (nI cnt)), (4, .int (nI (st + k)))] := hl
        refine lv_iinc (k := 4) (v := nI ((st + k) + 1)) hx hb d_R_sumOf_36 hl rfl (nI_1 _) (by decide) rfl (fun ls hl => ?_)
        have hl : lv_has ls 5 [(4, .int (nI ((st + k) + 1))), (3, .int ((((x ^^^ (w (st + k))) <<< (5 &&& 31)) ||| (((x ^^^ (w (st + k))).toUInt32 >>> (Int32.toUInt32 27 &&& Int32.toUInt32 31)).toInt32)) + (nI 40503))), (0, .ref (ad 8)), (1, .int (nI st)), (2, .int (nI cnt))] := hl
        refine lv_goto (tgt := 7) hx hb d_R_sumOf_39 (by decide) ?_
        exact ih7 (k + 1) ((((x ^^^ (w (st + k))) <<< (5 &&& 31)) ||| (((x ^^^ (w (st + k))).toUInt32 >>> (Int32.toUInt32 27 &&& Int32.toUInt32 31)).toInt32)) + (nI 40503)) ls (by omega) (by omega) (lv_sub hl [2, 3, 4, 1, 0] rfl)
  exact lp7 _ 0 (nI 7989) ls (Nat.lt_succ_self _) (by omega) (lv_sub hl [2, 3, 4, 1, 0] rfl)
set_option maxHeartbeats 4000000 in
set_option maxRecDepth 100000 in
theorem c_R_sumOf_g (l : Launch) (dC : Nat → ClassId) (dI : Nat → Nat → Nat) (ad cd : Nat → Nat) (w wr fl : Nat → Int32) (pw sc : Int32) (lw rot vb : Nat → Int32) (rec tk : Int32) (live row : Nat → Int32) (cur ser dur wo : Int32) (bts : Nat → Int32) (us : Int32) (act : Nat → Int32) (rd rs : Int32) (st : Nat) (cnt : Nat) (hn : st + cnt ≤ 192) : Met l y_R_sumOf w_R_sumOf ({ frames := 0, cells := 0, slots := 0, locals := 0 }) (xR (dC, dI) vwCl (xt cd) (xw ad cd w wr fl pw sc lw rot vb rec tk live row cur ser dur wo bts us act rd rs) [.ref (ad 11), .int (nI st), .int (nI cnt)]) (vp_Si (fun r => True)) 0 0 (fun _ => False) := by
  refine Met.ofW (cc := b_R_sumOf) (maxL := 5) (ret := (some (.int))) (by decide) rfl ?_
  intro P e s m args below meth c0 s₁ B hml hv
  obtain ⟨rfl, hP, hK, hN⟩ := hv
  have hx := B.exec
  have hb := B.bytes
  have hr := B.returns
  have hts := atoms_spec (ws := w_R_sumOf) B.pre
  have hown : s.vm.findClass R_R = some m.cls := findClass_of_methodNamed B.named
  have hlocks := B.notSynchronized
  have hl := lv_entry ([.ref (ad 11), .int (nI st), .int (nI cnt)]) (n := 5) (Nat.le_of_ble_eq_true rfl)
  rw [lg_entry_eq]
  generalize (lg_sl ([.ref (ad 11), .int (nI st), .int (nI cnt)]) ++ List.replicate (5 - (lg_sl ([.ref (ad 11), .int (nI st), .int (nI cnt)])).length) Slot.unset).toArray = ls at hl ⊢
  have hl : lv_has ls 5 [(0, .ref (ad 11)), (1, .int (nI st)), (2, .int (nI cnt))] := hl
  refine lv_sipush (v := nI 7989) hx hb d_R_sumOf_0 (by decide) ?_
  refine lv_istore_n hx hb d_R_sumOf_3 rfl hl (by decide) rfl (fun ls hl => ?_)
  have hl : lv_has ls 5 [(3, .int (nI 7989)), (0, .ref (ad 11)), (1, .int (nI st)), (2, .int (nI cnt))] := hl
  refine lv_iload_n hx hb d_R_sumOf_4 rfl (lv_at hl 2 rfl) ?_
  refine lv_istore hx hb d_R_sumOf_5 hl (by decide) rfl (fun ls hl => ?_)
  have hl : lv_has ls 5 [(4, .int (nI st)), (3, .int (nI 7989)), (0, .ref (ad 11)), (1, .int (nI st)), (2, .int (nI cnt))] := hl
  have lp7 : ∀ (n : Nat) (k : Nat) (x : Int32) (ls : Array Slot), (cnt - k) < n → (k ≤ cnt) → lv_has ls 5 [(0, .ref (ad 11)), (1, .int (nI st)), (2, .int (nI cnt)), (3, .int x), (4, .int (nI (st + k)))] → W P l e (headSpec w_R_sumOf ({ frames := 0, cells := 0, slots := 0, locals := 0 })).room s m (([.ref (ad 11), .int (nI st), .int (nI cnt)] : List Value).toArray) below meth c0 s.heap [] 0 0 (MQ below (vp_Si (fun r => True)) (([.ref (ad 11), .int (nI st), .int (nI cnt)] : List Value).toArray) s 0 0 (fun _ => False)) (F0 m 7 ls []) := by
    intro n
    induction n with
    | zero => intro k x ls hm; intros; omega
    | succ n ih7 =>
      intro k x ls hm hk hl
      refine lv_iload hx hb d_R_sumOf_7 (lv_at hl 4 rfl) ?_
      refine lv_iload_n hx hb d_R_sumOf_9 rfl (lv_at hl 1 rfl) ?_
      refine lv_iload_n hx hb d_R_sumOf_10 rfl (lv_at hl 2 rfl) ?_
      refine lv_iadd hx hb d_R_sumOf_11 ?_
      refine tp_i (y := nI (st + cnt)) (nI_add _ _) ?_
      refine lv_icmp_ge (tgt := 42) hx hb d_R_sumOf_12 (by decide) (fun c12 => ?_) (fun c12 => ?_)
      ·
        have c12 := cd_ge_t (by omega) (by omega) c12
        refine lv_iload_n hx hb d_R_sumOf_42 rfl (lv_at hl 3 rfl) ?_
        exact W.iret (v := x) hx hb hr (fun t ht hW => ⟨x, rfl, by first | rfl | trivial | omega, ht⟩) (fun q hq => by cases hq) d_R_sumOf_43
      ·
        have c12 := cd_ge_f (by omega) (by omega) c12
        refine lv_iload_n hx hb d_R_sumOf_15 rfl (lv_at hl 3 rfl) ?_
        refine lv_aload_n hx hb d_R_sumOf_16 rfl (lv_at hl 0 rfl) ?_
        refine lv_iload hx hb d_R_sumOf_17 (lv_at hl 4 rfl) ?_
        refine va_iald hx hb hK hP 11 6 rfl rfl (vp_in_nI (by omega) (by decide)) d_R_sumOf_19 ?_
        refine tp_i (y := lw (st + k)) (by rw [nI_clamp (by omega)]) ?_
        refine lv_ixor hx hb d_R_sumOf_20 ?_
        refine lv_istore_n hx hb d_R_sumOf_21 rfl hl (by decide) rfl (fun ls hl => ?_)
        have hl : lv_has ls 5 [(3, .int (x ^^^ (lw (st + k)))), (0, .ref (ad 11)), (1, .int (nI st)), (2, .int (nI cnt)), (4, .int (nI (st + k)))] := hl
        refine lv_iload_n hx hb d_R_sumOf_22 rfl (lv_at hl 0 rfl) ?_
        refine lv_iconst (v := 5) hx hb d_R_sumOf_23 (by decide) ?_
        refine lv_ishl hx hb d_R_sumOf_24 ?_
        refine lv_iload_n hx hb d_R_sumOf_25 rfl (lv_at hl 0 rfl) ?_
        refine lv_bipush (v := 27) hx hb d_R_sumOf_26 (by decide) ?_
        refine lv_iushr hx hb d_R_sumOf_28 rfl ?_
        refine lv_ior hx hb d_R_sumOf_29 ?_
        refine lv_istore_n hx hb d_R_sumOf_30 rfl hl (by decide) rfl (fun ls hl => ?_)
        have hl : lv_has ls 5 [(3, .int (((x ^^^ (lw (st + k))) <<< (5 &&& 31)) ||| (((x ^^^ (lw (st + k))).toUInt32 >>> (Int32.toUInt32 27 &&& Int32.toUInt32 31)).toInt32))), (0, .ref (ad 11)), (1, .int (nI st)), (2, .int (nI cnt)), (4, .int (nI (st + k)))] := hl
        refine lv_iload_n hx hb d_R_sumOf_31 rfl (lv_at hl 0 rfl) ?_
        refine lv_ldc (v := nI 40503) hx hb hown (hts (.constant R_R 219 40503) (List.mem_cons_of_mem _ t_172)) d_R_sumOf_32 ?_
        refine lv_iadd hx hb d_R_sumOf_34 ?_
        refine lv_istore_n hx hb d_R_sumOf_35 rfl hl (by decide) rfl (fun ls hl => ?_)
        have hl : lv_has ls 5 [(3, .int ((((x ^^^ (lw (st + k))) <<< (5 &&& 31)) ||| (((x ^^^ (lw (st + k))).toUInt32 >>> (Int32.toUInt32 27 &&& Int32.toUInt32 31)).toInt32)) + (nI 40503))), (0, .ref (ad 11)), (1, .int (nI st)), (2, .int (nI cnt)), (4, .int (nI (st + k)))] := hl
        refine lv_iinc (k := 4) (v := nI ((st + k) + 1)) hx hb d_R_sumOf_36 hl rfl (nI_1 _) (by decide) rfl (fun ls hl => ?_)
        have hl : lv_has ls 5 [(4, .int (nI ((st + k) + 1))), (3, .int ((((x ^^^ (lw (st + k))) <<< (5 &&& 31)) ||| (((x ^^^ (lw (st + k))).toUInt32 >>> (Int32.toUInt32 27 &&& Int32.toUInt32 31)).toInt32)) + (nI 40503))), (0, .ref (ad 11)), (1, .int (nI st)), (2, .int (nI cnt))] := hl
        refine lv_goto (tgt := 7) hx hb d_R_sumOf_39 (by decide) ?_
        exact ih7 (k + 1) ((((x ^^^ (lw (st + k))) <<< (5 &&& 31)) ||| (((x ^^^ (lw (st + k))).toUInt32 >>> (Int32.toUInt32 27 &&& Int32.toUInt32 31)).toInt32)) + (nI 40503)) ls (by omega) (by omega) (lv_sub hl [2, 3, 4, 1, 0] rfl)
  exact lp7 _ 0 (nI 7989) ls (Nat.lt_succ_self _) (by omega) (lv_sub hl [2, 3, 4, 1, 0] rfl)
set_option maxHeartbeats 4000000 in
set_option maxRecDepth 100000 in
theorem c_R_sumOf_r (l : Launch) (dC : Nat → ClassId) (dI : Nat → Nat → Nat) (ad cd : Nat → Nat) (w wr fl : Nat → Int32) (pw sc : Int32) (lw rot vb : Nat → Int32) (rec tk : Int32) (live row : Nat → Int32) (cur ser dur wo : Int32) (bts : Nat → Int32) (us : Int32) (act : Nat → Int32) (rd rs : Int32) (st : Nat) (cnt : Nat) (hn : st + cnt ≤ 16) : Met l y_R_sumOf w_R_sumOf ({ frames := 0, cells := 0, slots := 0, locals := 0 }) (xR (dC, dI) vwCl (xt cd) (xw ad cd w wr fl pw sc lw rot vb rec tk live row cur ser dur wo bts us act rd rs) [.ref (ad 7), .int (nI st), .int (nI cnt)]) (vp_Si (fun r => True)) 0 0 (fun _ => False) := by
  refine Met.ofW (cc := b_R_sumOf) (maxL := 5) (ret := (some (.int))) (by decide) rfl ?_
  intro P e s m args below meth c0 s₁ B hml hv
  obtain ⟨rfl, hP, hK, hN⟩ := hv
  have hx := B.exec
  have hb := B.bytes
  have hr := B.returns
  have hts := atoms_spec (ws := w_R_sumOf) B.pre
  have hown : s.vm.findClass R_R = some m.cls := findClass_of_methodNamed B.named
  have hlocks := B.notSynchronized
  have hl := lv_entry ([.ref (ad 7), .int (nI st), .int (nI cnt)]) (n := 5) (Nat.le_of_ble_eq_true rfl)
  rw [lg_entry_eq]
  generalize (lg_sl ([.ref (ad 7), .int (nI st), .int (nI cnt)]) ++ List.replicate (5 - (lg_sl ([.ref (ad 7), .int (nI st), .int (nI cnt)])).length) Slot.unset).toArray = ls at hl ⊢
  have hl : lv_has ls 5 [(0, .ref (ad 7)), (1, .int (nI st)), (2, .int (nI cnt))] := hl
  refine lv_sipush (v := nI 7989) hx hb d_R_sumOf_0 (by decide) ?_
  refine lv_istore_n hx hb d_R_sumOf_3 rfl hl (by decide) rfl (fun ls hl => ?_)
  have hl : lv_has ls 5 [(3, .int (nI 7989)), (0, .ref (ad 7)), (1, .int (nI st)), (2, .int (nI cnt))] := hl
  refine lv_iload_n hx hb d_R_sumOf_4 rfl (lv_at hl 2 rfl) ?_
  refine lv_istore hx hb d_R_sumOf_5 hl (by decide) rfl (fun ls hl => ?_)
  have hl : lv_has ls 5 [(4, .int (nI st)), (3, .int (nI 7989)), (0, .ref (ad 7)), (1, .int (nI st)), (2, .int (nI cnt))] := hl
  have lp7 : ∀ (n : Nat) (k : Nat) (x : Int32) (ls : Array Slot), (cnt - k) < n → (k ≤ cnt) → lv_has ls 5 [(0, .ref (ad 7)), (1, .int (nI st)), (2, .int (nI cnt)), (3, .int x), (4, .int (nI (st + k)))] → W P l e (headSpec w_R_sumOf ({ frames := 0, cells := 0, slots := 0, locals := 0 })).room s m (([.ref (ad 7), .int (nI st), .int (nI cnt)] : List Value).toArray) below meth c0 s.heap [] 0 0 (MQ below (vp_Si (fun r => True)) (([.ref (ad 7), .int (nI st), .int (nI cnt)] : List Value).toArray) s 0 0 (fun _ => False)) (F0 m 7 ls []) := by
    intro n
    induction n with
    | zero => intro k x ls hm; intros; omega
    | succ n ih7 =>
      intro k x ls hm hk hl
      refine lv_iload hx hb d_R_sumOf_7 (lv_at hl 4 rfl) ?_
      refine lv_iload_n hx hb d_R_sumOf_9 rfl (lv_at hl 1 rfl) ?_
      refine lv_iload_n hx hb d_R_sumOf_10 rfl (lv_at hl 2 rfl) ?_
      refine lv_iadd hx hb d_R_sumOf_11 ?_
      refine tp_i (y := nI (st + cnt)) (nI_add _ _) ?_
      refine lv_icmp_ge (tgt := 42) hx hb d_R_sumOf_12 (by decide) (fun c12 => ?_) (fun c12 => ?_)
      ·
        have c12 := cd_ge_t (by omega) (by omega) c12
        refine lv_iload_n hx hb d_R_sumOf_42 rfl (lv_at hl 3 rfl) ?_
        exact W.iret (v := x) hx hb hr (fun t ht hW => ⟨x, rfl, by first | rfl | trivial | omega, ht⟩) (fun q hq => by cases hq) d_R_sumOf_43
      ·
        have c12 := cd_ge_f (by omega) (by omega) c12
        refine lv_iload_n hx hb d_R_sumOf_15 rfl (lv_at hl 3 rfl) ?_
        refine lv_aload_n hx hb d_R_sumOf_16 rfl (lv_at hl 0 rfl) ?_
        refine lv_iload hx hb d_R_sumOf_17 (lv_at hl 4 rfl) ?_
        refine va_iald hx hb hK hP 7 2 rfl rfl (vp_in_nI (by omega) (by decide)) d_R_sumOf_19 ?_
        refine tp_i (y := row (st + k)) (by rw [nI_clamp (by omega)]) ?_
        refine lv_ixor hx hb d_R_sumOf_20 ?_
        refine lv_istore_n hx hb d_R_sumOf_21 rfl hl (by decide) rfl (fun ls hl => ?_)
        have hl : lv_has ls 5 [(3, .int (x ^^^ (row (st + k)))), (0, .ref (ad 7)), (1, .int (nI st)), (2, .int (nI cnt)), (4, .int (nI (st + k)))] := hl
        refine lv_iload_n hx hb d_R_sumOf_22 rfl (lv_at hl 0 rfl) ?_
        refine lv_iconst (v := 5) hx hb d_R_sumOf_23 (by decide) ?_
        refine lv_ishl hx hb d_R_sumOf_24 ?_
        refine lv_iload_n hx hb d_R_sumOf_25 rfl (lv_at hl 0 rfl) ?_
        refine lv_bipush (v := 27) hx hb d_R_sumOf_26 (by decide) ?_
        refine lv_iushr hx hb d_R_sumOf_28 rfl ?_
        refine lv_ior hx hb d_R_sumOf_29 ?_
        refine lv_istore_n hx hb d_R_sumOf_30 rfl hl (by decide) rfl (fun ls hl => ?_)
        have hl : lv_has ls 5 [(3, .int (((x ^^^ (row (st + k))) <<< (5 &&& 31)) ||| (((x ^^^ (row (st + k))).toUInt32 >>> (Int32.toUInt32 27 &&& Int32.toUInt32 31)).toInt32))), (0, .ref (ad 7)), (1, .int (nI st)), (2, .int (nI cnt)), (4, .int (nI (st + k)))] := hl
        refine lv_iload_n hx hb d_R_sumOf_31 rfl (lv_at hl 0 rfl) ?_
        refine lv_ldc (v := nI 40503) hx hb hown (hts (.constant R_R 219 40503) (List.mem_cons_of_mem _ t_172)) d_R_sumOf_32 ?_
        refine lv_iadd hx hb d_R_sumOf_34 ?_
        refine lv_istore_n hx hb d_R_sumOf_35 rfl hl (by decide) rfl (fun ls hl => ?_)
        have hl : lv_has ls 5 [(3, .int ((((x ^^^ (row (st + k))) <<< (5 &&& 31)) ||| (((x ^^^ (row (st + k))).toUInt32 >>> (Int32.toUInt32 27 &&& Int32.toUInt32 31)).toInt32)) + (nI 40503))), (0, .ref (ad 7)), (1, .int (nI st)), (2, .int (nI cnt)), (4, .int (nI (st + k)))] := hl
        refine lv_iinc (k := 4) (v := nI ((st + k) + 1)) hx hb d_R_sumOf_36 hl rfl (nI_1 _) (by decide) rfl (fun ls hl => ?_)
        have hl : lv_has ls 5 [(4, .int (nI ((st + k) + 1))), (3, .int ((((x ^^^ (row (st + k))) <<< (5 &&& 31)) ||| (((x ^^^ (row (st + k))).toUInt32 >>> (Int32.toUInt32 27 &&& Int32.toUInt32 31)).toInt32)) + (nI 40503))), (0, .ref (ad 7)), (1, .int (nI st)), (2, .int (nI cnt))] := hl
        refine lv_goto (tgt := 7) hx hb d_R_sumOf_39 (by decide) ?_
        exact ih7 (k + 1) ((((x ^^^ (row (st + k))) <<< (5 &&& 31)) ||| (((x ^^^ (row (st + k))).toUInt32 >>> (Int32.toUInt32 27 &&& Int32.toUInt32 31)).toInt32)) + (nI 40503)) ls (by omega) (by omega) (lv_sub hl [2, 3, 4, 1, 0] rfl)
  exact lp7 _ 0 (nI 7989) ls (Nat.lt_succ_self _) (by omega) (lv_sub hl [2, 3, 4, 1, 0] rfl)
