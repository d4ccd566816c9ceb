set_option maxHeartbeats 4000000 in
set_option maxRecDepth 100000 in
theorem cb_L_axle (l : Launch) (hl9 : l.stackTraces = false) (dC : Nat → ClassId) (dI : Nat → Nat → Nat) (ad cd : Nat → Nat) (ao co : Nat) (sz az : Nat) (w wr fl : Nat → Int32) (pw sc : Int32) (lw rot vb : Nat → Int32) (rec tk : Int32) (live row : Nat → Int32) (cur ser dur wo : Int32) (bts : Nat → Int32) (us : Int32) (act : Nat → Int32) (rd rs : Int32) (fo : Nat → Int64) (st : Int32) (hok : ¬ (nI 1 ≤ st ∧ st ≤ nI 1200)) : Met l y_L_axle w_L_axle ({ frames := 8, cells := 1, slots := 6, locals := 141 }) (oP (dC, dI) vwCl ((co, .long) :: xt cd) ((ao, .inl (co, 1, .inr (.inl fo))) :: (xw ad cd w wr fl (nI 1) (-1) lw rot vb (nI 0) (nI 0) live row (-1) (nI 0) (nI 0) (nI 0) bts (nI 0) act (nI 0) (nI 0))) sz az [.ref (ad 0), .int st, .ref ao]) (va_Qi (fun r (u : Unit) => r = nI 1) (fun (u : Unit) (t : State) => xB (dC, dI) vwCl ((co, .long) :: xt cd) (oA ao ad sz) ((ao, .inl (co, 1, .inr (.inl fo))) :: (xw ad cd w wr fl (nI 1) (-1) lw rot vb (nI 0) (nI 0) live row (-1) (nI 0) (nI 0) (nI 0) bts (nI 0) act (nI 0) (nI 0))) t) (oA ao ad sz)) 1 6 (oA ao ad sz) := by
  refine va_MetW (cc := b_L_axle) (maxL := 4) (ret := (some (.int))) (by decide) rfl ?_
  intro P e s m args below meth c0 s₁ B hml hv
  obtain ⟨rfl, hsz, hP, hK, hD0, hz, hn, hc⟩ := hv
  have hx := B.exec
  have hb := B.bytes
  have hr := B.returns
  have hts := atoms_spec (ws := w_L_axle) B.pre
  have hown : s.vm.findClass R_L = some m.cls := findClass_of_methodNamed B.named
  have hlocks := B.notSynchronized
  subst hsz
  have hD := ow_D (sz := s.heap.size) hD0
  have hl := lv_entry ([.ref (ad 0), .int st, .ref ao]) (n := 4) (Nat.le_of_ble_eq_true rfl)
  rw [lg_entry_eq]
  generalize (lg_sl ([.ref (ad 0), .int st, .ref ao]) ++ List.replicate (4 - (lg_sl ([.ref (ad 0), .int st, .ref ao])).length) Slot.unset).toArray = ls at hl ⊢
  have hl : lv_has ls 4 [(0, .ref (ad 0)), (1, .int st), (2, .ref ao)] := hl
  obtain ⟨m9, meth9, c9, hn9, hm9, hc9, -, -, hh9, -⟩ := Cond.codeWith_spec (hts _ List.mem_cons_self)
  cases B.named.symm.trans hn9
  cases B.method.symm.trans hm9
  cases (Stand.of_body B).code.symm.trans hc9
  have hrows := rows_of hh9
  refine lv_aload_n hx hb d_L_axle_0 rfl (lv_at hl 2 rfl) ?_
  refine lv_iconst (v := nI 0) hx hb d_L_axle_1 (by decide) ?_
  refine lv_aload_n hx hb d_L_axle_2 rfl (lv_at hl 0 rfl) ?_
  refine lv_iload_n hx hb d_L_axle_3 rfl (lv_at hl 1 rfl) ?_
  have hPc := hP.sub (ws' := (xw ad cd w wr fl (nI 1) (-1) lw rot vb (nI 0) (nI 0) live row (-1) (nI 0) (nI 0) (nI 0) bts (nI 0) act (nI 0) (nI 0))) [1, 2, 3, 4, 5, 6, 7, 8, 9, 10, 11, 12, 13, 14, 15] rfl
  have hKc := hK.sub (tys' := (xt cd)) [1, 2, 3, 4, 5, 6, 7, 8, 9, 10] rfl
  refine th_catch1 (x := ⟨0, 9, 12, 13⟩) (rest := [.int (nI 0), .ref ao]) hrows (by decide) (by decide) hown (hts (.classLink R_L 13 E_A) (List.mem_cons_of_mem _ t_265)) (va_Nw.use rfl hn.1.1) (fun T hT X => th_runV (C := R_R) (As := [.int st]) (rest := [.int (nI 0), .ref ao]) ⟨hx, hb, hml, hown, hts⟩ (th_R_axle l hl9 dC dI ad cd az w wr fl (nI 1) (-1) lw rot vb (nI 0) (nI 0) live row (-1) (nI 0) (nI 0) (nI 0) bts (nI 0) act (nI 0) (nI 0) st hok) (cwV 1 hts (g_V t_267 t_268 t_269 t_1 t_270) rfl rfl rfl (by decide +kernel) ⟨by decide, by decide⟩) (xT_v hPc hKc hz hn 0 rfl rfl) rfl rfl hl.1 rfl (lv_room (Nat.le_of_ble_eq_true rfl)) d_L_axle_4 ⟨by decide, by decide⟩ hT X) (fun q H1 hz1 hk1 => ?_)
  have hP1 : va_P (dC, dI) vwCl ((ao, .inl (co, 1, .inr (.inl fo))) :: (xw ad cd w wr fl (nI 1) (-1) lw rot vb (nI 0) (nI 0) live row (-1) (nI 0) (nI 0) (nI 0) bts (nI 0) act (nI 0) (nI 0))) H1 := hP.kept (fun k q hk => hk1 _ ((hP k q hk).lt))
  have hS1 : va_S (oA ao ad s.heap.size) s.heap H1 [] := ⟨hz1, fun q h1 _ => hk1 q h1, fun _ h => by cases h⟩
  refine W.eq (g2 := F0 m 12 ls [.ref q]) rfl ?_
  refine lv_astore_n hx hb d_L_axle_12 rfl hl (by decide) rfl (fun ls hl => ?_)
  have hl : lv_has ls 4 [(3, .ref q), (0, .ref (ad 0)), (1, .int st), (2, .ref ao)] := hl
  refine lv_iconst (v := nI 1) hx hb d_L_axle_13 (by decide) ?_
  exact W.iret (v := nI 1) hx hb hr (fun t ht hW => ⟨⟨nI 1, (), rfl, rfl, ⟨by rw [ht]; exact hP1, va_K.moved hW.alike hK, hD⟩⟩, hS1.F ht⟩) hS1.2.2 d_L_axle_14
set_option maxHeartbeats 4000000 in
set_option maxRecDepth 100000 in
theorem cb_L_close (l : Launch) (hl9 : l.stackTraces = false) (dC : Nat → ClassId) (dI : Nat → Nat → Nat) (ad cd : Nat → Nat) (ao co : Nat) (sz az : Nat) (w wr fl : Nat → Int32) (pw sc : Int32) (lw rot vb : Nat → Int32) (rec tk : Int32) (live row : Nat → Int32) (cur ser dur wo : Int32) (bts : Nat → Int32) (us : Int32) (act : Nat → Int32) (rd rs : Int32) (fo : Nat → Int64) (plate tare product clock : Int32) (hbad : ¬ ((nI 0 ≤ tare ∧ tare ≤ nI 216000) ∧ (nI 0 ≤ product ∧ product ≤ nI 39) ∧ (nI 0 ≤ clock ∧ clock ≤ nI 67108863))) : Met l y_L_close w_L_close ({ frames := 8, cells := 1, slots := 6, locals := 145 }) (oP (dC, dI) vwCl ((co, .long) :: xt cd) ((ao, .inl (co, 1, .inr (.inl fo))) :: (xw ad cd w wr fl (nI 1) (-1) lw rot vb (nI 0) (nI 0) live row (-1) (nI 0) (nI 0) (nI 0) bts (nI 0) act (nI 0) (nI 0))) sz az [.ref (ad 0), .int plate, .int tare, .int product, .int clock, .ref ao]) (va_Qi (fun r (u : Unit) => r = nI 1) (fun (u : Unit) (t : State) => xB (dC, dI) vwCl ((co, .long) :: xt cd) (oA ao ad sz) ((ao, .inl (co, 1, .inr (.inl fo))) :: (xw ad cd w wr fl (nI 1) (-1) lw rot vb (nI 0) (nI 0) live row (-1) (nI 0) (nI 0) (nI 0) bts (nI 0) act (nI 0) (nI 0))) t) (oA ao ad sz)) 1 6 (oA ao ad sz) := by
  refine va_MetW (cc := b_L_close) (maxL := 7) (ret := (some (.int))) (by decide) rfl ?_
  intro P e s m args below meth c0 s₁ B hml hv
  obtain ⟨rfl, hsz, hP, hK, hD0, hz, hn, hc⟩ := hv
  have hx := B.exec
  have hb := B.bytes
  have hr := B.returns
  have hts := atoms_spec (ws := w_L_close) B.pre
  have hown : s.vm.findClass R_L = some m.cls := findClass_of_methodNamed B.named
  have hlocks := B.notSynchronized
  subst hsz
  have hD := ow_D (sz := s.heap.size) hD0
  have hl := lv_entry ([.ref (ad 0), .int plate, .int tare, .int product, .int clock, .ref ao]) (n := 7) (Nat.le_of_ble_eq_true rfl)
  rw [lg_entry_eq]
  generalize (lg_sl ([.ref (ad 0), .int plate, .int tare, .int product, .int clock, .ref ao]) ++ List.replicate (7 - (lg_sl ([.ref (ad 0), .int plate, .int tare, .int product, .int clock, .ref ao])).length) Slot.unset).toArray = ls at hl ⊢
  have hl : lv_has ls 7 [(0, .ref (ad 0)), (1, .int plate), (2, .int tare), (3, .int product), (4, .int clock), (5, .ref ao)] := hl
  obtain ⟨m9, meth9, c9, hn9, hm9, hc9, -, -, hh9, -⟩ := Cond.codeWith_spec (hts _ List.mem_cons_self)
  cases B.named.symm.trans hn9
  cases B.method.symm.trans hm9
  cases (Stand.of_body B).code.symm.trans hc9
  have hrows := rows_of hh9
  refine lv_aload hx hb d_L_close_0 (lv_at hl 5 rfl) ?_
  refine lv_iconst (v := nI 0) hx hb d_L_close_2 (by decide) ?_
  refine lv_aload_n hx hb d_L_close_3 rfl (lv_at hl 0 rfl) ?_
  refine lv_iload_n hx hb d_L_close_4 rfl (lv_at hl 1 rfl) ?_
  refine lv_iload_n hx hb d_L_close_5 rfl (lv_at hl 2 rfl) ?_
  refine lv_iload_n hx hb d_L_close_6 rfl (lv_at hl 3 rfl) ?_
  refine lv_iload hx hb d_L_close_7 (lv_at hl 4 rfl) ?_
  have hPc := hP.sub (ws' := (xw ad cd w wr fl (nI 1) (-1) lw rot vb (nI 0) (nI 0) live row (-1) (nI 0) (nI 0) (nI 0) bts (nI 0) act (nI 0) (nI 0))) [1, 2, 3, 4, 5, 6, 7, 8, 9, 10, 11, 12, 13, 14, 15] rfl
  have hKc := hK.sub (tys' := (xt cd)) [1, 2, 3, 4, 5, 6, 7, 8, 9, 10] rfl
  refine th_catch1 (x := ⟨0, 14, 17, 13⟩) (rest := [.int (nI 0), .ref ao]) hrows (by decide) (by decide) hown (hts (.classLink R_L 13 E_A) (List.mem_cons_of_mem _ t_265)) (va_Nw.use rfl hn.1.1) (fun T hT X => th_runV (C := R_R) (As := [.int plate, .int tare, .int product, .int clock]) (rest := [.int (nI 0), .ref ao]) ⟨hx, hb, hml, hown, hts⟩ (th_R_close l hl9 dC dI ad cd az w wr fl (nI 1) (-1) lw rot vb (nI 0) (nI 0) live row (-1) (nI 0) (nI 0) (nI 0) bts (nI 0) act (nI 0) (nI 0) plate tare product clock hbad) (cwV 4 hts (g_V t_359 t_360 t_361 t_1 t_362) rfl rfl rfl (by decide +kernel) ⟨by decide, by decide⟩) (xT_v hPc hKc hz hn 0 rfl rfl) rfl rfl hl.1 rfl (lv_room (Nat.le_of_ble_eq_true rfl)) d_L_close_9 ⟨by decide, by decide⟩ hT X) (fun q H1 hz1 hk1 => ?_)
  have hP1 : va_P (dC, dI) vwCl ((ao, .inl (co, 1, .inr (.inl fo))) :: (xw ad cd w wr fl (nI 1) (-1) lw rot vb (nI 0) (nI 0) live row (-1) (nI 0) (nI 0) (nI 0) bts (nI 0) act (nI 0) (nI 0))) H1 := hP.kept (fun k q hk => hk1 _ ((hP k q hk).lt))
  have hS1 : va_S (oA ao ad s.heap.size) s.heap H1 [] := ⟨hz1, fun q h1 _ => hk1 q h1, fun _ h => by cases h⟩
  refine W.eq (g2 := F0 m 17 ls [.ref q]) rfl ?_
  refine lv_astore hx hb d_L_close_17 hl (by decide) rfl (fun ls hl => ?_)
  have hl : lv_has ls 7 [(6, .ref q), (0, .ref (ad 0)), (1, .int plate), (2, .int tare), (3, .int product), (4, .int clock), (5, .ref ao)] := hl
  refine lv_iconst (v := nI 1) hx hb d_L_close_19 (by decide) ?_
  exact W.iret (v := nI 1) hx hb hr (fun t ht hW => ⟨⟨nI 1, (), rfl, rfl, ⟨by rw [ht]; exact hP1, va_K.moved hW.alike hK, hD⟩⟩, hS1.F ht⟩) hS1.2.2 d_L_close_20
set_option maxHeartbeats 4000000 in
set_option maxRecDepth 100000 in
theorem cb_L_annul (l : Launch) (hl9 : l.stackTraces = false) (dC : Nat → ClassId) (dI : Nat → Nat → Nat) (ad cd : Nat → Nat) (ao co : Nat) (sz az : Nat) (w wr fl : Nat → Int32) (pw sc : Int32) (lw rot vb : Nat → Int32) (rec tk : Int32) (live row : Nat → Int32) (cur ser dur wo : Int32) (bts : Nat → Int32) (us : Int32) (act : Nat → Int32) (rd rs : Int32) (fo : Nat → Int64) (tno rea : Int32) (hok : ¬ (nI 0 ≤ rea ∧ rea ≤ nI 3)) : Met l y_L_annul w_L_annul ({ frames := 8, cells := 1, slots := 6, locals := 142 }) (oP (dC, dI) vwCl ((co, .long) :: xt cd) ((ao, .inl (co, 1, .inr (.inl fo))) :: (xw ad cd w wr fl (nI 1) (-1) lw rot vb (nI 0) (nI 0) live row (-1) (nI 0) (nI 0) (nI 0) bts (nI 0) act (nI 0) (nI 0))) sz az [.ref (ad 0), .int tno, .int rea, .ref ao]) (va_Qi (fun r (u : Unit) => r = nI 1) (fun (u : Unit) (t : State) => xB (dC, dI) vwCl ((co, .long) :: xt cd) (oA ao ad sz) ((ao, .inl (co, 1, .inr (.inl fo))) :: (xw ad cd w wr fl (nI 1) (-1) lw rot vb (nI 0) (nI 0) live row (-1) (nI 0) (nI 0) (nI 0) bts (nI 0) act (nI 0) (nI 0))) t) (oA ao ad sz)) 1 6 (oA ao ad sz) := by
  refine va_MetW (cc := b_L_annul) (maxL := 5) (ret := (some (.int))) (by decide) rfl ?_
  intro P e s m args below meth c0 s₁ B hml hv
  obtain ⟨rfl, hsz, hP, hK, hD0, hz, hn, hc⟩ := hv
  have hx := B.exec
  have hb := B.bytes
  have hr := B.returns
  have hts := atoms_spec (ws := w_L_annul) B.pre
  have hown : s.vm.findClass R_L = some m.cls := findClass_of_methodNamed B.named
  have hlocks := B.notSynchronized
  subst hsz
  have hD := ow_D (sz := s.heap.size) hD0
  have hl := lv_entry ([.ref (ad 0), .int tno, .int rea, .ref ao]) (n := 5) (Nat.le_of_ble_eq_true rfl)
  rw [lg_entry_eq]
  generalize (lg_sl ([.ref (ad 0), .int tno, .int rea, .ref ao]) ++ List.replicate (5 - (lg_sl ([.ref (ad 0), .int tno, .int rea, .ref ao])).length) Slot.unset).toArray = ls at hl ⊢
  have hl : lv_has ls 5 [(0, .ref (ad 0)), (1, .int tno), (2, .int rea), (3, .ref ao)] := hl
  obtain ⟨m9, meth9, c9, hn9, hm9, hc9, -, -, hh9, -⟩ := Cond.codeWith_spec (hts _ List.mem_cons_self)
  cases B.named.symm.trans hn9
  cases B.method.symm.trans hm9
  cases (Stand.of_body B).code.symm.trans hc9
  have hrows := rows_of hh9
  refine lv_aload_n hx hb d_L_annul_0 rfl (lv_at hl 3 rfl) ?_
  refine lv_iconst (v := nI 0) hx hb d_L_annul_1 (by decide) ?_
  refine lv_aload_n hx hb d_L_annul_2 rfl (lv_at hl 0 rfl) ?_
  refine lv_iload_n hx hb d_L_annul_3 rfl (lv_at hl 1 rfl) ?_
  refine lv_iload_n hx hb d_L_annul_4 rfl (lv_at hl 2 rfl) ?_
  have hPc := hP.sub (ws' := (xw ad cd w wr fl (nI 1) (-1) lw rot vb (nI 0) (nI 0) live row (-1) (nI 0) (nI 0) (nI 0) bts (nI 0) act (nI 0) (nI 0))) [1, 2, 3, 4, 5, 6, 7, 8, 9, 10, 11, 12, 13, 14, 15] rfl
  have hKc := hK.sub (tys' := (xt cd)) [1, 2, 3, 4, 5, 6, 7, 8, 9, 10] rfl
  refine th_catch1 (x := ⟨0, 10, 13, 13⟩) (rest := [.int (nI 0), .ref ao]) hrows (by decide) (by decide) hown (hts (.classLink R_L 13 E_A) (List.mem_cons_of_mem _ t_265)) (va_Nw.use rfl hn.1.1) (fun T hT X => th_runV (C := R_R) (As := [.int tno, .int rea]) (rest := [.int (nI 0), .ref ao]) ⟨hx, hb, hml, hown, hts⟩ (th_R_annul l hl9 dC dI ad cd az w wr fl (nI 1) (-1) lw rot vb (nI 0) (nI 0) live row (-1) (nI 0) (nI 0) (nI 0) bts (nI 0) act (nI 0) (nI 0) tno rea hok) (cwV 2 hts (g_V t_469 t_470 t_471 t_1 t_472) rfl rfl rfl (by decide +kernel) ⟨by decide, by decide⟩) (xT_v hPc hKc hz hn 0 rfl rfl) rfl rfl hl.1 rfl (lv_room (Nat.le_of_ble_eq_true rfl)) d_L_annul_5 ⟨by decide, by decide⟩ hT X) (fun q H1 hz1 hk1 => ?_)
  have hP1 : va_P (dC, dI) vwCl ((ao, .inl (co, 1, .inr (.inl fo))) :: (xw ad cd w wr fl (nI 1) (-1) lw rot vb (nI 0) (nI 0) live row (-1) (nI 0) (nI 0) (nI 0) bts (nI 0) act (nI 0) (nI 0))) H1 := hP.kept (fun k q hk => hk1 _ ((hP k q hk).lt))
  have hS1 : va_S (oA ao ad s.heap.size) s.heap H1 [] := ⟨hz1, fun q h1 _ => hk1 q h1, fun _ h => by cases h⟩
  refine W.eq (g2 := F0 m 13 ls [.ref q]) rfl ?_
  refine lv_astore hx hb d_L_annul_13 hl (by decide) rfl (fun ls hl => ?_)
  have hl : lv_has ls 5 [(4, .ref q), (0, .ref (ad 0)), (1, .int tno), (2, .int rea), (3, .ref ao)] := hl
  refine lv_iconst (v := nI 1) hx hb d_L_annul_15 (by decide) ?_
  exact W.iret (v := nI 1) hx hb hr (fun t ht hW => ⟨⟨nI 1, (), rfl, rfl, ⟨by rw [ht]; exact hP1, va_K.moved hW.alike hK, hD⟩⟩, hS1.F ht⟩) hS1.2.2 d_L_annul_16
set_option maxHeartbeats 4000000 in
set_option maxRecDepth 100000 in
theorem cb_L_ticket (l : Launch) (hl9 : l.stackTraces = false) (dC : Nat → ClassId) (dI : Nat → Nat → Nat) (ad cd : Nat → Nat) (ao co : Nat) (sz az : Nat) (w wr fl : Nat → Int32) (pw sc : Int32) (lw rot vb : Nat → Int32) (rec tk : Int32) (live row : Nat → Int32) (cur ser dur wo : Int32) (bts : Nat → Int32) (us : Int32) (act : Nat → Int32) (rd rs : Int32) (fo : Nat → Int64) (n what : Int32) : Met l y_L_ticket w_L_ticket ({ frames := 8, cells := 1, slots := 6, locals := 142 }) (oP (dC, dI) vwCl ((co, .long) :: xt cd) ((ao, .inl (co, 1, .inr (.inl fo))) :: (xw ad cd w wr fl (nI 1) (-1) lw rot vb (nI 0) (nI 0) live row (-1) (nI 0) (nI 0) (nI 0) bts (nI 0) act (nI 0) (nI 0))) sz az [.ref (ad 0), .int n, .int what, .ref ao]) (va_Qi (fun r (u : Unit) => r = nI 2) (fun (u : Unit) (t : State) => xB (dC, dI) vwCl ((co, .long) :: xt cd) (oA ao ad sz) ((ao, .inl (co, 1, .inr (.inl fo))) :: (xw ad cd w wr fl (nI 1) (-1) lw rot vb (nI 0) (nI 0) live row (-1) (nI 0) (nI 0) (nI 0) bts (nI 0) act (nI 0) (nI 0))) t) (oA ao ad sz)) 1 6 (oA ao ad sz) := by
  refine va_MetW (cc := b_L_ticket) (maxL := 5) (ret := (some (.int))) (by decide) rfl ?_
  intro P e s m args below meth c0 s₁ B hml hv
  obtain ⟨rfl, hsz, hP, hK, hD0, hz, hn, hc⟩ := hv
  have hx := B.exec
  have hb := B.bytes
  have hr := B.returns
  have hts := atoms_spec (ws := w_L_ticket) B.pre
  have hown : s.vm.findClass R_L = some m.cls := findClass_of_methodNamed B.named
  have hlocks := B.notSynchronized
  subst hsz
  have hD := ow_D (sz := s.heap.size) hD0
  have hl := lv_entry ([.ref (ad 0), .int n, .int what, .ref ao]) (n := 5) (Nat.le_of_ble_eq_true rfl)
  rw [lg_entry_eq]
  generalize (lg_sl ([.ref (ad 0), .int n, .int what, .ref ao]) ++ List.replicate (5 - (lg_sl ([.ref (ad 0), .int n, .int what, .ref ao])).length) Slot.unset).toArray = ls at hl ⊢
  have hl : lv_has ls 5 [(0, .ref (ad 0)), (1, .int n), (2, .int what), (3, .ref ao)] := hl
  obtain ⟨m9, meth9, c9, hn9, hm9, hc9, -, -, hh9, -⟩ := Cond.codeWith_spec (hts _ List.mem_cons_self)
  cases B.named.symm.trans hn9
  cases B.method.symm.trans hm9
  cases (Stand.of_body B).code.symm.trans hc9
  have hrows := rows_of hh9
  refine lv_aload_n hx hb d_L_ticket_0 rfl (lv_at hl 3 rfl) ?_
  refine lv_iconst (v := nI 0) hx hb d_L_ticket_1 (by decide) ?_
  refine lv_aload_n hx hb d_L_ticket_2 rfl (lv_at hl 0 rfl) ?_
  refine lv_iload_n hx hb d_L_ticket_3 rfl (lv_at hl 1 rfl) ?_
  refine lv_iload_n hx hb d_L_ticket_4 rfl (lv_at hl 2 rfl) ?_
  have hPc := hP.sub (ws' := (xw ad cd w wr fl (nI 1) (-1) lw rot vb (nI 0) (nI 0) live row (-1) (nI 0) (nI 0) (nI 0) bts (nI 0) act (nI 0) (nI 0))) [1, 2, 3, 4, 5, 6, 7, 8, 9, 10, 11, 12, 13, 14, 15] rfl
  have hKc := hK.sub (tys' := (xt cd)) [1, 2, 3, 4, 5, 6, 7, 8, 9, 10] rfl
  refine th_catch2 (y := ⟨0, 10, 13, 15⟩) (x := ⟨0, 10, 17, 32⟩) (rest := [.int (nI 0), .ref ao]) (N := E_S) hrows (by decide) (by decide) (by decide) (by decide) hown (hts (.classLink R_L 15 E_S) (List.mem_cons_of_mem _ t_266)) hc (hts (.classLink R_L 32 E_I) (List.mem_cons_of_mem _ t_486)) (va_Nw.use rfl hn.1.2.2) (fun T hT X => th_runV (C := R_R) (As := [.int n, .int what]) (rest := [.int (nI 0), .ref ao]) ⟨hx, hb, hml, hown, hts⟩ (th_R_ticket l hl9 dC dI ad cd az w wr fl (nI 1) (-1) lw rot vb (nI 0) (nI 0) live row (-1) (nI 0) (nI 0) (nI 0) bts (nI 0) act (nI 0) (nI 0) n what ) (cwV 2 hts (g_V t_487 t_488 t_489 t_1 t_490) rfl rfl rfl (by decide +kernel) ⟨by decide, by decide⟩) (xT_v hPc hKc hz hn 0 rfl rfl) rfl rfl hl.1 rfl (lv_room (Nat.le_of_ble_eq_true rfl)) d_L_ticket_5 ⟨by decide, by decide⟩ hT X) (fun q H1 hz1 hk1 => ?_)
  have hP1 : va_P (dC, dI) vwCl ((ao, .inl (co, 1, .inr (.inl fo))) :: (xw ad cd w wr fl (nI 1) (-1) lw rot vb (nI 0) (nI 0) live row (-1) (nI 0) (nI 0) (nI 0) bts (nI 0) act (nI 0) (nI 0))) H1 := hP.kept (fun k q hk => hk1 _ ((hP k q hk).lt))
  have hS1 : va_S (oA ao ad s.heap.size) s.heap H1 [] := ⟨hz1, fun q h1 _ => hk1 q h1, fun _ h => by cases h⟩
  refine W.eq (g2 := F0 m 17 ls [.ref q]) rfl ?_
  refine lv_astore hx hb d_L_ticket_17 hl (by decide) rfl (fun ls hl => ?_)
  have hl : lv_has ls 5 [(4, .ref q), (0, .ref (ad 0)), (1, .int n), (2, .int what), (3, .ref ao)] := hl
  refine lv_iconst (v := nI 2) hx hb d_L_ticket_19 (by decide) ?_
  exact W.iret (v := nI 2) hx hb hr (fun t ht hW => ⟨⟨nI 2, (), rfl, rfl, ⟨by rw [ht]; exact hP1, va_K.moved hW.alike hK, hD⟩⟩, hS1.F ht⟩) hS1.2.2 d_L_ticket_20
set_option maxHeartbeats 4000000 in
set_option maxRecDepth 100000 in
theorem cb_L_wearOf (l : Launch) (hl9 : l.stackTraces = false) (dC : Nat → ClassId) (dI : Nat → Nat → Nat) (ad cd : Nat → Nat) (ao co : Nat) (sz az : Nat) (w wr fl : Nat → Int32) (pw sc : Int32) (lw rot vb : Nat → Int32) (rec tk : Int32) (live row : Nat → Int32) (cur ser dur wo : Int32) (bts : Nat → Int32) (us : Int32) (act : Nat → Int32) (rd rs : Int32) (fo : Nat → Int64) (b : Int32) (hok : ¬ (nI 0 ≤ b ∧ b ≤ nI 7)) : Met l y_L_wearOf w_L_wearOf ({ frames := 8, cells := 1, slots := 6, locals := 141 }) (oP (dC, dI) vwCl ((co, .long) :: xt cd) ((ao, .inl (co, 1, .inr (.inl fo))) :: (xw ad cd w wr fl (nI 1) (-1) lw rot vb (nI 0) (nI 0) live row (-1) (nI 0) (nI 0) (nI 0) bts (nI 0) act (nI 0) (nI 0))) sz az [.ref (ad 0), .int b, .ref ao]) (va_Qi (fun r (u : Unit) => r = nI 1) (fun (u : Unit) (t : State) => xB (dC, dI) vwCl ((co, .long) :: xt cd) (oA ao ad sz) ((ao, .inl (co, 1, .inr (.inl fo))) :: (xw ad cd w wr fl (nI 1) (-1) lw rot vb (nI 0) (nI 0) live row (-1) (nI 0) (nI 0) (nI 0) bts (nI 0) act (nI 0) (nI 0))) t) (oA ao ad sz)) 1 6 (oA ao ad sz) := by
  refine va_MetW (cc := b_L_wearOf) (maxL := 4) (ret := (some (.int))) (by decide) rfl ?_
  intro P e s m args below meth c0 s₁ B hml hv
  obtain ⟨rfl, hsz, hP, hK, hD0, hz, hn, hc⟩ := hv
  have hx := B.exec
  have hb := B.bytes
  have hr := B.returns
  have hts := atoms_spec (ws := w_L_wearOf) B.pre
  have hown : s.vm.findClass R_L = some m.cls := findClass_of_methodNamed B.named
  have hlocks := B.notSynchronized
  subst hsz
  have hD := ow_D (sz := s.heap.size) hD0
  have hl := lv_entry ([.ref (ad 0), .int b, .ref ao]) (n := 4) (Nat.le_of_ble_eq_true rfl)
  rw [lg_entry_eq]
  generalize (lg_sl ([.ref (ad 0), .int b, .ref ao]) ++ List.replicate (4 - (lg_sl ([.ref (ad 0), .int b, .ref ao])).length) Slot.unset).toArray = ls at hl ⊢
  have hl : lv_has ls 4 [(0, .ref (ad 0)), (1, .int b), (2, .ref ao)] := hl
  obtain ⟨m9, meth9, c9, hn9, hm9, hc9, -, -, hh9, -⟩ := Cond.codeWith_spec (hts _ List.mem_cons_self)
  cases B.named.symm.trans hn9
  cases B.method.symm.trans hm9
  cases (Stand.of_body B).code.symm.trans hc9
  have hrows := rows_of hh9
  refine lv_aload_n hx hb d_L_wearOf_0 rfl (lv_at hl 2 rfl) ?_
  refine lv_iconst (v := nI 0) hx hb d_L_wearOf_1 (by decide) ?_
  refine lv_aload_n hx hb d_L_wearOf_2 rfl (lv_at hl 0 rfl) ?_
  refine lv_iload_n hx hb d_L_wearOf_3 rfl (lv_at hl 1 rfl) ?_
  have hPc := hP.sub (ws' := (xw ad cd w wr fl (nI 1) (-1) lw rot vb (nI 0) (nI 0) live row (-1) (nI 0) (nI 0) (nI 0) bts (nI 0) act (nI 0) (nI 0))) [1, 2, 3, 4, 5, 6, 7, 8, 9, 10, 11, 12, 13, 14, 15] rfl
  have hKc := hK.sub (tys' := (xt cd)) [1, 2, 3, 4, 5, 6, 7, 8, 9, 10] rfl
  refine th_catch1 (x := ⟨0, 9, 12, 13⟩) (rest := [.int (nI 0), .ref ao]) hrows (by decide) (by decide) hown (hts (.classLink R_L 13 E_A) (List.mem_cons_of_mem _ t_265)) (va_Nw.use rfl hn.1.1) (fun T hT X => th_runV (C := R_R) (As := [.int b]) (rest := [.int (nI 0), .ref ao]) ⟨hx, hb, hml, hown, hts⟩ (th_R_wearOf l hl9 dC dI ad cd az w wr fl (nI 1) (-1) lw rot vb (nI 0) (nI 0) live row (-1) (nI 0) (nI 0) (nI 0) bts (nI 0) act (nI 0) (nI 0) b hok) (cwV 1 hts (g_V t_661 t_662 t_663 t_1 t_664) rfl rfl rfl (by decide +kernel) ⟨by decide, by decide⟩) (xT_v hPc hKc hz hn 0 rfl rfl) rfl rfl hl.1 rfl (lv_room (Nat.le_of_ble_eq_true rfl)) d_L_wearOf_4 ⟨by decide, by decide⟩ hT X) (fun q H1 hz1 hk1 => ?_)
  have hP1 : va_P (dC, dI) vwCl ((ao, .inl (co, 1, .inr (.inl fo))) :: (xw ad cd w wr fl (nI 1) (-1) lw rot vb (nI 0) (nI 0) live row (-1) (nI 0) (nI 0) (nI 0) bts (nI 0) act (nI 0) (nI 0))) H1 := hP.kept (fun k q hk => hk1 _ ((hP k q hk).lt))
  have hS1 : va_S (oA ao ad s.heap.size) s.heap H1 [] := ⟨hz1, fun q h1 _ => hk1 q h1, fun _ h => by cases h⟩
  refine W.eq (g2 := F0 m 12 ls [.ref q]) rfl ?_
  refine lv_astore_n hx hb d_L_wearOf_12 rfl hl (by decide) rfl (fun ls hl => ?_)
  have hl : lv_has ls 4 [(3, .ref q), (0, .ref (ad 0)), (1, .int b), (2, .ref ao)] := hl
  refine lv_iconst (v := nI 1) hx hb d_L_wearOf_13 (by decide) ?_
  exact W.iret (v := nI 1) hx hb hr (fun t ht hW => ⟨⟨nI 1, (), rfl, rfl, ⟨by rw [ht]; exact hP1, va_K.moved hW.alike hK, hD⟩⟩, hS1.F ht⟩) hS1.2.2 d_L_wearOf_14
set_option maxHeartbeats 4000000 in
set_option maxRecDepth 100000 in
theorem cb_L_word (l : Launch) (hl9 : l.stackTraces = false) (dC : Nat → ClassId) (dI : Nat → Nat → Nat) (ad cd : Nat → Nat) (ao co : Nat) (sz az : Nat) (w wr fl : Nat → Int32) (pw sc : Int32) (lw rot vb : Nat → Int32) (rec tk : Int32) (live row : Nat → Int32) (cur ser dur wo : Int32) (bts : Nat → Int32) (us : Int32) (act : Nat → Int32) (rd rs : Int32) (fo : Nat → Int64) (pa wo_ : Int32) (hbad : ¬ ((nI 0 ≤ pa ∧ pa ≤ nI 31) ∧ (nI 0 ≤ wo_ ∧ wo_ ≤ nI 15))) : Met l y_L_word w_L_word ({ frames := 8, cells := 1, slots := 6, locals := 142 }) (oP (dC, dI) vwCl ((co, .long) :: xt cd) ((ao, .inl (co, 1, .inr (.inl fo))) :: (xw ad cd w wr fl (nI 1) (-1) lw rot vb (nI 0) (nI 0) live row (-1) (nI 0) (nI 0) (nI 0) bts (nI 0) act (nI 0) (nI 0))) sz az [.ref (ad 0), .int pa, .int wo_, .ref ao]) (va_Qi (fun r (u : Unit) => r = nI 1) (fun (u : Unit) (t : State) => xB (dC, dI) vwCl ((co, .long) :: xt cd) (oA ao ad sz) ((ao, .inl (co, 1, .inr (.inl fo))) :: (xw ad cd w wr fl (nI 1) (-1) lw rot vb (nI 0) (nI 0) live row (-1) (nI 0) (nI 0) (nI 0) bts (nI 0) act (nI 0) (nI 0))) t) (oA ao ad sz)) 1 6 (oA ao ad sz) := by
  refine va_MetW (cc := b_L_word) (maxL := 5) (ret := (some (.int))) (by decide) rfl ?_
  intro P e s m args below meth c0 s₁ B hml hv
  obtain ⟨rfl, hsz, hP, hK, hD0, hz, hn, hc⟩ := hv
  have hx := B.exec
  have hb := B.bytes
  have hr := B.returns
  have hts := atoms_spec (ws := w_L_word) B.pre
  have hown : s.vm.findClass R_L = some m.cls := findClass_of_methodNamed B.named
  have hlocks := B.notSynchronized
  subst hsz
  have hD := ow_D (sz := s.heap.size) hD0
  have hl := lv_entry ([.ref (ad 0), .int pa, .int wo_, .ref ao]) (n := 5) (Nat.le_of_ble_eq_true rfl)
  rw [lg_entry_eq]
  generalize (lg_sl ([.ref (ad 0), .int pa, .int wo_, .ref ao]) ++ List.replicate (5 - (lg_sl ([.ref (ad 0), .int pa, .int wo_, .ref ao])).length) Slot.unset).toArray = ls at hl ⊢
  have hl : lv_has ls 5 [(0, .ref (ad 0)), (1, .int pa), (2, .int wo_), (3, .ref ao)] := hl
  obtain ⟨m9, meth9, c9, hn9, hm9, hc9, -, -, hh9, -⟩ := Cond.codeWith_spec (hts _ List.mem_cons_self)
  cases B.named.symm.trans hn9
  cases B.method.symm.trans hm9
  cases (Stand.of_body B).code.symm.trans hc9
  have hrows := rows_of hh9
  refine lv_aload_n hx hb d_L_word_0 rfl (lv_at hl 3 rfl) ?_
  refine lv_iconst (v := nI 0) hx hb d_L_word_1 (by decide) ?_
  refine lv_aload_n hx hb d_L_word_2 rfl (lv_at hl 0 rfl) ?_
  refine lv_iload_n hx hb d_L_word_3 rfl (lv_at hl 1 rfl) ?_
  refine lv_iload_n hx hb d_L_word_4 rfl (lv_at hl 2 rfl) ?_
  have hPc := hP.sub (ws' := (xw ad cd w wr fl (nI 1) (-1) lw rot vb (nI 0) (nI 0) live row (-1) (nI 0) (nI 0) (nI 0) bts (nI 0) act (nI 0) (nI 0))) [1, 2, 3, 4, 5, 6, 7, 8, 9, 10, 11, 12, 13, 14, 15] rfl
  have hKc := hK.sub (tys' := (xt cd)) [1, 2, 3, 4, 5, 6, 7, 8, 9, 10] rfl
  refine th_catch1 (x := ⟨0, 10, 13, 32⟩) (rest := [.int (nI 0), .ref ao]) hrows (by decide) (by decide) hown (hts (.classLink R_L 32 E_I) (List.mem_cons_of_mem _ t_486)) (va_Nw.use rfl hn.1.2.2) (fun T hT X => th_runV (C := R_R) (As := [.int pa, .int wo_]) (rest := [.int (nI 0), .ref ao]) ⟨hx, hb, hml, hown, hts⟩ (th_R_word l hl9 dC dI ad cd az w wr fl (nI 1) (-1) lw rot vb (nI 0) (nI 0) live row (-1) (nI 0) (nI 0) (nI 0) bts (nI 0) act (nI 0) (nI 0) pa wo_ hbad) (cwV 2 hts (g_V t_697 t_698 t_699 t_1 t_700) rfl rfl rfl (by decide +kernel) ⟨by decide, by decide⟩) (xT_v hPc hKc hz hn 0 rfl rfl) rfl rfl hl.1 rfl (lv_room (Nat.le_of_ble_eq_true rfl)) d_L_word_5 ⟨by decide, by decide⟩ hT X) (fun q H1 hz1 hk1 => ?_)
  have hP1 : va_P (dC, dI) vwCl ((ao, .inl (co, 1, .inr (.inl fo))) :: (xw ad cd w wr fl (nI 1) (-1) lw rot vb (nI 0) (nI 0) live row (-1) (nI 0) (nI 0) (nI 0) bts (nI 0) act (nI 0) (nI 0))) H1 := hP.kept (fun k q hk => hk1 _ ((hP k q hk).lt))
  have hS1 : va_S (oA ao ad s.heap.size) s.heap H1 [] := ⟨hz1, fun q h1 _ => hk1 q h1, fun _ h => by cases h⟩
  refine W.eq (g2 := F0 m 13 ls [.ref q]) rfl ?_
  refine lv_astore hx hb d_L_word_13 hl (by decide) rfl (fun ls hl => ?_)
  have hl : lv_has ls 5 [(4, .ref q), (0, .ref (ad 0)), (1, .int pa), (2, .int wo_), (3, .ref ao)] := hl
  refine lv_iconst (v := nI 1) hx hb d_L_word_15 (by decide) ?_
  exact W.iret (v := nI 1) hx hb hr (fun t ht hW => ⟨⟨nI 1, (), rfl, rfl, ⟨by rw [ht]; exact hP1, va_K.moved hW.alike hK, hD⟩⟩, hS1.F ht⟩) hS1.2.2 d_L_word_16
set_option maxHeartbeats 4000000 in
set_option maxRecDepth 100000 in
theorem cb_L_setProduct (l : Launch) (hl9 : l.stackTraces = false) (dC : Nat → ClassId) (dI : Nat → Nat → Nat) (ad cd : Nat → Nat) (sz az : Nat) (w wr fl : Nat → Int32) (pw sc : Int32) (lw rot vb : Nat → Int32) (rec tk : Int32) (live row : Nat → Int32) (cur ser dur wo : Int32) (bts : Nat → Int32) (us : Int32) (act : Nat → Int32) (rd rs : Int32) (co b : Int32) (hok : ¬ (nI 0 ≤ co ∧ co ≤ nI 39)) : Met l y_L_setProduct w_L_setProduct ({ frames := 8, cells := 1, slots := 6, locals := 142 }) (oP (dC, dI) vwCl (xt cd) (xw ad cd w wr fl (nI 1) (-1) lw rot vb (nI 0) (nI 0) live row (-1) (nI 0) (nI 0) (nI 0) bts (nI 0) act (nI 0) (nI 0)) sz az [.ref (ad 0), .int co, .int b]) (va_Qi (fun r (u : Unit) => r = nI 1) (fun (u : Unit) (t : State) => xB (dC, dI) vwCl (xt cd) (xA 15 ad sz) (xw ad cd w wr fl (nI 1) (-1) lw rot vb (nI 0) (nI 0) live row (-1) (nI 0) (nI 0) (nI 0) bts (nI 0) act (nI 0) (nI 0)) t) (xA 15 ad sz)) 1 6 (xA 15 ad sz) := by
  refine va_MetW (cc := b_L_setProduct) (maxL := 4) (ret := (some (.int))) (by decide) rfl ?_
  intro P e s m args below meth c0 s₁ B hml hv
  obtain ⟨rfl, hsz, hP, hK, hD0, hz, hn, hc⟩ := hv
  have hx := B.exec
  have hb := B.bytes
  have hr := B.returns
  have hts := atoms_spec (ws := w_L_setProduct) B.pre
  have hown : s.vm.findClass R_L = some m.cls := findClass_of_methodNamed B.named
  have hlocks := B.notSynchronized
  subst hsz
  have hD := xw_D (sz := s.heap.size) hD0
  have hl := lv_entry ([.ref (ad 0), .int co, .int b]) (n := 4) (Nat.le_of_ble_eq_true rfl)
  rw [lg_entry_eq]
  generalize (lg_sl ([.ref (ad 0), .int co, .int b]) ++ List.replicate (4 - (lg_sl ([.ref (ad 0), .int co, .int b])).length) Slot.unset).toArray = ls at hl ⊢
  have hl : lv_has ls 4 [(0, .ref (ad 0)), (1, .int co), (2, .int b)] := hl
  obtain ⟨m9, meth9, c9, hn9, hm9, hc9, -, -, hh9, -⟩ := Cond.codeWith_spec (hts _ List.mem_cons_self)
  cases B.named.symm.trans hn9
  cases B.method.symm.trans hm9
  cases (Stand.of_body B).code.symm.trans hc9
  have hrows := rows_of hh9
  refine lv_aload_n hx hb d_L_setProduct_0 rfl (lv_at hl 0 rfl) ?_
  refine lv_iload_n hx hb d_L_setProduct_1 rfl (lv_at hl 1 rfl) ?_
  refine lv_iload_n hx hb d_L_setProduct_2 rfl (lv_at hl 2 rfl) ?_
  have hPc := hP.sub (ws' := (xw ad cd w wr fl (nI 1) (-1) lw rot vb (nI 0) (nI 0) live row (-1) (nI 0) (nI 0) (nI 0) bts (nI 0) act (nI 0) (nI 0))) [0, 1, 2, 3, 4, 5, 6, 7, 8, 9, 10, 11, 12, 13, 14] rfl
  have hKc := hK.sub (tys' := (xt cd)) [0, 1, 2, 3, 4, 5, 6, 7, 8, 9] rfl
  refine th_catch1 (x := ⟨0, 6, 9, 13⟩) (rest := []) hrows (by decide) (by decide) hown (hts (.classLink R_L 13 E_A) (List.mem_cons_of_mem _ t_265)) (va_Nw.use rfl hn.1.1) (fun T hT X => th_runV (C := R_R) (As := [.int co, .int b]) (rest := []) ⟨hx, hb, hml, hown, hts⟩ (th_R_setProduct l hl9 dC dI ad cd az w wr fl (nI 1) (-1) lw rot vb (nI 0) (nI 0) live row (-1) (nI 0) (nI 0) (nI 0) bts (nI 0) act (nI 0) (nI 0) co b hok) (cwV 2 hts (g_V t_643 t_644 t_645 t_1 t_646) rfl rfl rfl (by decide +kernel) ⟨by decide, by decide⟩) (xT_v hPc hKc hz hn 0 rfl rfl) rfl rfl hl.1 rfl (lv_room (Nat.le_of_ble_eq_true rfl)) d_L_setProduct_3 ⟨by decide, by decide⟩ hT X) (fun q H1 hz1 hk1 => ?_)
  have hP1 : va_P (dC, dI) vwCl (xw ad cd w wr fl (nI 1) (-1) lw rot vb (nI 0) (nI 0) live row (-1) (nI 0) (nI 0) (nI 0) bts (nI 0) act (nI 0) (nI 0)) H1 := hP.kept (fun k q hk => hk1 _ ((hP k q hk).lt))
  have hS1 : va_S (xA 15 ad s.heap.size) s.heap H1 [] := ⟨hz1, fun q h1 _ => hk1 q h1, fun _ h => by cases h⟩
  refine W.eq (g2 := F0 m 9 ls [.ref q]) rfl ?_
  refine lv_astore_n hx hb d_L_setProduct_9 rfl hl (by decide) rfl (fun ls hl => ?_)
  have hl : lv_has ls 4 [(3, .ref q), (0, .ref (ad 0)), (1, .int co), (2, .int b)] := hl
  refine lv_iconst (v := nI 1) hx hb d_L_setProduct_10 (by decide) ?_
  exact W.iret (v := nI 1) hx hb hr (fun t ht hW => ⟨⟨nI 1, (), rfl, rfl, ⟨by rw [ht]; exact hP1, va_K.moved hW.alike hK, hD⟩⟩, hS1.F ht⟩) hS1.2.2 d_L_setProduct_11
set_option maxHeartbeats 4000000 in
set_option maxRecDepth 100000 in
theorem cb_L_cutAfter (l : Launch) (hl9 : l.stackTraces = false) (dC : Nat → ClassId) (dI : Nat → Nat → Nat) (ad cd : Nat → Nat) (sz az : Nat) (w wr fl : Nat → Int32) (pw sc : Int32) (lw rot vb : Nat → Int32) (rec tk : Int32) (live row : Nat → Int32) (cur ser dur wo : Int32) (bts : Nat → Int32) (us : Int32) (act : Nat → Int32) (rd rs : Int32) (n : Int32) (hok : ¬ (nI 0 ≤ n ∧ n ≤ nI 300)) : Met l y_L_cutAfter w_L_cutAfter ({ frames := 8, cells := 1, slots := 6, locals := 141 }) (oP (dC, dI) vwCl (xt cd) (xw ad cd w wr fl (nI 1) (-1) lw rot vb (nI 0) (nI 0) live row (-1) (nI 0) (nI 0) (nI 0) bts (nI 0) act (nI 0) (nI 0)) sz az [.ref (ad 0), .int n]) (va_Qi (fun r (u : Unit) => r = nI 1) (fun (u : Unit) (t : State) => xB (dC, dI) vwCl (xt cd) (xA 15 ad sz) (xw ad cd w wr fl (nI 1) (-1) lw rot vb (nI 0) (nI 0) live row (-1) (nI 0) (nI 0) (nI 0) bts (nI 0) act (nI 0) (nI 0)) t) (xA 15 ad sz)) 1 6 (xA 15 ad sz) := by
  refine va_MetW (cc := b_L_cutAfter) (maxL := 3) (ret := (some (.int))) (by decide) rfl ?_
  intro P e s m args below meth c0 s₁ B hml hv
  obtain ⟨rfl, hsz, hP, hK, hD0, hz, hn, hc⟩ := hv
  have hx := B.exec
  have hb := B.bytes
  have hr := B.returns
  have hts := atoms_spec (ws := w_L_cutAfter) B.pre
  have hown : s.vm.findClass R_L = some m.cls := findClass_of_methodNamed B.named
  have hlocks := B.notSynchronized
  subst hsz
  have hD := xw_D (sz := s.heap.size) hD0
  have hl := lv_entry ([.ref (ad 0), .int n]) (n := 3) (Nat.le_of_ble_eq_true rfl)
  rw [lg_entry_eq]
  generalize (lg_sl ([.ref (ad 0), .int n]) ++ List.replicate (3 - (lg_sl ([.ref (ad 0), .int n])).length) Slot.unset).toArray = ls at hl ⊢
  have hl : lv_has ls 3 [(0, .ref (ad 0)), (1, .int n)] := hl
  obtain ⟨m9, meth9, c9, hn9, hm9, hc9, -, -, hh9, -⟩ := Cond.codeWith_spec (hts _ List.mem_cons_self)
  cases B.named.symm.trans hn9
  cases B.method.symm.trans hm9
  cases (Stand.of_body B).code.symm.trans hc9
  have hrows := rows_of hh9
  refine lv_aload_n hx hb d_L_cutAfter_0 rfl (lv_at hl 0 rfl) ?_
  refine lv_iload_n hx hb d_L_cutAfter_1 rfl (lv_at hl 1 rfl) ?_
  have hPc := hP.sub (ws' := (xw ad cd w wr fl (nI 1) (-1) lw rot vb (nI 0) (nI 0) live row (-1) (nI 0) (nI 0) (nI 0) bts (nI 0) act (nI 0) (nI 0))) [0, 1, 2, 3, 4, 5, 6, 7, 8, 9, 10, 11, 12, 13, 14] rfl
  have hKc := hK.sub (tys' := (xt cd)) [0, 1, 2, 3, 4, 5, 6, 7, 8, 9] rfl
  refine th_catch1 (x := ⟨0, 5, 8, 13⟩) (rest := []) hrows (by decide) (by decide) hown (hts (.classLink R_L 13 E_A) (List.mem_cons_of_mem _ t_265)) (va_Nw.use rfl hn.1.1) (fun T hT X => th_runV (C := R_R) (As := [.int n]) (rest := []) ⟨hx, hb, hml, hown, hts⟩ (th_R_cutAfter l hl9 dC dI ad cd az w wr fl (nI 1) (-1) lw rot vb (nI 0) (nI 0) live row (-1) (nI 0) (nI 0) (nI 0) bts (nI 0) act (nI 0) (nI 0) n hok) (cwV 1 hts (g_V t_650 t_651 t_652 t_1 t_653) rfl rfl rfl (by decide +kernel) ⟨by decide, by decide⟩) (xT_v hPc hKc hz hn 0 rfl rfl) rfl rfl hl.1 rfl (lv_room (Nat.le_of_ble_eq_true rfl)) d_L_cutAfter_2 ⟨by decide, by decide⟩ hT X) (fun q H1 hz1 hk1 => ?_)
  have hP1 : va_P (dC, dI) vwCl (xw ad cd w wr fl (nI 1) (-1) lw rot vb (nI 0) (nI 0) live row (-1) (nI 0) (nI 0) (nI 0) bts (nI 0) act (nI 0) (nI 0)) H1 := hP.kept (fun k q hk => hk1 _ ((hP k q hk).lt))
  have hS1 : va_S (xA 15 ad s.heap.size) s.heap H1 [] := ⟨hz1, fun q h1 _ => hk1 q h1, fun _ h => by cases h⟩
  refine W.eq (g2 := F0 m 8 ls [.ref q]) rfl ?_
  refine lv_astore_n hx hb d_L_cutAfter_8 rfl hl (by decide) rfl (fun ls hl => ?_)
  have hl : lv_has ls 3 [(2, .ref q), (0, .ref (ad 0)), (1, .int n)] := hl
  refine lv_iconst (v := nI 1) hx hb d_L_cutAfter_9 (by decide) ?_
  exact W.iret (v := nI 1) hx hb hr (fun t ht hW => ⟨⟨nI 1, (), rfl, rfl, ⟨by rw [ht]; exact hP1, va_K.moved hW.alike hK, hD⟩⟩, hS1.F ht⟩) hS1.2.2 d_L_cutAfter_10
set_option maxHeartbeats 4000000 in
set_option maxRecDepth 100000 in
theorem cb_L_failBlock (l : Launch) (hl9 : l.stackTraces = false) (dC : Nat → ClassId) (dI : Nat → Nat → Nat) (ad cd : Nat → Nat) (sz az : Nat) (w wr fl : Nat → Int32) (pw sc : Int32) (lw rot vb : Nat → Int32) (rec tk : Int32) (live row : Nat → Int32) (cur ser dur wo : Int32) (bts : Nat → Int32) (us : Int32) (act : Nat → Int32) (rd rs : Int32) (b : Int32) (hok : ¬ (nI 0 ≤ b ∧ b ≤ nI 7)) : Met l y_L_failBlock w_L_failBlock ({ frames := 8, cells := 1, slots := 6, locals := 141 }) (oP (dC, dI) vwCl (xt cd) (xw ad cd w wr fl (nI 1) (-1) lw rot vb (nI 0) (nI 0) live row (-1) (nI 0) (nI 0) (nI 0) bts (nI 0) act (nI 0) (nI 0)) sz az [.ref (ad 0), .int b]) (va_Qi (fun r (u : Unit) => r = nI 1) (fun (u : Unit) (t : State) => xB (dC, dI) vwCl (xt cd) (xA 15 ad sz) (xw ad cd w wr fl (nI 1) (-1) lw rot vb (nI 0) (nI 0) live row (-1) (nI 0) (nI 0) (nI 0) bts (nI 0) act (nI 0) (nI 0)) t) (xA 15 ad sz)) 1 6 (xA 15 ad sz) := by
  refine va_MetW (cc := b_L_failBlock) (maxL := 3) (ret := (some (.int))) (by decide) rfl ?_
  intro P e s m args below meth c0 s₁ B hml hv
  obtain ⟨rfl, hsz, hP, hK, hD0, hz, hn, hc⟩ := hv
  have hx := B.exec
  have hb := B.bytes
  have hr := B.returns
  have hts := atoms_spec (ws := w_L_failBlock) B.pre
  have hown : s.vm.findClass R_L = some m.cls := findClass_of_methodNamed B.named
  have hlocks := B.notSynchronized
  subst hsz
  have hD := xw_D (sz := s.heap.size) hD0
  have hl := lv_entry ([.ref (ad 0), .int b]) (n := 3) (Nat.le_of_ble_eq_true rfl)
  rw [lg_entry_eq]
  generalize (lg_sl ([.ref (ad 0), .int b]) ++ List.replicate (3 - (lg_sl ([.ref (ad 0), .int b])).length) Slot.unset).toArray = ls at hl ⊢
  have hl : lv_has ls 3 [(0, .ref (ad 0)), (1, .int b)] := hl
  obtain ⟨m9, meth9, c9, hn9, hm9, hc9, -, -, hh9, -⟩ := Cond.codeWith_spec (hts _ List.mem_cons_self)
  cases B.named.symm.trans hn9
  cases B.method.symm.trans hm9
  cases (Stand.of_body B).code.symm.trans hc9
  have hrows := rows_of hh9
  refine lv_aload_n hx hb d_L_failBlock_0 rfl (lv_at hl 0 rfl) ?_
  refine lv_iload_n hx hb d_L_failBlock_1 rfl (lv_at hl 1 rfl) ?_
  have hPc := hP.sub (ws' := (xw ad cd w wr fl (nI 1) (-1) lw rot vb (nI 0) (nI 0) live row (-1) (nI 0) (nI 0) (nI 0) bts (nI 0) act (nI 0) (nI 0))) [0, 1, 2, 3, 4, 5, 6, 7, 8, 9, 10, 11, 12, 13, 14] rfl
  have hKc := hK.sub (tys' := (xt cd)) [0, 1, 2, 3, 4, 5, 6, 7, 8, 9] rfl
  refine th_catch1 (x := ⟨0, 5, 8, 13⟩) (rest := []) hrows (by decide) (by decide) hown (hts (.classLink R_L 13 E_A) (List.mem_cons_of_mem _ t_265)) (va_Nw.use rfl hn.1.1) (fun T hT X => th_runV (C := R_R) (As := [.int b]) (rest := []) ⟨hx, hb, hml, hown, hts⟩ (th_R_failBlock l hl9 dC dI ad cd az w wr fl (nI 1) (-1) lw rot vb (nI 0) (nI 0) live row (-1) (nI 0) (nI 0) (nI 0) bts (nI 0) act (nI 0) (nI 0) b hok) (cwV 1 hts (g_V t_672 t_673 t_674 t_1 t_675) rfl rfl rfl (by decide +kernel) ⟨by decide, by decide⟩) (xT_v hPc hKc hz hn 0 rfl rfl) rfl rfl hl.1 rfl (lv_room (Nat.le_of_ble_eq_true rfl)) d_L_failBlock_2 ⟨by decide, by decide⟩ hT X) (fun q H1 hz1 hk1 => ?_)
  have hP1 : va_P (dC, dI) vwCl (xw ad cd w wr fl (nI 1) (-1) lw rot vb (nI 0) (nI 0) live row (-1) (nI 0) (nI 0) (nI 0) bts (nI 0) act (nI 0) (nI 0)) H1 := hP.kept (fun k q hk => hk1 _ ((hP k q hk).lt))
  have hS1 : va_S (xA 15 ad s.heap.size) s.heap H1 [] := ⟨hz1, fun q h1 _ => hk1 q h1, fun _ h => by cases h⟩
  refine W.eq (g2 := F0 m 8 ls [.ref q]) rfl ?_
  refine lv_astore_n hx hb d_L_failBlock_8 rfl hl (by decide) rfl (fun ls hl => ?_)
  have hl : lv_has ls 3 [(2, .ref q), (0, .ref (ad 0)), (1, .int b)] := hl
  refine lv_iconst (v := nI 1) hx hb d_L_failBlock_9 (by decide) ?_
  exact W.iret (v := nI 1) hx hb hr (fun t ht hW => ⟨⟨nI 1, (), rfl, rfl, ⟨by rw [ht]; exact hP1, va_K.moved hW.alike hK, hD⟩⟩, hS1.F ht⟩) hS1.2.2 d_L_failBlock_10
set_option maxHeartbeats 4000000 in
set_option maxRecDepth 100000 in
theorem cb_L_poke (l : Launch) (hl9 : l.stackTraces = false) (dC : Nat → ClassId) (dI : Nat → Nat → Nat) (ad cd : Nat → Nat) (sz az : Nat) (w wr fl : Nat → Int32) (pw sc : Int32) (lw rot vb : Nat → Int32) (rec tk : Int32) (live row : Nat → Int32) (cur ser dur wo : Int32) (bts : Nat → Int32) (us : Int32) (act : Nat → Int32) (rd rs : Int32) (pa wo_ mask : Int32) (hbad : ¬ ((nI 0 ≤ pa ∧ pa ≤ nI 31) ∧ (nI 0 ≤ wo_ ∧ wo_ ≤ nI 15))) : Met l y_L_poke w_L_poke ({ frames := 8, cells := 1, slots := 6, locals := 143 }) (oP (dC, dI) vwCl (xt cd) (xw ad cd w wr fl (nI 1) (-1) lw rot vb (nI 0) (nI 0) live row (-1) (nI 0) (nI 0) (nI 0) bts (nI 0) act (nI 0) (nI 0)) sz az [.ref (ad 0), .int pa, .int wo_, .int mask]) (va_Qi (fun r (u : Unit) => r = nI 1) (fun (u : Unit) (t : State) => xB (dC, dI) vwCl (xt cd) (xA 15 ad sz) (xw ad cd w wr fl (nI 1) (-1) lw rot vb (nI 0) (nI 0) live row (-1) (nI 0) (nI 0) (nI 0) bts (nI 0) act (nI 0) (nI 0)) t) (xA 15 ad sz)) 1 6 (xA 15 ad sz) := by
  refine va_MetW (cc := b_L_poke) (maxL := 5) (ret := (some (.int))) (by decide) rfl ?_
  intro P e s m args below meth c0 s₁ B hml hv
  obtain ⟨rfl, hsz, hP, hK, hD0, hz, hn, hc⟩ := hv
  have hx := B.exec
  have hb := B.bytes
  have hr := B.returns
  have hts := atoms_spec (ws := w_L_poke) B.pre
  have hown : s.vm.findClass R_L = some m.cls := findClass_of_methodNamed B.named
  have hlocks := B.notSynchronized
  subst hsz
  have hD := xw_D (sz := s.heap.size) hD0
  have hl := lv_entry ([.ref (ad 0), .int pa, .int wo_, .int mask]) (n := 5) (Nat.le_of_ble_eq_true rfl)
  rw [lg_entry_eq]
  generalize (lg_sl ([.ref (ad 0), .int pa, .int wo_, .int mask]) ++ List.replicate (5 - (lg_sl ([.ref (ad 0), .int pa, .int wo_, .int mask])).length) Slot.unset).toArray = ls at hl ⊢
  have hl : lv_has ls 5 [(0, .ref (ad 0)), (1, .int pa), (2, .int wo_), (3, .int mask)] := hl
  obtain ⟨m9, meth9, c9, hn9, hm9, hc9, -, -, hh9, -⟩ := Cond.codeWith_spec (hts _ List.mem_cons_self)
  cases B.named.symm.trans hn9
  cases B.method.symm.trans hm9
  cases (Stand.of_body B).code.symm.trans hc9
  have hrows := rows_of hh9
  refine lv_aload_n hx hb d_L_poke_0 rfl (lv_at hl 0 rfl) ?_
  refine lv_iload_n hx hb d_L_poke_1 rfl (lv_at hl 1 rfl) ?_
  refine lv_iload_n hx hb d_L_poke_2 rfl (lv_at hl 2 rfl) ?_
  refine lv_iload_n hx hb d_L_poke_3 rfl (lv_at hl 3 rfl) ?_
  have hPc := hP.sub (ws' := (xw ad cd w wr fl (nI 1) (-1) lw rot vb (nI 0) (nI 0) live row (-1) (nI 0) (nI 0) (nI 0) bts (nI 0) act (nI 0) (nI 0))) [0, 1, 2, 3, 4, 5, 6, 7, 8, 9, 10, 11, 12, 13, 14] rfl
  have hKc := hK.sub (tys' := (xt cd)) [0, 1, 2, 3, 4, 5, 6, 7, 8, 9] rfl
  refine th_catch1 (x := ⟨0, 7, 10, 13⟩) (rest := []) hrows (by decide) (by decide) hown (hts (.classLink R_L 13 E_A) (List.mem_cons_of_mem _ t_265)) (va_Nw.use rfl hn.1.1) (fun T hT X => th_runV (C := R_R) (As := [.int pa, .int wo_, .int mask]) (rest := []) ⟨hx, hb, hml, hown, hts⟩ (th_R_poke l hl9 dC dI ad cd az w wr fl (nI 1) (-1) lw rot vb (nI 0) (nI 0) live row (-1) (nI 0) (nI 0) (nI 0) bts (nI 0) act (nI 0) (nI 0) pa wo_ mask hbad) (cwV 3 hts (g_V t_683 t_684 t_685 t_1 t_686) rfl rfl rfl (by decide +kernel) ⟨by decide, by decide⟩) (xT_v hPc hKc hz hn 0 rfl rfl) rfl rfl hl.1 rfl (lv_room (Nat.le_of_ble_eq_true rfl)) d_L_poke_4 ⟨by decide, by decide⟩ hT X) (fun q H1 hz1 hk1 => ?_)
  have hP1 : va_P (dC, dI) vwCl (xw ad cd w wr fl (nI 1) (-1) lw rot vb (nI 0) (nI 0) live row (-1) (nI 0) (nI 0) (nI 0) bts (nI 0) act (nI 0) (nI 0)) H1 := hP.kept (fun k q hk => hk1 _ ((hP k q hk).lt))
  have hS1 : va_S (xA 15 ad s.heap.size) s.heap H1 [] := ⟨hz1, fun q h1 _ => hk1 q h1, fun _ h => by cases h⟩
  refine W.eq (g2 := F0 m 10 ls [.ref q]) rfl ?_
  refine lv_astore hx hb d_L_poke_10 hl (by decide) rfl (fun ls hl => ?_)
  have hl : lv_has ls 5 [(4, .ref q), (0, .ref (ad 0)), (1, .int pa), (2, .int wo_), (3, .int mask)] := hl
  refine lv_iconst (v := nI 1) hx hb d_L_poke_12 (by decide) ?_
  exact W.iret (v := nI 1) hx hb hr (fun t ht hW => ⟨⟨nI 1, (), rfl, rfl, ⟨by rw [ht]; exact hP1, va_K.moved hW.alike hK, hD⟩⟩, hS1.F ht⟩) hS1.2.2 d_L_poke_13
