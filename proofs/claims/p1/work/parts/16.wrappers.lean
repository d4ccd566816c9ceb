set_option maxHeartbeats 4000000 in
set_option maxRecDepth 100000 in
theorem cw_L_axle (l : Launch) (dC : Nat → ClassId) (dI : Nat → Nat → Nat) (ad cd : Nat → Nat) (ao co : Nat) (sz : Nat) (w wr fl : Nat → Int32) (pw sc : Int32) (lw rot vb : Nat → Int32) (rec tk : Int32) (live row : Nat → Int32) (cur ser dur wo : Int32) (bts : Nat → Int32) (us : Int32) (act : Nat → Int32) (rd rs : Int32) (fo : Nat → Int64) (st : Int32) (hok : (nI 1 ≤ st ∧ st ≤ nI 1200)) : Met l y_L_axle w_L_axle ({ frames := 2, cells := 0, slots := 0, locals := 43 }) (xP (dC, dI) vwCl ((co, .long) :: xt cd) ((ao, .inl (co, 1, .inr (.inl fo))) :: (xw ad cd w wr fl (nI 1) (-1) lw rot vb (nI 0) (nI 0) live row (-1) (nI 0) (nI 0) (nI 0) bts (nI 0) act (nI 0) (nI 0))) sz [.ref (ad 0), .int st, .ref ao]) (va_Qi (fun r (u : Unit) => r = nI 0) (fun (u : Unit) (t : State) => xB (dC, dI) vwCl ((co, .long) :: xt cd) (oA ao ad sz) ((ao, .inl (co, 1, .inr (.inl (vp_updL fo 0 ((nI 1).toInt64))))) :: (xw ad cd w wr fl (nI 1) (-1) lw rot vb (nI 0) (nI 0) live row (-1) (nI 0) (nI 0) (nI 0) bts (nI 0) act (nI (0 + 1)) (nI 0 + st))) t) (oA ao ad sz)) 0 0 (oA ao ad sz) := by
  refine va_MetW (cc := b_L_axle) (maxL := 4) (ret := (some (.int))) (by decide) rfl ?_
  intro P e s m args below meth c0 s₁ B hml hv
  obtain ⟨rfl, hsz, hP, hK, hD0⟩ := hv
  have hx := B.exec
  have hb := B.bytes
  have hr := B.returns
  have hts := atoms_spec (ws := w_L_axle) B.pre
  have hown : s.vm.findClass R_L = some m.cls := findClass_of_methodNamed B.named
  have hlocks := B.notSynchronized
  subst hsz
  have hD := ow_D (sz := s.heap.size) hD0
  have hS : va_S (oA ao ad s.heap.size) s.heap s.heap [] := va_S.rf
  have hA : ∀ q : Nat, s.heap.size ≤ q → (oA ao ad s.heap.size) q := fun q h => Or.inr (Or.inr h)
  have hl := lv_entry ([.ref (ad 0), .int st, .ref ao]) (n := 4) (Nat.le_of_ble_eq_true rfl)
  rw [lg_entry_eq]
  generalize (lg_sl ([.ref (ad 0), .int st, .ref ao]) ++ List.replicate (4 - (lg_sl ([.ref (ad 0), .int st, .ref ao])).length) Slot.unset).toArray = ls at hl ⊢
  have hl : lv_has ls 4 [(0, .ref (ad 0)), (1, .int st), (2, .ref ao)] := hl
  refine lv_aload_n hx hb d_L_axle_0 rfl (lv_at hl 2 rfl) ?_
  refine lv_iconst (v := nI 0) hx hb d_L_axle_1 (by decide) ?_
  refine lv_aload_n hx hb d_L_axle_2 rfl (lv_at hl 0 rfl) ?_
  refine lv_iload_n hx hb d_L_axle_3 rfl (lv_at hl 1 rfl) ?_
  have hPc := hP.sub (ws' := (xw ad cd w wr fl (nI 1) (-1) lw rot vb (nI 0) (nI 0) live row (-1) (nI 0) (nI 0) (nI 0) bts (nI 0) act (nI 0) (nI 0))) [1, 2, 3, 4, 5, 6, 7, 8, 9, 10, 11, 12, 13, 14, 15] rfl
  have hKc := hK.sub (tys' := (xt cd)) [1, 2, 3, 4, 5, 6, 7, 8, 9, 10] rfl
  have hDc := hD.sub (ws' := (xw ad cd w wr fl (nI 1) (-1) lw rot vb (nI 0) (nI 0) live row (-1) (nI 0) (nI 0) (nI 0) bts (nI 0) act (nI 0) (nI 0))) [1, 2, 3, 4, 5, 6, 7, 8, 9, 10, 11, 12, 13, 14, 15] (by decide) rfl
  have hFc := va_free (wc := (xw ad cd w wr fl (nI 1) (-1) lw rot vb (nI 0) (nI 0) live row (-1) (nI 0) (nI 0) (nI 0) bts (nI 0) act (nI 0) (nI 0))) hD hS hA [1, 2, 3, 4, 5, 6, 7, 8, 9, 10, 11, 12, 13, 14, 15] rfl
  have hSz := hS.1
  refine va_calli (va_runV (C := R_R) (As := [.int st]) (rest := [.int (nI 0), .ref ao]) ⟨hx, hb, hml, hown, hts⟩ (c_R_axle_ok l dC dI ad cd s.heap.size w wr fl (nI 1) (-1) lw rot vb (nI 0) (nI 0) live row (-1) (nI 0) (nI 0) (nI 0) bts (nI 0) act (nI 0) (nI 0) st (hok)) (cwV 1 hts (g_V t_267 t_268 t_269 t_1 t_270) rfl rfl rfl (by decide +kernel) ⟨by decide, by decide⟩) (xP_v hPc hKc hDc 0 rfl rfl) rfl rfl hl.1 rfl (lv_room (Nat.le_of_ble_eq_true rfl)) d_L_axle_4 ⟨Nat.le_refl _, Nat.le_refl _⟩) hS (fun q _ h => hFc q (xw_A h)) (fun q h => hFc q (xw_A h)) (fun r4 u4 t H1 locs1 ht hvm q4 hB hz1 hk1 hS => ?_)
  obtain ⟨hP1, hK1, hD1⟩ := hB
  rw [ht] at hP1
  obtain ⟨hP, hD⟩ := va_join (wr := [(ao, .inl (co, 1, .inr (.inl fo)))]) (w1 := (xw ad cd w wr fl (nI 1) (-1) lw rot vb (nI 0) (nI 0) live row (-1) (nI 0) (nI 0) (nI 0) bts (nI 0) act (nI (0 + 1)) (nI 0 + st))) hP hD [1, 2, 3, 4, 5, 6, 7, 8, 9, 10, 11, 12, 13, 14, 15] [0] rfl rfl (by decide) (by decide) (fun q h1 h2 => hk1 q h1 (fun z => h2 (xw_A z))) hFc hP1 (hD1.weaken (fun _ _ _ h => xw_A h))
  have hP : va_P (dC, dI) vwCl ((ao, .inl (co, 1, .inr (.inl fo))) :: (xw ad cd w wr fl (nI 1) (-1) lw rot vb (nI 0) (nI 0) live row (-1) (nI 0) (nI 0) (nI 0) bts (nI 0) act (nI (0 + 1)) (nI 0 + st))) H1 := hP.sub [0, 1, 2, 3, 4, 5, 6, 7, 8, 9, 10, 11, 12, 13, 14, 15] rfl
  have hD : va_D (oA ao ad s.heap.size) ((ao, .inl (co, 1, .inr (.inl fo))) :: (xw ad cd w wr fl (nI 1) (-1) lw rot vb (nI 0) (nI 0) live row (-1) (nI 0) (nI 0) (nI 0) bts (nI 0) act (nI (0 + 1)) (nI 0 + st))) := hD.sub [0, 1, 2, 3, 4, 5, 6, 7, 8, 9, 10, 11, 12, 13, 14, 15] (by decide) rfl
  generalize H1 = H at hP hS ⊢
  generalize locs1 = locs at hS ⊢
  subst q4
  refine lv_i2l (v := (nI 1).toInt64) hx hb d_L_axle_7 rfl ?_
  refine va_last hx hb hK hP hD hS 0 0 rfl rfl (vp_in_nI (by omega) (by decide)) d_L_axle_8 (fun H locs hP hD hS => ?_)
  rw [nI_clamp (by omega)] at hP hD
  have hP : va_P (dC, dI) vwCl ((ao, .inl (co, 1, .inr (.inl (vp_updL fo 0 ((nI 1).toInt64))))) :: (xw ad cd w wr fl (nI 1) (-1) lw rot vb (nI 0) (nI 0) live row (-1) (nI 0) (nI 0) (nI 0) bts (nI 0) act (nI (0 + 1)) (nI 0 + st))) H := hP
  have hD : va_D (oA ao ad s.heap.size) ((ao, .inl (co, 1, .inr (.inl (vp_updL fo 0 ((nI 1).toInt64))))) :: (xw ad cd w wr fl (nI 1) (-1) lw rot vb (nI 0) (nI 0) live row (-1) (nI 0) (nI 0) (nI 0) bts (nI 0) act (nI (0 + 1)) (nI 0 + st))) := hD
  refine lv_goto (tgt := 18) hx hb d_L_axle_9 (by decide) ?_
  refine lv_iconst (v := nI 0) hx hb d_L_axle_18 (by decide) ?_
  exact W.iret (v := nI 0) hx hb hr (fun t ht hW => ⟨⟨nI 0, (), rfl, by first | rfl | trivial | omega, ⟨by rw [ht]; exact hP, va_K.moved hW.alike hK, hD⟩⟩, hS.F ht⟩) hS.2.2 d_L_axle_19
set_option maxHeartbeats 4000000 in
set_option maxRecDepth 100000 in
theorem cw_L_close (l : Launch) (dC : Nat → ClassId) (dI : Nat → Nat → Nat) (ad cd : Nat → Nat) (ao co : Nat) (sz : Nat) (w wr fl : Nat → Int32) (pw sc : Int32) (lw rot vb : Nat → Int32) (rec tk : Int32) (live row : Nat → Int32) (cur ser dur wo : Int32) (bts : Nat → Int32) (us : Int32) (act : Nat → Int32) (rd rs : Int32) (fo : Nat → Int64) (plate tare product clock : Int32) (h1 : (nI 0 ≤ tare ∧ tare ≤ nI 216000)) (h2 : (nI 0 ≤ product ∧ product ≤ nI 39)) (h3 : (nI 0 ≤ clock ∧ clock ≤ nI 67108863)) : Met l y_L_close w_L_close ({ frames := 3, cells := 0, slots := 0, locals := 67 }) (xP (dC, dI) vwCl ((co, .long) :: xt cd) ((ao, .inl (co, 1, .inr (.inl fo))) :: (xw ad cd w wr fl (nI 1) (-1) lw rot vb (nI 0) (nI 0) live row (-1) (nI 0) (nI 0) (nI 0) bts (nI 0) act (nI 0) (nI 0))) sz [.ref (ad 0), .int plate, .int tare, .int product, .int clock, .ref ao]) (va_Qi (fun r (u : Unit) => r = nI 0) (fun (u : Unit) (t : State) => xB (dC, dI) vwCl ((co, .long) :: xt cd) (oA ao ad sz) ((ao, .inl (co, 1, .inr (.inl (vp_updL fo 0 ((nI 0).toInt64))))) :: (xw ad cd w wr fl (nI 1) (-1) lw rot vb (nI 0) (nI 0) live row (-1) (nI 0) (nI 0) (nI 0) bts (nI 0) act (nI 0) (nI 0))) t) (oA ao ad sz)) 0 0 (oA ao ad sz) := by
  refine va_MetW (cc := b_L_close) (maxL := 7) (ret := (some (.int))) (by decide) rfl ?_
  intro P e s m args below meth c0 s₁ B hml hv
  obtain ⟨rfl, hsz, hP, hK, hD0⟩ := hv
  have hx := B.exec
  have hb := B.bytes
  have hr := B.returns
  have hts := atoms_spec (ws := w_L_close) B.pre
  have hown : s.vm.findClass R_L = some m.cls := findClass_of_methodNamed B.named
  have hlocks := B.notSynchronized
  subst hsz
  have hD := ow_D (sz := s.heap.size) hD0
  have hS : va_S (oA ao ad s.heap.size) s.heap s.heap [] := va_S.rf
  have hA : ∀ q : Nat, s.heap.size ≤ q → (oA ao ad s.heap.size) q := fun q h => Or.inr (Or.inr h)
  have hl := lv_entry ([.ref (ad 0), .int plate, .int tare, .int product, .int clock, .ref ao]) (n := 7) (Nat.le_of_ble_eq_true rfl)
  rw [lg_entry_eq]
  generalize (lg_sl ([.ref (ad 0), .int plate, .int tare, .int product, .int clock, .ref ao]) ++ List.replicate (7 - (lg_sl ([.ref (ad 0), .int plate, .int tare, .int product, .int clock, .ref ao])).length) Slot.unset).toArray = ls at hl ⊢
  have hl : lv_has ls 7 [(0, .ref (ad 0)), (1, .int plate), (2, .int tare), (3, .int product), (4, .int clock), (5, .ref ao)] := hl
  refine lv_aload hx hb d_L_close_0 (lv_at hl 5 rfl) ?_
  refine lv_iconst (v := nI 0) hx hb d_L_close_2 (by decide) ?_
  refine lv_aload_n hx hb d_L_close_3 rfl (lv_at hl 0 rfl) ?_
  refine lv_iload_n hx hb d_L_close_4 rfl (lv_at hl 1 rfl) ?_
  refine lv_iload_n hx hb d_L_close_5 rfl (lv_at hl 2 rfl) ?_
  refine lv_iload_n hx hb d_L_close_6 rfl (lv_at hl 3 rfl) ?_
  refine lv_iload hx hb d_L_close_7 (lv_at hl 4 rfl) ?_
  have hPc := hP.sub (ws' := (xw ad cd w wr fl (nI 1) (-1) lw rot vb (nI 0) (nI 0) live row (-1) (nI 0) (nI 0) (nI 0) bts (nI 0) act (nI 0) (nI 0))) [1, 2, 3, 4, 5, 6, 7, 8, 9, 10, 11, 12, 13, 14, 15] rfl
  have hKc := hK.sub (tys' := (xt cd)) [1, 2, 3, 4, 5, 6, 7, 8, 9, 10] rfl
  refine vp_callSi (va_runV (C := R_R) (As := [.int plate, .int tare, .int product, .int clock]) (rest := [.int (nI 0), .ref ao]) ⟨hx, hb, hml, hown, hts⟩ (c_R_close_ok l dC dI ad cd w wr fl (nI 1) (-1) lw rot vb (nI 0) (nI 0) live row (-1) (nI 0) (nI 0) (nI 0) bts (nI 0) act (nI 0) (nI 0) plate tare product clock (h1) (h2) (h3)) (cwV 4 hts (g_V t_359 t_360 t_361 t_1 t_362) rfl rfl rfl (by decide +kernel) ⟨by decide, by decide⟩) (xR_v hPc hKc 0 rfl rfl) rfl rfl hl.1 rfl (lv_room (Nat.le_of_ble_eq_true rfl)) d_L_close_9 ⟨Nat.le_refl _, Nat.le_refl _⟩).run (fun r9 q9 => ?_)
  subst q9
  refine lv_i2l (v := (nI 0).toInt64) hx hb d_L_close_12 rfl ?_
  refine va_last hx hb hK hP hD hS 0 0 rfl rfl (vp_in_nI (by omega) (by decide)) d_L_close_13 (fun H locs hP hD hS => ?_)
  rw [nI_clamp (by omega)] at hP hD
  have hP : va_P (dC, dI) vwCl ((ao, .inl (co, 1, .inr (.inl (vp_updL fo 0 ((nI 0).toInt64))))) :: (xw ad cd w wr fl (nI 1) (-1) lw rot vb (nI 0) (nI 0) live row (-1) (nI 0) (nI 0) (nI 0) bts (nI 0) act (nI 0) (nI 0))) H := hP
  have hD : va_D (oA ao ad s.heap.size) ((ao, .inl (co, 1, .inr (.inl (vp_updL fo 0 ((nI 0).toInt64))))) :: (xw ad cd w wr fl (nI 1) (-1) lw rot vb (nI 0) (nI 0) live row (-1) (nI 0) (nI 0) (nI 0) bts (nI 0) act (nI 0) (nI 0))) := hD
  refine lv_goto (tgt := 25) hx hb d_L_close_14 (by decide) ?_
  refine lv_iconst (v := nI 0) hx hb d_L_close_25 (by decide) ?_
  exact W.iret (v := nI 0) hx hb hr (fun t ht hW => ⟨⟨nI 0, (), rfl, by first | rfl | trivial | omega, ⟨by rw [ht]; exact hP, va_K.moved hW.alike hK, hD⟩⟩, hS.F ht⟩) hS.2.2 d_L_close_26
set_option maxHeartbeats 4000000 in
set_option maxRecDepth 100000 in
theorem cw_L_annul (l : Launch) (dC : Nat → ClassId) (dI : Nat → Nat → Nat) (ad cd : Nat → Nat) (ao co : Nat) (sz : Nat) (w wr fl : Nat → Int32) (pw sc : Int32) (lw rot vb : Nat → Int32) (rec tk : Int32) (live row : Nat → Int32) (cur ser dur wo : Int32) (bts : Nat → Int32) (us : Int32) (act : Nat → Int32) (rd rs : Int32) (fo : Nat → Int64) (tno rea : Int32) (hok : (nI 0 ≤ rea ∧ rea ≤ nI 3)) : Met l y_L_annul w_L_annul ({ frames := 2, cells := 0, slots := 0, locals := 44 }) (xP (dC, dI) vwCl ((co, .long) :: xt cd) ((ao, .inl (co, 1, .inr (.inl fo))) :: (xw ad cd w wr fl (nI 1) (-1) lw rot vb (nI 0) (nI 0) live row (-1) (nI 0) (nI 0) (nI 0) bts (nI 0) act (nI 0) (nI 0))) sz [.ref (ad 0), .int tno, .int rea, .ref ao]) (va_Qi (fun r (u : Unit) => r = nI 0) (fun (u : Unit) (t : State) => xB (dC, dI) vwCl ((co, .long) :: xt cd) (oA ao ad sz) ((ao, .inl (co, 1, .inr (.inl (vp_updL fo 0 ((nI 0).toInt64))))) :: (xw ad cd w wr fl (nI 1) (-1) lw rot vb (nI 0) (nI 0) live row (-1) (nI 0) (nI 0) (nI 0) bts (nI 0) act (nI 0) (nI 0))) t) (oA ao ad sz)) 0 0 (oA ao ad sz) := by
  refine va_MetW (cc := b_L_annul) (maxL := 5) (ret := (some (.int))) (by decide) rfl ?_
  intro P e s m args below meth c0 s₁ B hml hv
  obtain ⟨rfl, hsz, hP, hK, hD0⟩ := hv
  have hx := B.exec
  have hb := B.bytes
  have hr := B.returns
  have hts := atoms_spec (ws := w_L_annul) B.pre
  have hown : s.vm.findClass R_L = some m.cls := findClass_of_methodNamed B.named
  have hlocks := B.notSynchronized
  subst hsz
  have hD := ow_D (sz := s.heap.size) hD0
  have hS : va_S (oA ao ad s.heap.size) s.heap s.heap [] := va_S.rf
  have hA : ∀ q : Nat, s.heap.size ≤ q → (oA ao ad s.heap.size) q := fun q h => Or.inr (Or.inr h)
  have hl := lv_entry ([.ref (ad 0), .int tno, .int rea, .ref ao]) (n := 5) (Nat.le_of_ble_eq_true rfl)
  rw [lg_entry_eq]
  generalize (lg_sl ([.ref (ad 0), .int tno, .int rea, .ref ao]) ++ List.replicate (5 - (lg_sl ([.ref (ad 0), .int tno, .int rea, .ref ao])).length) Slot.unset).toArray = ls at hl ⊢
  have hl : lv_has ls 5 [(0, .ref (ad 0)), (1, .int tno), (2, .int rea), (3, .ref ao)] := hl
  refine lv_aload_n hx hb d_L_annul_0 rfl (lv_at hl 3 rfl) ?_
  refine lv_iconst (v := nI 0) hx hb d_L_annul_1 (by decide) ?_
  refine lv_aload_n hx hb d_L_annul_2 rfl (lv_at hl 0 rfl) ?_
  refine lv_iload_n hx hb d_L_annul_3 rfl (lv_at hl 1 rfl) ?_
  refine lv_iload_n hx hb d_L_annul_4 rfl (lv_at hl 2 rfl) ?_
  have hPc := hP.sub (ws' := (xw ad cd w wr fl (nI 1) (-1) lw rot vb (nI 0) (nI 0) live row (-1) (nI 0) (nI 0) (nI 0) bts (nI 0) act (nI 0) (nI 0))) [1, 2, 3, 4, 5, 6, 7, 8, 9, 10, 11, 12, 13, 14, 15] rfl
  have hKc := hK.sub (tys' := (xt cd)) [1, 2, 3, 4, 5, 6, 7, 8, 9, 10] rfl
  refine vp_callSi (va_runV (C := R_R) (As := [.int tno, .int rea]) (rest := [.int (nI 0), .ref ao]) ⟨hx, hb, hml, hown, hts⟩ (c_R_annul_ok l dC dI ad cd w wr fl (nI 1) (-1) lw rot vb (nI 0) (nI 0) live row (-1) (nI 0) (nI 0) (nI 0) bts (nI 0) act (nI 0) (nI 0) tno rea (hok)) (cwV 2 hts (g_V t_469 t_470 t_471 t_1 t_472) rfl rfl rfl (by decide +kernel) ⟨by decide, by decide⟩) (xR_v hPc hKc 0 rfl rfl) rfl rfl hl.1 rfl (lv_room (Nat.le_of_ble_eq_true rfl)) d_L_annul_5 ⟨Nat.le_refl _, Nat.le_refl _⟩).run (fun r5 q5 => ?_)
  subst q5
  refine lv_i2l (v := (nI 0).toInt64) hx hb d_L_annul_8 rfl ?_
  refine va_last hx hb hK hP hD hS 0 0 rfl rfl (vp_in_nI (by omega) (by decide)) d_L_annul_9 (fun H locs hP hD hS => ?_)
  rw [nI_clamp (by omega)] at hP hD
  have hP : va_P (dC, dI) vwCl ((ao, .inl (co, 1, .inr (.inl (vp_updL fo 0 ((nI 0).toInt64))))) :: (xw ad cd w wr fl (nI 1) (-1) lw rot vb (nI 0) (nI 0) live row (-1) (nI 0) (nI 0) (nI 0) bts (nI 0) act (nI 0) (nI 0))) H := hP
  have hD : va_D (oA ao ad s.heap.size) ((ao, .inl (co, 1, .inr (.inl (vp_updL fo 0 ((nI 0).toInt64))))) :: (xw ad cd w wr fl (nI 1) (-1) lw rot vb (nI 0) (nI 0) live row (-1) (nI 0) (nI 0) (nI 0) bts (nI 0) act (nI 0) (nI 0))) := hD
  refine lv_goto (tgt := 21) hx hb d_L_annul_10 (by decide) ?_
  refine lv_iconst (v := nI 0) hx hb d_L_annul_21 (by decide) ?_
  exact W.iret (v := nI 0) hx hb hr (fun t ht hW => ⟨⟨nI 0, (), rfl, by first | rfl | trivial | omega, ⟨by rw [ht]; exact hP, va_K.moved hW.alike hK, hD⟩⟩, hS.F ht⟩) hS.2.2 d_L_annul_22
set_option maxHeartbeats 4000000 in
set_option maxRecDepth 100000 in
theorem cw_L_sync (l : Launch) (dC : Nat → ClassId) (dI : Nat → Nat → Nat) (ad cd : Nat → Nat) (ao co : Nat) (sz : Nat) (w wr fl : Nat → Int32) (pw sc : Int32) (lw rot vb : Nat → Int32) (rec tk : Int32) (live row : Nat → Int32) (cur ser dur wo : Int32) (bts : Nat → Int32) (us : Int32) (act : Nat → Int32) (rd rs : Int32) (fo : Nat → Int64)  : Met l y_L_sync w_L_sync ({ frames := 2, cells := 0, slots := 0, locals := 41 }) (xP (dC, dI) vwCl ((co, .long) :: xt cd) ((ao, .inl (co, 1, .inr (.inl fo))) :: (xw ad cd w wr fl (nI 1) (-1) lw rot vb (nI 0) (nI 0) live row (-1) (nI 0) (nI 0) (nI 0) bts (nI 0) act (nI 0) (nI 0))) sz [.ref (ad 0), .ref ao]) (va_Qi (fun r (u : Unit) => r = nI 0) (fun (u : Unit) (t : State) => xB (dC, dI) vwCl ((co, .long) :: xt cd) (oA ao ad sz) ((ao, .inl (co, 1, .inr (.inl (vp_updL fo 0 ((nI 1).toInt64))))) :: (xw ad cd w wr fl (nI 1) (-1) lw rot vb (nI 0) (nI 0) live row (-1) (nI 0) (nI 0) (nI 0) bts (nI 0) act (nI 0) (nI 0))) t) (oA ao ad sz)) 0 0 (oA ao ad sz) := by
  refine va_MetW (cc := b_L_sync) (maxL := 3) (ret := (some (.int))) (by decide) rfl ?_
  intro P e s m args below meth c0 s₁ B hml hv
  obtain ⟨rfl, hsz, hP, hK, hD0⟩ := hv
  have hx := B.exec
  have hb := B.bytes
  have hr := B.returns
  have hts := atoms_spec (ws := w_L_sync) B.pre
  have hown : s.vm.findClass R_L = some m.cls := findClass_of_methodNamed B.named
  have hlocks := B.notSynchronized
  subst hsz
  have hD := ow_D (sz := s.heap.size) hD0
  have hS : va_S (oA ao ad s.heap.size) s.heap s.heap [] := va_S.rf
  have hA : ∀ q : Nat, s.heap.size ≤ q → (oA ao ad s.heap.size) q := fun q h => Or.inr (Or.inr h)
  have hl := lv_entry ([.ref (ad 0), .ref ao]) (n := 3) (Nat.le_of_ble_eq_true rfl)
  rw [lg_entry_eq]
  generalize (lg_sl ([.ref (ad 0), .ref ao]) ++ List.replicate (3 - (lg_sl ([.ref (ad 0), .ref ao])).length) Slot.unset).toArray = ls at hl ⊢
  have hl : lv_has ls 3 [(0, .ref (ad 0)), (1, .ref ao)] := hl
  refine lv_aload_n hx hb d_L_sync_0 rfl (lv_at hl 1 rfl) ?_
  refine lv_iconst (v := nI 0) hx hb d_L_sync_1 (by decide) ?_
  refine lv_aload_n hx hb d_L_sync_2 rfl (lv_at hl 0 rfl) ?_
  have hPc := hP.sub (ws' := (xw ad cd w wr fl (nI 1) (-1) lw rot vb (nI 0) (nI 0) live row (-1) (nI 0) (nI 0) (nI 0) bts (nI 0) act (nI 0) (nI 0))) [1, 2, 3, 4, 5, 6, 7, 8, 9, 10, 11, 12, 13, 14, 15] rfl
  have hKc := hK.sub (tys' := (xt cd)) [1, 2, 3, 4, 5, 6, 7, 8, 9, 10] rfl
  refine vp_callSi (va_runV (C := R_R) (As := []) (rest := [.int (nI 0), .ref ao]) ⟨hx, hb, hml, hown, hts⟩ (c_R_sync_f l dC dI ad cd w wr fl (nI 1) (-1) lw rot vb (nI 0) (nI 0) live row (-1) (nI 0) (nI 0) (nI 0) bts (nI 0) act (nI 0) (nI 0)  ) (cwV 0 hts (g_V t_479 t_480 t_481 t_1 t_482) rfl rfl rfl (by decide +kernel) ⟨by decide, by decide⟩) (xR_v hPc hKc 0 rfl rfl) rfl rfl hl.1 rfl (lv_room (Nat.le_of_ble_eq_true rfl)) d_L_sync_3 ⟨Nat.le_refl _, Nat.le_refl _⟩).run (fun r3 q3 => ?_)
  subst q3
  refine lv_i2l (v := (nI 1).toInt64) hx hb d_L_sync_6 rfl ?_
  refine va_last hx hb hK hP hD hS 0 0 rfl rfl (vp_in_nI (by omega) (by decide)) d_L_sync_7 (fun H locs hP hD hS => ?_)
  rw [nI_clamp (by omega)] at hP hD
  have hP : va_P (dC, dI) vwCl ((ao, .inl (co, 1, .inr (.inl (vp_updL fo 0 ((nI 1).toInt64))))) :: (xw ad cd w wr fl (nI 1) (-1) lw rot vb (nI 0) (nI 0) live row (-1) (nI 0) (nI 0) (nI 0) bts (nI 0) act (nI 0) (nI 0))) H := hP
  have hD : va_D (oA ao ad s.heap.size) ((ao, .inl (co, 1, .inr (.inl (vp_updL fo 0 ((nI 1).toInt64))))) :: (xw ad cd w wr fl (nI 1) (-1) lw rot vb (nI 0) (nI 0) live row (-1) (nI 0) (nI 0) (nI 0) bts (nI 0) act (nI 0) (nI 0))) := hD
  refine lv_goto (tgt := 14) hx hb d_L_sync_8 (by decide) ?_
  refine lv_iconst (v := nI 0) hx hb d_L_sync_14 (by decide) ?_
  exact W.iret (v := nI 0) hx hb hr (fun t ht hW => ⟨⟨nI 0, (), rfl, by first | rfl | trivial | omega, ⟨by rw [ht]; exact hP, va_K.moved hW.alike hK, hD⟩⟩, hS.F ht⟩) hS.2.2 d_L_sync_15
set_option maxHeartbeats 4000000 in
set_option maxRecDepth 100000 in
theorem cw_L_dayTotal (l : Launch) (dC : Nat → ClassId) (dI : Nat → Nat → Nat) (ad cd : Nat → Nat) (ao co : Nat) (sz : Nat) (w wr fl : Nat → Int32) (pw sc : Int32) (lw rot vb : Nat → Int32) (rec tk : Int32) (live row : Nat → Int32) (cur ser dur wo : Int32) (bts : Nat → Int32) (us : Int32) (act : Nat → Int32) (rd rs : Int32) (fo : Nat → Int64) (da pr : Int32) : Met l y_L_dayTotal w_L_dayTotal ({ frames := 2, cells := 0, slots := 0, locals := 46 }) (xP (dC, dI) vwCl ((co, .long) :: xt cd) ((ao, .inl (co, 1, .inr (.inl fo))) :: (xw ad cd w wr fl (nI 1) (-1) lw rot vb (nI 0) (nI 0) live row (-1) (nI 0) (nI 0) (nI 0) bts (nI 0) act (nI 0) (nI 0))) sz [.ref (ad 0), .int da, .int pr, .ref ao]) (va_Qi (fun r (u : Unit) => r = nI 0) (fun (u : Unit) (t : State) => xB (dC, dI) vwCl ((co, .long) :: xt cd) (oA ao ad sz) ((ao, .inl (co, 1, .inr (.inl (vp_updL fo 0 0)))) :: (xw ad cd w wr fl (nI 1) (-1) lw rot vb (nI 0) (nI 0) live row (-1) (nI 0) (nI 0) (nI 0) bts (nI 0) act (nI 0) (nI 0))) t) (oA ao ad sz)) 0 0 (oA ao ad sz) := by
  refine va_MetW (cc := b_L_dayTotal) (maxL := 5) (ret := (some (.int))) (by decide) rfl ?_
  intro P e s m args below meth c0 s₁ B hml hv
  obtain ⟨rfl, hsz, hP, hK, hD0⟩ := hv
  have hx := B.exec
  have hb := B.bytes
  have hr := B.returns
  have hts := atoms_spec (ws := w_L_dayTotal) B.pre
  have hown : s.vm.findClass R_L = some m.cls := findClass_of_methodNamed B.named
  have hlocks := B.notSynchronized
  subst hsz
  have hD := ow_D (sz := s.heap.size) hD0
  have hS : va_S (oA ao ad s.heap.size) s.heap s.heap [] := va_S.rf
  have hA : ∀ q : Nat, s.heap.size ≤ q → (oA ao ad s.heap.size) q := fun q h => Or.inr (Or.inr h)
  have hl := lv_entry ([.ref (ad 0), .int da, .int pr, .ref ao]) (n := 5) (Nat.le_of_ble_eq_true rfl)
  rw [lg_entry_eq]
  generalize (lg_sl ([.ref (ad 0), .int da, .int pr, .ref ao]) ++ List.replicate (5 - (lg_sl ([.ref (ad 0), .int da, .int pr, .ref ao])).length) Slot.unset).toArray = ls at hl ⊢
  have hl : lv_has ls 5 [(0, .ref (ad 0)), (1, .int da), (2, .int pr), (3, .ref ao)] := hl
  refine lv_aload_n hx hb d_L_dayTotal_0 rfl (lv_at hl 3 rfl) ?_
  refine lv_iconst (v := nI 0) hx hb d_L_dayTotal_1 (by decide) ?_
  refine lv_aload_n hx hb d_L_dayTotal_2 rfl (lv_at hl 0 rfl) ?_
  refine lv_iload_n hx hb d_L_dayTotal_3 rfl (lv_at hl 1 rfl) ?_
  refine lv_iload_n hx hb d_L_dayTotal_4 rfl (lv_at hl 2 rfl) ?_
  have hPc := hP.sub (ws' := (xw ad cd w wr fl (nI 1) (-1) lw rot vb (nI 0) (nI 0) live row (-1) (nI 0) (nI 0) (nI 0) bts (nI 0) act (nI 0) (nI 0))) [1, 2, 3, 4, 5, 6, 7, 8, 9, 10, 11, 12, 13, 14, 15] rfl
  have hKc := hK.sub (tys' := (xt cd)) [1, 2, 3, 4, 5, 6, 7, 8, 9, 10] rfl
  refine vp_callSl (va_runV (C := R_R) (As := [.int da, .int pr]) (rest := [.int (nI 0), .ref ao]) ⟨hx, hb, hml, hown, hts⟩ (c_R_dayTotal_f l dC dI ad cd w wr fl (nI 1) (-1) lw rot vb (nI 0) (nI 0) live row (-1) (nI 0) (nI 0) (nI 0) bts (nI 0) act (nI 0) (nI 0) da pr ) (cwV 2 hts (g_V t_550 t_551 t_552 t_1 t_553) rfl rfl rfl (by decide +kernel) ⟨by decide, by decide⟩) (xR_v hPc hKc 0 rfl rfl) rfl rfl hl.1 rfl (lv_room (Nat.le_of_ble_eq_true rfl)) d_L_dayTotal_5 ⟨Nat.le_refl _, Nat.le_refl _⟩).run (fun r5 q5 => ?_)
  subst q5
  refine va_last hx hb hK hP hD hS 0 0 rfl rfl (vp_in_nI (by omega) (by decide)) d_L_dayTotal_8 (fun H locs hP hD hS => ?_)
  rw [nI_clamp (by omega)] at hP hD
  have hP : va_P (dC, dI) vwCl ((ao, .inl (co, 1, .inr (.inl (vp_updL fo 0 0)))) :: (xw ad cd w wr fl (nI 1) (-1) lw rot vb (nI 0) (nI 0) live row (-1) (nI 0) (nI 0) (nI 0) bts (nI 0) act (nI 0) (nI 0))) H := hP
  have hD : va_D (oA ao ad s.heap.size) ((ao, .inl (co, 1, .inr (.inl (vp_updL fo 0 0)))) :: (xw ad cd w wr fl (nI 1) (-1) lw rot vb (nI 0) (nI 0) live row (-1) (nI 0) (nI 0) (nI 0) bts (nI 0) act (nI 0) (nI 0))) := hD
  refine lv_goto (tgt := 16) hx hb d_L_dayTotal_9 (by decide) ?_
  refine lv_iconst (v := nI 0) hx hb d_L_dayTotal_16 (by decide) ?_
  exact W.iret (v := nI 0) hx hb hr (fun t ht hW => ⟨⟨nI 0, (), rfl, by first | rfl | trivial | omega, ⟨by rw [ht]; exact hP, va_K.moved hW.alike hK, hD⟩⟩, hS.F ht⟩) hS.2.2 d_L_dayTotal_17
set_option maxHeartbeats 4000000 in
set_option maxRecDepth 100000 in
theorem cw_L_rangeTotal (l : Launch) (dC : Nat → ClassId) (dI : Nat → Nat → Nat) (ad cd : Nat → Nat) (ao co : Nat) (sz : Nat) (w wr fl : Nat → Int32) (pw sc : Int32) (lw rot vb : Nat → Int32) (rec tk : Int32) (live row : Nat → Int32) (cur ser dur wo : Int32) (bts : Nat → Int32) (us : Int32) (act : Nat → Int32) (rd rs : Int32) (fo : Nat → Int64) (fr to : Int32) : Met l y_L_rangeTotal w_L_rangeTotal ({ frames := 2, cells := 0, slots := 0, locals := 46 }) (xP (dC, dI) vwCl ((co, .long) :: xt cd) ((ao, .inl (co, 1, .inr (.inl fo))) :: (xw ad cd w wr fl (nI 1) (-1) lw rot vb (nI 0) (nI 0) live row (-1) (nI 0) (nI 0) (nI 0) bts (nI 0) act (nI 0) (nI 0))) sz [.ref (ad 0), .int fr, .int to, .ref ao]) (va_Qi (fun r (u : Unit) => r = nI 0) (fun (u : Unit) (t : State) => xB (dC, dI) vwCl ((co, .long) :: xt cd) (oA ao ad sz) ((ao, .inl (co, 1, .inr (.inl (vp_updL fo 0 0)))) :: (xw ad cd w wr fl (nI 1) (-1) lw rot vb (nI 0) (nI 0) live row (-1) (nI 0) (nI 0) (nI 0) bts (nI 0) act (nI 0) (nI 0))) t) (oA ao ad sz)) 0 0 (oA ao ad sz) := by
  refine va_MetW (cc := b_L_rangeTotal) (maxL := 5) (ret := (some (.int))) (by decide) rfl ?_
  intro P e s m args below meth c0 s₁ B hml hv
  obtain ⟨rfl, hsz, hP, hK, hD0⟩ := hv
  have hx := B.exec
  have hb := B.bytes
  have hr := B.returns
  have hts := atoms_spec (ws := w_L_rangeTotal) B.pre
  have hown : s.vm.findClass R_L = some m.cls := findClass_of_methodNamed B.named
  have hlocks := B.notSynchronized
  subst hsz
  have hD := ow_D (sz := s.heap.size) hD0
  have hS : va_S (oA ao ad s.heap.size) s.heap s.heap [] := va_S.rf
  have hA : ∀ q : Nat, s.heap.size ≤ q → (oA ao ad s.heap.size) q := fun q h => Or.inr (Or.inr h)
  have hl := lv_entry ([.ref (ad 0), .int fr, .int to, .ref ao]) (n := 5) (Nat.le_of_ble_eq_true rfl)
  rw [lg_entry_eq]
  generalize (lg_sl ([.ref (ad 0), .int fr, .int to, .ref ao]) ++ List.replicate (5 - (lg_sl ([.ref (ad 0), .int fr, .int to, .ref ao])).length) Slot.unset).toArray = ls at hl ⊢
  have hl : lv_has ls 5 [(0, .ref (ad 0)), (1, .int fr), (2, .int to), (3, .ref ao)] := hl
  refine lv_aload_n hx hb d_L_rangeTotal_0 rfl (lv_at hl 3 rfl) ?_
  refine lv_iconst (v := nI 0) hx hb d_L_rangeTotal_1 (by decide) ?_
  refine lv_aload_n hx hb d_L_rangeTotal_2 rfl (lv_at hl 0 rfl) ?_
  refine lv_iload_n hx hb d_L_rangeTotal_3 rfl (lv_at hl 1 rfl) ?_
  refine lv_iload_n hx hb d_L_rangeTotal_4 rfl (lv_at hl 2 rfl) ?_
  have hPc := hP.sub (ws' := (xw ad cd w wr fl (nI 1) (-1) lw rot vb (nI 0) (nI 0) live row (-1) (nI 0) (nI 0) (nI 0) bts (nI 0) act (nI 0) (nI 0))) [1, 2, 3, 4, 5, 6, 7, 8, 9, 10, 11, 12, 13, 14, 15] rfl
  have hKc := hK.sub (tys' := (xt cd)) [1, 2, 3, 4, 5, 6, 7, 8, 9, 10] rfl
  refine vp_callSl (va_runV (C := R_R) (As := [.int fr, .int to]) (rest := [.int (nI 0), .ref ao]) ⟨hx, hb, hml, hown, hts⟩ (c_R_rangeTotal_f l dC dI ad cd w wr fl (nI 1) (-1) lw rot vb (nI 0) (nI 0) live row (-1) (nI 0) (nI 0) (nI 0) bts (nI 0) act (nI 0) (nI 0) fr to ) (cwV 2 hts (g_V t_563 t_564 t_565 t_1 t_566) rfl rfl rfl (by decide +kernel) ⟨by decide, by decide⟩) (xR_v hPc hKc 0 rfl rfl) rfl rfl hl.1 rfl (lv_room (Nat.le_of_ble_eq_true rfl)) d_L_rangeTotal_5 ⟨Nat.le_refl _, Nat.le_refl _⟩).run (fun r5 q5 => ?_)
  subst q5
  refine va_last hx hb hK hP hD hS 0 0 rfl rfl (vp_in_nI (by omega) (by decide)) d_L_rangeTotal_8 (fun H locs hP hD hS => ?_)
  rw [nI_clamp (by omega)] at hP hD
  have hP : va_P (dC, dI) vwCl ((ao, .inl (co, 1, .inr (.inl (vp_updL fo 0 0)))) :: (xw ad cd w wr fl (nI 1) (-1) lw rot vb (nI 0) (nI 0) live row (-1) (nI 0) (nI 0) (nI 0) bts (nI 0) act (nI 0) (nI 0))) H := hP
  have hD : va_D (oA ao ad s.heap.size) ((ao, .inl (co, 1, .inr (.inl (vp_updL fo 0 0)))) :: (xw ad cd w wr fl (nI 1) (-1) lw rot vb (nI 0) (nI 0) live row (-1) (nI 0) (nI 0) (nI 0) bts (nI 0) act (nI 0) (nI 0))) := hD
  refine lv_goto (tgt := 16) hx hb d_L_rangeTotal_9 (by decide) ?_
  refine lv_iconst (v := nI 0) hx hb d_L_rangeTotal_16 (by decide) ?_
  exact W.iret (v := nI 0) hx hb hr (fun t ht hW => ⟨⟨nI 0, (), rfl, by first | rfl | trivial | omega, ⟨by rw [ht]; exact hP, va_K.moved hW.alike hK, hD⟩⟩, hS.F ht⟩) hS.2.2 d_L_rangeTotal_17
set_option maxHeartbeats 4000000 in
set_option maxRecDepth 100000 in
theorem cw_L_find (l : Launch) (dC : Nat → ClassId) (dI : Nat → Nat → Nat) (ad cd : Nat → Nat) (ao co : Nat) (sz : Nat) (w wr fl : Nat → Int32) (pw sc : Int32) (lw rot vb : Nat → Int32) (rec tk : Int32) (live row : Nat → Int32) (cur ser dur wo : Int32) (bts : Nat → Int32) (us : Int32) (act : Nat → Int32) (rd rs : Int32) (fo : Nat → Int64) (pl fr : Int32) : Met l y_L_find w_L_find ({ frames := 2, cells := 0, slots := 0, locals := 43 }) (xP (dC, dI) vwCl ((co, .long) :: xt cd) ((ao, .inl (co, 1, .inr (.inl fo))) :: (xw ad cd w wr fl (nI 1) (-1) lw rot vb (nI 0) (nI 0) live row (-1) (nI 0) (nI 0) (nI 0) bts (nI 0) act (nI 0) (nI 0))) sz [.ref (ad 0), .int pl, .int fr, .ref ao]) (va_Qi (fun r (u : Unit) => r = nI 0) (fun (u : Unit) (t : State) => xB (dC, dI) vwCl ((co, .long) :: xt cd) (oA ao ad sz) ((ao, .inl (co, 1, .inr (.inl (vp_updL fo 0 ((nI 0).toInt64))))) :: (xw ad cd w wr fl (nI 1) (-1) lw rot vb (nI 0) (nI 0) live row (-1) (nI 0) (nI 0) (nI 0) bts (nI 0) act (nI 0) (nI 0))) t) (oA ao ad sz)) 0 0 (oA ao ad sz) := by
  refine va_MetW (cc := b_L_find) (maxL := 5) (ret := (some (.int))) (by decide) rfl ?_
  intro P e s m args below meth c0 s₁ B hml hv
  obtain ⟨rfl, hsz, hP, hK, hD0⟩ := hv
  have hx := B.exec
  have hb := B.bytes
  have hr := B.returns
  have hts := atoms_spec (ws := w_L_find) B.pre
  have hown : s.vm.findClass R_L = some m.cls := findClass_of_methodNamed B.named
  have hlocks := B.notSynchronized
  subst hsz
  have hD := ow_D (sz := s.heap.size) hD0
  have hS : va_S (oA ao ad s.heap.size) s.heap s.heap [] := va_S.rf
  have hA : ∀ q : Nat, s.heap.size ≤ q → (oA ao ad s.heap.size) q := fun q h => Or.inr (Or.inr h)
  have hl := lv_entry ([.ref (ad 0), .int pl, .int fr, .ref ao]) (n := 5) (Nat.le_of_ble_eq_true rfl)
  rw [lg_entry_eq]
  generalize (lg_sl ([.ref (ad 0), .int pl, .int fr, .ref ao]) ++ List.replicate (5 - (lg_sl ([.ref (ad 0), .int pl, .int fr, .ref ao])).length) Slot.unset).toArray = ls at hl ⊢
  have hl : lv_has ls 5 [(0, .ref (ad 0)), (1, .int pl), (2, .int fr), (3, .ref ao)] := hl
  refine lv_aload_n hx hb d_L_find_0 rfl (lv_at hl 3 rfl) ?_
  refine lv_iconst (v := nI 0) hx hb d_L_find_1 (by decide) ?_
  refine lv_aload_n hx hb d_L_find_2 rfl (lv_at hl 0 rfl) ?_
  refine lv_iload_n hx hb d_L_find_3 rfl (lv_at hl 1 rfl) ?_
  refine lv_iload_n hx hb d_L_find_4 rfl (lv_at hl 2 rfl) ?_
  have hPc := hP.sub (ws' := (xw ad cd w wr fl (nI 1) (-1) lw rot vb (nI 0) (nI 0) live row (-1) (nI 0) (nI 0) (nI 0) bts (nI 0) act (nI 0) (nI 0))) [1, 2, 3, 4, 5, 6, 7, 8, 9, 10, 11, 12, 13, 14, 15] rfl
  have hKc := hK.sub (tys' := (xt cd)) [1, 2, 3, 4, 5, 6, 7, 8, 9, 10] rfl
  refine vp_callSi (va_runV (C := R_R) (As := [.int pl, .int fr]) (rest := [.int (nI 0), .ref ao]) ⟨hx, hb, hml, hown, hts⟩ (c_R_find_f l dC dI ad cd w wr fl (nI 1) (-1) lw rot vb (nI 0) (nI 0) live row (-1) (nI 0) (nI 0) (nI 0) bts (nI 0) act (nI 0) (nI 0) pl fr ) (cwV 2 hts (g_V t_576 t_577 t_578 t_1 t_579) rfl rfl rfl (by decide +kernel) ⟨by decide, by decide⟩) (xR_v hPc hKc 0 rfl rfl) rfl rfl hl.1 rfl (lv_room (Nat.le_of_ble_eq_true rfl)) d_L_find_5 ⟨Nat.le_refl _, Nat.le_refl _⟩).run (fun r5 q5 => ?_)
  subst q5
  refine lv_i2l (v := (nI 0).toInt64) hx hb d_L_find_8 rfl ?_
  refine va_last hx hb hK hP hD hS 0 0 rfl rfl (vp_in_nI (by omega) (by decide)) d_L_find_9 (fun H locs hP hD hS => ?_)
  rw [nI_clamp (by omega)] at hP hD
  have hP : va_P (dC, dI) vwCl ((ao, .inl (co, 1, .inr (.inl (vp_updL fo 0 ((nI 0).toInt64))))) :: (xw ad cd w wr fl (nI 1) (-1) lw rot vb (nI 0) (nI 0) live row (-1) (nI 0) (nI 0) (nI 0) bts (nI 0) act (nI 0) (nI 0))) H := hP
  have hD : va_D (oA ao ad s.heap.size) ((ao, .inl (co, 1, .inr (.inl (vp_updL fo 0 ((nI 0).toInt64))))) :: (xw ad cd w wr fl (nI 1) (-1) lw rot vb (nI 0) (nI 0) live row (-1) (nI 0) (nI 0) (nI 0) bts (nI 0) act (nI 0) (nI 0))) := hD
  refine lv_goto (tgt := 17) hx hb d_L_find_10 (by decide) ?_
  refine lv_iconst (v := nI 0) hx hb d_L_find_17 (by decide) ?_
  exact W.iret (v := nI 0) hx hb hr (fun t ht hW => ⟨⟨nI 0, (), rfl, by first | rfl | trivial | omega, ⟨by rw [ht]; exact hP, va_K.moved hW.alike hK, hD⟩⟩, hS.F ht⟩) hS.2.2 d_L_find_18
set_option maxHeartbeats 4000000 in
set_option maxRecDepth 100000 in
theorem cw_L_audit (l : Launch) (dC : Nat → ClassId) (dI : Nat → Nat → Nat) (ad cd : Nat → Nat) (ao co : Nat) (sz : Nat) (w wr fl : Nat → Int32) (pw sc : Int32) (lw rot vb : Nat → Int32) (rec tk : Int32) (live row : Nat → Int32) (cur ser dur wo : Int32) (bts : Nat → Int32) (us : Int32) (act : Nat → Int32) (rd rs : Int32) (fo : Nat → Int64) (fr to : Int32) : Met l y_L_audit w_L_audit ({ frames := 2, cells := 0, slots := 0, locals := 44 }) (xP (dC, dI) vwCl ((co, .long) :: xt cd) ((ao, .inl (co, 1, .inr (.inl fo))) :: (xw ad cd w wr fl (nI 1) (-1) lw rot vb (nI 0) (nI 0) live row (-1) (nI 0) (nI 0) (nI 0) bts (nI 0) act (nI 0) (nI 0))) sz [.ref (ad 0), .int fr, .int to, .ref ao]) (va_Qi (fun r (u : Unit) => r = nI 0) (fun (u : Unit) (t : State) => xB (dC, dI) vwCl ((co, .long) :: xt cd) (oA ao ad sz) ((ao, .inl (co, 1, .inr (.inl (vp_updL fo 0 ((nI 0).toInt64))))) :: (xw ad cd w wr fl (nI 1) (-1) lw rot vb (nI 0) (nI 0) live row (-1) (nI 0) (nI 0) (nI 0) bts (nI 0) act (nI 0) (nI 0))) t) (oA ao ad sz)) 0 0 (oA ao ad sz) := by
  refine va_MetW (cc := b_L_audit) (maxL := 5) (ret := (some (.int))) (by decide) rfl ?_
  intro P e s m args below meth c0 s₁ B hml hv
  obtain ⟨rfl, hsz, hP, hK, hD0⟩ := hv
  have hx := B.exec
  have hb := B.bytes
  have hr := B.returns
  have hts := atoms_spec (ws := w_L_audit) B.pre
  have hown : s.vm.findClass R_L = some m.cls := findClass_of_methodNamed B.named
  have hlocks := B.notSynchronized
  subst hsz
  have hD := ow_D (sz := s.heap.size) hD0
  have hS : va_S (oA ao ad s.heap.size) s.heap s.heap [] := va_S.rf
  have hA : ∀ q : Nat, s.heap.size ≤ q → (oA ao ad s.heap.size) q := fun q h => Or.inr (Or.inr h)
  have hl := lv_entry ([.ref (ad 0), .int fr, .int to, .ref ao]) (n := 5) (Nat.le_of_ble_eq_true rfl)
  rw [lg_entry_eq]
  generalize (lg_sl ([.ref (ad 0), .int fr, .int to, .ref ao]) ++ List.replicate (5 - (lg_sl ([.ref (ad 0), .int fr, .int to, .ref ao])).length) Slot.unset).toArray = ls at hl ⊢
  have hl : lv_has ls 5 [(0, .ref (ad 0)), (1, .int fr), (2, .int to), (3, .ref ao)] := hl
  refine lv_aload_n hx hb d_L_audit_0 rfl (lv_at hl 3 rfl) ?_
  refine lv_iconst (v := nI 0) hx hb d_L_audit_1 (by decide) ?_
  refine lv_aload_n hx hb d_L_audit_2 rfl (lv_at hl 0 rfl) ?_
  refine lv_iload_n hx hb d_L_audit_3 rfl (lv_at hl 1 rfl) ?_
  refine lv_iload_n hx hb d_L_audit_4 rfl (lv_at hl 2 rfl) ?_
  have hPc := hP.sub (ws' := (xw ad cd w wr fl (nI 1) (-1) lw rot vb (nI 0) (nI 0) live row (-1) (nI 0) (nI 0) (nI 0) bts (nI 0) act (nI 0) (nI 0))) [1, 2, 3, 4, 5, 6, 7, 8, 9, 10, 11, 12, 13, 14, 15] rfl
  have hKc := hK.sub (tys' := (xt cd)) [1, 2, 3, 4, 5, 6, 7, 8, 9, 10] rfl
  refine vp_callSi (va_runV (C := R_R) (As := [.int fr, .int to]) (rest := [.int (nI 0), .ref ao]) ⟨hx, hb, hml, hown, hts⟩ (c_R_audit_f l dC dI ad cd w wr fl (nI 1) (-1) lw rot vb (nI 0) (nI 0) live row (-1) (nI 0) (nI 0) (nI 0) bts (nI 0) act (nI 0) (nI 0) fr to ) (cwV 2 hts (g_V t_583 t_584 t_585 t_1 t_586) rfl rfl rfl (by decide +kernel) ⟨by decide, by decide⟩) (xR_v hPc hKc 0 rfl rfl) rfl rfl hl.1 rfl (lv_room (Nat.le_of_ble_eq_true rfl)) d_L_audit_5 ⟨Nat.le_refl _, Nat.le_refl _⟩).run (fun r5 q5 => ?_)
  subst q5
  refine lv_i2l (v := (nI 0).toInt64) hx hb d_L_audit_8 rfl ?_
  refine va_last hx hb hK hP hD hS 0 0 rfl rfl (vp_in_nI (by omega) (by decide)) d_L_audit_9 (fun H locs hP hD hS => ?_)
  rw [nI_clamp (by omega)] at hP hD
  have hP : va_P (dC, dI) vwCl ((ao, .inl (co, 1, .inr (.inl (vp_updL fo 0 ((nI 0).toInt64))))) :: (xw ad cd w wr fl (nI 1) (-1) lw rot vb (nI 0) (nI 0) live row (-1) (nI 0) (nI 0) (nI 0) bts (nI 0) act (nI 0) (nI 0))) H := hP
  have hD : va_D (oA ao ad s.heap.size) ((ao, .inl (co, 1, .inr (.inl (vp_updL fo 0 ((nI 0).toInt64))))) :: (xw ad cd w wr fl (nI 1) (-1) lw rot vb (nI 0) (nI 0) live row (-1) (nI 0) (nI 0) (nI 0) bts (nI 0) act (nI 0) (nI 0))) := hD
  refine lv_goto (tgt := 17) hx hb d_L_audit_10 (by decide) ?_
  refine lv_iconst (v := nI 0) hx hb d_L_audit_17 (by decide) ?_
  exact W.iret (v := nI 0) hx hb hr (fun t ht hW => ⟨⟨nI 0, (), rfl, by first | rfl | trivial | omega, ⟨by rw [ht]; exact hP, va_K.moved hW.alike hK, hD⟩⟩, hS.F ht⟩) hS.2.2 d_L_audit_18
set_option maxHeartbeats 4000000 in
set_option maxRecDepth 100000 in
theorem cw_L_exportByte (l : Launch) (dC : Nat → ClassId) (dI : Nat → Nat → Nat) (ad cd : Nat → Nat) (ao co : Nat) (sz : Nat) (w wr fl : Nat → Int32) (pw sc : Int32) (lw rot vb : Nat → Int32) (rec tk : Int32) (live row : Nat → Int32) (cur ser dur wo : Int32) (bts : Nat → Int32) (us : Int32) (act : Nat → Int32) (rd rs : Int32) (fo : Nat → Int64) (fr to ix : Int32) : Met l y_L_exportByte w_L_exportByte ({ frames := 2, cells := 0, slots := 0, locals := 46 }) (xP (dC, dI) vwCl ((co, .long) :: xt cd) ((ao, .inl (co, 1, .inr (.inl fo))) :: (xw ad cd w wr fl (nI 1) (-1) lw rot vb (nI 0) (nI 0) live row (-1) (nI 0) (nI 0) (nI 0) bts (nI 0) act (nI 0) (nI 0))) sz [.ref (ad 0), .int fr, .int to, .int ix, .ref ao]) (va_Qi (fun r (u : Unit) => r = nI 0) (fun (u : Unit) (t : State) => xB (dC, dI) vwCl ((co, .long) :: xt cd) (oA ao ad sz) ((ao, .inl (co, 1, .inr (.inl (vp_updL fo 0 ((-1).toInt64))))) :: (xw ad cd w wr fl (nI 1) (-1) lw rot vb (nI 0) (nI 0) live row (-1) (nI 0) (nI 0) (nI 0) bts (nI 0) act (nI 0) (nI 0))) t) (oA ao ad sz)) 0 0 (oA ao ad sz) := by
  refine va_MetW (cc := b_L_exportByte) (maxL := 6) (ret := (some (.int))) (by decide) rfl ?_
  intro P e s m args below meth c0 s₁ B hml hv
  obtain ⟨rfl, hsz, hP, hK, hD0⟩ := hv
  have hx := B.exec
  have hb := B.bytes
  have hr := B.returns
  have hts := atoms_spec (ws := w_L_exportByte) B.pre
  have hown : s.vm.findClass R_L = some m.cls := findClass_of_methodNamed B.named
  have hlocks := B.notSynchronized
  subst hsz
  have hD := ow_D (sz := s.heap.size) hD0
  have hS : va_S (oA ao ad s.heap.size) s.heap s.heap [] := va_S.rf
  have hA : ∀ q : Nat, s.heap.size ≤ q → (oA ao ad s.heap.size) q := fun q h => Or.inr (Or.inr h)
  have hl := lv_entry ([.ref (ad 0), .int fr, .int to, .int ix, .ref ao]) (n := 6) (Nat.le_of_ble_eq_true rfl)
  rw [lg_entry_eq]
  generalize (lg_sl ([.ref (ad 0), .int fr, .int to, .int ix, .ref ao]) ++ List.replicate (6 - (lg_sl ([.ref (ad 0), .int fr, .int to, .int ix, .ref ao])).length) Slot.unset).toArray = ls at hl ⊢
  have hl : lv_has ls 6 [(0, .ref (ad 0)), (1, .int fr), (2, .int to), (3, .int ix), (4, .ref ao)] := hl
  refine lv_aload hx hb d_L_exportByte_0 (lv_at hl 4 rfl) ?_
  refine lv_iconst (v := nI 0) hx hb d_L_exportByte_2 (by decide) ?_
  refine lv_aload_n hx hb d_L_exportByte_3 rfl (lv_at hl 0 rfl) ?_
  refine lv_iload_n hx hb d_L_exportByte_4 rfl (lv_at hl 1 rfl) ?_
  refine lv_iload_n hx hb d_L_exportByte_5 rfl (lv_at hl 2 rfl) ?_
  refine lv_iload_n hx hb d_L_exportByte_6 rfl (lv_at hl 3 rfl) ?_
  have hPc := hP.sub (ws' := (xw ad cd w wr fl (nI 1) (-1) lw rot vb (nI 0) (nI 0) live row (-1) (nI 0) (nI 0) (nI 0) bts (nI 0) act (nI 0) (nI 0))) [1, 2, 3, 4, 5, 6, 7, 8, 9, 10, 11, 12, 13, 14, 15] rfl
  have hKc := hK.sub (tys' := (xt cd)) [1, 2, 3, 4, 5, 6, 7, 8, 9, 10] rfl
  refine vp_callSi (va_runV (C := R_R) (As := [.int fr, .int to, .int ix]) (rest := [.int (nI 0), .ref ao]) ⟨hx, hb, hml, hown, hts⟩ (c_R_exportByte_f l dC dI ad cd w wr fl (nI 1) (-1) lw rot vb (nI 0) (nI 0) live row (-1) (nI 0) (nI 0) (nI 0) bts (nI 0) act (nI 0) (nI 0) fr to ix ) (cwV 3 hts (g_V t_607 t_608 t_609 t_1 t_610) rfl rfl rfl (by decide +kernel) ⟨by decide, by decide⟩) (xR_v hPc hKc 0 rfl rfl) rfl rfl hl.1 rfl (lv_room (Nat.le_of_ble_eq_true rfl)) d_L_exportByte_7 ⟨Nat.le_refl _, Nat.le_refl _⟩).run (fun r7 q7 => ?_)
  subst q7
  refine lv_i2l (v := (-1).toInt64) hx hb d_L_exportByte_10 rfl ?_
  refine va_last hx hb hK hP hD hS 0 0 rfl rfl (vp_in_nI (by omega) (by decide)) d_L_exportByte_11 (fun H locs hP hD hS => ?_)
  rw [nI_clamp (by omega)] at hP hD
  have hP : va_P (dC, dI) vwCl ((ao, .inl (co, 1, .inr (.inl (vp_updL fo 0 ((-1).toInt64))))) :: (xw ad cd w wr fl (nI 1) (-1) lw rot vb (nI 0) (nI 0) live row (-1) (nI 0) (nI 0) (nI 0) bts (nI 0) act (nI 0) (nI 0))) H := hP
  have hD : va_D (oA ao ad s.heap.size) ((ao, .inl (co, 1, .inr (.inl (vp_updL fo 0 ((-1).toInt64))))) :: (xw ad cd w wr fl (nI 1) (-1) lw rot vb (nI 0) (nI 0) live row (-1) (nI 0) (nI 0) (nI 0) bts (nI 0) act (nI 0) (nI 0))) := hD
  refine lv_goto (tgt := 19) hx hb d_L_exportByte_12 (by decide) ?_
  refine lv_iconst (v := nI 0) hx hb d_L_exportByte_19 (by decide) ?_
  exact W.iret (v := nI 0) hx hb hr (fun t ht hW => ⟨⟨nI 0, (), rfl, by first | rfl | trivial | omega, ⟨by rw [ht]; exact hP, va_K.moved hW.alike hK, hD⟩⟩, hS.F ht⟩) hS.2.2 d_L_exportByte_20
set_option maxHeartbeats 4000000 in
set_option maxRecDepth 100000 in
theorem cw_L_wearOf (l : Launch) (dC : Nat → ClassId) (dI : Nat → Nat → Nat) (ad cd : Nat → Nat) (ao co : Nat) (sz : Nat) (w wr fl : Nat → Int32) (pw sc : Int32) (lw rot vb : Nat → Int32) (rec tk : Int32) (live row : Nat → Int32) (cur ser dur wo : Int32) (bts : Nat → Int32) (us : Int32) (act : Nat → Int32) (rd rs : Int32) (fo : Nat → Int64) (j : Nat) (hj : j < 8) : Met l y_L_wearOf w_L_wearOf ({ frames := 2, cells := 0, slots := 0, locals := 43 }) (xP (dC, dI) vwCl ((co, .long) :: xt cd) ((ao, .inl (co, 1, .inr (.inl fo))) :: (xw ad cd w wr fl (nI 1) (-1) lw rot vb (nI 0) (nI 0) live row (-1) (nI 0) (nI 0) (nI 0) bts (nI 0) act (nI 0) (nI 0))) sz [.ref (ad 0), .int (nI j), .ref ao]) (va_Qi (fun r (u : Unit) => r = nI 0) (fun (u : Unit) (t : State) => xB (dC, dI) vwCl ((co, .long) :: xt cd) (oA ao ad sz) ((ao, .inl (co, 1, .inr (.inl (vp_updL fo 0 ((wr j).toInt64))))) :: (xw ad cd w wr fl (nI 1) (-1) lw rot vb (nI 0) (nI 0) live row (-1) (nI 0) (nI 0) (nI 0) bts (nI 0) act (nI 0) (nI 0))) t) (oA ao ad sz)) 0 0 (oA ao ad sz) := by
  refine va_MetW (cc := b_L_wearOf) (maxL := 4) (ret := (some (.int))) (by decide) rfl ?_
  intro P e s m args below meth c0 s₁ B hml hv
  obtain ⟨rfl, hsz, hP, hK, hD0⟩ := hv
  have hx := B.exec
  have hb := B.bytes
  have hr := B.returns
  have hts := atoms_spec (ws := w_L_wearOf) B.pre
  have hown : s.vm.findClass R_L = some m.cls := findClass_of_methodNamed B.named
  have hlocks := B.notSynchronized
  subst hsz
  have hD := ow_D (sz := s.heap.size) hD0
  have hS : va_S (oA ao ad s.heap.size) s.heap s.heap [] := va_S.rf
  have hA : ∀ q : Nat, s.heap.size ≤ q → (oA ao ad s.heap.size) q := fun q h => Or.inr (Or.inr h)
  have hl := lv_entry ([.ref (ad 0), .int (nI j), .ref ao]) (n := 4) (Nat.le_of_ble_eq_true rfl)
  rw [lg_entry_eq]
  generalize (lg_sl ([.ref (ad 0), .int (nI j), .ref ao]) ++ List.replicate (4 - (lg_sl ([.ref (ad 0), .int (nI j), .ref ao])).length) Slot.unset).toArray = ls at hl ⊢
  have hl : lv_has ls 4 [(0, .ref (ad 0)), (1, .int (nI j)), (2, .ref ao)] := hl
  refine lv_aload_n hx hb d_L_wearOf_0 rfl (lv_at hl 2 rfl) ?_
  refine lv_iconst (v := nI 0) hx hb d_L_wearOf_1 (by decide) ?_
  refine lv_aload_n hx hb d_L_wearOf_2 rfl (lv_at hl 0 rfl) ?_
  refine lv_iload_n hx hb d_L_wearOf_3 rfl (lv_at hl 1 rfl) ?_
  have hPc := hP.sub (ws' := (xw ad cd w wr fl (nI 1) (-1) lw rot vb (nI 0) (nI 0) live row (-1) (nI 0) (nI 0) (nI 0) bts (nI 0) act (nI 0) (nI 0))) [1, 2, 3, 4, 5, 6, 7, 8, 9, 10, 11, 12, 13, 14, 15] rfl
  have hKc := hK.sub (tys' := (xt cd)) [1, 2, 3, 4, 5, 6, 7, 8, 9, 10] rfl
  refine vp_callSi (va_runV (C := R_R) (As := [.int (nI j)]) (rest := [.int (nI 0), .ref ao]) ⟨hx, hb, hml, hown, hts⟩ (c_R_wearOf_ok l dC dI ad cd w wr fl (nI 1) (-1) lw rot vb (nI 0) (nI 0) live row (-1) (nI 0) (nI 0) (nI 0) bts (nI 0) act (nI 0) (nI 0) j (hj)) (cwV 1 hts (g_V t_661 t_662 t_663 t_1 t_664) rfl rfl rfl (by decide +kernel) ⟨by decide, by decide⟩) (xR_v hPc hKc 0 rfl rfl) rfl rfl hl.1 rfl (lv_room (Nat.le_of_ble_eq_true rfl)) d_L_wearOf_4 ⟨Nat.le_refl _, Nat.le_refl _⟩).run (fun r4 q4 => ?_)
  subst q4
  refine lv_i2l (v := (wr j).toInt64) hx hb d_L_wearOf_7 rfl ?_
  refine va_last hx hb hK hP hD hS 0 0 rfl rfl (vp_in_nI (by omega) (by decide)) d_L_wearOf_8 (fun H locs hP hD hS => ?_)
  rw [nI_clamp (by omega)] at hP hD
  have hP : va_P (dC, dI) vwCl ((ao, .inl (co, 1, .inr (.inl (vp_updL fo 0 ((wr j).toInt64))))) :: (xw ad cd w wr fl (nI 1) (-1) lw rot vb (nI 0) (nI 0) live row (-1) (nI 0) (nI 0) (nI 0) bts (nI 0) act (nI 0) (nI 0))) H := hP
  have hD : va_D (oA ao ad s.heap.size) ((ao, .inl (co, 1, .inr (.inl (vp_updL fo 0 ((wr j).toInt64))))) :: (xw ad cd w wr fl (nI 1) (-1) lw rot vb (nI 0) (nI 0) live row (-1) (nI 0) (nI 0) (nI 0) bts (nI 0) act (nI 0) (nI 0))) := hD
  refine lv_goto (tgt := 15) hx hb d_L_wearOf_9 (by decide) ?_
  refine lv_iconst (v := nI 0) hx hb d_L_wearOf_15 (by decide) ?_
  exact W.iret (v := nI 0) hx hb hr (fun t ht hW => ⟨⟨nI 0, (), rfl, by first | rfl | trivial | omega, ⟨by rw [ht]; exact hP, va_K.moved hW.alike hK, hD⟩⟩, hS.F ht⟩) hS.2.2 d_L_wearOf_16
set_option maxHeartbeats 4000000 in
set_option maxRecDepth 100000 in
theorem cw_L_word (l : Launch) (dC : Nat → ClassId) (dI : Nat → Nat → Nat) (ad cd : Nat → Nat) (ao co : Nat) (sz : Nat) (w wr fl : Nat → Int32) (pw sc : Int32) (lw rot vb : Nat → Int32) (rec tk : Int32) (live row : Nat → Int32) (cur ser dur wo : Int32) (bts : Nat → Int32) (us : Int32) (act : Nat → Int32) (rd rs : Int32) (fo : Nat → Int64) (j k : Nat) (hj : j < 32) (hk : k < 16) : Met l y_L_word w_L_word ({ frames := 3, cells := 0, slots := 0, locals := 65 }) (xP (dC, dI) vwCl ((co, .long) :: xt cd) ((ao, .inl (co, 1, .inr (.inl fo))) :: (xw ad cd w wr fl (nI 1) (-1) lw rot vb (nI 0) (nI 0) live row (-1) (nI 0) (nI 0) (nI 0) bts (nI 0) act (nI 0) (nI 0))) sz [.ref (ad 0), .int (nI j), .int (nI k), .ref ao]) (va_Qi (fun r (u : Unit) => r = nI 0) (fun (u : Unit) (t : State) => xB (dC, dI) vwCl ((co, .long) :: xt cd) (oA ao ad sz) ((ao, .inl (co, 1, .inr (.inl (vp_updL fo 0 ((w (16 * j + k)).toInt64))))) :: (xw ad cd w wr fl (nI 1) (-1) lw rot vb (nI 0) (nI 0) live row (-1) (nI 0) (nI 0) (nI 0) bts (nI 0) act (nI 0) (nI 0))) t) (oA ao ad sz)) 0 0 (oA ao ad sz) := by
  refine va_MetW (cc := b_L_word) (maxL := 5) (ret := (some (.int))) (by decide) rfl ?_
  intro P e s m args below meth c0 s₁ B hml hv
  obtain ⟨rfl, hsz, hP, hK, hD0⟩ := hv
  have hx := B.exec
  have hb := B.bytes
  have hr := B.returns
  have hts := atoms_spec (ws := w_L_word) B.pre
  have hown : s.vm.findClass R_L = some m.cls := findClass_of_methodNamed B.named
  have hlocks := B.notSynchronized
  subst hsz
  have hD := ow_D (sz := s.heap.size) hD0
  have hS : va_S (oA ao ad s.heap.size) s.heap s.heap [] := va_S.rf
  have hA : ∀ q : Nat, s.heap.size ≤ q → (oA ao ad s.heap.size) q := fun q h => Or.inr (Or.inr h)
  have hl := lv_entry ([.ref (ad 0), .int (nI j), .int (nI k), .ref ao]) (n := 5) (Nat.le_of_ble_eq_true rfl)
  rw [lg_entry_eq]
  generalize (lg_sl ([.ref (ad 0), .int (nI j), .int (nI k), .ref ao]) ++ List.replicate (5 - (lg_sl ([.ref (ad 0), .int (nI j), .int (nI k), .ref ao])).length) Slot.unset).toArray = ls at hl ⊢
  have hl : lv_has ls 5 [(0, .ref (ad 0)), (1, .int (nI j)), (2, .int (nI k)), (3, .ref ao)] := hl
  refine lv_aload_n hx hb d_L_word_0 rfl (lv_at hl 3 rfl) ?_
  refine lv_iconst (v := nI 0) hx hb d_L_word_1 (by decide) ?_
  refine lv_aload_n hx hb d_L_word_2 rfl (lv_at hl 0 rfl) ?_
  refine lv_iload_n hx hb d_L_word_3 rfl (lv_at hl 1 rfl) ?_
  refine lv_iload_n hx hb d_L_word_4 rfl (lv_at hl 2 rfl) ?_
  have hPc := hP.sub (ws' := (xw ad cd w wr fl (nI 1) (-1) lw rot vb (nI 0) (nI 0) live row (-1) (nI 0) (nI 0) (nI 0) bts (nI 0) act (nI 0) (nI 0))) [1, 2, 3, 4, 5, 6, 7, 8, 9, 10, 11, 12, 13, 14, 15] rfl
  have hKc := hK.sub (tys' := (xt cd)) [1, 2, 3, 4, 5, 6, 7, 8, 9, 10] rfl
  refine vp_callSi (va_runV (C := R_R) (As := [.int (nI j), .int (nI k)]) (rest := [.int (nI 0), .ref ao]) ⟨hx, hb, hml, hown, hts⟩ (c_R_word_ok l dC dI ad cd w wr fl (nI 1) (-1) lw rot vb (nI 0) (nI 0) live row (-1) (nI 0) (nI 0) (nI 0) bts (nI 0) act (nI 0) (nI 0) j k (hj) (hk)) (cwV 2 hts (g_V t_697 t_698 t_699 t_1 t_700) rfl rfl rfl (by decide +kernel) ⟨by decide, by decide⟩) (xR_v hPc hKc 0 rfl rfl) rfl rfl hl.1 rfl (lv_room (Nat.le_of_ble_eq_true rfl)) d_L_word_5 ⟨Nat.le_refl _, Nat.le_refl _⟩).run (fun r5 q5 => ?_)
  subst q5
  refine lv_i2l (v := (w (16 * j + k)).toInt64) hx hb d_L_word_8 rfl ?_
  refine va_last hx hb hK hP hD hS 0 0 rfl rfl (vp_in_nI (by omega) (by decide)) d_L_word_9 (fun H locs hP hD hS => ?_)
  rw [nI_clamp (by omega)] at hP hD
  have hP : va_P (dC, dI) vwCl ((ao, .inl (co, 1, .inr (.inl (vp_updL fo 0 ((w (16 * j + k)).toInt64))))) :: (xw ad cd w wr fl (nI 1) (-1) lw rot vb (nI 0) (nI 0) live row (-1) (nI 0) (nI 0) (nI 0) bts (nI 0) act (nI 0) (nI 0))) H := hP
  have hD : va_D (oA ao ad s.heap.size) ((ao, .inl (co, 1, .inr (.inl (vp_updL fo 0 ((w (16 * j + k)).toInt64))))) :: (xw ad cd w wr fl (nI 1) (-1) lw rot vb (nI 0) (nI 0) live row (-1) (nI 0) (nI 0) (nI 0) bts (nI 0) act (nI 0) (nI 0))) := hD
  refine lv_goto (tgt := 17) hx hb d_L_word_10 (by decide) ?_
  refine lv_iconst (v := nI 0) hx hb d_L_word_17 (by decide) ?_
  exact W.iret (v := nI 0) hx hb hr (fun t ht hW => ⟨⟨nI 0, (), rfl, by first | rfl | trivial | omega, ⟨by rw [ht]; exact hP, va_K.moved hW.alike hK, hD⟩⟩, hS.F ht⟩) hS.2.2 d_L_word_18
set_option maxHeartbeats 4000000 in
set_option maxRecDepth 100000 in
theorem cw_L_setProduct (l : Launch) (dC : Nat → ClassId) (dI : Nat → Nat → Nat) (ad cd : Nat → Nat) (sz : Nat) (w wr fl : Nat → Int32) (pw sc : Int32) (lw rot vb : Nat → Int32) (rec tk : Int32) (live row : Nat → Int32) (cur ser dur wo : Int32) (bts : Nat → Int32) (us : Int32) (act : Nat → Int32) (rd rs : Int32) (j : Nat) (b : Int32) (hj : j < 40) : Met l y_L_setProduct w_L_setProduct ({ frames := 3, cells := 0, slots := 0, locals := 64 }) (xP (dC, dI) vwCl (xt cd) (xw ad cd w wr fl (nI 1) (-1) lw rot vb (nI 0) (nI 0) live row (-1) (nI 0) (nI 0) (nI 0) bts (nI 0) act (nI 0) (nI 0)) sz [.ref (ad 0), .int (nI j), .int b]) (va_Qi (fun r (u : Unit) => r = nI 0) (fun (u : Unit) (t : State) => xB (dC, dI) vwCl (xt cd) (xA 15 ad sz) (xw ad cd w wr fl (nI 1) (-1) lw rot vb (nI 0) (nI 0) live row (-1) (nI 0) (nI 0) (nI 0) bts (nI 0) (upd act j (vp_nar .boolean b)) (nI 0) (nI 0)) t) (xA 15 ad sz)) 0 0 (xA 15 ad sz) := by
  refine va_MetW (cc := b_L_setProduct) (maxL := 4) (ret := (some (.int))) (by decide) rfl ?_
  intro P e s m args below meth c0 s₁ B hml hv
  obtain ⟨rfl, hsz, hP, hK, hD0⟩ := hv
  have hx := B.exec
  have hb := B.bytes
  have hr := B.returns
  have hts := atoms_spec (ws := w_L_setProduct) B.pre
  have hown : s.vm.findClass R_L = some m.cls := findClass_of_methodNamed B.named
  have hlocks := B.notSynchronized
  subst hsz
  have hD := xw_D (sz := s.heap.size) hD0
  have hS : va_S (xA 15 ad s.heap.size) s.heap s.heap [] := va_S.rf
  have hA : ∀ q : Nat, s.heap.size ≤ q → (xA 15 ad s.heap.size) q := fun q h => Or.inr h
  have hl := lv_entry ([.ref (ad 0), .int (nI j), .int b]) (n := 4) (Nat.le_of_ble_eq_true rfl)
  rw [lg_entry_eq]
  generalize (lg_sl ([.ref (ad 0), .int (nI j), .int b]) ++ List.replicate (4 - (lg_sl ([.ref (ad 0), .int (nI j), .int b])).length) Slot.unset).toArray = ls at hl ⊢
  have hl : lv_has ls 4 [(0, .ref (ad 0)), (1, .int (nI j)), (2, .int b)] := hl
  refine lv_aload_n hx hb d_L_setProduct_0 rfl (lv_at hl 0 rfl) ?_
  refine lv_iload_n hx hb d_L_setProduct_1 rfl (lv_at hl 1 rfl) ?_
  refine lv_iload_n hx hb d_L_setProduct_2 rfl (lv_at hl 2 rfl) ?_
  have hSz := hS.1
  refine va_callv (va_runV (C := R_R) (As := [.int (nI j), .int b]) (rest := []) ⟨hx, hb, hml, hown, hts⟩ (c_R_setProduct_ok l dC dI ad cd s.heap.size w wr fl (nI 1) (-1) lw rot vb (nI 0) (nI 0) live row (-1) (nI 0) (nI 0) (nI 0) bts (nI 0) act (nI 0) (nI 0) j b (hj)) (cwV 2 hts (g_V t_643 t_644 t_645 t_1 t_646) rfl rfl rfl (by decide +kernel) ⟨by decide, by decide⟩) (xP_v hP hK hD 0 rfl rfl) rfl rfl hl.1 rfl (lv_room (Nat.le_of_ble_eq_true rfl)) d_L_setProduct_3 ⟨Nat.le_refl _, Nat.le_refl _⟩) hS (fun q _ h => xA_up hS.1 q h) (fun q h => xA_up hS.1 q h) (fun u3 t H1 locs1 ht hvm q3 hB hz1 hk1 hS => ?_)
  obtain ⟨hP1, hK1, hD1⟩ := hB
  rw [ht] at hP1
  have hD : va_D (xA 15 ad s.heap.size) (xw ad cd w wr fl (nI 1) (-1) lw rot vb (nI 0) (nI 0) live row (-1) (nI 0) (nI 0) (nI 0) bts (nI 0) (upd act j (vp_nar .boolean b)) (nI 0) (nI 0)) := hD1.weaken (fun _ q _ h => xA_up hSz _ h)
  have hP : va_P (dC, dI) vwCl (xw ad cd w wr fl (nI 1) (-1) lw rot vb (nI 0) (nI 0) live row (-1) (nI 0) (nI 0) (nI 0) bts (nI 0) (upd act j (vp_nar .boolean b)) (nI 0) (nI 0)) H1 := hP1
  generalize H1 = H at hP hS ⊢
  generalize locs1 = locs at hS ⊢
  refine lv_goto (tgt := 12) hx hb d_L_setProduct_6 (by decide) ?_
  refine lv_iconst (v := nI 0) hx hb d_L_setProduct_12 (by decide) ?_
  exact W.iret (v := nI 0) hx hb hr (fun t ht hW => ⟨⟨nI 0, (), rfl, by first | rfl | trivial | omega, ⟨by rw [ht]; exact hP, va_K.moved hW.alike hK, hD⟩⟩, hS.F ht⟩) hS.2.2 d_L_setProduct_13
set_option maxHeartbeats 4000000 in
set_option maxRecDepth 100000 in
theorem cw_L_cutAfter (l : Launch) (dC : Nat → ClassId) (dI : Nat → Nat → Nat) (ad cd : Nat → Nat) (sz : Nat) (w wr fl : Nat → Int32) (pw sc : Int32) (lw rot vb : Nat → Int32) (rec tk : Int32) (live row : Nat → Int32) (cur ser dur wo : Int32) (bts : Nat → Int32) (us : Int32) (act : Nat → Int32) (rd rs : Int32) (n : Int32) (hok : nI 0 ≤ n ∧ n ≤ nI 300) : Met l y_L_cutAfter w_L_cutAfter ({ frames := 2, cells := 0, slots := 0, locals := 43 }) (xP (dC, dI) vwCl (xt cd) (xw ad cd w wr fl (nI 1) (-1) lw rot vb (nI 0) (nI 0) live row (-1) (nI 0) (nI 0) (nI 0) bts (nI 0) act (nI 0) (nI 0)) sz [.ref (ad 0), .int n]) (va_Qi (fun r (u : Unit) => r = nI 0) (fun (u : Unit) (t : State) => xB (dC, dI) vwCl (xt cd) (xA 15 ad sz) (xw ad cd w wr fl (nI 1) n lw rot vb (nI 0) (nI 0) live row (-1) (nI 0) (nI 0) (nI 0) bts (nI 0) act (nI 0) (nI 0)) t) (xA 15 ad sz)) 0 0 (xA 15 ad sz) := by
  refine va_MetW (cc := b_L_cutAfter) (maxL := 3) (ret := (some (.int))) (by decide) rfl ?_
  intro P e s m args below meth c0 s₁ B hml hv
  obtain ⟨rfl, hsz, hP, hK, hD0⟩ := hv
  have hx := B.exec
  have hb := B.bytes
  have hr := B.returns
  have hts := atoms_spec (ws := w_L_cutAfter) B.pre
  have hown : s.vm.findClass R_L = some m.cls := findClass_of_methodNamed B.named
  have hlocks := B.notSynchronized
  subst hsz
  have hD := xw_D (sz := s.heap.size) hD0
  have hS : va_S (xA 15 ad s.heap.size) s.heap s.heap [] := va_S.rf
  have hA : ∀ q : Nat, s.heap.size ≤ q → (xA 15 ad s.heap.size) q := fun q h => Or.inr h
  have hl := lv_entry ([.ref (ad 0), .int n]) (n := 3) (Nat.le_of_ble_eq_true rfl)
  rw [lg_entry_eq]
  generalize (lg_sl ([.ref (ad 0), .int n]) ++ List.replicate (3 - (lg_sl ([.ref (ad 0), .int n])).length) Slot.unset).toArray = ls at hl ⊢
  have hl : lv_has ls 3 [(0, .ref (ad 0)), (1, .int n)] := hl
  refine lv_aload_n hx hb d_L_cutAfter_0 rfl (lv_at hl 0 rfl) ?_
  refine lv_iload_n hx hb d_L_cutAfter_1 rfl (lv_at hl 1 rfl) ?_
  have hSz := hS.1
  refine va_callv (va_runV (C := R_R) (As := [.int n]) (rest := []) ⟨hx, hb, hml, hown, hts⟩ (c_R_cutAfter_ok l dC dI ad cd s.heap.size w wr fl (nI 1) (-1) lw rot vb (nI 0) (nI 0) live row (-1) (nI 0) (nI 0) (nI 0) bts (nI 0) act (nI 0) (nI 0) n (hok)) (cwV 1 hts (g_V t_650 t_651 t_652 t_1 t_653) rfl rfl rfl (by decide +kernel) ⟨by decide, by decide⟩) (xP_v hP hK hD 0 rfl rfl) rfl rfl hl.1 rfl (lv_room (Nat.le_of_ble_eq_true rfl)) d_L_cutAfter_2 ⟨Nat.le_refl _, Nat.le_refl _⟩) hS (fun q _ h => xA_up hS.1 q h) (fun q h => xA_up hS.1 q h) (fun u2 t H1 locs1 ht hvm q2 hB hz1 hk1 hS => ?_)
  obtain ⟨hP1, hK1, hD1⟩ := hB
  rw [ht] at hP1
  have hD : va_D (xA 15 ad s.heap.size) (xw ad cd w wr fl (nI 1) n lw rot vb (nI 0) (nI 0) live row (-1) (nI 0) (nI 0) (nI 0) bts (nI 0) act (nI 0) (nI 0)) := hD1.weaken (fun _ q _ h => xA_up hSz _ h)
  have hP : va_P (dC, dI) vwCl (xw ad cd w wr fl (nI 1) n lw rot vb (nI 0) (nI 0) live row (-1) (nI 0) (nI 0) (nI 0) bts (nI 0) act (nI 0) (nI 0)) H1 := hP1
  generalize H1 = H at hP hS ⊢
  generalize locs1 = locs at hS ⊢
  refine lv_goto (tgt := 11) hx hb d_L_cutAfter_5 (by decide) ?_
  refine lv_iconst (v := nI 0) hx hb d_L_cutAfter_11 (by decide) ?_
  exact W.iret (v := nI 0) hx hb hr (fun t ht hW => ⟨⟨nI 0, (), rfl, by first | rfl | trivial | omega, ⟨by rw [ht]; exact hP, va_K.moved hW.alike hK, hD⟩⟩, hS.F ht⟩) hS.2.2 d_L_cutAfter_12
set_option maxHeartbeats 4000000 in
set_option maxRecDepth 100000 in
theorem cw_L_failBlock (l : Launch) (dC : Nat → ClassId) (dI : Nat → Nat → Nat) (ad cd : Nat → Nat) (sz : Nat) (w wr fl : Nat → Int32) (pw sc : Int32) (lw rot vb : Nat → Int32) (rec tk : Int32) (live row : Nat → Int32) (cur ser dur wo : Int32) (bts : Nat → Int32) (us : Int32) (act : Nat → Int32) (rd rs : Int32) (j : Nat) (hj : j < 8) : Met l y_L_failBlock w_L_failBlock ({ frames := 2, cells := 0, slots := 0, locals := 43 }) (xP (dC, dI) vwCl (xt cd) (xw ad cd w wr fl (nI 1) (-1) lw rot vb (nI 0) (nI 0) live row (-1) (nI 0) (nI 0) (nI 0) bts (nI 0) act (nI 0) (nI 0)) sz [.ref (ad 0), .int (nI j)]) (va_Qi (fun r (u : Unit) => r = nI 0) (fun (u : Unit) (t : State) => xB (dC, dI) vwCl (xt cd) (xA 15 ad sz) (xw ad cd w wr (upd fl j (vp_nar .boolean (nI 1))) (nI 1) (-1) lw rot vb (nI 0) (nI 0) live row (-1) (nI 0) (nI 0) (nI 0) bts (nI 0) act (nI 0) (nI 0)) t) (xA 15 ad sz)) 0 0 (xA 15 ad sz) := by
  refine va_MetW (cc := b_L_failBlock) (maxL := 3) (ret := (some (.int))) (by decide) rfl ?_
  intro P e s m args below meth c0 s₁ B hml hv
  obtain ⟨rfl, hsz, hP, hK, hD0⟩ := hv
  have hx := B.exec
  have hb := B.bytes
  have hr := B.returns
  have hts := atoms_spec (ws := w_L_failBlock) B.pre
  have hown : s.vm.findClass R_L = some m.cls := findClass_of_methodNamed B.named
  have hlocks := B.notSynchronized
  subst hsz
  have hD := xw_D (sz := s.heap.size) hD0
  have hS : va_S (xA 15 ad s.heap.size) s.heap s.heap [] := va_S.rf
  have hA : ∀ q : Nat, s.heap.size ≤ q → (xA 15 ad s.heap.size) q := fun q h => Or.inr h
  have hl := lv_entry ([.ref (ad 0), .int (nI j)]) (n := 3) (Nat.le_of_ble_eq_true rfl)
  rw [lg_entry_eq]
  generalize (lg_sl ([.ref (ad 0), .int (nI j)]) ++ List.replicate (3 - (lg_sl ([.ref (ad 0), .int (nI j)])).length) Slot.unset).toArray = ls at hl ⊢
  have hl : lv_has ls 3 [(0, .ref (ad 0)), (1, .int (nI j))] := hl
  refine lv_aload_n hx hb d_L_failBlock_0 rfl (lv_at hl 0 rfl) ?_
  refine lv_iload_n hx hb d_L_failBlock_1 rfl (lv_at hl 1 rfl) ?_
  have hSz := hS.1
  refine va_callv (va_runV (C := R_R) (As := [.int (nI j)]) (rest := []) ⟨hx, hb, hml, hown, hts⟩ (c_R_failBlock_ok l dC dI ad cd s.heap.size w wr fl (nI 1) (-1) lw rot vb (nI 0) (nI 0) live row (-1) (nI 0) (nI 0) (nI 0) bts (nI 0) act (nI 0) (nI 0) j (hj)) (cwV 1 hts (g_V t_672 t_673 t_674 t_1 t_675) rfl rfl rfl (by decide +kernel) ⟨by decide, by decide⟩) (xP_v hP hK hD 0 rfl rfl) rfl rfl hl.1 rfl (lv_room (Nat.le_of_ble_eq_true rfl)) d_L_failBlock_2 ⟨Nat.le_refl _, Nat.le_refl _⟩) hS (fun q _ h => xA_up hS.1 q h) (fun q h => xA_up hS.1 q h) (fun u2 t H1 locs1 ht hvm q2 hB hz1 hk1 hS => ?_)
  obtain ⟨hP1, hK1, hD1⟩ := hB
  rw [ht] at hP1
  have hD : va_D (xA 15 ad s.heap.size) (xw ad cd w wr (upd fl j (vp_nar .boolean (nI 1))) (nI 1) (-1) lw rot vb (nI 0) (nI 0) live row (-1) (nI 0) (nI 0) (nI 0) bts (nI 0) act (nI 0) (nI 0)) := hD1.weaken (fun _ q _ h => xA_up hSz _ h)
  have hP : va_P (dC, dI) vwCl (xw ad cd w wr (upd fl j (vp_nar .boolean (nI 1))) (nI 1) (-1) lw rot vb (nI 0) (nI 0) live row (-1) (nI 0) (nI 0) (nI 0) bts (nI 0) act (nI 0) (nI 0)) H1 := hP1
  generalize H1 = H at hP hS ⊢
  generalize locs1 = locs at hS ⊢
  refine lv_goto (tgt := 11) hx hb d_L_failBlock_5 (by decide) ?_
  refine lv_iconst (v := nI 0) hx hb d_L_failBlock_11 (by decide) ?_
  exact W.iret (v := nI 0) hx hb hr (fun t ht hW => ⟨⟨nI 0, (), rfl, by first | rfl | trivial | omega, ⟨by rw [ht]; exact hP, va_K.moved hW.alike hK, hD⟩⟩, hS.F ht⟩) hS.2.2 d_L_failBlock_12
set_option maxHeartbeats 4000000 in
set_option maxRecDepth 100000 in
theorem cw_L_poke (l : Launch) (dC : Nat → ClassId) (dI : Nat → Nat → Nat) (ad cd : Nat → Nat) (sz : Nat) (w wr fl : Nat → Int32) (pw sc : Int32) (lw rot vb : Nat → Int32) (rec tk : Int32) (live row : Nat → Int32) (cur ser dur wo : Int32) (bts : Nat → Int32) (us : Int32) (act : Nat → Int32) (rd rs : Int32) (j k : Nat) (mask : Int32) (hj : j < 32) (hk : k < 16) : Met l y_L_poke w_L_poke ({ frames := 3, cells := 0, slots := 0, locals := 66 }) (xP (dC, dI) vwCl (xt cd) (xw ad cd w wr fl (nI 1) (-1) lw rot vb (nI 0) (nI 0) live row (-1) (nI 0) (nI 0) (nI 0) bts (nI 0) act (nI 0) (nI 0)) sz [.ref (ad 0), .int (nI j), .int (nI k), .int mask]) (va_Qi (fun r (u : Unit) => r = nI 0) (fun (u : Unit) (t : State) => xB (dC, dI) vwCl (xt cd) (xA 15 ad sz) (xw ad cd (upd w (j * 16 + k) (w (j * 16 + k) ^^^ mask)) wr fl (nI 1) (-1) lw rot vb (nI 0) (nI 0) live row (-1) (nI 0) (nI 0) (nI 0) bts (nI 0) act (nI 0) (nI 0)) t) (xA 15 ad sz)) 0 0 (xA 15 ad sz) := by
  refine va_MetW (cc := b_L_poke) (maxL := 5) (ret := (some (.int))) (by decide) rfl ?_
  intro P e s m args below meth c0 s₁ B hml hv
  obtain ⟨rfl, hsz, hP, hK, hD0⟩ := hv
  have hx := B.exec
  have hb := B.bytes
  have hr := B.returns
  have hts := atoms_spec (ws := w_L_poke) B.pre
  have hown : s.vm.findClass R_L = some m.cls := findClass_of_methodNamed B.named
  have hlocks := B.notSynchronized
  subst hsz
  have hD := xw_D (sz := s.heap.size) hD0
  have hS : va_S (xA 15 ad s.heap.size) s.heap s.heap [] := va_S.rf
  have hA : ∀ q : Nat, s.heap.size ≤ q → (xA 15 ad s.heap.size) q := fun q h => Or.inr h
  have hl := lv_entry ([.ref (ad 0), .int (nI j), .int (nI k), .int mask]) (n := 5) (Nat.le_of_ble_eq_true rfl)
  rw [lg_entry_eq]
  generalize (lg_sl ([.ref (ad 0), .int (nI j), .int (nI k), .int mask]) ++ List.replicate (5 - (lg_sl ([.ref (ad 0), .int (nI j), .int (nI k), .int mask])).length) Slot.unset).toArray = ls at hl ⊢
  have hl : lv_has ls 5 [(0, .ref (ad 0)), (1, .int (nI j)), (2, .int (nI k)), (3, .int mask)] := hl
  refine lv_aload_n hx hb d_L_poke_0 rfl (lv_at hl 0 rfl) ?_
  refine lv_iload_n hx hb d_L_poke_1 rfl (lv_at hl 1 rfl) ?_
  refine lv_iload_n hx hb d_L_poke_2 rfl (lv_at hl 2 rfl) ?_
  refine lv_iload_n hx hb d_L_poke_3 rfl (lv_at hl 3 rfl) ?_
  have hSz := hS.1
  refine va_callv (va_runV (C := R_R) (As := [.int (nI j), .int (nI k), .int mask]) (rest := []) ⟨hx, hb, hml, hown, hts⟩ (c_R_poke_ok l dC dI ad cd s.heap.size w wr fl (nI 1) (-1) lw rot vb (nI 0) (nI 0) live row (-1) (nI 0) (nI 0) (nI 0) bts (nI 0) act (nI 0) (nI 0) j k mask (hj) (hk)) (cwV 3 hts (g_V t_683 t_684 t_685 t_1 t_686) rfl rfl rfl (by decide +kernel) ⟨by decide, by decide⟩) (xP_v hP hK hD 0 rfl rfl) rfl rfl hl.1 rfl (lv_room (Nat.le_of_ble_eq_true rfl)) d_L_poke_4 ⟨Nat.le_refl _, Nat.le_refl _⟩) hS (fun q _ h => xA_up hS.1 q h) (fun q h => xA_up hS.1 q h) (fun u4 t H1 locs1 ht hvm q4 hB hz1 hk1 hS => ?_)
  obtain ⟨hP1, hK1, hD1⟩ := hB
  rw [ht] at hP1
  have hD : va_D (xA 15 ad s.heap.size) (xw ad cd (upd w (j * 16 + k) (w (j * 16 + k) ^^^ mask)) wr fl (nI 1) (-1) lw rot vb (nI 0) (nI 0) live row (-1) (nI 0) (nI 0) (nI 0) bts (nI 0) act (nI 0) (nI 0)) := hD1.weaken (fun _ q _ h => xA_up hSz _ h)
  have hP : va_P (dC, dI) vwCl (xw ad cd (upd w (j * 16 + k) (w (j * 16 + k) ^^^ mask)) wr fl (nI 1) (-1) lw rot vb (nI 0) (nI 0) live row (-1) (nI 0) (nI 0) (nI 0) bts (nI 0) act (nI 0) (nI 0)) H1 := hP1
  generalize H1 = H at hP hS ⊢
  generalize locs1 = locs at hS ⊢
  refine lv_goto (tgt := 14) hx hb d_L_poke_7 (by decide) ?_
  refine lv_iconst (v := nI 0) hx hb d_L_poke_14 (by decide) ?_
  exact W.iret (v := nI 0) hx hb hr (fun t ht hW => ⟨⟨nI 0, (), rfl, by first | rfl | trivial | omega, ⟨by rw [ht]; exact hP, va_K.moved hW.alike hK, hD⟩⟩, hS.F ht⟩) hS.2.2 d_L_poke_15
