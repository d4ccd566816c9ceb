set_option maxHeartbeats 4000000 in
set_option maxRecDepth 100000 in
theorem th_R_axle_a (l : Launch) (hl9 : l.stackTraces = false) (dC : Nat → ClassId) (dI : Nat → Nat → Nat) (ad cd : Nat → Nat) (az : Nat) (w wr fl : Nat → Int32) (pw sc : Int32) (lw rot vb : Nat → Int32) (rec tk : Int32) (live row : Nat → Int32) (cur ser dur wo : Int32) (bts : Nat → Int32) (us : Int32) (act : Nat → Int32) (rd rs : Int32) (st : Int32) (hok : ¬ (nI 1 ≤ st ∧ st ≤ nI 1200)) : Thr l y_R_axle w_R_axle ({ frames := 7, cells := 1, slots := 6, locals := 120 }) (xT (dC, dI) vwCl (xt cd) (xw ad cd w wr fl pw sc lw rot vb rec tk live row cur ser dur wo bts us act rd rs) az [.ref (ad 0), .int st]) E_A := by
  refine Thr.ofW (cc := b_R_axle) (maxL := 2) (ret := (some (.int))) (by decide) rfl ?_
  intro P e s m args below meth c0 s₁ B hml hnt hv
  obtain ⟨rfl, hP, hK, hz, hn, hN⟩ := hv
  have hx := B.exec
  have hb := B.bytes
  have hr := B.returns
  have hts := atoms_spec (ws := w_R_axle) B.pre
  have hown : s.vm.findClass R_R = some m.cls := findClass_of_methodNamed B.named
  have hlocks := B.notSynchronized
  have hl := lv_entry ([.ref (ad 0), .int st]) (n := 2) (Nat.le_of_ble_eq_true rfl)
  rw [lg_entry_eq]
  generalize (lg_sl ([.ref (ad 0), .int st]) ++ List.replicate (2 - (lg_sl ([.ref (ad 0), .int st])).length) Slot.unset).toArray = ls at hl ⊢
  have hl : lv_has ls 2 [(0, .ref (ad 0)), (1, .int st)] := hl
  refine lv_iload_n hx hb d_R_axle_0 rfl (lv_at hl 1 rfl) ?_
  refine lv_iconst (v := nI 1) hx hb d_R_axle_1 (by decide) ?_
  refine lv_sipush (v := nI 1200) hx hb d_R_axle_2 (by decide) ?_
  refine vp_callSi (va_runS (As := [.int st, .int (nI 1), .int (nI 1200)]) (rest := []) ⟨hx, hb, hml, hown, hts⟩ (c_R_isWithin l dC dI st (nI 1) (nI 1200) ) (cwS 3 hts (g_S t_271 t_207 t_1 t_208) rfl rfl rfl (by decide +kernel) ⟨by decide, by decide⟩) (xR_s (va_P.sub hP [] rfl) (hK.sub [] rfl) hN) rfl rfl hl.1 rfl (lv_room (Nat.le_of_ble_eq_true rfl)) d_R_axle_5 ⟨Nat.zero_le _, Nat.zero_le _⟩).run (fun r5 q5 => ?_)
  obtain ⟨rfl, -⟩ := q5.resolve_left (fun z => (hok) z.2)
  exact th_out (rest := []) hnt hlocks (fun T hT X => th_runS (As := [.int (nI 0)]) (rest := []) ⟨hx, hb, hml, hown, hts⟩ (th_R_requireArgument l hl9 az) (cwS 1 hts (g_S t_272 t_273 t_1 t_274) rfl rfl rfl (by decide +kernel) ⟨by decide, by decide⟩) (tP_s hz hn) rfl rfl hl.1 rfl (lv_room (Nat.le_of_ble_eq_true rfl)) d_R_axle_8 ⟨by decide, by decide⟩ hT X)
set_option maxHeartbeats 4000000 in
set_option maxRecDepth 100000 in
theorem th_R_axle_o (l : Launch) (hl9 : l.stackTraces = false) (dC : Nat → ClassId) (dI : Nat → Nat → Nat) (ad cd : Nat → Nat) (az : Nat) (w wr fl : Nat → Int32) (pw sc : Int32) (lw rot vb : Nat → Int32) (rec tk : Int32) (live row : Nat → Int32) (cur ser dur wo : Int32) (bts : Nat → Int32) (us : Int32) (act : Nat → Int32) (rd rs : Int32) (st : Int32) (hok : (nI 1 ≤ st ∧ st ≤ nI 1200)) : Thr l y_R_axle w_R_axle ({ frames := 7, cells := 1, slots := 6, locals := 120 }) (xT (dC, dI) vwCl (xt cd) (xw ad cd w wr fl (nI 0) sc lw rot vb rec tk live row cur ser dur wo bts us act rd rs) az [.ref (ad 0), .int st]) E_S := by
  refine Thr.ofW (cc := b_R_axle) (maxL := 2) (ret := (some (.int))) (by decide) rfl ?_
  intro P e s m args below meth c0 s₁ B hml hnt hv
  obtain ⟨rfl, hP, hK, hz, hn, hN⟩ := hv
  have hx := B.exec
  have hb := B.bytes
  have hr := B.returns
  have hts := atoms_spec (ws := w_R_axle) B.pre
  have hown : s.vm.findClass R_R = some m.cls := findClass_of_methodNamed B.named
  have hlocks := B.notSynchronized
  have hl := lv_entry ([.ref (ad 0), .int st]) (n := 2) (Nat.le_of_ble_eq_true rfl)
  rw [lg_entry_eq]
  generalize (lg_sl ([.ref (ad 0), .int st]) ++ List.replicate (2 - (lg_sl ([.ref (ad 0), .int st])).length) Slot.unset).toArray = ls at hl ⊢
  have hl : lv_has ls 2 [(0, .ref (ad 0)), (1, .int st)] := hl
  refine lv_iload_n hx hb d_R_axle_0 rfl (lv_at hl 1 rfl) ?_
  refine lv_iconst (v := nI 1) hx hb d_R_axle_1 (by decide) ?_
  refine lv_sipush (v := nI 1200) hx hb d_R_axle_2 (by decide) ?_
  refine vp_callSi (va_runS (As := [.int st, .int (nI 1), .int (nI 1200)]) (rest := []) ⟨hx, hb, hml, hown, hts⟩ (c_R_isWithin l dC dI st (nI 1) (nI 1200) ) (cwS 3 hts (g_S t_271 t_207 t_1 t_208) rfl rfl rfl (by decide +kernel) ⟨by decide, by decide⟩) (xR_s (va_P.sub hP [] rfl) (hK.sub [] rfl) hN) rfl rfl hl.1 rfl (lv_room (Nat.le_of_ble_eq_true rfl)) d_R_axle_5 ⟨Nat.zero_le _, Nat.zero_le _⟩).run (fun r5 q5 => ?_)
  obtain ⟨rfl, -⟩ := q5.resolve_right (fun z => z.2 (hok))
  refine va_csv (va_runS (As := [.int (nI 1)]) (rest := []) ⟨hx, hb, hml, hown, hts⟩ (c_R_requireArgument_1 l dC dI  ) (cwS 1 hts (g_S t_272 t_273 t_1 t_274) rfl rfl rfl (by decide +kernel) ⟨by decide, by decide⟩) (xR_s (va_P.sub hP [] rfl) (hK.sub [] rfl) hN) rfl rfl hl.1 rfl (lv_room (Nat.le_of_ble_eq_true rfl)) d_R_axle_8 ⟨Nat.zero_le _, Nat.zero_le _⟩).run (fun q8 => ?_)
  refine lv_aload_n hx hb d_R_axle_11 rfl (lv_at hl 0 rfl) ?_
  refine va_get (D := (dC, dI)) (ci := 4) (v := .ref (ad 2)) (C := R_R) (T := F_R) (N := 7) hx hb hts (fun w h => List.mem_cons_of_mem _ (in_R w h)) hown hK hP 0 rfl rfl 1 (by decide) (hts (.fieldLink R_R 20 R_R "chip" "LWeighRecorder$Chip;") (List.mem_cons_of_mem _ t_115)) (fun _ h9 => h9) rfl d_R_axle_12 ?_
  refine vp_callSi (va_runV (C := R_C) (As := []) (rest := []) ⟨hx, hb, hml, hown, hts⟩ (c_C_isPowered l dC dI ad cd w wr fl (nI 0) sc lw rot vb rec tk live row cur ser dur wo bts us act rd rs  (by first | exact B01.n0 | exact B01.n1)) (cwV 0 hts (g_V t_225 t_226 t_227 t_3 t_228) rfl rfl rfl (by decide +kernel) ⟨by decide, by decide⟩) (xR_v hP hK hN 2 rfl rfl) rfl rfl hl.1 rfl (lv_room (Nat.le_of_ble_eq_true rfl)) d_R_axle_15 ⟨Nat.zero_le _, Nat.zero_le _⟩).run (fun r15 q15 => ?_)
  have q15 := q15.symm
  subst q15
  refine lv_if_eq (tgt := 34) hx hb d_R_axle_18 (by decide) (fun c18 => ?_) (fun c18 => ?_)
  ·
    refine lv_iconst (v := nI 0) hx hb d_R_axle_34 (by decide) ?_
    exact th_out (rest := []) hnt hlocks (fun T hT X => th_runS (As := [.int (nI 0)]) (rest := []) ⟨hx, hb, hml, hown, hts⟩ (th_R_requireState l hl9 az) (cwS 1 hts (g_S t_338 t_339 t_1 t_340) rfl rfl rfl (by decide +kernel) ⟨by decide, by decide⟩) (tP_s hz hn) rfl rfl hl.1 rfl (lv_room (Nat.le_of_ble_eq_true rfl)) d_R_axle_35 ⟨by decide, by decide⟩ hT X)
  ·
    exact absurd c18 (by decide)
set_option maxHeartbeats 4000000 in
set_option maxRecDepth 100000 in
theorem th_R_axle_f (l : Launch) (hl9 : l.stackTraces = false) (dC : Nat → ClassId) (dI : Nat → Nat → Nat) (ad cd : Nat → Nat) (az : Nat) (w wr fl : Nat → Int32) (pw sc : Int32) (lw rot vb : Nat → Int32) (rec tk : Int32) (live row : Nat → Int32) (cur ser dur wo : Int32) (bts : Nat → Int32) (us : Int32) (act : Nat → Int32) (rd rs : Int32) (st : Int32) (hok : (nI 1 ≤ st ∧ st ≤ nI 1200)) (h9 : nI 9 ≤ rd) : Thr l y_R_axle w_R_axle ({ frames := 7, cells := 1, slots := 6, locals := 120 }) (xT (dC, dI) vwCl (xt cd) (xw ad cd w wr fl (nI 1) sc lw rot vb rec tk live row cur ser dur wo bts us act rd rs) az [.ref (ad 0), .int st]) E_S := by
  refine Thr.ofW (cc := b_R_axle) (maxL := 2) (ret := (some (.int))) (by decide) rfl ?_
  intro P e s m args below meth c0 s₁ B hml hnt hv
  obtain ⟨rfl, hP, hK, hz, hn, hN⟩ := hv
  have hx := B.exec
  have hb := B.bytes
  have hr := B.returns
  have hts := atoms_spec (ws := w_R_axle) B.pre
  have hown : s.vm.findClass R_R = some m.cls := findClass_of_methodNamed B.named
  have hlocks := B.notSynchronized
  have hl := lv_entry ([.ref (ad 0), .int st]) (n := 2) (Nat.le_of_ble_eq_true rfl)
  rw [lg_entry_eq]
  generalize (lg_sl ([.ref (ad 0), .int st]) ++ List.replicate (2 - (lg_sl ([.ref (ad 0), .int st])).length) Slot.unset).toArray = ls at hl ⊢
  have hl : lv_has ls 2 [(0, .ref (ad 0)), (1, .int st)] := hl
  refine lv_iload_n hx hb d_R_axle_0 rfl (lv_at hl 1 rfl) ?_
  refine lv_iconst (v := nI 1) hx hb d_R_axle_1 (by decide) ?_
  refine lv_sipush (v := nI 1200) hx hb d_R_axle_2 (by decide) ?_
  refine vp_callSi (va_runS (As := [.int st, .int (nI 1), .int (nI 1200)]) (rest := []) ⟨hx, hb, hml, hown, hts⟩ (c_R_isWithin l dC dI st (nI 1) (nI 1200) ) (cwS 3 hts (g_S t_271 t_207 t_1 t_208) rfl rfl rfl (by decide +kernel) ⟨by decide, by decide⟩) (xR_s (va_P.sub hP [] rfl) (hK.sub [] rfl) hN) rfl rfl hl.1 rfl (lv_room (Nat.le_of_ble_eq_true rfl)) d_R_axle_5 ⟨Nat.zero_le _, Nat.zero_le _⟩).run (fun r5 q5 => ?_)
  obtain ⟨rfl, -⟩ := q5.resolve_right (fun z => z.2 (hok))
  refine va_csv (va_runS (As := [.int (nI 1)]) (rest := []) ⟨hx, hb, hml, hown, hts⟩ (c_R_requireArgument_1 l dC dI  ) (cwS 1 hts (g_S t_272 t_273 t_1 t_274) rfl rfl rfl (by decide +kernel) ⟨by decide, by decide⟩) (xR_s (va_P.sub hP [] rfl) (hK.sub [] rfl) hN) rfl rfl hl.1 rfl (lv_room (Nat.le_of_ble_eq_true rfl)) d_R_axle_8 ⟨Nat.zero_le _, Nat.zero_le _⟩).run (fun q8 => ?_)
  refine lv_aload_n hx hb d_R_axle_11 rfl (lv_at hl 0 rfl) ?_
  refine va_get (D := (dC, dI)) (ci := 4) (v := .ref (ad 2)) (C := R_R) (T := F_R) (N := 7) hx hb hts (fun w h => List.mem_cons_of_mem _ (in_R w h)) hown hK hP 0 rfl rfl 1 (by decide) (hts (.fieldLink R_R 20 R_R "chip" "LWeighRecorder$Chip;") (List.mem_cons_of_mem _ t_115)) (fun _ h9 => h9) rfl d_R_axle_12 ?_
  refine vp_callSi (va_runV (C := R_C) (As := []) (rest := []) ⟨hx, hb, hml, hown, hts⟩ (c_C_isPowered l dC dI ad cd w wr fl (nI 1) sc lw rot vb rec tk live row cur ser dur wo bts us act rd rs  (by first | exact B01.n0 | exact B01.n1)) (cwV 0 hts (g_V t_225 t_226 t_227 t_3 t_228) rfl rfl rfl (by decide +kernel) ⟨by decide, by decide⟩) (xR_v hP hK hN 2 rfl rfl) rfl rfl hl.1 rfl (lv_room (Nat.le_of_ble_eq_true rfl)) d_R_axle_15 ⟨Nat.zero_le _, Nat.zero_le _⟩).run (fun r15 q15 => ?_)
  have q15 := q15.symm
  subst q15
  refine lv_if_eq (tgt := 34) hx hb d_R_axle_18 (by decide) (fun c18 => ?_) (fun c18 => ?_)
  ·
    exact absurd c18 (by decide)
  ·
    refine lv_aload_n hx hb d_R_axle_21 rfl (lv_at hl 0 rfl) ?_
    refine va_get (D := (dC, dI)) (ci := 4) (v := .int rd) (C := R_R) (T := F_R) (N := 7) hx hb hts (fun w h => List.mem_cons_of_mem _ (in_R w h)) hown hK hP 0 rfl rfl 5 (by decide) (hts (.fieldLink R_R 41 R_R "readings" "I") (List.mem_cons_of_mem _ t_119)) (fun _ h9 => h9) rfl d_R_axle_22 ?_
    refine lv_bipush (v := nI 9) hx hb d_R_axle_25 (by decide) ?_
    refine lv_icmp_ge (tgt := 34) hx hb d_R_axle_27 (by decide) (fun c27 => ?_) (fun c27 => ?_)
    ·
      refine lv_iconst (v := nI 0) hx hb d_R_axle_34 (by decide) ?_
      exact th_out (rest := []) hnt hlocks (fun T hT X => th_runS (As := [.int (nI 0)]) (rest := []) ⟨hx, hb, hml, hown, hts⟩ (th_R_requireState l hl9 az) (cwS 1 hts (g_S t_338 t_339 t_1 t_340) rfl rfl rfl (by decide +kernel) ⟨by decide, by decide⟩) (tP_s hz hn) rfl rfl hl.1 rfl (lv_room (Nat.le_of_ble_eq_true rfl)) d_R_axle_35 ⟨by decide, by decide⟩ hT X)
    ·
      exact absurd h9 c27
set_option maxHeartbeats 4000000 in
set_option maxRecDepth 100000 in
theorem th_R_close_a (l : Launch) (hl9 : l.stackTraces = false) (dC : Nat → ClassId) (dI : Nat → Nat → Nat) (ad cd : Nat → Nat) (az : Nat) (w wr fl : Nat → Int32) (pw sc : Int32) (lw rot vb : Nat → Int32) (rec tk : Int32) (live row : Nat → Int32) (cur ser dur wo : Int32) (bts : Nat → Int32) (us : Int32) (act : Nat → Int32) (rd rs : Int32) (plate : Int32) (tare : Int32) (product : Int32) (clock : Int32) (hok : ¬ ((nI 0 ≤ tare ∧ tare ≤ nI 216000) ∧ (nI 0 ≤ product ∧ product ≤ nI 39) ∧ (nI 0 ≤ clock ∧ clock ≤ nI 67108863))) : Thr l y_R_close w_R_close ({ frames := 7, cells := 1, slots := 6, locals := 120 }) (xT (dC, dI) vwCl (xt cd) (xw ad cd w wr fl pw sc lw rot vb rec tk live row cur ser dur wo bts us act rd rs) az [.ref (ad 0), .int plate, .int tare, .int product, .int clock]) E_A := by
  refine Thr.ofW (cc := b_R_close) (maxL := 6) (ret := (some (.int))) (by decide) rfl ?_
  intro P e s m args below meth c0 s₁ B hml hnt hv
  obtain ⟨rfl, hP, hK, hz, hn, hN⟩ := hv
  have hx := B.exec
  have hb := B.bytes
  have hr := B.returns
  have hts := atoms_spec (ws := w_R_close) B.pre
  have hown : s.vm.findClass R_R = some m.cls := findClass_of_methodNamed B.named
  have hlocks := B.notSynchronized
  have hl := lv_entry ([.ref (ad 0), .int plate, .int tare, .int product, .int clock]) (n := 6) (Nat.le_of_ble_eq_true rfl)
  rw [lg_entry_eq]
  generalize (lg_sl ([.ref (ad 0), .int plate, .int tare, .int product, .int clock]) ++ List.replicate (6 - (lg_sl ([.ref (ad 0), .int plate, .int tare, .int product, .int clock])).length) Slot.unset).toArray = ls at hl ⊢
  have hl : lv_has ls 6 [(0, .ref (ad 0)), (1, .int plate), (2, .int tare), (3, .int product), (4, .int clock)] := hl
  refine lv_iload_n hx hb d_R_close_0 rfl (lv_at hl 2 rfl) ?_
  refine lv_iconst (v := nI 0) hx hb d_R_close_1 (by decide) ?_
  refine lv_ldc (v := nI 216000) hx hb hown (hts (.constant R_R 65 216000) (List.mem_cons_of_mem _ t_363)) d_R_close_2 ?_
  refine vp_callSi (va_runS (As := [.int tare, .int (nI 0), .int (nI 216000)]) (rest := []) ⟨hx, hb, hml, hown, hts⟩ (c_R_isWithin l dC dI tare (nI 0) (nI 216000) ) (cwS 3 hts (g_S t_271 t_207 t_1 t_208) rfl rfl rfl (by decide +kernel) ⟨by decide, by decide⟩) (xR_s (va_P.sub hP [] rfl) (hK.sub [] rfl) hN) rfl rfl hl.1 rfl (lv_room (Nat.le_of_ble_eq_true rfl)) d_R_close_4 ⟨Nat.zero_le _, Nat.zero_le _⟩).run (fun r4 q4 => ?_)
  rcases q4 with ⟨rfl, hin4⟩ | ⟨rfl, hin4⟩
  ·
    refine va_csv (va_runS (As := [.int (nI 1)]) (rest := []) ⟨hx, hb, hml, hown, hts⟩ (c_R_requireArgument_1 l dC dI  ) (cwS 1 hts (g_S t_272 t_273 t_1 t_274) rfl rfl rfl (by decide +kernel) ⟨by decide, by decide⟩) (xR_s (va_P.sub hP [] rfl) (hK.sub [] rfl) hN) rfl rfl hl.1 rfl (lv_room (Nat.le_of_ble_eq_true rfl)) d_R_close_7 ⟨Nat.zero_le _, Nat.zero_le _⟩).run (fun q7 => ?_)
    refine lv_iload_n hx hb d_R_close_10 rfl (lv_at hl 3 rfl) ?_
    refine vp_callSi (va_runS (As := [.int product]) (rest := []) ⟨hx, hb, hml, hown, hts⟩ (c_R_isProduct l dC dI product ) (cwS 1 hts (g_S t_364 t_365 t_1 t_366) rfl rfl rfl (by decide +kernel) ⟨by decide, by decide⟩) (xR_s (va_P.sub hP [] rfl) (hK.sub [] rfl) hN) rfl rfl hl.1 rfl (lv_room (Nat.le_of_ble_eq_true rfl)) d_R_close_11 ⟨Nat.zero_le _, Nat.zero_le _⟩).run (fun r11 q11 => ?_)
    rcases q11 with ⟨rfl, hin11⟩ | ⟨rfl, hin11⟩
    ·
      refine va_csv (va_runS (As := [.int (nI 1)]) (rest := []) ⟨hx, hb, hml, hown, hts⟩ (c_R_requireArgument_1 l dC dI  ) (cwS 1 hts (g_S t_272 t_273 t_1 t_274) rfl rfl rfl (by decide +kernel) ⟨by decide, by decide⟩) (xR_s (va_P.sub hP [] rfl) (hK.sub [] rfl) hN) rfl rfl hl.1 rfl (lv_room (Nat.le_of_ble_eq_true rfl)) d_R_close_14 ⟨Nat.zero_le _, Nat.zero_le _⟩).run (fun q14 => ?_)
      refine lv_iload hx hb d_R_close_17 (lv_at hl 4 rfl) ?_
      refine lv_iconst (v := nI 0) hx hb d_R_close_19 (by decide) ?_
      refine lv_ldc (v := nI 67108863) hx hb hown (hts (.constant R_R 70 67108863) (List.mem_cons_of_mem _ t_367)) d_R_close_20 ?_
      refine vp_callSi (va_runS (As := [.int clock, .int (nI 0), .int (nI 67108863)]) (rest := []) ⟨hx, hb, hml, hown, hts⟩ (c_R_isWithin l dC dI clock (nI 0) (nI 67108863) ) (cwS 3 hts (g_S t_271 t_207 t_1 t_208) rfl rfl rfl (by decide +kernel) ⟨by decide, by decide⟩) (xR_s (va_P.sub hP [] rfl) (hK.sub [] rfl) hN) rfl rfl hl.1 rfl (lv_room (Nat.le_of_ble_eq_true rfl)) d_R_close_22 ⟨Nat.zero_le _, Nat.zero_le _⟩).run (fun r22 q22 => ?_)
      rcases q22 with ⟨rfl, hin22⟩ | ⟨rfl, hin22⟩
      ·
        refine va_csv (va_runS (As := [.int (nI 1)]) (rest := []) ⟨hx, hb, hml, hown, hts⟩ (c_R_requireArgument_1 l dC dI  ) (cwS 1 hts (g_S t_272 t_273 t_1 t_274) rfl rfl rfl (by decide +kernel) ⟨by decide, by decide⟩) (xR_s (va_P.sub hP [] rfl) (hK.sub [] rfl) hN) rfl rfl hl.1 rfl (lv_room (Nat.le_of_ble_eq_true rfl)) d_R_close_25 ⟨Nat.zero_le _, Nat.zero_le _⟩).run (fun q25 => ?_)
        exact absurd ⟨hin4, hin11, hin22⟩ hok
      ·
        exact th_out (rest := []) hnt hlocks (fun T hT X => th_runS (As := [.int (nI 0)]) (rest := []) ⟨hx, hb, hml, hown, hts⟩ (th_R_requireArgument l hl9 az) (cwS 1 hts (g_S t_272 t_273 t_1 t_274) rfl rfl rfl (by decide +kernel) ⟨by decide, by decide⟩) (tP_s hz hn) rfl rfl hl.1 rfl (lv_room (Nat.le_of_ble_eq_true rfl)) d_R_close_25 ⟨by decide, by decide⟩ hT X)
    ·
      exact th_out (rest := []) hnt hlocks (fun T hT X => th_runS (As := [.int (nI 0)]) (rest := []) ⟨hx, hb, hml, hown, hts⟩ (th_R_requireArgument l hl9 az) (cwS 1 hts (g_S t_272 t_273 t_1 t_274) rfl rfl rfl (by decide +kernel) ⟨by decide, by decide⟩) (tP_s hz hn) rfl rfl hl.1 rfl (lv_room (Nat.le_of_ble_eq_true rfl)) d_R_close_14 ⟨by decide, by decide⟩ hT X)
  ·
    exact th_out (rest := []) hnt hlocks (fun T hT X => th_runS (As := [.int (nI 0)]) (rest := []) ⟨hx, hb, hml, hown, hts⟩ (th_R_requireArgument l hl9 az) (cwS 1 hts (g_S t_272 t_273 t_1 t_274) rfl rfl rfl (by decide +kernel) ⟨by decide, by decide⟩) (tP_s hz hn) rfl rfl hl.1 rfl (lv_room (Nat.le_of_ble_eq_true rfl)) d_R_close_7 ⟨by decide, by decide⟩ hT X)
set_option maxHeartbeats 4000000 in
set_option maxRecDepth 100000 in
theorem th_R_close_o (l : Launch) (hl9 : l.stackTraces = false) (dC : Nat → ClassId) (dI : Nat → Nat → Nat) (ad cd : Nat → Nat) (az : Nat) (w wr fl : Nat → Int32) (pw sc : Int32) (lw rot vb : Nat → Int32) (rec tk : Int32) (live row : Nat → Int32) (cur ser dur wo : Int32) (bts : Nat → Int32) (us : Int32) (act : Nat → Int32) (rd rs : Int32) (plate : Int32) (tare : Int32) (product : Int32) (clock : Int32) (hok : ((nI 0 ≤ tare ∧ tare ≤ nI 216000) ∧ (nI 0 ≤ product ∧ product ≤ nI 39) ∧ (nI 0 ≤ clock ∧ clock ≤ nI 67108863))) : Thr l y_R_close w_R_close ({ frames := 7, cells := 1, slots := 6, locals := 120 }) (xT (dC, dI) vwCl (xt cd) (xw ad cd w wr fl (nI 0) sc lw rot vb rec tk live row cur ser dur wo bts us act rd rs) az [.ref (ad 0), .int plate, .int tare, .int product, .int clock]) E_S := by
  refine Thr.ofW (cc := b_R_close) (maxL := 6) (ret := (some (.int))) (by decide) rfl ?_
  intro P e s m args below meth c0 s₁ B hml hnt hv
  obtain ⟨rfl, hP, hK, hz, hn, hN⟩ := hv
  have hx := B.exec
  have hb := B.bytes
  have hr := B.returns
  have hts := atoms_spec (ws := w_R_close) B.pre
  have hown : s.vm.findClass R_R = some m.cls := findClass_of_methodNamed B.named
  have hlocks := B.notSynchronized
  have hl := lv_entry ([.ref (ad 0), .int plate, .int tare, .int product, .int clock]) (n := 6) (Nat.le_of_ble_eq_true rfl)
  rw [lg_entry_eq]
  generalize (lg_sl ([.ref (ad 0), .int plate, .int tare, .int product, .int clock]) ++ List.replicate (6 - (lg_sl ([.ref (ad 0), .int plate, .int tare, .int product, .int clock])).length) Slot.unset).toArray = ls at hl ⊢
  have hl : lv_has ls 6 [(0, .ref (ad 0)), (1, .int plate), (2, .int tare), (3, .int product), (4, .int clock)] := hl
  refine lv_iload_n hx hb d_R_close_0 rfl (lv_at hl 2 rfl) ?_
  refine lv_iconst (v := nI 0) hx hb d_R_close_1 (by decide) ?_
  refine lv_ldc (v := nI 216000) hx hb hown (hts (.constant R_R 65 216000) (List.mem_cons_of_mem _ t_363)) d_R_close_2 ?_
  refine vp_callSi (va_runS (As := [.int tare, .int (nI 0), .int (nI 216000)]) (rest := []) ⟨hx, hb, hml, hown, hts⟩ (c_R_isWithin l dC dI tare (nI 0) (nI 216000) ) (cwS 3 hts (g_S t_271 t_207 t_1 t_208) rfl rfl rfl (by decide +kernel) ⟨by decide, by decide⟩) (xR_s (va_P.sub hP [] rfl) (hK.sub [] rfl) hN) rfl rfl hl.1 rfl (lv_room (Nat.le_of_ble_eq_true rfl)) d_R_close_4 ⟨Nat.zero_le _, Nat.zero_le _⟩).run (fun r4 q4 => ?_)
  obtain ⟨rfl, -⟩ := q4.resolve_right (fun z => z.2 (hok.1))
  refine va_csv (va_runS (As := [.int (nI 1)]) (rest := []) ⟨hx, hb, hml, hown, hts⟩ (c_R_requireArgument_1 l dC dI  ) (cwS 1 hts (g_S t_272 t_273 t_1 t_274) rfl rfl rfl (by decide +kernel) ⟨by decide, by decide⟩) (xR_s (va_P.sub hP [] rfl) (hK.sub [] rfl) hN) rfl rfl hl.1 rfl (lv_room (Nat.le_of_ble_eq_true rfl)) d_R_close_7 ⟨Nat.zero_le _, Nat.zero_le _⟩).run (fun q7 => ?_)
  refine lv_iload_n hx hb d_R_close_10 rfl (lv_at hl 3 rfl) ?_
  refine vp_callSi (va_runS (As := [.int product]) (rest := []) ⟨hx, hb, hml, hown, hts⟩ (c_R_isProduct l dC dI product ) (cwS 1 hts (g_S t_364 t_365 t_1 t_366) rfl rfl rfl (by decide +kernel) ⟨by decide, by decide⟩) (xR_s (va_P.sub hP [] rfl) (hK.sub [] rfl) hN) rfl rfl hl.1 rfl (lv_room (Nat.le_of_ble_eq_true rfl)) d_R_close_11 ⟨Nat.zero_le _, Nat.zero_le _⟩).run (fun r11 q11 => ?_)
  obtain ⟨rfl, -⟩ := q11.resolve_right (fun z => z.2 (hok.2.1))
  refine va_csv (va_runS (As := [.int (nI 1)]) (rest := []) ⟨hx, hb, hml, hown, hts⟩ (c_R_requireArgument_1 l dC dI  ) (cwS 1 hts (g_S t_272 t_273 t_1 t_274) rfl rfl rfl (by decide +kernel) ⟨by decide, by decide⟩) (xR_s (va_P.sub hP [] rfl) (hK.sub [] rfl) hN) rfl rfl hl.1 rfl (lv_room (Nat.le_of_ble_eq_true rfl)) d_R_close_14 ⟨Nat.zero_le _, Nat.zero_le _⟩).run (fun q14 => ?_)
  refine lv_iload hx hb d_R_close_17 (lv_at hl 4 rfl) ?_
  refine lv_iconst (v := nI 0) hx hb d_R_close_19 (by decide) ?_
  refine lv_ldc (v := nI 67108863) hx hb hown (hts (.constant R_R 70 67108863) (List.mem_cons_of_mem _ t_367)) d_R_close_20 ?_
  refine vp_callSi (va_runS (As := [.int clock, .int (nI 0), .int (nI 67108863)]) (rest := []) ⟨hx, hb, hml, hown, hts⟩ (c_R_isWithin l dC dI clock (nI 0) (nI 67108863) ) (cwS 3 hts (g_S t_271 t_207 t_1 t_208) rfl rfl rfl (by decide +kernel) ⟨by decide, by decide⟩) (xR_s (va_P.sub hP [] rfl) (hK.sub [] rfl) hN) rfl rfl hl.1 rfl (lv_room (Nat.le_of_ble_eq_true rfl)) d_R_close_22 ⟨Nat.zero_le _, Nat.zero_le _⟩).run (fun r22 q22 => ?_)
  obtain ⟨rfl, -⟩ := q22.resolve_right (fun z => z.2 (hok.2.2))
  refine va_csv (va_runS (As := [.int (nI 1)]) (rest := []) ⟨hx, hb, hml, hown, hts⟩ (c_R_requireArgument_1 l dC dI  ) (cwS 1 hts (g_S t_272 t_273 t_1 t_274) rfl rfl rfl (by decide +kernel) ⟨by decide, by decide⟩) (xR_s (va_P.sub hP [] rfl) (hK.sub [] rfl) hN) rfl rfl hl.1 rfl (lv_room (Nat.le_of_ble_eq_true rfl)) d_R_close_25 ⟨Nat.zero_le _, Nat.zero_le _⟩).run (fun q25 => ?_)
  refine lv_aload_n hx hb d_R_close_28 rfl (lv_at hl 0 rfl) ?_
  refine va_get (D := (dC, dI)) (ci := 4) (v := .ref (ad 2)) (C := R_R) (T := F_R) (N := 7) hx hb hts (fun w h => List.mem_cons_of_mem _ (in_R w h)) hown hK hP 0 rfl rfl 1 (by decide) (hts (.fieldLink R_R 20 R_R "chip" "LWeighRecorder$Chip;") (List.mem_cons_of_mem _ t_115)) (fun _ h9 => h9) rfl d_R_close_29 ?_
  refine vp_callSi (va_runV (C := R_C) (As := []) (rest := []) ⟨hx, hb, hml, hown, hts⟩ (c_C_isPowered l dC dI ad cd w wr fl (nI 0) sc lw rot vb rec tk live row cur ser dur wo bts us act rd rs  (by first | exact B01.n0 | exact B01.n1)) (cwV 0 hts (g_V t_225 t_226 t_227 t_3 t_228) rfl rfl rfl (by decide +kernel) ⟨by decide, by decide⟩) (xR_v hP hK hN 2 rfl rfl) rfl rfl hl.1 rfl (lv_room (Nat.le_of_ble_eq_true rfl)) d_R_close_32 ⟨Nat.zero_le _, Nat.zero_le _⟩).run (fun r32 q32 => ?_)
  have q32 := q32.symm
  subst q32
  exact th_out (rest := []) hnt hlocks (fun T hT X => th_runS (As := [.int (nI 0)]) (rest := []) ⟨hx, hb, hml, hown, hts⟩ (th_R_requireState l hl9 az) (cwS 1 hts (g_S t_338 t_339 t_1 t_340) rfl rfl rfl (by decide +kernel) ⟨by decide, by decide⟩) (tP_s hz hn) rfl rfl hl.1 rfl (lv_room (Nat.le_of_ble_eq_true rfl)) d_R_close_35 ⟨by decide, by decide⟩ hT X)
set_option maxHeartbeats 4000000 in
set_option maxRecDepth 100000 in
theorem th_R_annul_a (l : Launch) (hl9 : l.stackTraces = false) (dC : Nat → ClassId) (dI : Nat → Nat → Nat) (ad cd : Nat → Nat) (az : Nat) (w wr fl : Nat → Int32) (pw sc : Int32) (lw rot vb : Nat → Int32) (rec tk : Int32) (live row : Nat → Int32) (cur ser dur wo : Int32) (bts : Nat → Int32) (us : Int32) (act : Nat → Int32) (rd rs : Int32) (tno : Int32) (rea : Int32) (hok : ¬ (nI 0 ≤ rea ∧ rea ≤ nI 3)) : Thr l y_R_annul w_R_annul ({ frames := 7, cells := 1, slots := 6, locals := 120 }) (xT (dC, dI) vwCl (xt cd) (xw ad cd w wr fl pw sc lw rot vb rec tk live row cur ser dur wo bts us act rd rs) az [.ref (ad 0), .int tno, .int rea]) E_A := by
  refine Thr.ofW (cc := b_R_annul) (maxL := 3) (ret := (some (.int))) (by decide) rfl ?_
  intro P e s m args below meth c0 s₁ B hml hnt hv
  obtain ⟨rfl, hP, hK, hz, hn, hN⟩ := hv
  have hx := B.exec
  have hb := B.bytes
  have hr := B.returns
  have hts := atoms_spec (ws := w_R_annul) B.pre
  have hown : s.vm.findClass R_R = some m.cls := findClass_of_methodNamed B.named
  have hlocks := B.notSynchronized
  have hl := lv_entry ([.ref (ad 0), .int tno, .int rea]) (n := 3) (Nat.le_of_ble_eq_true rfl)
  rw [lg_entry_eq]
  generalize (lg_sl ([.ref (ad 0), .int tno, .int rea]) ++ List.replicate (3 - (lg_sl ([.ref (ad 0), .int tno, .int rea])).length) Slot.unset).toArray = ls at hl ⊢
  have hl : lv_has ls 3 [(0, .ref (ad 0)), (1, .int tno), (2, .int rea)] := hl
  refine lv_iload_n hx hb d_R_annul_0 rfl (lv_at hl 2 rfl) ?_
  refine lv_iconst (v := nI 0) hx hb d_R_annul_1 (by decide) ?_
  refine lv_iconst (v := nI 3) hx hb d_R_annul_2 (by decide) ?_
  refine vp_callSi (va_runS (As := [.int rea, .int (nI 0), .int (nI 3)]) (rest := []) ⟨hx, hb, hml, hown, hts⟩ (c_R_isWithin l dC dI rea (nI 0) (nI 3) ) (cwS 3 hts (g_S t_271 t_207 t_1 t_208) rfl rfl rfl (by decide +kernel) ⟨by decide, by decide⟩) (xR_s (va_P.sub hP [] rfl) (hK.sub [] rfl) hN) rfl rfl hl.1 rfl (lv_room (Nat.le_of_ble_eq_true rfl)) d_R_annul_3 ⟨Nat.zero_le _, Nat.zero_le _⟩).run (fun r3 q3 => ?_)
  obtain ⟨rfl, -⟩ := q3.resolve_left (fun z => (hok) z.2)
  exact th_out (rest := []) hnt hlocks (fun T hT X => th_runS (As := [.int (nI 0)]) (rest := []) ⟨hx, hb, hml, hown, hts⟩ (th_R_requireArgument l hl9 az) (cwS 1 hts (g_S t_272 t_273 t_1 t_274) rfl rfl rfl (by decide +kernel) ⟨by decide, by decide⟩) (tP_s hz hn) rfl rfl hl.1 rfl (lv_room (Nat.le_of_ble_eq_true rfl)) d_R_annul_6 ⟨by decide, by decide⟩ hT X)
set_option maxHeartbeats 4000000 in
set_option maxRecDepth 100000 in
theorem th_R_annul_o (l : Launch) (hl9 : l.stackTraces = false) (dC : Nat → ClassId) (dI : Nat → Nat → Nat) (ad cd : Nat → Nat) (az : Nat) (w wr fl : Nat → Int32) (pw sc : Int32) (lw rot vb : Nat → Int32) (rec tk : Int32) (live row : Nat → Int32) (cur ser dur wo : Int32) (bts : Nat → Int32) (us : Int32) (act : Nat → Int32) (rd rs : Int32) (tno : Int32) (rea : Int32) (hok : (nI 0 ≤ rea ∧ rea ≤ nI 3)) : Thr l y_R_annul w_R_annul ({ frames := 7, cells := 1, slots := 6, locals := 120 }) (xT (dC, dI) vwCl (xt cd) (xw ad cd w wr fl (nI 0) sc lw rot vb rec tk live row cur ser dur wo bts us act rd rs) az [.ref (ad 0), .int tno, .int rea]) E_S := by
  refine Thr.ofW (cc := b_R_annul) (maxL := 3) (ret := (some (.int))) (by decide) rfl ?_
  intro P e s m args below meth c0 s₁ B hml hnt hv
  obtain ⟨rfl, hP, hK, hz, hn, hN⟩ := hv
  have hx := B.exec
  have hb := B.bytes
  have hr := B.returns
  have hts := atoms_spec (ws := w_R_annul) B.pre
  have hown : s.vm.findClass R_R = some m.cls := findClass_of_methodNamed B.named
  have hlocks := B.notSynchronized
  have hl := lv_entry ([.ref (ad 0), .int tno, .int rea]) (n := 3) (Nat.le_of_ble_eq_true rfl)
  rw [lg_entry_eq]
  generalize (lg_sl ([.ref (ad 0), .int tno, .int rea]) ++ List.replicate (3 - (lg_sl ([.ref (ad 0), .int tno, .int rea])).length) Slot.unset).toArray = ls at hl ⊢
  have hl : lv_has ls 3 [(0, .ref (ad 0)), (1, .int tno), (2, .int rea)] := hl
  refine lv_iload_n hx hb d_R_annul_0 rfl (lv_at hl 2 rfl) ?_
  refine lv_iconst (v := nI 0) hx hb d_R_annul_1 (by decide) ?_
  refine lv_iconst (v := nI 3) hx hb d_R_annul_2 (by decide) ?_
  refine vp_callSi (va_runS (As := [.int rea, .int (nI 0), .int (nI 3)]) (rest := []) ⟨hx, hb, hml, hown, hts⟩ (c_R_isWithin l dC dI rea (nI 0) (nI 3) ) (cwS 3 hts (g_S t_271 t_207 t_1 t_208) rfl rfl rfl (by decide +kernel) ⟨by decide, by decide⟩) (xR_s (va_P.sub hP [] rfl) (hK.sub [] rfl) hN) rfl rfl hl.1 rfl (lv_room (Nat.le_of_ble_eq_true rfl)) d_R_annul_3 ⟨Nat.zero_le _, Nat.zero_le _⟩).run (fun r3 q3 => ?_)
  obtain ⟨rfl, -⟩ := q3.resolve_right (fun z => z.2 (hok))
  refine va_csv (va_runS (As := [.int (nI 1)]) (rest := []) ⟨hx, hb, hml, hown, hts⟩ (c_R_requireArgument_1 l dC dI  ) (cwS 1 hts (g_S t_272 t_273 t_1 t_274) rfl rfl rfl (by decide +kernel) ⟨by decide, by decide⟩) (xR_s (va_P.sub hP [] rfl) (hK.sub [] rfl) hN) rfl rfl hl.1 rfl (lv_room (Nat.le_of_ble_eq_true rfl)) d_R_annul_6 ⟨Nat.zero_le _, Nat.zero_le _⟩).run (fun q6 => ?_)
  refine lv_aload_n hx hb d_R_annul_9 rfl (lv_at hl 0 rfl) ?_
  refine va_get (D := (dC, dI)) (ci := 4) (v := .ref (ad 2)) (C := R_R) (T := F_R) (N := 7) hx hb hts (fun w h => List.mem_cons_of_mem _ (in_R w h)) hown hK hP 0 rfl rfl 1 (by decide) (hts (.fieldLink R_R 20 R_R "chip" "LWeighRecorder$Chip;") (List.mem_cons_of_mem _ t_115)) (fun _ h9 => h9) rfl d_R_annul_10 ?_
  refine vp_callSi (va_runV (C := R_C) (As := []) (rest := []) ⟨hx, hb, hml, hown, hts⟩ (c_C_isPowered l dC dI ad cd w wr fl (nI 0) sc lw rot vb rec tk live row cur ser dur wo bts us act rd rs  (by first | exact B01.n0 | exact B01.n1)) (cwV 0 hts (g_V t_225 t_226 t_227 t_3 t_228) rfl rfl rfl (by decide +kernel) ⟨by decide, by decide⟩) (xR_v hP hK hN 2 rfl rfl) rfl rfl hl.1 rfl (lv_room (Nat.le_of_ble_eq_true rfl)) d_R_annul_13 ⟨Nat.zero_le _, Nat.zero_le _⟩).run (fun r13 q13 => ?_)
  have q13 := q13.symm
  subst q13
  exact th_out (rest := []) hnt hlocks (fun T hT X => th_runS (As := [.int (nI 0)]) (rest := []) ⟨hx, hb, hml, hown, hts⟩ (th_R_requireState l hl9 az) (cwS 1 hts (g_S t_338 t_339 t_1 t_340) rfl rfl rfl (by decide +kernel) ⟨by decide, by decide⟩) (tP_s hz hn) rfl rfl hl.1 rfl (lv_room (Nat.le_of_ble_eq_true rfl)) d_R_annul_16 ⟨by decide, by decide⟩ hT X)
set_option maxHeartbeats 4000000 in
set_option maxRecDepth 100000 in
theorem th_R_sync_o (l : Launch) (hl9 : l.stackTraces = false) (dC : Nat → ClassId) (dI : Nat → Nat → Nat) (ad cd : Nat → Nat) (az : Nat) (w wr fl : Nat → Int32) (pw sc : Int32) (lw rot vb : Nat → Int32) (rec tk : Int32) (live row : Nat → Int32) (cur ser dur wo : Int32) (bts : Nat → Int32) (us : Int32) (act : Nat → Int32) (rd rs : Int32)  : Thr l y_R_sync w_R_sync ({ frames := 7, cells := 1, slots := 6, locals := 120 }) (xT (dC, dI) vwCl (xt cd) (xw ad cd w wr fl (nI 0) sc lw rot vb rec tk live row cur ser dur wo bts us act rd rs) az [.ref (ad 0)]) E_S := by
  refine Thr.ofW (cc := b_R_sync) (maxL := 2) (ret := (some (.int))) (by decide) rfl ?_
  intro P e s m args below meth c0 s₁ B hml hnt hv
  obtain ⟨rfl, hP, hK, hz, hn, hN⟩ := hv
  have hx := B.exec
  have hb := B.bytes
  have hr := B.returns
  have hts := atoms_spec (ws := w_R_sync) B.pre
  have hown : s.vm.findClass R_R = some m.cls := findClass_of_methodNamed B.named
  have hlocks := B.notSynchronized
  have hl := lv_entry ([.ref (ad 0)]) (n := 2) (Nat.le_of_ble_eq_true rfl)
  rw [lg_entry_eq]
  generalize (lg_sl ([.ref (ad 0)]) ++ List.replicate (2 - (lg_sl ([.ref (ad 0)])).length) Slot.unset).toArray = ls at hl ⊢
  have hl : lv_has ls 2 [(0, .ref (ad 0))] := hl
  refine lv_aload_n hx hb d_R_sync_0 rfl (lv_at hl 0 rfl) ?_
  refine va_get (D := (dC, dI)) (ci := 4) (v := .ref (ad 2)) (C := R_R) (T := F_R) (N := 7) hx hb hts (fun w h => List.mem_cons_of_mem _ (in_R w h)) hown hK hP 0 rfl rfl 1 (by decide) (hts (.fieldLink R_R 20 R_R "chip" "LWeighRecorder$Chip;") (List.mem_cons_of_mem _ t_115)) (fun _ h9 => h9) rfl d_R_sync_1 ?_
  refine vp_callSi (va_runV (C := R_C) (As := []) (rest := []) ⟨hx, hb, hml, hown, hts⟩ (c_C_isPowered l dC dI ad cd w wr fl (nI 0) sc lw rot vb rec tk live row cur ser dur wo bts us act rd rs  (by first | exact B01.n0 | exact B01.n1)) (cwV 0 hts (g_V t_225 t_226 t_227 t_3 t_228) rfl rfl rfl (by decide +kernel) ⟨by decide, by decide⟩) (xR_v hP hK hN 2 rfl rfl) rfl rfl hl.1 rfl (lv_room (Nat.le_of_ble_eq_true rfl)) d_R_sync_4 ⟨Nat.zero_le _, Nat.zero_le _⟩).run (fun r4 q4 => ?_)
  have q4 := q4.symm
  subst q4
  exact th_out (rest := []) hnt hlocks (fun T hT X => th_runS (As := [.int (nI 0)]) (rest := []) ⟨hx, hb, hml, hown, hts⟩ (th_R_requireState l hl9 az) (cwS 1 hts (g_S t_338 t_339 t_1 t_340) rfl rfl rfl (by decide +kernel) ⟨by decide, by decide⟩) (tP_s hz hn) rfl rfl hl.1 rfl (lv_room (Nat.le_of_ble_eq_true rfl)) d_R_sync_7 ⟨by decide, by decide⟩ hT X)
set_option maxHeartbeats 4000000 in
set_option maxRecDepth 100000 in
theorem th_R_ticket_o (l : Launch) (hl9 : l.stackTraces = false) (dC : Nat → ClassId) (dI : Nat → Nat → Nat) (ad cd : Nat → Nat) (az : Nat) (w wr fl : Nat → Int32) (pw sc : Int32) (lw rot vb : Nat → Int32) (rec tk : Int32) (live row : Nat → Int32) (cur ser dur wo : Int32) (bts : Nat → Int32) (us : Int32) (act : Nat → Int32) (rd rs : Int32) (tno : Int32) (what : Int32) : Thr l y_R_ticket w_R_ticket ({ frames := 7, cells := 1, slots := 6, locals := 120 }) (xT (dC, dI) vwCl (xt cd) (xw ad cd w wr fl (nI 0) sc lw rot vb rec tk live row cur ser dur wo bts us act rd rs) az [.ref (ad 0), .int tno, .int what]) E_S := by
  refine Thr.ofW (cc := b_R_ticket) (maxL := 3) (ret := (some (.int))) (by decide) rfl ?_
  intro P e s m args below meth c0 s₁ B hml hnt hv
  obtain ⟨rfl, hP, hK, hz, hn, hN⟩ := hv
  have hx := B.exec
  have hb := B.bytes
  have hr := B.returns
  have hts := atoms_spec (ws := w_R_ticket) B.pre
  have hown : s.vm.findClass R_R = some m.cls := findClass_of_methodNamed B.named
  have hlocks := B.notSynchronized
  have hl := lv_entry ([.ref (ad 0), .int tno, .int what]) (n := 3) (Nat.le_of_ble_eq_true rfl)
  rw [lg_entry_eq]
  generalize (lg_sl ([.ref (ad 0), .int tno, .int what]) ++ List.replicate (3 - (lg_sl ([.ref (ad 0), .int tno, .int what])).length) Slot.unset).toArray = ls at hl ⊢
  have hl : lv_has ls 3 [(0, .ref (ad 0)), (1, .int tno), (2, .int what)] := hl
  refine lv_aload_n hx hb d_R_ticket_0 rfl (lv_at hl 0 rfl) ?_
  refine va_get (D := (dC, dI)) (ci := 4) (v := .ref (ad 2)) (C := R_R) (T := F_R) (N := 7) hx hb hts (fun w h => List.mem_cons_of_mem _ (in_R w h)) hown hK hP 0 rfl rfl 1 (by decide) (hts (.fieldLink R_R 20 R_R "chip" "LWeighRecorder$Chip;") (List.mem_cons_of_mem _ t_115)) (fun _ h9 => h9) rfl d_R_ticket_1 ?_
  refine vp_callSi (va_runV (C := R_C) (As := []) (rest := []) ⟨hx, hb, hml, hown, hts⟩ (c_C_isPowered l dC dI ad cd w wr fl (nI 0) sc lw rot vb rec tk live row cur ser dur wo bts us act rd rs  (by first | exact B01.n0 | exact B01.n1)) (cwV 0 hts (g_V t_225 t_226 t_227 t_3 t_228) rfl rfl rfl (by decide +kernel) ⟨by decide, by decide⟩) (xR_v hP hK hN 2 rfl rfl) rfl rfl hl.1 rfl (lv_room (Nat.le_of_ble_eq_true rfl)) d_R_ticket_4 ⟨Nat.zero_le _, Nat.zero_le _⟩).run (fun r4 q4 => ?_)
  have q4 := q4.symm
  subst q4
  exact th_out (rest := []) hnt hlocks (fun T hT X => th_runS (As := [.int (nI 0)]) (rest := []) ⟨hx, hb, hml, hown, hts⟩ (th_R_requireState l hl9 az) (cwS 1 hts (g_S t_338 t_339 t_1 t_340) rfl rfl rfl (by decide +kernel) ⟨by decide, by decide⟩) (tP_s hz hn) rfl rfl hl.1 rfl (lv_room (Nat.le_of_ble_eq_true rfl)) d_R_ticket_7 ⟨by decide, by decide⟩ hT X)
set_option maxHeartbeats 4000000 in
set_option maxRecDepth 100000 in
theorem th_R_ticket_i (l : Launch) (hl9 : l.stackTraces = false) (dC : Nat → ClassId) (dI : Nat → Nat → Nat) (ad cd : Nat → Nat) (az : Nat) (w wr fl : Nat → Int32) (pw sc : Int32) (lw rot vb : Nat → Int32) (rec tk : Int32) (live row : Nat → Int32) (cur ser dur wo : Int32) (bts : Nat → Int32) (us : Int32) (act : Nat → Int32) (rd rs : Int32) (tn : Nat) (tno : Int32) (what : Int32) (hok : ¬ ((nI 1 ≤ tno ∧ tno ≤ nI tn) ∧ (nI 0 ≤ what ∧ what ≤ nI 6))) : Thr l y_R_ticket w_R_ticket ({ frames := 7, cells := 1, slots := 6, locals := 120 }) (xT (dC, dI) vwCl (xt cd) (xw ad cd w wr fl (nI 1) sc lw rot vb rec (nI tn) live row cur ser dur wo bts us act rd rs) az [.ref (ad 0), .int tno, .int what]) E_I := by
  refine Thr.ofW (cc := b_R_ticket) (maxL := 3) (ret := (some (.int))) (by decide) rfl ?_
  intro P e s m args below meth c0 s₁ B hml hnt hv
  obtain ⟨rfl, hP, hK, hz, hn, hN⟩ := hv
  have hx := B.exec
  have hb := B.bytes
  have hr := B.returns
  have hts := atoms_spec (ws := w_R_ticket) B.pre
  have hown : s.vm.findClass R_R = some m.cls := findClass_of_methodNamed B.named
  have hlocks := B.notSynchronized
  have hl := lv_entry ([.ref (ad 0), .int tno, .int what]) (n := 3) (Nat.le_of_ble_eq_true rfl)
  rw [lg_entry_eq]
  generalize (lg_sl ([.ref (ad 0), .int tno, .int what]) ++ List.replicate (3 - (lg_sl ([.ref (ad 0), .int tno, .int what])).length) Slot.unset).toArray = ls at hl ⊢
  have hl : lv_has ls 3 [(0, .ref (ad 0)), (1, .int tno), (2, .int what)] := hl
  refine lv_aload_n hx hb d_R_ticket_0 rfl (lv_at hl 0 rfl) ?_
  refine va_get (D := (dC, dI)) (ci := 4) (v := .ref (ad 2)) (C := R_R) (T := F_R) (N := 7) hx hb hts (fun w h => List.mem_cons_of_mem _ (in_R w h)) hown hK hP 0 rfl rfl 1 (by decide) (hts (.fieldLink R_R 20 R_R "chip" "LWeighRecorder$Chip;") (List.mem_cons_of_mem _ t_115)) (fun _ h9 => h9) rfl d_R_ticket_1 ?_
  refine vp_callSi (va_runV (C := R_C) (As := []) (rest := []) ⟨hx, hb, hml, hown, hts⟩ (c_C_isPowered l dC dI ad cd w wr fl (nI 1) sc lw rot vb rec (nI tn) live row cur ser dur wo bts us act rd rs  (by first | exact B01.n0 | exact B01.n1)) (cwV 0 hts (g_V t_225 t_226 t_227 t_3 t_228) rfl rfl rfl (by decide +kernel) ⟨by decide, by decide⟩) (xR_v hP hK hN 2 rfl rfl) rfl rfl hl.1 rfl (lv_room (Nat.le_of_ble_eq_true rfl)) d_R_ticket_4 ⟨Nat.zero_le _, Nat.zero_le _⟩).run (fun r4 q4 => ?_)
  have q4 := q4.symm
  subst q4
  refine va_csv (va_runS (As := [.int (nI 1)]) (rest := []) ⟨hx, hb, hml, hown, hts⟩ (c_R_requireState_1 l dC dI  ) (cwS 1 hts (g_S t_338 t_339 t_1 t_340) rfl rfl rfl (by decide +kernel) ⟨by decide, by decide⟩) (xR_s (va_P.sub hP [] rfl) (hK.sub [] rfl) hN) rfl rfl hl.1 rfl (lv_room (Nat.le_of_ble_eq_true rfl)) d_R_ticket_7 ⟨Nat.zero_le _, Nat.zero_le _⟩).run (fun q7 => ?_)
  refine lv_aload_n hx hb d_R_ticket_10 rfl (lv_at hl 0 rfl) ?_
  refine va_get (D := (dC, dI)) (ci := 4) (v := .ref (ad 3)) (C := R_R) (T := F_R) (N := 7) hx hb hts (fun w h => List.mem_cons_of_mem _ (in_R w h)) hown hK hP 0 rfl rfl 2 (by decide) (hts (.fieldLink R_R 26 R_R "log" "LWeighRecorder$Log;") (List.mem_cons_of_mem _ t_116)) (fun _ h9 => h9) rfl d_R_ticket_11 ?_
  refine lv_iload_n hx hb d_R_ticket_14 rfl (lv_at hl 1 rfl) ?_
  refine vp_callSi (va_runV (C := R_G) (As := [.int tno]) (rest := []) ⟨hx, hb, hml, hown, hts⟩ (c_G_hasTicket l dC dI ad cd w wr fl (nI 1) sc lw rot vb rec (nI tn) live row cur ser dur wo bts us act rd rs tn tno ) (cwV 1 hts (g_V t_473 t_199 t_200 t_4 t_201) rfl rfl rfl (by decide +kernel) ⟨by decide, by decide⟩) (xR_v hP hK hN 3 rfl rfl) rfl rfl hl.1 rfl (lv_room (Nat.le_of_ble_eq_true rfl)) d_R_ticket_15 ⟨Nat.zero_le _, Nat.zero_le _⟩).run (fun r15 q15 => ?_)
  rcases q15 with ⟨rfl, hti15⟩ | ⟨rfl, hti15⟩
  ·
    refine lv_if_eq (tgt := 35) hx hb d_R_ticket_18 (by decide) (fun c18 => ?_) (fun c18 => ?_)
    ·
      exact absurd c18 (by decide)
    ·
      refine lv_iload_n hx hb d_R_ticket_21 rfl (lv_at hl 2 rfl) ?_
      refine lv_iconst (v := nI 0) hx hb d_R_ticket_22 (by decide) ?_
      refine lv_bipush (v := nI 6) hx hb d_R_ticket_23 (by decide) ?_
      refine vp_callSi (va_runS (As := [.int what, .int (nI 0), .int (nI 6)]) (rest := []) ⟨hx, hb, hml, hown, hts⟩ (c_R_isWithin l dC dI what (nI 0) (nI 6) ) (cwS 3 hts (g_S t_271 t_207 t_1 t_208) rfl rfl rfl (by decide +kernel) ⟨by decide, by decide⟩) (xR_s (va_P.sub hP [] rfl) (hK.sub [] rfl) hN) rfl rfl hl.1 rfl (lv_room (Nat.le_of_ble_eq_true rfl)) d_R_ticket_25 ⟨Nat.zero_le _, Nat.zero_le _⟩).run (fun r25 q25 => ?_)
      rcases q25 with ⟨rfl, hin25⟩ | ⟨rfl, hin25⟩
      ·
        refine lv_if_eq (tgt := 35) hx hb d_R_ticket_28 (by decide) (fun c28 => ?_) (fun c28 => ?_)
        ·
          exact absurd c28 (by decide)
        ·
          exact absurd ⟨hti15, hin25⟩ hok
      ·
        refine lv_if_eq (tgt := 35) hx hb d_R_ticket_28 (by decide) (fun c28 => ?_) (fun c28 => ?_)
        ·
          refine lv_iconst (v := nI 0) hx hb d_R_ticket_35 (by decide) ?_
          exact th_out (rest := []) hnt hlocks (fun T hT X => th_runS (As := [.int (nI 0)]) (rest := []) ⟨hx, hb, hml, hown, hts⟩ (th_R_requireIndex l hl9 az) (cwS 1 hts (g_S t_491 t_492 t_1 t_493) rfl rfl rfl (by decide +kernel) ⟨by decide, by decide⟩) (tP_s hz hn) rfl rfl hl.1 rfl (lv_room (Nat.le_of_ble_eq_true rfl)) d_R_ticket_36 ⟨by decide, by decide⟩ hT X)
        ·
          exact absurd c28 (by decide)
  ·
    refine lv_if_eq (tgt := 35) hx hb d_R_ticket_18 (by decide) (fun c18 => ?_) (fun c18 => ?_)
    ·
      refine lv_iconst (v := nI 0) hx hb d_R_ticket_35 (by decide) ?_
      exact th_out (rest := []) hnt hlocks (fun T hT X => th_runS (As := [.int (nI 0)]) (rest := []) ⟨hx, hb, hml, hown, hts⟩ (th_R_requireIndex l hl9 az) (cwS 1 hts (g_S t_491 t_492 t_1 t_493) rfl rfl rfl (by decide +kernel) ⟨by decide, by decide⟩) (tP_s hz hn) rfl rfl hl.1 rfl (lv_room (Nat.le_of_ble_eq_true rfl)) d_R_ticket_36 ⟨by decide, by decide⟩ hT X)
    ·
      exact absurd c18 (by decide)
set_option maxHeartbeats 4000000 in
set_option maxRecDepth 100000 in
theorem th_R_dayTotal_o (l : Launch) (hl9 : l.stackTraces = false) (dC : Nat → ClassId) (dI : Nat → Nat → Nat) (ad cd : Nat → Nat) (az : Nat) (w wr fl : Nat → Int32) (pw sc : Int32) (lw rot vb : Nat → Int32) (rec tk : Int32) (live row : Nat → Int32) (cur ser dur wo : Int32) (bts : Nat → Int32) (us : Int32) (act : Nat → Int32) (rd rs : Int32) (da : Int32) (pr : Int32) : Thr l y_R_dayTotal w_R_dayTotal ({ frames := 7, cells := 1, slots := 6, locals := 120 }) (xT (dC, dI) vwCl (xt cd) (xw ad cd w wr fl (nI 0) sc lw rot vb rec tk live row cur ser dur wo bts us act rd rs) az [.ref (ad 0), .int da, .int pr]) E_S := by
  refine Thr.ofW (cc := b_R_dayTotal) (maxL := 7) (ret := (some (.long))) (by decide) rfl ?_
  intro P e s m args below meth c0 s₁ B hml hnt hv
  obtain ⟨rfl, hP, hK, hz, hn, hN⟩ := hv
  have hx := B.exec
  have hb := B.bytes
  have hr := B.returns
  have hts := atoms_spec (ws := w_R_dayTotal) B.pre
  have hown : s.vm.findClass R_R = some m.cls := findClass_of_methodNamed B.named
  have hlocks := B.notSynchronized
  have hl := lv_entry ([.ref (ad 0), .int da, .int pr]) (n := 7) (Nat.le_of_ble_eq_true rfl)
  rw [lg_entry_eq]
  generalize (lg_sl ([.ref (ad 0), .int da, .int pr]) ++ List.replicate (7 - (lg_sl ([.ref (ad 0), .int da, .int pr])).length) Slot.unset).toArray = ls at hl ⊢
  have hl : lv_has ls 7 [(0, .ref (ad 0)), (1, .int da), (2, .int pr)] := hl
  refine lv_aload_n hx hb d_R_dayTotal_0 rfl (lv_at hl 0 rfl) ?_
  refine va_get (D := (dC, dI)) (ci := 4) (v := .ref (ad 2)) (C := R_R) (T := F_R) (N := 7) hx hb hts (fun w h => List.mem_cons_of_mem _ (in_R w h)) hown hK hP 0 rfl rfl 1 (by decide) (hts (.fieldLink R_R 20 R_R "chip" "LWeighRecorder$Chip;") (List.mem_cons_of_mem _ t_115)) (fun _ h9 => h9) rfl d_R_dayTotal_1 ?_
  refine vp_callSi (va_runV (C := R_C) (As := []) (rest := []) ⟨hx, hb, hml, hown, hts⟩ (c_C_isPowered l dC dI ad cd w wr fl (nI 0) sc lw rot vb rec tk live row cur ser dur wo bts us act rd rs  (by first | exact B01.n0 | exact B01.n1)) (cwV 0 hts (g_V t_225 t_226 t_227 t_3 t_228) rfl rfl rfl (by decide +kernel) ⟨by decide, by decide⟩) (xR_v hP hK hN 2 rfl rfl) rfl rfl hl.1 rfl (lv_room (Nat.le_of_ble_eq_true rfl)) d_R_dayTotal_4 ⟨Nat.zero_le _, Nat.zero_le _⟩).run (fun r4 q4 => ?_)
  have q4 := q4.symm
  subst q4
  exact th_out (rest := []) hnt hlocks (fun T hT X => th_runS (As := [.int (nI 0)]) (rest := []) ⟨hx, hb, hml, hown, hts⟩ (th_R_requireState l hl9 az) (cwS 1 hts (g_S t_338 t_339 t_1 t_340) rfl rfl rfl (by decide +kernel) ⟨by decide, by decide⟩) (tP_s hz hn) rfl rfl hl.1 rfl (lv_room (Nat.le_of_ble_eq_true rfl)) d_R_dayTotal_7 ⟨by decide, by decide⟩ hT X)
set_option maxHeartbeats 4000000 in
set_option maxRecDepth 100000 in
theorem th_R_rangeTotal_o (l : Launch) (hl9 : l.stackTraces = false) (dC : Nat → ClassId) (dI : Nat → Nat → Nat) (ad cd : Nat → Nat) (az : Nat) (w wr fl : Nat → Int32) (pw sc : Int32) (lw rot vb : Nat → Int32) (rec tk : Int32) (live row : Nat → Int32) (cur ser dur wo : Int32) (bts : Nat → Int32) (us : Int32) (act : Nat → Int32) (rd rs : Int32) (fr : Int32) (to : Int32) : Thr l y_R_rangeTotal w_R_rangeTotal ({ frames := 7, cells := 1, slots := 6, locals := 120 }) (xT (dC, dI) vwCl (xt cd) (xw ad cd w wr fl (nI 0) sc lw rot vb rec tk live row cur ser dur wo bts us act rd rs) az [.ref (ad 0), .int fr, .int to]) E_S := by
  refine Thr.ofW (cc := b_R_rangeTotal) (maxL := 7) (ret := (some (.long))) (by decide) rfl ?_
  intro P e s m args below meth c0 s₁ B hml hnt hv
  obtain ⟨rfl, hP, hK, hz, hn, hN⟩ := hv
  have hx := B.exec
  have hb := B.bytes
  have hr := B.returns
  have hts := atoms_spec (ws := w_R_rangeTotal) B.pre
  have hown : s.vm.findClass R_R = some m.cls := findClass_of_methodNamed B.named
  have hlocks := B.notSynchronized
  have hl := lv_entry ([.ref (ad 0), .int fr, .int to]) (n := 7) (Nat.le_of_ble_eq_true rfl)
  rw [lg_entry_eq]
  generalize (lg_sl ([.ref (ad 0), .int fr, .int to]) ++ List.replicate (7 - (lg_sl ([.ref (ad 0), .int fr, .int to])).length) Slot.unset).toArray = ls at hl ⊢
  have hl : lv_has ls 7 [(0, .ref (ad 0)), (1, .int fr), (2, .int to)] := hl
  refine lv_aload_n hx hb d_R_rangeTotal_0 rfl (lv_at hl 0 rfl) ?_
  refine va_get (D := (dC, dI)) (ci := 4) (v := .ref (ad 2)) (C := R_R) (T := F_R) (N := 7) hx hb hts (fun w h => List.mem_cons_of_mem _ (in_R w h)) hown hK hP 0 rfl rfl 1 (by decide) (hts (.fieldLink R_R 20 R_R "chip" "LWeighRecorder$Chip;") (List.mem_cons_of_mem _ t_115)) (fun _ h9 => h9) rfl d_R_rangeTotal_1 ?_
  refine vp_callSi (va_runV (C := R_C) (As := []) (rest := []) ⟨hx, hb, hml, hown, hts⟩ (c_C_isPowered l dC dI ad cd w wr fl (nI 0) sc lw rot vb rec tk live row cur ser dur wo bts us act rd rs  (by first | exact B01.n0 | exact B01.n1)) (cwV 0 hts (g_V t_225 t_226 t_227 t_3 t_228) rfl rfl rfl (by decide +kernel) ⟨by decide, by decide⟩) (xR_v hP hK hN 2 rfl rfl) rfl rfl hl.1 rfl (lv_room (Nat.le_of_ble_eq_true rfl)) d_R_rangeTotal_4 ⟨Nat.zero_le _, Nat.zero_le _⟩).run (fun r4 q4 => ?_)
  have q4 := q4.symm
  subst q4
  exact th_out (rest := []) hnt hlocks (fun T hT X => th_runS (As := [.int (nI 0)]) (rest := []) ⟨hx, hb, hml, hown, hts⟩ (th_R_requireState l hl9 az) (cwS 1 hts (g_S t_338 t_339 t_1 t_340) rfl rfl rfl (by decide +kernel) ⟨by decide, by decide⟩) (tP_s hz hn) rfl rfl hl.1 rfl (lv_room (Nat.le_of_ble_eq_true rfl)) d_R_rangeTotal_7 ⟨by decide, by decide⟩ hT X)
set_option maxHeartbeats 4000000 in
set_option maxRecDepth 100000 in
theorem th_R_find_o (l : Launch) (hl9 : l.stackTraces = false) (dC : Nat → ClassId) (dI : Nat → Nat → Nat) (ad cd : Nat → Nat) (az : Nat) (w wr fl : Nat → Int32) (pw sc : Int32) (lw rot vb : Nat → Int32) (rec tk : Int32) (live row : Nat → Int32) (cur ser dur wo : Int32) (bts : Nat → Int32) (us : Int32) (act : Nat → Int32) (rd rs : Int32) (pl : Int32) (fr : Int32) : Thr l y_R_find w_R_find ({ frames := 7, cells := 1, slots := 6, locals := 120 }) (xT (dC, dI) vwCl (xt cd) (xw ad cd w wr fl (nI 0) sc lw rot vb rec tk live row cur ser dur wo bts us act rd rs) az [.ref (ad 0), .int pl, .int fr]) E_S := by
  refine Thr.ofW (cc := b_R_find) (maxL := 4) (ret := (some (.int))) (by decide) rfl ?_
  intro P e s m args below meth c0 s₁ B hml hnt hv
  obtain ⟨rfl, hP, hK, hz, hn, hN⟩ := hv
  have hx := B.exec
  have hb := B.bytes
  have hr := B.returns
  have hts := atoms_spec (ws := w_R_find) B.pre
  have hown : s.vm.findClass R_R = some m.cls := findClass_of_methodNamed B.named
  have hlocks := B.notSynchronized
  have hl := lv_entry ([.ref (ad 0), .int pl, .int fr]) (n := 4) (Nat.le_of_ble_eq_true rfl)
  rw [lg_entry_eq]
  generalize (lg_sl ([.ref (ad 0), .int pl, .int fr]) ++ List.replicate (4 - (lg_sl ([.ref (ad 0), .int pl, .int fr])).length) Slot.unset).toArray = ls at hl ⊢
  have hl : lv_has ls 4 [(0, .ref (ad 0)), (1, .int pl), (2, .int fr)] := hl
  refine lv_aload_n hx hb d_R_find_0 rfl (lv_at hl 0 rfl) ?_
  refine va_get (D := (dC, dI)) (ci := 4) (v := .ref (ad 2)) (C := R_R) (T := F_R) (N := 7) hx hb hts (fun w h => List.mem_cons_of_mem _ (in_R w h)) hown hK hP 0 rfl rfl 1 (by decide) (hts (.fieldLink R_R 20 R_R "chip" "LWeighRecorder$Chip;") (List.mem_cons_of_mem _ t_115)) (fun _ h9 => h9) rfl d_R_find_1 ?_
  refine vp_callSi (va_runV (C := R_C) (As := []) (rest := []) ⟨hx, hb, hml, hown, hts⟩ (c_C_isPowered l dC dI ad cd w wr fl (nI 0) sc lw rot vb rec tk live row cur ser dur wo bts us act rd rs  (by first | exact B01.n0 | exact B01.n1)) (cwV 0 hts (g_V t_225 t_226 t_227 t_3 t_228) rfl rfl rfl (by decide +kernel) ⟨by decide, by decide⟩) (xR_v hP hK hN 2 rfl rfl) rfl rfl hl.1 rfl (lv_room (Nat.le_of_ble_eq_true rfl)) d_R_find_4 ⟨Nat.zero_le _, Nat.zero_le _⟩).run (fun r4 q4 => ?_)
  have q4 := q4.symm
  subst q4
  exact th_out (rest := []) hnt hlocks (fun T hT X => th_runS (As := [.int (nI 0)]) (rest := []) ⟨hx, hb, hml, hown, hts⟩ (th_R_requireState l hl9 az) (cwS 1 hts (g_S t_338 t_339 t_1 t_340) rfl rfl rfl (by decide +kernel) ⟨by decide, by decide⟩) (tP_s hz hn) rfl rfl hl.1 rfl (lv_room (Nat.le_of_ble_eq_true rfl)) d_R_find_7 ⟨by decide, by decide⟩ hT X)
set_option maxHeartbeats 4000000 in
set_option maxRecDepth 100000 in
theorem th_R_audit_o (l : Launch) (hl9 : l.stackTraces = false) (dC : Nat → ClassId) (dI : Nat → Nat → Nat) (ad cd : Nat → Nat) (az : Nat) (w wr fl : Nat → Int32) (pw sc : Int32) (lw rot vb : Nat → Int32) (rec tk : Int32) (live row : Nat → Int32) (cur ser dur wo : Int32) (bts : Nat → Int32) (us : Int32) (act : Nat → Int32) (rd rs : Int32) (fr : Int32) (to : Int32) : Thr l y_R_audit w_R_audit ({ frames := 7, cells := 1, slots := 6, locals := 120 }) (xT (dC, dI) vwCl (xt cd) (xw ad cd w wr fl (nI 0) sc lw rot vb rec tk live row cur ser dur wo bts us act rd rs) az [.ref (ad 0), .int fr, .int to]) E_S := by
  refine Thr.ofW (cc := b_R_audit) (maxL := 5) (ret := (some (.int))) (by decide) rfl ?_
  intro P e s m args below meth c0 s₁ B hml hnt hv
  obtain ⟨rfl, hP, hK, hz, hn, hN⟩ := hv
  have hx := B.exec
  have hb := B.bytes
  have hr := B.returns
  have hts := atoms_spec (ws := w_R_audit) B.pre
  have hown : s.vm.findClass R_R = some m.cls := findClass_of_methodNamed B.named
  have hlocks := B.notSynchronized
  have hl := lv_entry ([.ref (ad 0), .int fr, .int to]) (n := 5) (Nat.le_of_ble_eq_true rfl)
  rw [lg_entry_eq]
  generalize (lg_sl ([.ref (ad 0), .int fr, .int to]) ++ List.replicate (5 - (lg_sl ([.ref (ad 0), .int fr, .int to])).length) Slot.unset).toArray = ls at hl ⊢
  have hl : lv_has ls 5 [(0, .ref (ad 0)), (1, .int fr), (2, .int to)] := hl
  refine lv_aload_n hx hb d_R_audit_0 rfl (lv_at hl 0 rfl) ?_
  refine va_get (D := (dC, dI)) (ci := 4) (v := .ref (ad 2)) (C := R_R) (T := F_R) (N := 7) hx hb hts (fun w h => List.mem_cons_of_mem _ (in_R w h)) hown hK hP 0 rfl rfl 1 (by decide) (hts (.fieldLink R_R 20 R_R "chip" "LWeighRecorder$Chip;") (List.mem_cons_of_mem _ t_115)) (fun _ h9 => h9) rfl d_R_audit_1 ?_
  refine vp_callSi (va_runV (C := R_C) (As := []) (rest := []) ⟨hx, hb, hml, hown, hts⟩ (c_C_isPowered l dC dI ad cd w wr fl (nI 0) sc lw rot vb rec tk live row cur ser dur wo bts us act rd rs  (by first | exact B01.n0 | exact B01.n1)) (cwV 0 hts (g_V t_225 t_226 t_227 t_3 t_228) rfl rfl rfl (by decide +kernel) ⟨by decide, by decide⟩) (xR_v hP hK hN 2 rfl rfl) rfl rfl hl.1 rfl (lv_room (Nat.le_of_ble_eq_true rfl)) d_R_audit_4 ⟨Nat.zero_le _, Nat.zero_le _⟩).run (fun r4 q4 => ?_)
  have q4 := q4.symm
  subst q4
  exact th_out (rest := []) hnt hlocks (fun T hT X => th_runS (As := [.int (nI 0)]) (rest := []) ⟨hx, hb, hml, hown, hts⟩ (th_R_requireState l hl9 az) (cwS 1 hts (g_S t_338 t_339 t_1 t_340) rfl rfl rfl (by decide +kernel) ⟨by decide, by decide⟩) (tP_s hz hn) rfl rfl hl.1 rfl (lv_room (Nat.le_of_ble_eq_true rfl)) d_R_audit_7 ⟨by decide, by decide⟩ hT X)
set_option maxHeartbeats 4000000 in
set_option maxRecDepth 100000 in
theorem th_R_exportByte_o (l : Launch) (hl9 : l.stackTraces = false) (dC : Nat → ClassId) (dI : Nat → Nat → Nat) (ad cd : Nat → Nat) (az : Nat) (w wr fl : Nat → Int32) (pw sc : Int32) (lw rot vb : Nat → Int32) (rec tk : Int32) (live row : Nat → Int32) (cur ser dur wo : Int32) (bts : Nat → Int32) (us : Int32) (act : Nat → Int32) (rd rs : Int32) (fr : Int32) (to : Int32) (ix0 : Int32) : Thr l y_R_exportByte w_R_exportByte ({ frames := 7, cells := 1, slots := 6, locals := 120 }) (xT (dC, dI) vwCl (xt cd) (xw ad cd w wr fl (nI 0) sc lw rot vb rec tk live row cur ser dur wo bts us act rd rs) az [.ref (ad 0), .int fr, .int to, .int ix0]) E_S := by
  refine Thr.ofW (cc := b_R_exportByte) (maxL := 7) (ret := (some (.int))) (by decide) rfl ?_
  intro P e s m args below meth c0 s₁ B hml hnt hv
  obtain ⟨rfl, hP, hK, hz, hn, hN⟩ := hv
  have hx := B.exec
  have hb := B.bytes
  have hr := B.returns
  have hts := atoms_spec (ws := w_R_exportByte) B.pre
  have hown : s.vm.findClass R_R = some m.cls := findClass_of_methodNamed B.named
  have hlocks := B.notSynchronized
  have hl := lv_entry ([.ref (ad 0), .int fr, .int to, .int ix0]) (n := 7) (Nat.le_of_ble_eq_true rfl)
  rw [lg_entry_eq]
  generalize (lg_sl ([.ref (ad 0), .int fr, .int to, .int ix0]) ++ List.replicate (7 - (lg_sl ([.ref (ad 0), .int fr, .int to, .int ix0])).length) Slot.unset).toArray = ls at hl ⊢
  have hl : lv_has ls 7 [(0, .ref (ad 0)), (1, .int fr), (2, .int to), (3, .int ix0)] := hl
  refine lv_aload_n hx hb d_R_exportByte_0 rfl (lv_at hl 0 rfl) ?_
  refine va_get (D := (dC, dI)) (ci := 4) (v := .ref (ad 2)) (C := R_R) (T := F_R) (N := 7) hx hb hts (fun w h => List.mem_cons_of_mem _ (in_R w h)) hown hK hP 0 rfl rfl 1 (by decide) (hts (.fieldLink R_R 20 R_R "chip" "LWeighRecorder$Chip;") (List.mem_cons_of_mem _ t_115)) (fun _ h9 => h9) rfl d_R_exportByte_1 ?_
  refine vp_callSi (va_runV (C := R_C) (As := []) (rest := []) ⟨hx, hb, hml, hown, hts⟩ (c_C_isPowered l dC dI ad cd w wr fl (nI 0) sc lw rot vb rec tk live row cur ser dur wo bts us act rd rs  (by first | exact B01.n0 | exact B01.n1)) (cwV 0 hts (g_V t_225 t_226 t_227 t_3 t_228) rfl rfl rfl (by decide +kernel) ⟨by decide, by decide⟩) (xR_v hP hK hN 2 rfl rfl) rfl rfl hl.1 rfl (lv_room (Nat.le_of_ble_eq_true rfl)) d_R_exportByte_4 ⟨Nat.zero_le _, Nat.zero_le _⟩).run (fun r4 q4 => ?_)
  have q4 := q4.symm
  subst q4
  exact th_out (rest := []) hnt hlocks (fun T hT X => th_runS (As := [.int (nI 0)]) (rest := []) ⟨hx, hb, hml, hown, hts⟩ (th_R_requireState l hl9 az) (cwS 1 hts (g_S t_338 t_339 t_1 t_340) rfl rfl rfl (by decide +kernel) ⟨by decide, by decide⟩) (tP_s hz hn) rfl rfl hl.1 rfl (lv_room (Nat.le_of_ble_eq_true rfl)) d_R_exportByte_7 ⟨by decide, by decide⟩ hT X)
set_option maxHeartbeats 4000000 in
set_option maxRecDepth 100000 in
theorem th_R_setProduct_a (l : Launch) (hl9 : l.stackTraces = false) (dC : Nat → ClassId) (dI : Nat → Nat → Nat) (ad cd : Nat → Nat) (az : Nat) (w wr fl : Nat → Int32) (pw sc : Int32) (lw rot vb : Nat → Int32) (rec tk : Int32) (live row : Nat → Int32) (cur ser dur wo : Int32) (bts : Nat → Int32) (us : Int32) (act : Nat → Int32) (rd rs : Int32) (co : Int32) (b : Int32) (hok : ¬ (nI 0 ≤ co ∧ co ≤ nI 39)) : Thr l y_R_setProduct w_R_setProduct ({ frames := 7, cells := 1, slots := 6, locals := 120 }) (xT (dC, dI) vwCl (xt cd) (xw ad cd w wr fl pw sc lw rot vb rec tk live row cur ser dur wo bts us act rd rs) az [.ref (ad 0), .int co, .int b]) E_A := by
  refine Thr.ofW (cc := b_R_setProduct) (maxL := 3) (ret := none) (by decide) rfl ?_
  intro P e s m args below meth c0 s₁ B hml hnt hv
  obtain ⟨rfl, hP, hK, hz, hn, hN⟩ := hv
  have hx := B.exec
  have hb := B.bytes
  have hr := B.returns
  have hts := atoms_spec (ws := w_R_setProduct) B.pre
  have hown : s.vm.findClass R_R = some m.cls := findClass_of_methodNamed B.named
  have hlocks := B.notSynchronized
  have hl := lv_entry ([.ref (ad 0), .int co, .int b]) (n := 3) (Nat.le_of_ble_eq_true rfl)
  rw [lg_entry_eq]
  generalize (lg_sl ([.ref (ad 0), .int co, .int b]) ++ List.replicate (3 - (lg_sl ([.ref (ad 0), .int co, .int b])).length) Slot.unset).toArray = ls at hl ⊢
  have hl : lv_has ls 3 [(0, .ref (ad 0)), (1, .int co), (2, .int b)] := hl
  refine lv_iload_n hx hb d_R_setProduct_0 rfl (lv_at hl 1 rfl) ?_
  refine vp_callSi (va_runS (As := [.int co]) (rest := []) ⟨hx, hb, hml, hown, hts⟩ (c_R_isProduct l dC dI co ) (cwS 1 hts (g_S t_364 t_365 t_1 t_366) rfl rfl rfl (by decide +kernel) ⟨by decide, by decide⟩) (xR_s (va_P.sub hP [] rfl) (hK.sub [] rfl) hN) rfl rfl hl.1 rfl (lv_room (Nat.le_of_ble_eq_true rfl)) d_R_setProduct_1 ⟨Nat.zero_le _, Nat.zero_le _⟩).run (fun r1 q1 => ?_)
  obtain ⟨rfl, -⟩ := q1.resolve_left (fun z => (hok) z.2)
  exact th_out (rest := []) hnt hlocks (fun T hT X => th_runS (As := [.int (nI 0)]) (rest := []) ⟨hx, hb, hml, hown, hts⟩ (th_R_requireArgument l hl9 az) (cwS 1 hts (g_S t_272 t_273 t_1 t_274) rfl rfl rfl (by decide +kernel) ⟨by decide, by decide⟩) (tP_s hz hn) rfl rfl hl.1 rfl (lv_room (Nat.le_of_ble_eq_true rfl)) d_R_setProduct_4 ⟨by decide, by decide⟩ hT X)
set_option maxHeartbeats 4000000 in
set_option maxRecDepth 100000 in
theorem th_R_cutAfter_a (l : Launch) (hl9 : l.stackTraces = false) (dC : Nat → ClassId) (dI : Nat → Nat → Nat) (ad cd : Nat → Nat) (az : Nat) (w wr fl : Nat → Int32) (pw sc : Int32) (lw rot vb : Nat → Int32) (rec tk : Int32) (live row : Nat → Int32) (cur ser dur wo : Int32) (bts : Nat → Int32) (us : Int32) (act : Nat → Int32) (rd rs : Int32) (n : Int32) (hok : ¬ (nI 0 ≤ n ∧ n ≤ nI 300)) : Thr l y_R_cutAfter w_R_cutAfter ({ frames := 7, cells := 1, slots := 6, locals := 120 }) (xT (dC, dI) vwCl (xt cd) (xw ad cd w wr fl pw sc lw rot vb rec tk live row cur ser dur wo bts us act rd rs) az [.ref (ad 0), .int n]) E_A := by
  refine Thr.ofW (cc := b_R_cutAfter) (maxL := 2) (ret := none) (by decide) rfl ?_
  intro P e s m args below meth c0 s₁ B hml hnt hv
  obtain ⟨rfl, hP, hK, hz, hn, hN⟩ := hv
  have hx := B.exec
  have hb := B.bytes
  have hr := B.returns
  have hts := atoms_spec (ws := w_R_cutAfter) B.pre
  have hown : s.vm.findClass R_R = some m.cls := findClass_of_methodNamed B.named
  have hlocks := B.notSynchronized
  have hl := lv_entry ([.ref (ad 0), .int n]) (n := 2) (Nat.le_of_ble_eq_true rfl)
  rw [lg_entry_eq]
  generalize (lg_sl ([.ref (ad 0), .int n]) ++ List.replicate (2 - (lg_sl ([.ref (ad 0), .int n])).length) Slot.unset).toArray = ls at hl ⊢
  have hl : lv_has ls 2 [(0, .ref (ad 0)), (1, .int n)] := hl
  refine lv_iload_n hx hb d_R_cutAfter_0 rfl (lv_at hl 1 rfl) ?_
  refine lv_iconst (v := nI 0) hx hb d_R_cutAfter_1 (by decide) ?_
  refine lv_sipush (v := nI 300) hx hb d_R_cutAfter_2 (by decide) ?_
  refine vp_callSi (va_runS (As := [.int n, .int (nI 0), .int (nI 300)]) (rest := []) ⟨hx, hb, hml, hown, hts⟩ (c_R_isWithin l dC dI n (nI 0) (nI 300) ) (cwS 3 hts (g_S t_271 t_207 t_1 t_208) rfl rfl rfl (by decide +kernel) ⟨by decide, by decide⟩) (xR_s (va_P.sub hP [] rfl) (hK.sub [] rfl) hN) rfl rfl hl.1 rfl (lv_room (Nat.le_of_ble_eq_true rfl)) d_R_cutAfter_5 ⟨Nat.zero_le _, Nat.zero_le _⟩).run (fun r5 q5 => ?_)
  obtain ⟨rfl, -⟩ := q5.resolve_left (fun z => (hok) z.2)
  exact th_out (rest := []) hnt hlocks (fun T hT X => th_runS (As := [.int (nI 0)]) (rest := []) ⟨hx, hb, hml, hown, hts⟩ (th_R_requireArgument l hl9 az) (cwS 1 hts (g_S t_272 t_273 t_1 t_274) rfl rfl rfl (by decide +kernel) ⟨by decide, by decide⟩) (tP_s hz hn) rfl rfl hl.1 rfl (lv_room (Nat.le_of_ble_eq_true rfl)) d_R_cutAfter_8 ⟨by decide, by decide⟩ hT X)
set_option maxHeartbeats 4000000 in
set_option maxRecDepth 100000 in
theorem th_R_wearOf_a (l : Launch) (hl9 : l.stackTraces = false) (dC : Nat → ClassId) (dI : Nat → Nat → Nat) (ad cd : Nat → Nat) (az : Nat) (w wr fl : Nat → Int32) (pw sc : Int32) (lw rot vb : Nat → Int32) (rec tk : Int32) (live row : Nat → Int32) (cur ser dur wo : Int32) (bts : Nat → Int32) (us : Int32) (act : Nat → Int32) (rd rs : Int32) (b : Int32) (hok : ¬ (nI 0 ≤ b ∧ b ≤ nI 7)) : Thr l y_R_wearOf w_R_wearOf ({ frames := 7, cells := 1, slots := 6, locals := 120 }) (xT (dC, dI) vwCl (xt cd) (xw ad cd w wr fl pw sc lw rot vb rec tk live row cur ser dur wo bts us act rd rs) az [.ref (ad 0), .int b]) E_A := by
  refine Thr.ofW (cc := b_R_wearOf) (maxL := 2) (ret := (some (.int))) (by decide) rfl ?_
  intro P e s m args below meth c0 s₁ B hml hnt hv
  obtain ⟨rfl, hP, hK, hz, hn, hN⟩ := hv
  have hx := B.exec
  have hb := B.bytes
  have hr := B.returns
  have hts := atoms_spec (ws := w_R_wearOf) B.pre
  have hown : s.vm.findClass R_R = some m.cls := findClass_of_methodNamed B.named
  have hlocks := B.notSynchronized
  have hl := lv_entry ([.ref (ad 0), .int b]) (n := 2) (Nat.le_of_ble_eq_true rfl)
  rw [lg_entry_eq]
  generalize (lg_sl ([.ref (ad 0), .int b]) ++ List.replicate (2 - (lg_sl ([.ref (ad 0), .int b])).length) Slot.unset).toArray = ls at hl ⊢
  have hl : lv_has ls 2 [(0, .ref (ad 0)), (1, .int b)] := hl
  refine lv_iload_n hx hb d_R_wearOf_0 rfl (lv_at hl 1 rfl) ?_
  refine lv_iconst (v := nI 0) hx hb d_R_wearOf_1 (by decide) ?_
  refine lv_bipush (v := nI 7) hx hb d_R_wearOf_2 (by decide) ?_
  refine vp_callSi (va_runS (As := [.int b, .int (nI 0), .int (nI 7)]) (rest := []) ⟨hx, hb, hml, hown, hts⟩ (c_R_isWithin l dC dI b (nI 0) (nI 7) ) (cwS 3 hts (g_S t_271 t_207 t_1 t_208) rfl rfl rfl (by decide +kernel) ⟨by decide, by decide⟩) (xR_s (va_P.sub hP [] rfl) (hK.sub [] rfl) hN) rfl rfl hl.1 rfl (lv_room (Nat.le_of_ble_eq_true rfl)) d_R_wearOf_4 ⟨Nat.zero_le _, Nat.zero_le _⟩).run (fun r4 q4 => ?_)
  obtain ⟨rfl, -⟩ := q4.resolve_left (fun z => (hok) z.2)
  exact th_out (rest := []) hnt hlocks (fun T hT X => th_runS (As := [.int (nI 0)]) (rest := []) ⟨hx, hb, hml, hown, hts⟩ (th_R_requireArgument l hl9 az) (cwS 1 hts (g_S t_272 t_273 t_1 t_274) rfl rfl rfl (by decide +kernel) ⟨by decide, by decide⟩) (tP_s hz hn) rfl rfl hl.1 rfl (lv_room (Nat.le_of_ble_eq_true rfl)) d_R_wearOf_7 ⟨by decide, by decide⟩ hT X)
set_option maxHeartbeats 4000000 in
set_option maxRecDepth 100000 in
theorem th_R_failBlock_a (l : Launch) (hl9 : l.stackTraces = false) (dC : Nat → ClassId) (dI : Nat → Nat → Nat) (ad cd : Nat → Nat) (az : Nat) (w wr fl : Nat → Int32) (pw sc : Int32) (lw rot vb : Nat → Int32) (rec tk : Int32) (live row : Nat → Int32) (cur ser dur wo : Int32) (bts : Nat → Int32) (us : Int32) (act : Nat → Int32) (rd rs : Int32) (b : Int32) (hok : ¬ (nI 0 ≤ b ∧ b ≤ nI 7)) : Thr l y_R_failBlock w_R_failBlock ({ frames := 7, cells := 1, slots := 6, locals := 120 }) (xT (dC, dI) vwCl (xt cd) (xw ad cd w wr fl pw sc lw rot vb rec tk live row cur ser dur wo bts us act rd rs) az [.ref (ad 0), .int b]) E_A := by
  refine Thr.ofW (cc := b_R_failBlock) (maxL := 2) (ret := none) (by decide) rfl ?_
  intro P e s m args below meth c0 s₁ B hml hnt hv
  obtain ⟨rfl, hP, hK, hz, hn, hN⟩ := hv
  have hx := B.exec
  have hb := B.bytes
  have hr := B.returns
  have hts := atoms_spec (ws := w_R_failBlock) B.pre
  have hown : s.vm.findClass R_R = some m.cls := findClass_of_methodNamed B.named
  have hlocks := B.notSynchronized
  have hl := lv_entry ([.ref (ad 0), .int b]) (n := 2) (Nat.le_of_ble_eq_true rfl)
  rw [lg_entry_eq]
  generalize (lg_sl ([.ref (ad 0), .int b]) ++ List.replicate (2 - (lg_sl ([.ref (ad 0), .int b])).length) Slot.unset).toArray = ls at hl ⊢
  have hl : lv_has ls 2 [(0, .ref (ad 0)), (1, .int b)] := hl
  refine lv_iload_n hx hb d_R_failBlock_0 rfl (lv_at hl 1 rfl) ?_
  refine lv_iconst (v := nI 0) hx hb d_R_failBlock_1 (by decide) ?_
  refine lv_bipush (v := nI 7) hx hb d_R_failBlock_2 (by decide) ?_
  refine vp_callSi (va_runS (As := [.int b, .int (nI 0), .int (nI 7)]) (rest := []) ⟨hx, hb, hml, hown, hts⟩ (c_R_isWithin l dC dI b (nI 0) (nI 7) ) (cwS 3 hts (g_S t_271 t_207 t_1 t_208) rfl rfl rfl (by decide +kernel) ⟨by decide, by decide⟩) (xR_s (va_P.sub hP [] rfl) (hK.sub [] rfl) hN) rfl rfl hl.1 rfl (lv_room (Nat.le_of_ble_eq_true rfl)) d_R_failBlock_4 ⟨Nat.zero_le _, Nat.zero_le _⟩).run (fun r4 q4 => ?_)
  obtain ⟨rfl, -⟩ := q4.resolve_left (fun z => (hok) z.2)
  exact th_out (rest := []) hnt hlocks (fun T hT X => th_runS (As := [.int (nI 0)]) (rest := []) ⟨hx, hb, hml, hown, hts⟩ (th_R_requireArgument l hl9 az) (cwS 1 hts (g_S t_272 t_273 t_1 t_274) rfl rfl rfl (by decide +kernel) ⟨by decide, by decide⟩) (tP_s hz hn) rfl rfl hl.1 rfl (lv_room (Nat.le_of_ble_eq_true rfl)) d_R_failBlock_7 ⟨by decide, by decide⟩ hT X)
set_option maxHeartbeats 4000000 in
set_option maxRecDepth 100000 in
theorem th_R_poke_a (l : Launch) (hl9 : l.stackTraces = false) (dC : Nat → ClassId) (dI : Nat → Nat → Nat) (ad cd : Nat → Nat) (az : Nat) (w wr fl : Nat → Int32) (pw sc : Int32) (lw rot vb : Nat → Int32) (rec tk : Int32) (live row : Nat → Int32) (cur ser dur wo : Int32) (bts : Nat → Int32) (us : Int32) (act : Nat → Int32) (rd rs : Int32) (pa : Int32) (wo_ : Int32) (mask : Int32) (hok : ¬ ((nI 0 ≤ pa ∧ pa ≤ nI 31) ∧ (nI 0 ≤ wo_ ∧ wo_ ≤ nI 15))) : Thr l y_R_poke w_R_poke ({ frames := 7, cells := 1, slots := 6, locals := 120 }) (xT (dC, dI) vwCl (xt cd) (xw ad cd w wr fl pw sc lw rot vb rec tk live row cur ser dur wo bts us act rd rs) az [.ref (ad 0), .int pa, .int wo_, .int mask]) E_A := by
  refine Thr.ofW (cc := b_R_poke) (maxL := 4) (ret := none) (by decide) rfl ?_
  intro P e s m args below meth c0 s₁ B hml hnt hv
  obtain ⟨rfl, hP, hK, hz, hn, hN⟩ := hv
  have hx := B.exec
  have hb := B.bytes
  have hr := B.returns
  have hts := atoms_spec (ws := w_R_poke) B.pre
  have hown : s.vm.findClass R_R = some m.cls := findClass_of_methodNamed B.named
  have hlocks := B.notSynchronized
  have hl := lv_entry ([.ref (ad 0), .int pa, .int wo_, .int mask]) (n := 4) (Nat.le_of_ble_eq_true rfl)
  rw [lg_entry_eq]
  generalize (lg_sl ([.ref (ad 0), .int pa, .int wo_, .int mask]) ++ List.replicate (4 - (lg_sl ([.ref (ad 0), .int pa, .int wo_, .int mask])).length) Slot.unset).toArray = ls at hl ⊢
  have hl : lv_has ls 4 [(0, .ref (ad 0)), (1, .int pa), (2, .int wo_), (3, .int mask)] := hl
  refine lv_iload_n hx hb d_R_poke_0 rfl (lv_at hl 1 rfl) ?_
  refine lv_iload_n hx hb d_R_poke_1 rfl (lv_at hl 2 rfl) ?_
  refine vp_callSi (va_runS (As := [.int pa, .int wo_]) (rest := []) ⟨hx, hb, hml, hown, hts⟩ (c_R_isPlace l dC dI pa wo_ ) (cwS 2 hts (g_S t_687 t_688 t_1 t_689) rfl rfl rfl (by decide +kernel) ⟨by decide, by decide⟩) (xR_s (va_P.sub hP [] rfl) (hK.sub [] rfl) hN) rfl rfl hl.1 rfl (lv_room (Nat.le_of_ble_eq_true rfl)) d_R_poke_2 ⟨Nat.zero_le _, Nat.zero_le _⟩).run (fun r2 q2 => ?_)
  obtain ⟨rfl, -⟩ := q2.resolve_left (fun z => (hok) z.2)
  exact th_out (rest := []) hnt hlocks (fun T hT X => th_runS (As := [.int (nI 0)]) (rest := []) ⟨hx, hb, hml, hown, hts⟩ (th_R_requireArgument l hl9 az) (cwS 1 hts (g_S t_272 t_273 t_1 t_274) rfl rfl rfl (by decide +kernel) ⟨by decide, by decide⟩) (tP_s hz hn) rfl rfl hl.1 rfl (lv_room (Nat.le_of_ble_eq_true rfl)) d_R_poke_5 ⟨by decide, by decide⟩ hT X)
set_option maxHeartbeats 4000000 in
set_option maxRecDepth 100000 in
theorem th_R_word_i (l : Launch) (hl9 : l.stackTraces = false) (dC : Nat → ClassId) (dI : Nat → Nat → Nat) (ad cd : Nat → Nat) (az : Nat) (w wr fl : Nat → Int32) (pw sc : Int32) (lw rot vb : Nat → Int32) (rec tk : Int32) (live row : Nat → Int32) (cur ser dur wo : Int32) (bts : Nat → Int32) (us : Int32) (act : Nat → Int32) (rd rs : Int32) (pa : Int32) (wo_ : Int32) (hok : ¬ ((nI 0 ≤ pa ∧ pa ≤ nI 31) ∧ (nI 0 ≤ wo_ ∧ wo_ ≤ nI 15))) : Thr l y_R_word w_R_word ({ frames := 7, cells := 1, slots := 6, locals := 120 }) (xT (dC, dI) vwCl (xt cd) (xw ad cd w wr fl pw sc lw rot vb rec tk live row cur ser dur wo bts us act rd rs) az [.ref (ad 0), .int pa, .int wo_]) E_I := by
  refine Thr.ofW (cc := b_R_word) (maxL := 3) (ret := (some (.int))) (by decide) rfl ?_
  intro P e s m args below meth c0 s₁ B hml hnt hv
  obtain ⟨rfl, hP, hK, hz, hn, hN⟩ := hv
  have hx := B.exec
  have hb := B.bytes
  have hr := B.returns
  have hts := atoms_spec (ws := w_R_word) B.pre
  have hown : s.vm.findClass R_R = some m.cls := findClass_of_methodNamed B.named
  have hlocks := B.notSynchronized
  have hl := lv_entry ([.ref (ad 0), .int pa, .int wo_]) (n := 3) (Nat.le_of_ble_eq_true rfl)
  rw [lg_entry_eq]
  generalize (lg_sl ([.ref (ad 0), .int pa, .int wo_]) ++ List.replicate (3 - (lg_sl ([.ref (ad 0), .int pa, .int wo_])).length) Slot.unset).toArray = ls at hl ⊢
  have hl : lv_has ls 3 [(0, .ref (ad 0)), (1, .int pa), (2, .int wo_)] := hl
  refine lv_iload_n hx hb d_R_word_0 rfl (lv_at hl 1 rfl) ?_
  refine lv_iload_n hx hb d_R_word_1 rfl (lv_at hl 2 rfl) ?_
  refine vp_callSi (va_runS (As := [.int pa, .int wo_]) (rest := []) ⟨hx, hb, hml, hown, hts⟩ (c_R_isPlace l dC dI pa wo_ ) (cwS 2 hts (g_S t_687 t_688 t_1 t_689) rfl rfl rfl (by decide +kernel) ⟨by decide, by decide⟩) (xR_s (va_P.sub hP [] rfl) (hK.sub [] rfl) hN) rfl rfl hl.1 rfl (lv_room (Nat.le_of_ble_eq_true rfl)) d_R_word_2 ⟨Nat.zero_le _, Nat.zero_le _⟩).run (fun r2 q2 => ?_)
  obtain ⟨rfl, -⟩ := q2.resolve_left (fun z => (hok) z.2)
  exact th_out (rest := []) hnt hlocks (fun T hT X => th_runS (As := [.int (nI 0)]) (rest := []) ⟨hx, hb, hml, hown, hts⟩ (th_R_requireIndex l hl9 az) (cwS 1 hts (g_S t_491 t_492 t_1 t_493) rfl rfl rfl (by decide +kernel) ⟨by decide, by decide⟩) (tP_s hz hn) rfl rfl hl.1 rfl (lv_room (Nat.le_of_ble_eq_true rfl)) d_R_word_5 ⟨by decide, by decide⟩ hT X)
