set_option maxHeartbeats 4000000 in
set_option maxRecDepth 100000 in
theorem cw_L_axle (l : Launch) (hl9 : l.stackTraces = false) (dC : Nat → ClassId) (dI : Nat → Nat → Nat) (ad cd : Nat → Nat) (ao co : Nat) (sz az : Nat) (w wr fl : Nat → Int32) (pw sc : Int32) (lw rot vb : Nat → Int32) (rec tk : Int32) (live row : Nat → Int32) (cur ser dur wo : Int32) (bts : Nat → Int32) (us : Int32) (act : Nat → Int32) (rd rs : Int32) (fo : Nat → Int64) (st : Int32) (hpw : B01 pw) : Met l y_L_axle w_L_axle ({ frames := 8, cells := 1, slots := 6, locals := 141 }) (oP (dC, dI) vwCl ((co, .long) :: xt cd) ((ao, .inl (co, 1, .inr (.inl fo))) :: (xw ad cd w wr fl pw sc lw rot vb rec tk live row cur ser dur wo bts us act rd rs)) sz az [.ref (ad 0), .int st, .ref ao]) (va_Qi (fun r (u : ((Nat → Nat → Int32) × (Nat → Int32) × (Nat → Nat)) × (Nat → Int64)) => True) (fun (u : ((Nat → Nat → Int32) × (Nat → Int32) × (Nat → Nat)) × (Nat → Int64)) (t : State) => xB (dC, dI) vwCl ((co, .long) :: xt cd) (oA ao ad sz) ((ao, .inl (co, 1, .inr (.inl u.2))) :: (xw ad cd w wr fl pw sc lw rot vb rec tk live row cur ser dur wo bts us act (u.1.2.1 0) (u.1.2.1 1))) t) (oA ao ad sz)) 1 6 (oA ao ad sz) := by
  refine va_MetW (cc := b_L_axle) (maxL := 4) (ret := (some (.int))) (by decide) rfl ?_
  intro P e s m args below meth c0 s₁ B hml hv
  obtain ⟨rfl, hsz, hP, hK, hD0, hz, hn, hc, hN⟩ := hv
  have hx := B.exec
  have hb := B.bytes
  have hr := B.returns
  have hts := atoms_spec (ws := w_L_axle) B.pre
  have hown : s.vm.findClass R_L = some m.cls := findClass_of_methodNamed B.named
  have hlocks := B.notSynchronized
  subst hsz
  have hD := ow_D (sz := s.heap.size) hD0
  have hS : va_S (oA ao ad s.heap.size) s.heap s.heap [] := va_S.rf
  have hA : ∀ q : Nat, s.heap.size ≤ q → (oA ao ad s.heap.size) q := fun q h => Or.inr (Or.inr h)
  have hl := lv_entry ([.ref (ad 0), .int st, .ref ao]) (n := 4) (Nat.le_of_ble_eq_true rfl)
  rw [lg_entry_eq]
  generalize (lg_sl ([.ref (ad 0), .int st, .ref ao]) ++ List.replicate (4 - (lg_sl ([.ref (ad 0), .int st, .ref ao])).length) Slot.unset).toArray = ls at hl ⊢
  have hl : lv_has ls 4 [(0, .ref (ad 0)), (1, .int st), (2, .ref ao)] := hl
  obtain ⟨m9, meth9, c9, hn9, hm9, hc9, -, -, hh9, -⟩ := Cond.codeWith_spec (hts _ List.mem_cons_self)
  cases B.named.symm.trans hn9
  cases B.method.symm.trans hm9
  cases (Stand.of_body B).code.symm.trans hc9
  have hrows := rows_of hh9
  by_cases hok : (nI 1 ≤ st ∧ st ≤ nI 1200)
  ·
    rcases hpw with rfl | rfl
    ·
      refine lv_aload_n hx hb d_L_axle_0 rfl (lv_at hl 2 rfl) ?_
      refine lv_iconst (v := nI 0) hx hb d_L_axle_1 (by decide) ?_
      refine lv_aload_n hx hb d_L_axle_2 rfl (lv_at hl 0 rfl) ?_
      refine lv_iload_n hx hb d_L_axle_3 rfl (lv_at hl 1 rfl) ?_
      have hPc := hP.sub (ws' := (xw ad cd w wr fl (nI 0) sc lw rot vb rec tk live row cur ser dur wo bts us act rd rs)) [1, 2, 3, 4, 5, 6, 7, 8, 9, 10, 11, 12, 13, 14, 15] rfl
      have hKc := hK.sub (tys' := (xt cd)) [1, 2, 3, 4, 5, 6, 7, 8, 9, 10] rfl
      refine th_catch2 (y := ⟨0, 9, 12, 13⟩) (x := ⟨0, 9, 15, 15⟩) (rest := [.int (nI 0), .ref ao]) (N := E_A) hrows (by decide) (by decide) (by decide) (by decide) hown (hts (.classLink R_L 13 E_A) (List.mem_cons_of_mem _ t_265)) hc.2 (hts (.classLink R_L 15 E_S) (List.mem_cons_of_mem _ t_266)) (va_Nw.use rfl hn.1.2.1) (fun T hT X => th_runV (C := R_R) (As := [.int st]) (rest := [.int (nI 0), .ref ao]) ⟨hx, hb, hml, hown, hts⟩ (th_R_axle_o l hl9 dC dI ad cd az w wr fl (nI 0) sc lw rot vb rec tk live row cur ser dur wo bts us act rd rs st (by first | assumption | omega)) (cwV 1 hts (g_V t_267 t_268 t_269 t_1 t_270) rfl rfl rfl (by decide +kernel) ⟨by decide, by decide⟩) (xT_v hPc hKc hz hn hN 0 rfl rfl) rfl rfl hl.1 rfl (lv_room (Nat.le_of_ble_eq_true rfl)) d_L_axle_4 ⟨by decide, by decide⟩ hT X) (fun q H1 hz1 hk1 => ?_)
      have hP1 : va_P (dC, dI) vwCl ((ao, .inl (co, 1, .inr (.inl fo))) :: (xw ad cd w wr fl (nI 0) sc lw rot vb rec tk live row cur ser dur wo bts us act rd rs)) H1 := hP.kept (fun k q hk => hk1 _ ((hP k q hk).lt))
      have hS1 : va_S (oA ao ad s.heap.size) s.heap H1 [] := ⟨hz1, fun q h1 _ => hk1 q h1, fun _ h => by cases h⟩
      refine W.eq (g2 := F0 m 15 ls [.ref q]) rfl ?_
      refine lv_astore_n hx hb d_L_axle_15 rfl hl (by decide) rfl (fun ls hl => ?_)
      have hl : lv_has ls 4 [(3, .ref q), (0, .ref (ad 0)), (1, .int st), (2, .ref ao)] := hl
      refine lv_iconst (v := nI 2) hx hb d_L_axle_16 (by decide) ?_
      exact W.iret (v := nI 2) hx hb hr (fun t ht hW => ⟨⟨nI 2, ((fun i => [].getD i (fun _ => 0), fun i => [rd, rs].getD i 0, fun i => [].getD i 0), fo), rfl, trivial, ⟨by rw [ht]; exact hP1, va_K.moved hW.alike hK, hD⟩⟩, hS1.F ht⟩) hS1.2.2 d_L_axle_17
    ·
      by_cases h9 : nI 9 ≤ rd
      ·
        refine lv_aload_n hx hb d_L_axle_0 rfl (lv_at hl 2 rfl) ?_
        refine lv_iconst (v := nI 0) hx hb d_L_axle_1 (by decide) ?_
        refine lv_aload_n hx hb d_L_axle_2 rfl (lv_at hl 0 rfl) ?_
        refine lv_iload_n hx hb d_L_axle_3 rfl (lv_at hl 1 rfl) ?_
        have hPc := hP.sub (ws' := (xw ad cd w wr fl (nI 1) sc lw rot vb rec tk live row cur ser dur wo bts us act rd rs)) [1, 2, 3, 4, 5, 6, 7, 8, 9, 10, 11, 12, 13, 14, 15] rfl
        have hKc := hK.sub (tys' := (xt cd)) [1, 2, 3, 4, 5, 6, 7, 8, 9, 10] rfl
        refine th_catch2 (y := ⟨0, 9, 12, 13⟩) (x := ⟨0, 9, 15, 15⟩) (rest := [.int (nI 0), .ref ao]) (N := E_A) hrows (by decide) (by decide) (by decide) (by decide) hown (hts (.classLink R_L 13 E_A) (List.mem_cons_of_mem _ t_265)) hc.2 (hts (.classLink R_L 15 E_S) (List.mem_cons_of_mem _ t_266)) (va_Nw.use rfl hn.1.2.1) (fun T hT X => th_runV (C := R_R) (As := [.int st]) (rest := [.int (nI 0), .ref ao]) ⟨hx, hb, hml, hown, hts⟩ (th_R_axle_f l hl9 dC dI ad cd az w wr fl (nI 1) sc lw rot vb rec tk live row cur ser dur wo bts us act rd rs st (by first | assumption | omega) (by first | assumption | omega)) (cwV 1 hts (g_V t_267 t_268 t_269 t_1 t_270) rfl rfl rfl (by decide +kernel) ⟨by decide, by decide⟩) (xT_v hPc hKc hz hn hN 0 rfl rfl) rfl rfl hl.1 rfl (lv_room (Nat.le_of_ble_eq_true rfl)) d_L_axle_4 ⟨by decide, by decide⟩ hT X) (fun q H1 hz1 hk1 => ?_)
        have hP1 : va_P (dC, dI) vwCl ((ao, .inl (co, 1, .inr (.inl fo))) :: (xw ad cd w wr fl (nI 1) sc lw rot vb rec tk live row cur ser dur wo bts us act rd rs)) H1 := hP.kept (fun k q hk => hk1 _ ((hP k q hk).lt))
        have hS1 : va_S (oA ao ad s.heap.size) s.heap H1 [] := ⟨hz1, fun q h1 _ => hk1 q h1, fun _ h => by cases h⟩
        refine W.eq (g2 := F0 m 15 ls [.ref q]) rfl ?_
        refine lv_astore_n hx hb d_L_axle_15 rfl hl (by decide) rfl (fun ls hl => ?_)
        have hl : lv_has ls 4 [(3, .ref q), (0, .ref (ad 0)), (1, .int st), (2, .ref ao)] := hl
        refine lv_iconst (v := nI 2) hx hb d_L_axle_16 (by decide) ?_
        exact W.iret (v := nI 2) hx hb hr (fun t ht hW => ⟨⟨nI 2, ((fun i => [].getD i (fun _ => 0), fun i => [rd, rs].getD i 0, fun i => [].getD i 0), fo), rfl, trivial, ⟨by rw [ht]; exact hP1, va_K.moved hW.alike hK, hD⟩⟩, hS1.F ht⟩) hS1.2.2 d_L_axle_17
      ·
        refine lv_aload_n hx hb d_L_axle_0 rfl (lv_at hl 2 rfl) ?_
        refine lv_iconst (v := nI 0) hx hb d_L_axle_1 (by decide) ?_
        refine lv_aload_n hx hb d_L_axle_2 rfl (lv_at hl 0 rfl) ?_
        refine lv_iload_n hx hb d_L_axle_3 rfl (lv_at hl 1 rfl) ?_
        have hPc := hP.sub (ws' := (xw ad cd w wr fl (nI 1) sc lw rot vb rec tk live row cur ser dur wo bts us act rd rs)) [1, 2, 3, 4, 5, 6, 7, 8, 9, 10, 11, 12, 13, 14, 15] rfl
        have hKc := hK.sub (tys' := (xt cd)) [1, 2, 3, 4, 5, 6, 7, 8, 9, 10] rfl
        have hDc := hD.sub (ws' := (xw ad cd w wr fl (nI 1) sc lw rot vb rec tk live row cur ser dur wo bts us act rd rs)) [1, 2, 3, 4, 5, 6, 7, 8, 9, 10, 11, 12, 13, 14, 15] (by decide) rfl
        have hFc := va_free (wc := (xw ad cd w wr fl (nI 1) sc lw rot vb rec tk live row cur ser dur wo bts us act rd rs)) hD hS hA [1, 2, 3, 4, 5, 6, 7, 8, 9, 10, 11, 12, 13, 14, 15] rfl
        have hSz := hS.1
        refine va_calli (va_runV (C := R_R) (As := [.int st]) (rest := [.int (nI 0), .ref ao]) ⟨hx, hb, hml, hown, hts⟩ (c_R_axle_ok l dC dI ad cd s.heap.size w wr fl (nI 1) sc lw rot vb rec tk live row cur ser dur wo bts us act rd rs st (by first | omega | rfl | assumption | decide) (by first | omega | rfl | assumption | decide)) (cwV 1 hts (g_V t_267 t_268 t_269 t_1 t_270) rfl rfl rfl (by decide +kernel) ⟨by decide, by decide⟩) (xP_v hPc hKc hDc hN 0 rfl rfl) rfl rfl hl.1 rfl (lv_room (Nat.le_of_ble_eq_true rfl)) d_L_axle_4 ⟨by decide, by decide⟩) hS (fun q _ h => hFc q (xw_A h)) (fun q h => hFc q (xw_A h)) (fun r4 u4 t H1 locs1 ht hvm q4 hB hz1 hk1 hS => ?_)
        obtain ⟨hP1, hK1, hD1⟩ := hB
        rw [ht] at hP1
        obtain ⟨hP, hD⟩ := va_join (wr := [(ao, .inl (co, 1, .inr (.inl fo)))]) (w1 := (xw ad cd w wr fl (nI 1) sc lw rot vb rec tk live row cur ser dur wo bts us act (u4.2.1 0) (u4.2.1 1))) hP hD [1, 2, 3, 4, 5, 6, 7, 8, 9, 10, 11, 12, 13, 14, 15] [0] rfl rfl (by decide) (by decide) (fun q h1 h2 => hk1 q h1 (fun z => h2 (xw_A z))) hFc hP1 (hD1.weaken (fun _ _ _ h => xw_A h))
        have hP : va_P (dC, dI) vwCl ((ao, .inl (co, 1, .inr (.inl fo))) :: (xw ad cd w wr fl (nI 1) sc lw rot vb rec tk live row cur ser dur wo bts us act (u4.2.1 0) (u4.2.1 1))) H1 := hP.sub [0, 1, 2, 3, 4, 5, 6, 7, 8, 9, 10, 11, 12, 13, 14, 15] rfl
        have hD : va_D (oA ao ad s.heap.size) ((ao, .inl (co, 1, .inr (.inl fo))) :: (xw ad cd w wr fl (nI 1) sc lw rot vb rec tk live row cur ser dur wo bts us act (u4.2.1 0) (u4.2.1 1))) := hD.sub [0, 1, 2, 3, 4, 5, 6, 7, 8, 9, 10, 11, 12, 13, 14, 15] (by decide) rfl
        generalize H1 = H at hP hS ⊢
        generalize locs1 = locs at hS ⊢
        obtain hk4 := q4
        refine lv_i2l (v := r4.toInt64) hx hb d_L_axle_7 rfl ?_
        refine va_last hx hb hK hP hD hS 0 0 rfl rfl (vp_in_nI (by omega) (by decide)) d_L_axle_8 (fun H locs hP hD hS => ?_)
        rw [nI_clamp (by omega)] at hP hD
        have hP : va_P (dC, dI) vwCl ((ao, .inl (co, 1, .inr (.inl (vp_updL fo 0 r4.toInt64)))) :: (xw ad cd w wr fl (nI 1) sc lw rot vb rec tk live row cur ser dur wo bts us act (u4.2.1 0) (u4.2.1 1))) H := hP
        have hD : va_D (oA ao ad s.heap.size) ((ao, .inl (co, 1, .inr (.inl (vp_updL fo 0 r4.toInt64)))) :: (xw ad cd w wr fl (nI 1) sc lw rot vb rec tk live row cur ser dur wo bts us act (u4.2.1 0) (u4.2.1 1))) := hD
        refine lv_goto (tgt := 18) hx hb d_L_axle_9 (by decide) ?_
        refine lv_iconst (v := nI 0) hx hb d_L_axle_18 (by decide) ?_
        refine W.widen (k := 1) (n := 6) (by decide) (by decide) ?_
        exact W.iret (v := nI 0) hx hb hr (fun t ht hW => ⟨⟨nI 0, ((fun i => [].getD i (fun _ => 0), fun i => [u4.2.1 0, u4.2.1 1].getD i 0, fun i => [].getD i 0), (vp_updL fo 0 r4.toInt64)), rfl, trivial, ⟨by rw [ht]; exact hP, va_K.moved hW.alike hK, hD⟩⟩, hS.F ht⟩) hS.2.2 d_L_axle_19
  ·
    refine lv_aload_n hx hb d_L_axle_0 rfl (lv_at hl 2 rfl) ?_
    refine lv_iconst (v := nI 0) hx hb d_L_axle_1 (by decide) ?_
    refine lv_aload_n hx hb d_L_axle_2 rfl (lv_at hl 0 rfl) ?_
    refine lv_iload_n hx hb d_L_axle_3 rfl (lv_at hl 1 rfl) ?_
    have hPc := hP.sub (ws' := (xw ad cd w wr fl pw sc lw rot vb rec tk live row cur ser dur wo bts us act rd rs)) [1, 2, 3, 4, 5, 6, 7, 8, 9, 10, 11, 12, 13, 14, 15] rfl
    have hKc := hK.sub (tys' := (xt cd)) [1, 2, 3, 4, 5, 6, 7, 8, 9, 10] rfl
    refine th_catch1 (x := ⟨0, 9, 12, 13⟩) (rest := [.int (nI 0), .ref ao]) hrows (by decide) (by decide) hown (hts (.classLink R_L 13 E_A) (List.mem_cons_of_mem _ t_265)) (va_Nw.use rfl hn.1.1) (fun T hT X => th_runV (C := R_R) (As := [.int st]) (rest := [.int (nI 0), .ref ao]) ⟨hx, hb, hml, hown, hts⟩ (th_R_axle_a l hl9 dC dI ad cd az w wr fl pw sc lw rot vb rec tk live row cur ser dur wo bts us act rd rs st (by first | assumption | omega)) (cwV 1 hts (g_V t_267 t_268 t_269 t_1 t_270) rfl rfl rfl (by decide +kernel) ⟨by decide, by decide⟩) (xT_v hPc hKc hz hn hN 0 rfl rfl) rfl rfl hl.1 rfl (lv_room (Nat.le_of_ble_eq_true rfl)) d_L_axle_4 ⟨by decide, by decide⟩ hT X) (fun q H1 hz1 hk1 => ?_)
    have hP1 : va_P (dC, dI) vwCl ((ao, .inl (co, 1, .inr (.inl fo))) :: (xw ad cd w wr fl pw sc lw rot vb rec tk live row cur ser dur wo bts us act rd rs)) H1 := hP.kept (fun k q hk => hk1 _ ((hP k q hk).lt))
    have hS1 : va_S (oA ao ad s.heap.size) s.heap H1 [] := ⟨hz1, fun q h1 _ => hk1 q h1, fun _ h => by cases h⟩
    refine W.eq (g2 := F0 m 12 ls [.ref q]) rfl ?_
    refine lv_astore_n hx hb d_L_axle_12 rfl hl (by decide) rfl (fun ls hl => ?_)
    have hl : lv_has ls 4 [(3, .ref q), (0, .ref (ad 0)), (1, .int st), (2, .ref ao)] := hl
    refine lv_iconst (v := nI 1) hx hb d_L_axle_13 (by decide) ?_
    exact W.iret (v := nI 1) hx hb hr (fun t ht hW => ⟨⟨nI 1, ((fun i => [].getD i (fun _ => 0), fun i => [rd, rs].getD i 0, fun i => [].getD i 0), fo), rfl, trivial, ⟨by rw [ht]; exact hP1, va_K.moved hW.alike hK, hD⟩⟩, hS1.F ht⟩) hS1.2.2 d_L_axle_14
set_option maxHeartbeats 4000000 in
set_option maxRecDepth 100000 in
theorem cw_L_close (l : Launch) (hl9 : l.stackTraces = false) (dC : Nat → ClassId) (dI : Nat → Nat → Nat) (ad cd : Nat → Nat) (ao co : Nat) (sz az : Nat) (w wr fl : Nat → Int32) (pw sc : Int32) (lw rot vb : Nat → Int32) (rec tk : Int32) (live row : Nat → Int32) (cur ser dur wo : Int32) (bts : Nat → Int32) (us : Int32) (act : Nat → Int32) (rd rs : Int32) (fo : Nat → Int64) (rn : Nat) (tn : Nat) (plate : Int32) (tare : Int32) (product : Int32) (clock : Int32) (hpw : B01 pw) (hfl : ∀ i, i < 8 → B01 (fl i)) (hrt : tn ≤ rn) (hr48 : rn ≤ 48) (hrot : ∀ i, i < 48 → IX 48 (rot i)) (hlv : ∀ i, i < 16 → PG 32 (live i)) (hcu : PG 8 cur) (hwo : B01 wo) : Met l y_L_close w_L_close ({ frames := 8, cells := 1, slots := 6, locals := 162 }) (oP (dC, dI) vwCl ((co, .long) :: xt cd) ((ao, .inl (co, 1, .inr (.inl fo))) :: (xw ad cd w wr fl pw sc lw rot vb (nI rn) (nI tn) live row cur ser dur wo bts us act rd rs)) sz az [.ref (ad 0), .int plate, .int tare, .int product, .int clock, .ref ao]) (va_Qi (fun r (u : ((Nat → Nat → Int32) × (Nat → Int32) × (Nat → Nat)) × (Nat → Int64)) => B01 (u.1.2.1 0) ∧ (u.1.2.2 1) ≤ (u.1.2.2 0) ∧ (u.1.2.2 0) ≤ 48 ∧ (∀ i, i < 48 → IX 48 ((u.1.1 3) i)) ∧ (∀ i, i < 16 → PG 32 ((u.1.1 5) i)) ∧ PG 8 (u.1.2.1 2) ∧ B01 (u.1.2.1 5)) (fun (u : ((Nat → Nat → Int32) × (Nat → Int32) × (Nat → Nat)) × (Nat → Int64)) (t : State) => xB (dC, dI) vwCl ((co, .long) :: xt cd) (oA ao ad sz) ((ao, .inl (co, 1, .inr (.inl u.2))) :: (xw ad cd (u.1.1 0) (u.1.1 1) fl (u.1.2.1 0) (u.1.2.1 1) (u.1.1 2) (u.1.1 3) (u.1.1 4) (nI (u.1.2.2 0)) (nI (u.1.2.2 1)) (u.1.1 5) (u.1.1 6) (u.1.2.1 2) (u.1.2.1 3) (u.1.2.1 4) (u.1.2.1 5) bts us act (u.1.2.1 6) (u.1.2.1 7))) t) (oA ao ad sz)) 1 6 (oA ao ad sz) := by
  refine va_MetW (cc := b_L_close) (maxL := 7) (ret := (some (.int))) (by decide) rfl ?_
  intro P e s m args below meth c0 s₁ B hml hv
  obtain ⟨rfl, hsz, hP, hK, hD0, hz, hn, hc, hN⟩ := hv
  have hx := B.exec
  have hb := B.bytes
  have hr := B.returns
  have hts := atoms_spec (ws := w_L_close) B.pre
  have hown : s.vm.findClass R_L = some m.cls := findClass_of_methodNamed B.named
  have hlocks := B.notSynchronized
  subst hsz
  have hD := ow_D (sz := s.heap.size) hD0
  have hS : va_S (oA ao ad s.heap.size) s.heap s.heap [] := va_S.rf
  have hA : ∀ q : Nat, s.heap.size ≤ q → (oA ao ad s.heap.size) q := fun q h => Or.inr (Or.inr h)
  have hl := lv_entry ([.ref (ad 0), .int plate, .int tare, .int product, .int clock, .ref ao]) (n := 7) (Nat.le_of_ble_eq_true rfl)
  rw [lg_entry_eq]
  generalize (lg_sl ([.ref (ad 0), .int plate, .int tare, .int product, .int clock, .ref ao]) ++ List.replicate (7 - (lg_sl ([.ref (ad 0), .int plate, .int tare, .int product, .int clock, .ref ao])).length) Slot.unset).toArray = ls at hl ⊢
  have hl : lv_has ls 7 [(0, .ref (ad 0)), (1, .int plate), (2, .int tare), (3, .int product), (4, .int clock), (5, .ref ao)] := hl
  obtain ⟨m9, meth9, c9, hn9, hm9, hc9, -, -, hh9, -⟩ := Cond.codeWith_spec (hts _ List.mem_cons_self)
  cases B.named.symm.trans hn9
  cases B.method.symm.trans hm9
  cases (Stand.of_body B).code.symm.trans hc9
  have hrows := rows_of hh9
  by_cases hok : ((nI 0 ≤ tare ∧ tare ≤ nI 216000) ∧ (nI 0 ≤ product ∧ product ≤ nI 39) ∧ (nI 0 ≤ clock ∧ clock ≤ nI 67108863))
  ·
    rcases hpw with rfl | rfl
    ·
      refine lv_aload hx hb d_L_close_0 (lv_at hl 5 rfl) ?_
      refine lv_iconst (v := nI 0) hx hb d_L_close_2 (by decide) ?_
      refine lv_aload_n hx hb d_L_close_3 rfl (lv_at hl 0 rfl) ?_
      refine lv_iload_n hx hb d_L_close_4 rfl (lv_at hl 1 rfl) ?_
      refine lv_iload_n hx hb d_L_close_5 rfl (lv_at hl 2 rfl) ?_
      refine lv_iload_n hx hb d_L_close_6 rfl (lv_at hl 3 rfl) ?_
      refine lv_iload hx hb d_L_close_7 (lv_at hl 4 rfl) ?_
      have hPc := hP.sub (ws' := (xw ad cd w wr fl (nI 0) sc lw rot vb (nI rn) (nI tn) live row cur ser dur wo bts us act rd rs)) [1, 2, 3, 4, 5, 6, 7, 8, 9, 10, 11, 12, 13, 14, 15] rfl
      have hKc := hK.sub (tys' := (xt cd)) [1, 2, 3, 4, 5, 6, 7, 8, 9, 10] rfl
      refine th_catch2 (y := ⟨0, 14, 17, 13⟩) (x := ⟨0, 14, 21, 15⟩) (rest := [.int (nI 0), .ref ao]) (N := E_A) hrows (by decide) (by decide) (by decide) (by decide) hown (hts (.classLink R_L 13 E_A) (List.mem_cons_of_mem _ t_265)) hc.2 (hts (.classLink R_L 15 E_S) (List.mem_cons_of_mem _ t_266)) (va_Nw.use rfl hn.1.2.1) (fun T hT X => th_runV (C := R_R) (As := [.int plate, .int tare, .int product, .int clock]) (rest := [.int (nI 0), .ref ao]) ⟨hx, hb, hml, hown, hts⟩ (th_R_close_o l hl9 dC dI ad cd az w wr fl (nI 0) sc lw rot vb (nI rn) (nI tn) live row cur ser dur wo bts us act rd rs plate tare product clock (by first | assumption | omega)) (cwV 4 hts (g_V t_359 t_360 t_361 t_1 t_362) rfl rfl rfl (by decide +kernel) ⟨by decide, by decide⟩) (xT_v hPc hKc hz hn hN 0 rfl rfl) rfl rfl hl.1 rfl (lv_room (Nat.le_of_ble_eq_true rfl)) d_L_close_9 ⟨by decide, by decide⟩ hT X) (fun q H1 hz1 hk1 => ?_)
      have hP1 : va_P (dC, dI) vwCl ((ao, .inl (co, 1, .inr (.inl fo))) :: (xw ad cd w wr fl (nI 0) sc lw rot vb (nI rn) (nI tn) live row cur ser dur wo bts us act rd rs)) H1 := hP.kept (fun k q hk => hk1 _ ((hP k q hk).lt))
      have hS1 : va_S (oA ao ad s.heap.size) s.heap H1 [] := ⟨hz1, fun q h1 _ => hk1 q h1, fun _ h => by cases h⟩
      refine W.eq (g2 := F0 m 21 ls [.ref q]) rfl ?_
      refine lv_astore hx hb d_L_close_21 hl (by decide) rfl (fun ls hl => ?_)
      have hl : lv_has ls 7 [(6, .ref q), (0, .ref (ad 0)), (1, .int plate), (2, .int tare), (3, .int product), (4, .int clock), (5, .ref ao)] := hl
      refine lv_iconst (v := nI 2) hx hb d_L_close_23 (by decide) ?_
      exact W.iret (v := nI 2) hx hb hr (fun t ht hW => ⟨⟨nI 2, ((fun i => [w, wr, lw, rot, vb, live, row].getD i (fun _ => 0), fun i => [nI 0, sc, cur, ser, dur, wo, rd, rs].getD i 0, fun i => [rn, tn].getD i 0), fo), rfl, ⟨by first | exact hpw | exact B01.n0 | exact B01.n1, by first | exact hrt | omega, by first | exact hr48 | omega, hrot, hlv, by first | exact hcu | exact PG.m1, hwo⟩, ⟨by rw [ht]; exact hP1, va_K.moved hW.alike hK, hD⟩⟩, hS1.F ht⟩) hS1.2.2 d_L_close_24
    ·
      refine lv_aload hx hb d_L_close_0 (lv_at hl 5 rfl) ?_
      refine lv_iconst (v := nI 0) hx hb d_L_close_2 (by decide) ?_
      refine lv_aload_n hx hb d_L_close_3 rfl (lv_at hl 0 rfl) ?_
      refine lv_iload_n hx hb d_L_close_4 rfl (lv_at hl 1 rfl) ?_
      refine lv_iload_n hx hb d_L_close_5 rfl (lv_at hl 2 rfl) ?_
      refine lv_iload_n hx hb d_L_close_6 rfl (lv_at hl 3 rfl) ?_
      refine lv_iload hx hb d_L_close_7 (lv_at hl 4 rfl) ?_
      have hPc := hP.sub (ws' := (xw ad cd w wr fl (nI 1) sc lw rot vb (nI rn) (nI tn) live row cur ser dur wo bts us act rd rs)) [1, 2, 3, 4, 5, 6, 7, 8, 9, 10, 11, 12, 13, 14, 15] rfl
      have hKc := hK.sub (tys' := (xt cd)) [1, 2, 3, 4, 5, 6, 7, 8, 9, 10] rfl
      have hDc := hD.sub (ws' := (xw ad cd w wr fl (nI 1) sc lw rot vb (nI rn) (nI tn) live row cur ser dur wo bts us act rd rs)) [1, 2, 3, 4, 5, 6, 7, 8, 9, 10, 11, 12, 13, 14, 15] (by decide) rfl
      have hFc := va_free (wc := (xw ad cd w wr fl (nI 1) sc lw rot vb (nI rn) (nI tn) live row cur ser dur wo bts us act rd rs)) hD hS hA [1, 2, 3, 4, 5, 6, 7, 8, 9, 10, 11, 12, 13, 14, 15] rfl
      have hSz := hS.1
      refine va_calli (va_runV (C := R_R) (As := [.int plate, .int tare, .int product, .int clock]) (rest := [.int (nI 0), .ref ao]) ⟨hx, hb, hml, hown, hts⟩ (c_R_close_ok l dC dI ad cd s.heap.size w wr fl (nI 1) sc lw rot vb (nI rn) (nI tn) live row cur ser dur wo bts us act rd rs rn tn plate tare product clock (by first | omega | rfl | assumption | decide) (by first | omega | rfl | assumption | decide) (by first | omega | rfl | assumption | decide) (by first | omega | rfl | assumption | decide) (by first | omega | rfl | assumption | decide) (by first | omega | rfl | assumption | decide) (by first | omega | rfl | assumption | decide) (by first | omega | rfl | assumption | decide)) (cwV 4 hts (g_V t_359 t_360 t_361 t_1 t_362) rfl rfl rfl (by decide +kernel) ⟨by decide, by decide⟩) (xP_v hPc hKc hDc hN 0 rfl rfl) rfl rfl hl.1 rfl (lv_room (Nat.le_of_ble_eq_true rfl)) d_L_close_9 ⟨by decide, by decide⟩) hS (fun q _ h => hFc q (xw_A h)) (fun q h => hFc q (xw_A h)) (fun r9 u9 t H1 locs1 ht hvm q9 hB hz1 hk1 hS => ?_)
      obtain ⟨hP1, hK1, hD1⟩ := hB
      rw [ht] at hP1
      obtain ⟨hP, hD⟩ := va_join (wr := [(ao, .inl (co, 1, .inr (.inl fo)))]) (w1 := (xw ad cd (u9.1 0) (u9.1 1) fl (u9.2.1 0) (u9.2.1 1) (u9.1 2) (u9.1 3) (u9.1 4) (nI (u9.2.2 0)) (nI (u9.2.2 1)) (u9.1 5) (u9.1 6) (u9.2.1 2) (u9.2.1 3) (u9.2.1 4) (u9.2.1 5) bts us act (u9.2.1 6) (u9.2.1 7))) hP hD [1, 2, 3, 4, 5, 6, 7, 8, 9, 10, 11, 12, 13, 14, 15] [0] rfl rfl (by decide) (by decide) (fun q h1 h2 => hk1 q h1 (fun z => h2 (xw_A z))) hFc hP1 (hD1.weaken (fun _ _ _ h => xw_A h))
      have hP : va_P (dC, dI) vwCl ((ao, .inl (co, 1, .inr (.inl fo))) :: (xw ad cd (u9.1 0) (u9.1 1) fl (u9.2.1 0) (u9.2.1 1) (u9.1 2) (u9.1 3) (u9.1 4) (nI (u9.2.2 0)) (nI (u9.2.2 1)) (u9.1 5) (u9.1 6) (u9.2.1 2) (u9.2.1 3) (u9.2.1 4) (u9.2.1 5) bts us act (u9.2.1 6) (u9.2.1 7))) H1 := hP.sub [0, 1, 2, 3, 4, 5, 6, 7, 8, 9, 10, 11, 12, 13, 14, 15] rfl
      have hD : va_D (oA ao ad s.heap.size) ((ao, .inl (co, 1, .inr (.inl fo))) :: (xw ad cd (u9.1 0) (u9.1 1) fl (u9.2.1 0) (u9.2.1 1) (u9.1 2) (u9.1 3) (u9.1 4) (nI (u9.2.2 0)) (nI (u9.2.2 1)) (u9.1 5) (u9.1 6) (u9.2.1 2) (u9.2.1 3) (u9.2.1 4) (u9.2.1 5) bts us act (u9.2.1 6) (u9.2.1 7))) := hD.sub [0, 1, 2, 3, 4, 5, 6, 7, 8, 9, 10, 11, 12, 13, 14, 15] (by decide) rfl
      generalize H1 = H at hP hS ⊢
      generalize locs1 = locs at hS ⊢
      obtain ⟨hpw, hrt, hr48, hrot, hlv, hcu, hwo⟩ := q9
      refine lv_i2l (v := r9.toInt64) hx hb d_L_close_12 rfl ?_
      refine va_last hx hb hK hP hD hS 0 0 rfl rfl (vp_in_nI (by omega) (by decide)) d_L_close_13 (fun H locs hP hD hS => ?_)
      rw [nI_clamp (by omega)] at hP hD
      have hP : va_P (dC, dI) vwCl ((ao, .inl (co, 1, .inr (.inl (vp_updL fo 0 r9.toInt64)))) :: (xw ad cd (u9.1 0) (u9.1 1) fl (u9.2.1 0) (u9.2.1 1) (u9.1 2) (u9.1 3) (u9.1 4) (nI (u9.2.2 0)) (nI (u9.2.2 1)) (u9.1 5) (u9.1 6) (u9.2.1 2) (u9.2.1 3) (u9.2.1 4) (u9.2.1 5) bts us act (u9.2.1 6) (u9.2.1 7))) H := hP
      have hD : va_D (oA ao ad s.heap.size) ((ao, .inl (co, 1, .inr (.inl (vp_updL fo 0 r9.toInt64)))) :: (xw ad cd (u9.1 0) (u9.1 1) fl (u9.2.1 0) (u9.2.1 1) (u9.1 2) (u9.1 3) (u9.1 4) (nI (u9.2.2 0)) (nI (u9.2.2 1)) (u9.1 5) (u9.1 6) (u9.2.1 2) (u9.2.1 3) (u9.2.1 4) (u9.2.1 5) bts us act (u9.2.1 6) (u9.2.1 7))) := hD
      refine lv_goto (tgt := 25) hx hb d_L_close_14 (by decide) ?_
      refine lv_iconst (v := nI 0) hx hb d_L_close_25 (by decide) ?_
      refine W.widen (k := 1) (n := 6) (by decide) (by decide) ?_
      exact W.iret (v := nI 0) hx hb hr (fun t ht hW => ⟨⟨nI 0, ((fun i => [u9.1 0, u9.1 1, u9.1 2, u9.1 3, u9.1 4, u9.1 5, u9.1 6].getD i (fun _ => 0), fun i => [u9.2.1 0, u9.2.1 1, u9.2.1 2, u9.2.1 3, u9.2.1 4, u9.2.1 5, u9.2.1 6, u9.2.1 7].getD i 0, fun i => [u9.2.2 0, u9.2.2 1].getD i 0), (vp_updL fo 0 r9.toInt64)), rfl, ⟨by first | exact hpw | exact B01.n0 | exact B01.n1, by first | exact hrt | omega, by first | exact hr48 | omega, hrot, hlv, by first | exact hcu | exact PG.m1, hwo⟩, ⟨by rw [ht]; exact hP, va_K.moved hW.alike hK, hD⟩⟩, hS.F ht⟩) hS.2.2 d_L_close_26
  ·
    refine lv_aload hx hb d_L_close_0 (lv_at hl 5 rfl) ?_
    refine lv_iconst (v := nI 0) hx hb d_L_close_2 (by decide) ?_
    refine lv_aload_n hx hb d_L_close_3 rfl (lv_at hl 0 rfl) ?_
    refine lv_iload_n hx hb d_L_close_4 rfl (lv_at hl 1 rfl) ?_
    refine lv_iload_n hx hb d_L_close_5 rfl (lv_at hl 2 rfl) ?_
    refine lv_iload_n hx hb d_L_close_6 rfl (lv_at hl 3 rfl) ?_
    refine lv_iload hx hb d_L_close_7 (lv_at hl 4 rfl) ?_
    have hPc := hP.sub (ws' := (xw ad cd w wr fl pw sc lw rot vb (nI rn) (nI tn) live row cur ser dur wo bts us act rd rs)) [1, 2, 3, 4, 5, 6, 7, 8, 9, 10, 11, 12, 13, 14, 15] rfl
    have hKc := hK.sub (tys' := (xt cd)) [1, 2, 3, 4, 5, 6, 7, 8, 9, 10] rfl
    refine th_catch1 (x := ⟨0, 14, 17, 13⟩) (rest := [.int (nI 0), .ref ao]) hrows (by decide) (by decide) hown (hts (.classLink R_L 13 E_A) (List.mem_cons_of_mem _ t_265)) (va_Nw.use rfl hn.1.1) (fun T hT X => th_runV (C := R_R) (As := [.int plate, .int tare, .int product, .int clock]) (rest := [.int (nI 0), .ref ao]) ⟨hx, hb, hml, hown, hts⟩ (th_R_close_a l hl9 dC dI ad cd az w wr fl pw sc lw rot vb (nI rn) (nI tn) live row cur ser dur wo bts us act rd rs plate tare product clock (by first | assumption | omega)) (cwV 4 hts (g_V t_359 t_360 t_361 t_1 t_362) rfl rfl rfl (by decide +kernel) ⟨by decide, by decide⟩) (xT_v hPc hKc hz hn hN 0 rfl rfl) rfl rfl hl.1 rfl (lv_room (Nat.le_of_ble_eq_true rfl)) d_L_close_9 ⟨by decide, by decide⟩ hT X) (fun q H1 hz1 hk1 => ?_)
    have hP1 : va_P (dC, dI) vwCl ((ao, .inl (co, 1, .inr (.inl fo))) :: (xw ad cd w wr fl pw sc lw rot vb (nI rn) (nI tn) live row cur ser dur wo bts us act rd rs)) H1 := hP.kept (fun k q hk => hk1 _ ((hP k q hk).lt))
    have hS1 : va_S (oA ao ad s.heap.size) s.heap H1 [] := ⟨hz1, fun q h1 _ => hk1 q h1, fun _ h => by cases h⟩
    refine W.eq (g2 := F0 m 17 ls [.ref q]) rfl ?_
    refine lv_astore hx hb d_L_close_17 hl (by decide) rfl (fun ls hl => ?_)
    have hl : lv_has ls 7 [(6, .ref q), (0, .ref (ad 0)), (1, .int plate), (2, .int tare), (3, .int product), (4, .int clock), (5, .ref ao)] := hl
    refine lv_iconst (v := nI 1) hx hb d_L_close_19 (by decide) ?_
    exact W.iret (v := nI 1) hx hb hr (fun t ht hW => ⟨⟨nI 1, ((fun i => [w, wr, lw, rot, vb, live, row].getD i (fun _ => 0), fun i => [pw, sc, cur, ser, dur, wo, rd, rs].getD i 0, fun i => [rn, tn].getD i 0), fo), rfl, ⟨by first | exact hpw | exact B01.n0 | exact B01.n1, by first | exact hrt | omega, by first | exact hr48 | omega, hrot, hlv, by first | exact hcu | exact PG.m1, hwo⟩, ⟨by rw [ht]; exact hP1, va_K.moved hW.alike hK, hD⟩⟩, hS1.F ht⟩) hS1.2.2 d_L_close_20
set_option maxHeartbeats 4000000 in
set_option maxRecDepth 100000 in
theorem cw_L_annul (l : Launch) (hl9 : l.stackTraces = false) (dC : Nat → ClassId) (dI : Nat → Nat → Nat) (ad cd : Nat → Nat) (ao co : Nat) (sz az : Nat) (w wr fl : Nat → Int32) (pw sc : Int32) (lw rot vb : Nat → Int32) (rec tk : Int32) (live row : Nat → Int32) (cur ser dur wo : Int32) (bts : Nat → Int32) (us : Int32) (act : Nat → Int32) (rd rs : Int32) (fo : Nat → Int64) (rn : Nat) (tn : Nat) (tno : Int32) (rea : Int32) (hpw : B01 pw) (hfl : ∀ i, i < 8 → B01 (fl i)) (hrt : tn ≤ rn) (hr48 : rn ≤ 48) (hrot : ∀ i, i < 48 → IX 48 (rot i)) (hlv : ∀ i, i < 16 → PG 32 (live i)) (hcu : PG 8 cur) (hwo : B01 wo) : Met l y_L_annul w_L_annul ({ frames := 8, cells := 1, slots := 6, locals := 159 }) (oP (dC, dI) vwCl ((co, .long) :: xt cd) ((ao, .inl (co, 1, .inr (.inl fo))) :: (xw ad cd w wr fl pw sc lw rot vb (nI rn) (nI tn) live row cur ser dur wo bts us act rd rs)) sz az [.ref (ad 0), .int tno, .int rea, .ref ao]) (va_Qi (fun r (u : ((Nat → Nat → Int32) × (Nat → Int32) × (Nat → Nat)) × (Nat → Int64)) => B01 (u.1.2.1 0) ∧ (u.1.2.2 1) ≤ (u.1.2.2 0) ∧ (u.1.2.2 0) ≤ 48 ∧ (∀ i, i < 48 → IX 48 ((u.1.1 3) i)) ∧ (∀ i, i < 16 → PG 32 ((u.1.1 5) i)) ∧ PG 8 (u.1.2.1 2) ∧ B01 (u.1.2.1 5)) (fun (u : ((Nat → Nat → Int32) × (Nat → Int32) × (Nat → Nat)) × (Nat → Int64)) (t : State) => xB (dC, dI) vwCl ((co, .long) :: xt cd) (oA ao ad sz) ((ao, .inl (co, 1, .inr (.inl u.2))) :: (xw ad cd (u.1.1 0) (u.1.1 1) fl (u.1.2.1 0) (u.1.2.1 1) (u.1.1 2) (u.1.1 3) (u.1.1 4) (nI (u.1.2.2 0)) (nI (u.1.2.2 1)) (u.1.1 5) (u.1.1 6) (u.1.2.1 2) (u.1.2.1 3) (u.1.2.1 4) (u.1.2.1 5) bts us act rd rs)) t) (oA ao ad sz)) 1 6 (oA ao ad sz) := by
  refine va_MetW (cc := b_L_annul) (maxL := 5) (ret := (some (.int))) (by decide) rfl ?_
  intro P e s m args below meth c0 s₁ B hml hv
  obtain ⟨rfl, hsz, hP, hK, hD0, hz, hn, hc, hN⟩ := hv
  have hx := B.exec
  have hb := B.bytes
  have hr := B.returns
  have hts := atoms_spec (ws := w_L_annul) B.pre
  have hown : s.vm.findClass R_L = some m.cls := findClass_of_methodNamed B.named
  have hlocks := B.notSynchronized
  subst hsz
  have hD := ow_D (sz := s.heap.size) hD0
  have hS : va_S (oA ao ad s.heap.size) s.heap s.heap [] := va_S.rf
  have hA : ∀ q : Nat, s.heap.size ≤ q → (oA ao ad s.heap.size) q := fun q h => Or.inr (Or.inr h)
  have hl := lv_entry ([.ref (ad 0), .int tno, .int rea, .ref ao]) (n := 5) (Nat.le_of_ble_eq_true rfl)
  rw [lg_entry_eq]
  generalize (lg_sl ([.ref (ad 0), .int tno, .int rea, .ref ao]) ++ List.replicate (5 - (lg_sl ([.ref (ad 0), .int tno, .int rea, .ref ao])).length) Slot.unset).toArray = ls at hl ⊢
  have hl : lv_has ls 5 [(0, .ref (ad 0)), (1, .int tno), (2, .int rea), (3, .ref ao)] := hl
  obtain ⟨m9, meth9, c9, hn9, hm9, hc9, -, -, hh9, -⟩ := Cond.codeWith_spec (hts _ List.mem_cons_self)
  cases B.named.symm.trans hn9
  cases B.method.symm.trans hm9
  cases (Stand.of_body B).code.symm.trans hc9
  have hrows := rows_of hh9
  by_cases hok : (nI 0 ≤ rea ∧ rea ≤ nI 3)
  ·
    rcases hpw with rfl | rfl
    ·
      refine lv_aload_n hx hb d_L_annul_0 rfl (lv_at hl 3 rfl) ?_
      refine lv_iconst (v := nI 0) hx hb d_L_annul_1 (by decide) ?_
      refine lv_aload_n hx hb d_L_annul_2 rfl (lv_at hl 0 rfl) ?_
      refine lv_iload_n hx hb d_L_annul_3 rfl (lv_at hl 1 rfl) ?_
      refine lv_iload_n hx hb d_L_annul_4 rfl (lv_at hl 2 rfl) ?_
      have hPc := hP.sub (ws' := (xw ad cd w wr fl (nI 0) sc lw rot vb (nI rn) (nI tn) live row cur ser dur wo bts us act rd rs)) [1, 2, 3, 4, 5, 6, 7, 8, 9, 10, 11, 12, 13, 14, 15] rfl
      have hKc := hK.sub (tys' := (xt cd)) [1, 2, 3, 4, 5, 6, 7, 8, 9, 10] rfl
      refine th_catch2 (y := ⟨0, 10, 13, 13⟩) (x := ⟨0, 10, 17, 15⟩) (rest := [.int (nI 0), .ref ao]) (N := E_A) hrows (by decide) (by decide) (by decide) (by decide) hown (hts (.classLink R_L 13 E_A) (List.mem_cons_of_mem _ t_265)) hc.2 (hts (.classLink R_L 15 E_S) (List.mem_cons_of_mem _ t_266)) (va_Nw.use rfl hn.1.2.1) (fun T hT X => th_runV (C := R_R) (As := [.int tno, .int rea]) (rest := [.int (nI 0), .ref ao]) ⟨hx, hb, hml, hown, hts⟩ (th_R_annul_o l hl9 dC dI ad cd az w wr fl (nI 0) sc lw rot vb (nI rn) (nI tn) live row cur ser dur wo bts us act rd rs tno rea (by first | assumption | omega)) (cwV 2 hts (g_V t_469 t_470 t_471 t_1 t_472) rfl rfl rfl (by decide +kernel) ⟨by decide, by decide⟩) (xT_v hPc hKc hz hn hN 0 rfl rfl) rfl rfl hl.1 rfl (lv_room (Nat.le_of_ble_eq_true rfl)) d_L_annul_5 ⟨by decide, by decide⟩ hT X) (fun q H1 hz1 hk1 => ?_)
      have hP1 : va_P (dC, dI) vwCl ((ao, .inl (co, 1, .inr (.inl fo))) :: (xw ad cd w wr fl (nI 0) sc lw rot vb (nI rn) (nI tn) live row cur ser dur wo bts us act rd rs)) H1 := hP.kept (fun k q hk => hk1 _ ((hP k q hk).lt))
      have hS1 : va_S (oA ao ad s.heap.size) s.heap H1 [] := ⟨hz1, fun q h1 _ => hk1 q h1, fun _ h => by cases h⟩
      refine W.eq (g2 := F0 m 17 ls [.ref q]) rfl ?_
      refine lv_astore hx hb d_L_annul_17 hl (by decide) rfl (fun ls hl => ?_)
      have hl : lv_has ls 5 [(4, .ref q), (0, .ref (ad 0)), (1, .int tno), (2, .int rea), (3, .ref ao)] := hl
      refine lv_iconst (v := nI 2) hx hb d_L_annul_19 (by decide) ?_
      exact W.iret (v := nI 2) hx hb hr (fun t ht hW => ⟨⟨nI 2, ((fun i => [w, wr, lw, rot, vb, live, row].getD i (fun _ => 0), fun i => [nI 0, sc, cur, ser, dur, wo].getD i 0, fun i => [rn, tn].getD i 0), fo), rfl, ⟨by first | exact hpw | exact B01.n0 | exact B01.n1, by first | exact hrt | omega, by first | exact hr48 | omega, hrot, hlv, by first | exact hcu | exact PG.m1, hwo⟩, ⟨by rw [ht]; exact hP1, va_K.moved hW.alike hK, hD⟩⟩, hS1.F ht⟩) hS1.2.2 d_L_annul_20
    ·
      refine lv_aload_n hx hb d_L_annul_0 rfl (lv_at hl 3 rfl) ?_
      refine lv_iconst (v := nI 0) hx hb d_L_annul_1 (by decide) ?_
      refine lv_aload_n hx hb d_L_annul_2 rfl (lv_at hl 0 rfl) ?_
      refine lv_iload_n hx hb d_L_annul_3 rfl (lv_at hl 1 rfl) ?_
      refine lv_iload_n hx hb d_L_annul_4 rfl (lv_at hl 2 rfl) ?_
      have hPc := hP.sub (ws' := (xw ad cd w wr fl (nI 1) sc lw rot vb (nI rn) (nI tn) live row cur ser dur wo bts us act rd rs)) [1, 2, 3, 4, 5, 6, 7, 8, 9, 10, 11, 12, 13, 14, 15] rfl
      have hKc := hK.sub (tys' := (xt cd)) [1, 2, 3, 4, 5, 6, 7, 8, 9, 10] rfl
      have hDc := hD.sub (ws' := (xw ad cd w wr fl (nI 1) sc lw rot vb (nI rn) (nI tn) live row cur ser dur wo bts us act rd rs)) [1, 2, 3, 4, 5, 6, 7, 8, 9, 10, 11, 12, 13, 14, 15] (by decide) rfl
      have hFc := va_free (wc := (xw ad cd w wr fl (nI 1) sc lw rot vb (nI rn) (nI tn) live row cur ser dur wo bts us act rd rs)) hD hS hA [1, 2, 3, 4, 5, 6, 7, 8, 9, 10, 11, 12, 13, 14, 15] rfl
      have hSz := hS.1
      refine va_calli (va_runV (C := R_R) (As := [.int tno, .int rea]) (rest := [.int (nI 0), .ref ao]) ⟨hx, hb, hml, hown, hts⟩ (c_R_annul_ok l dC dI ad cd s.heap.size w wr fl (nI 1) sc lw rot vb (nI rn) (nI tn) live row cur ser dur wo bts us act rd rs rn tn tno rea (by first | omega | rfl | assumption | decide) (by first | omega | rfl | assumption | decide) (by first | omega | rfl | assumption | decide) (by first | omega | rfl | assumption | decide) (by first | omega | rfl | assumption | decide) (by first | omega | rfl | assumption | decide) (by first | omega | rfl | assumption | decide) (by first | omega | rfl | assumption | decide)) (cwV 2 hts (g_V t_469 t_470 t_471 t_1 t_472) rfl rfl rfl (by decide +kernel) ⟨by decide, by decide⟩) (xP_v hPc hKc hDc hN 0 rfl rfl) rfl rfl hl.1 rfl (lv_room (Nat.le_of_ble_eq_true rfl)) d_L_annul_5 ⟨by decide, by decide⟩) hS (fun q _ h => hFc q (xw_A h)) (fun q h => hFc q (xw_A h)) (fun r5 u5 t H1 locs1 ht hvm q5 hB hz1 hk1 hS => ?_)
      obtain ⟨hP1, hK1, hD1⟩ := hB
      rw [ht] at hP1
      obtain ⟨hP, hD⟩ := va_join (wr := [(ao, .inl (co, 1, .inr (.inl fo)))]) (w1 := (xw ad cd (u5.1 0) (u5.1 1) fl (u5.2.1 0) (u5.2.1 1) (u5.1 2) (u5.1 3) (u5.1 4) (nI (u5.2.2 0)) (nI (u5.2.2 1)) (u5.1 5) (u5.1 6) (u5.2.1 2) (u5.2.1 3) (u5.2.1 4) (u5.2.1 5) bts us act rd rs)) hP hD [1, 2, 3, 4, 5, 6, 7, 8, 9, 10, 11, 12, 13, 14, 15] [0] rfl rfl (by decide) (by decide) (fun q h1 h2 => hk1 q h1 (fun z => h2 (xw_A z))) hFc hP1 (hD1.weaken (fun _ _ _ h => xw_A h))
      have hP : va_P (dC, dI) vwCl ((ao, .inl (co, 1, .inr (.inl fo))) :: (xw ad cd (u5.1 0) (u5.1 1) fl (u5.2.1 0) (u5.2.1 1) (u5.1 2) (u5.1 3) (u5.1 4) (nI (u5.2.2 0)) (nI (u5.2.2 1)) (u5.1 5) (u5.1 6) (u5.2.1 2) (u5.2.1 3) (u5.2.1 4) (u5.2.1 5) bts us act rd rs)) H1 := hP.sub [0, 1, 2, 3, 4, 5, 6, 7, 8, 9, 10, 11, 12, 13, 14, 15] rfl
      have hD : va_D (oA ao ad s.heap.size) ((ao, .inl (co, 1, .inr (.inl fo))) :: (xw ad cd (u5.1 0) (u5.1 1) fl (u5.2.1 0) (u5.2.1 1) (u5.1 2) (u5.1 3) (u5.1 4) (nI (u5.2.2 0)) (nI (u5.2.2 1)) (u5.1 5) (u5.1 6) (u5.2.1 2) (u5.2.1 3) (u5.2.1 4) (u5.2.1 5) bts us act rd rs)) := hD.sub [0, 1, 2, 3, 4, 5, 6, 7, 8, 9, 10, 11, 12, 13, 14, 15] (by decide) rfl
      generalize H1 = H at hP hS ⊢
      generalize locs1 = locs at hS ⊢
      obtain ⟨hpw, hrt, hr48, hrot, hlv, hcu, hwo⟩ := q5
      refine lv_i2l (v := r5.toInt64) hx hb d_L_annul_8 rfl ?_
      refine va_last hx hb hK hP hD hS 0 0 rfl rfl (vp_in_nI (by omega) (by decide)) d_L_annul_9 (fun H locs hP hD hS => ?_)
      rw [nI_clamp (by omega)] at hP hD
      have hP : va_P (dC, dI) vwCl ((ao, .inl (co, 1, .inr (.inl (vp_updL fo 0 r5.toInt64)))) :: (xw ad cd (u5.1 0) (u5.1 1) fl (u5.2.1 0) (u5.2.1 1) (u5.1 2) (u5.1 3) (u5.1 4) (nI (u5.2.2 0)) (nI (u5.2.2 1)) (u5.1 5) (u5.1 6) (u5.2.1 2) (u5.2.1 3) (u5.2.1 4) (u5.2.1 5) bts us act rd rs)) H := hP
      have hD : va_D (oA ao ad s.heap.size) ((ao, .inl (co, 1, .inr (.inl (vp_updL fo 0 r5.toInt64)))) :: (xw ad cd (u5.1 0) (u5.1 1) fl (u5.2.1 0) (u5.2.1 1) (u5.1 2) (u5.1 3) (u5.1 4) (nI (u5.2.2 0)) (nI (u5.2.2 1)) (u5.1 5) (u5.1 6) (u5.2.1 2) (u5.2.1 3) (u5.2.1 4) (u5.2.1 5) bts us act rd rs)) := hD
      refine lv_goto (tgt := 21) hx hb d_L_annul_10 (by decide) ?_
      refine lv_iconst (v := nI 0) hx hb d_L_annul_21 (by decide) ?_
      refine W.widen (k := 1) (n := 6) (by decide) (by decide) ?_
      exact W.iret (v := nI 0) hx hb hr (fun t ht hW => ⟨⟨nI 0, ((fun i => [u5.1 0, u5.1 1, u5.1 2, u5.1 3, u5.1 4, u5.1 5, u5.1 6].getD i (fun _ => 0), fun i => [u5.2.1 0, u5.2.1 1, u5.2.1 2, u5.2.1 3, u5.2.1 4, u5.2.1 5].getD i 0, fun i => [u5.2.2 0, u5.2.2 1].getD i 0), (vp_updL fo 0 r5.toInt64)), rfl, ⟨by first | exact hpw | exact B01.n0 | exact B01.n1, by first | exact hrt | omega, by first | exact hr48 | omega, hrot, hlv, by first | exact hcu | exact PG.m1, hwo⟩, ⟨by rw [ht]; exact hP, va_K.moved hW.alike hK, hD⟩⟩, hS.F ht⟩) hS.2.2 d_L_annul_22
  ·
    refine lv_aload_n hx hb d_L_annul_0 rfl (lv_at hl 3 rfl) ?_
    refine lv_iconst (v := nI 0) hx hb d_L_annul_1 (by decide) ?_
    refine lv_aload_n hx hb d_L_annul_2 rfl (lv_at hl 0 rfl) ?_
    refine lv_iload_n hx hb d_L_annul_3 rfl (lv_at hl 1 rfl) ?_
    refine lv_iload_n hx hb d_L_annul_4 rfl (lv_at hl 2 rfl) ?_
    have hPc := hP.sub (ws' := (xw ad cd w wr fl pw sc lw rot vb (nI rn) (nI tn) live row cur ser dur wo bts us act rd rs)) [1, 2, 3, 4, 5, 6, 7, 8, 9, 10, 11, 12, 13, 14, 15] rfl
    have hKc := hK.sub (tys' := (xt cd)) [1, 2, 3, 4, 5, 6, 7, 8, 9, 10] rfl
    refine th_catch1 (x := ⟨0, 10, 13, 13⟩) (rest := [.int (nI 0), .ref ao]) hrows (by decide) (by decide) hown (hts (.classLink R_L 13 E_A) (List.mem_cons_of_mem _ t_265)) (va_Nw.use rfl hn.1.1) (fun T hT X => th_runV (C := R_R) (As := [.int tno, .int rea]) (rest := [.int (nI 0), .ref ao]) ⟨hx, hb, hml, hown, hts⟩ (th_R_annul_a l hl9 dC dI ad cd az w wr fl pw sc lw rot vb (nI rn) (nI tn) live row cur ser dur wo bts us act rd rs tno rea (by first | assumption | omega)) (cwV 2 hts (g_V t_469 t_470 t_471 t_1 t_472) rfl rfl rfl (by decide +kernel) ⟨by decide, by decide⟩) (xT_v hPc hKc hz hn hN 0 rfl rfl) rfl rfl hl.1 rfl (lv_room (Nat.le_of_ble_eq_true rfl)) d_L_annul_5 ⟨by decide, by decide⟩ hT X) (fun q H1 hz1 hk1 => ?_)
    have hP1 : va_P (dC, dI) vwCl ((ao, .inl (co, 1, .inr (.inl fo))) :: (xw ad cd w wr fl pw sc lw rot vb (nI rn) (nI tn) live row cur ser dur wo bts us act rd rs)) H1 := hP.kept (fun k q hk => hk1 _ ((hP k q hk).lt))
    have hS1 : va_S (oA ao ad s.heap.size) s.heap H1 [] := ⟨hz1, fun q h1 _ => hk1 q h1, fun _ h => by cases h⟩
    refine W.eq (g2 := F0 m 13 ls [.ref q]) rfl ?_
    refine lv_astore hx hb d_L_annul_13 hl (by decide) rfl (fun ls hl => ?_)
    have hl : lv_has ls 5 [(4, .ref q), (0, .ref (ad 0)), (1, .int tno), (2, .int rea), (3, .ref ao)] := hl
    refine lv_iconst (v := nI 1) hx hb d_L_annul_15 (by decide) ?_
    exact W.iret (v := nI 1) hx hb hr (fun t ht hW => ⟨⟨nI 1, ((fun i => [w, wr, lw, rot, vb, live, row].getD i (fun _ => 0), fun i => [pw, sc, cur, ser, dur, wo].getD i 0, fun i => [rn, tn].getD i 0), fo), rfl, ⟨by first | exact hpw | exact B01.n0 | exact B01.n1, by first | exact hrt | omega, by first | exact hr48 | omega, hrot, hlv, by first | exact hcu | exact PG.m1, hwo⟩, ⟨by rw [ht]; exact hP1, va_K.moved hW.alike hK, hD⟩⟩, hS1.F ht⟩) hS1.2.2 d_L_annul_16
set_option maxHeartbeats 4000000 in
set_option maxRecDepth 100000 in
theorem cw_L_sync (l : Launch) (hl9 : l.stackTraces = false) (dC : Nat → ClassId) (dI : Nat → Nat → Nat) (ad cd : Nat → Nat) (ao co : Nat) (sz az : Nat) (w wr fl : Nat → Int32) (pw sc : Int32) (lw rot vb : Nat → Int32) (rec tk : Int32) (live row : Nat → Int32) (cur ser dur wo : Int32) (bts : Nat → Int32) (us : Int32) (act : Nat → Int32) (rd rs : Int32) (fo : Nat → Int64) (rn : Nat) (hpw : B01 pw) (hr48 : rn ≤ 48) (hfl : ∀ i, i < 8 → B01 (fl i)) (hlv : ∀ i, i < 16 → PG 32 (live i)) (hcu : PG 8 cur) (hwo : B01 wo) : Met l y_L_sync w_L_sync ({ frames := 8, cells := 1, slots := 6, locals := 141 }) (oP (dC, dI) vwCl ((co, .long) :: xt cd) ((ao, .inl (co, 1, .inr (.inl fo))) :: (xw ad cd w wr fl pw sc lw rot vb (nI rn) tk live row cur ser dur wo bts us act rd rs)) sz az [.ref (ad 0), .ref ao]) (va_Qi (fun r (u : ((Nat → Nat → Int32) × (Nat → Int32) × (Nat → Nat)) × (Nat → Int64)) => B01 (u.1.2.1 0) ∧ (∀ i, i < 16 → PG 32 ((u.1.1 2) i)) ∧ PG 8 (u.1.2.1 2) ∧ B01 (u.1.2.1 5)) (fun (u : ((Nat → Nat → Int32) × (Nat → Int32) × (Nat → Nat)) × (Nat → Int64)) (t : State) => xB (dC, dI) vwCl ((co, .long) :: xt cd) (oA ao ad sz) ((ao, .inl (co, 1, .inr (.inl u.2))) :: (xw ad cd (u.1.1 0) (u.1.1 1) fl (u.1.2.1 0) (u.1.2.1 1) lw rot vb (nI rn) tk (u.1.1 2) (u.1.1 3) (u.1.2.1 2) (u.1.2.1 3) (u.1.2.1 4) (u.1.2.1 5) bts us act rd rs)) t) (oA ao ad sz)) 1 6 (oA ao ad sz) := by
  refine va_MetW (cc := b_L_sync) (maxL := 3) (ret := (some (.int))) (by decide) rfl ?_
  intro P e s m args below meth c0 s₁ B hml hv
  obtain ⟨rfl, hsz, hP, hK, hD0, hz, hn, hc, hN⟩ := hv
  have hx := B.exec
  have hb := B.bytes
  have hr := B.returns
  have hts := atoms_spec (ws := w_L_sync) B.pre
  have hown : s.vm.findClass R_L = some m.cls := findClass_of_methodNamed B.named
  have hlocks := B.notSynchronized
  subst hsz
  have hD := ow_D (sz := s.heap.size) hD0
  have hS : va_S (oA ao ad s.heap.size) s.heap s.heap [] := va_S.rf
  have hA : ∀ q : Nat, s.heap.size ≤ q → (oA ao ad s.heap.size) q := fun q h => Or.inr (Or.inr h)
  have hl := lv_entry ([.ref (ad 0), .ref ao]) (n := 3) (Nat.le_of_ble_eq_true rfl)
  rw [lg_entry_eq]
  generalize (lg_sl ([.ref (ad 0), .ref ao]) ++ List.replicate (3 - (lg_sl ([.ref (ad 0), .ref ao])).length) Slot.unset).toArray = ls at hl ⊢
  have hl : lv_has ls 3 [(0, .ref (ad 0)), (1, .ref ao)] := hl
  obtain ⟨m9, meth9, c9, hn9, hm9, hc9, -, -, hh9, -⟩ := Cond.codeWith_spec (hts _ List.mem_cons_self)
  cases B.named.symm.trans hn9
  cases B.method.symm.trans hm9
  cases (Stand.of_body B).code.symm.trans hc9
  have hrows := rows_of hh9
  rcases hpw with rfl | rfl
  ·
    refine lv_aload_n hx hb d_L_sync_0 rfl (lv_at hl 1 rfl) ?_
    refine lv_iconst (v := nI 0) hx hb d_L_sync_1 (by decide) ?_
    refine lv_aload_n hx hb d_L_sync_2 rfl (lv_at hl 0 rfl) ?_
    have hPc := hP.sub (ws' := (xw ad cd w wr fl (nI 0) sc lw rot vb (nI rn) tk live row cur ser dur wo bts us act rd rs)) [1, 2, 3, 4, 5, 6, 7, 8, 9, 10, 11, 12, 13, 14, 15] rfl
    have hKc := hK.sub (tys' := (xt cd)) [1, 2, 3, 4, 5, 6, 7, 8, 9, 10] rfl
    refine th_catch1 (x := ⟨0, 8, 11, 15⟩) (rest := [.int (nI 0), .ref ao]) hrows (by decide) (by decide) hown (hts (.classLink R_L 15 E_S) (List.mem_cons_of_mem _ t_266)) (va_Nw.use rfl hn.1.2.1) (fun T hT X => th_runV (C := R_R) (As := []) (rest := [.int (nI 0), .ref ao]) ⟨hx, hb, hml, hown, hts⟩ (th_R_sync_o l hl9 dC dI ad cd az w wr fl (nI 0) sc lw rot vb (nI rn) tk live row cur ser dur wo bts us act rd rs  ) (cwV 0 hts (g_V t_479 t_480 t_481 t_1 t_482) rfl rfl rfl (by decide +kernel) ⟨by decide, by decide⟩) (xT_v hPc hKc hz hn hN 0 rfl rfl) rfl rfl hl.1 rfl (lv_room (Nat.le_of_ble_eq_true rfl)) d_L_sync_3 ⟨by decide, by decide⟩ hT X) (fun q H1 hz1 hk1 => ?_)
    have hP1 : va_P (dC, dI) vwCl ((ao, .inl (co, 1, .inr (.inl fo))) :: (xw ad cd w wr fl (nI 0) sc lw rot vb (nI rn) tk live row cur ser dur wo bts us act rd rs)) H1 := hP.kept (fun k q hk => hk1 _ ((hP k q hk).lt))
    have hS1 : va_S (oA ao ad s.heap.size) s.heap H1 [] := ⟨hz1, fun q h1 _ => hk1 q h1, fun _ h => by cases h⟩
    refine W.eq (g2 := F0 m 11 ls [.ref q]) rfl ?_
    refine lv_astore_n hx hb d_L_sync_11 rfl hl (by decide) rfl (fun ls hl => ?_)
    have hl : lv_has ls 3 [(2, .ref q), (0, .ref (ad 0)), (1, .ref ao)] := hl
    refine lv_iconst (v := nI 1) hx hb d_L_sync_12 (by decide) ?_
    exact W.iret (v := nI 1) hx hb hr (fun t ht hW => ⟨⟨nI 1, ((fun i => [w, wr, live, row].getD i (fun _ => 0), fun i => [nI 0, sc, cur, ser, dur, wo].getD i 0, fun i => [].getD i 0), fo), rfl, ⟨by first | exact hpw | exact B01.n0 | exact B01.n1, hlv, by first | exact hcu | exact PG.m1, hwo⟩, ⟨by rw [ht]; exact hP1, va_K.moved hW.alike hK, hD⟩⟩, hS1.F ht⟩) hS1.2.2 d_L_sync_13
  ·
    refine lv_aload_n hx hb d_L_sync_0 rfl (lv_at hl 1 rfl) ?_
    refine lv_iconst (v := nI 0) hx hb d_L_sync_1 (by decide) ?_
    refine lv_aload_n hx hb d_L_sync_2 rfl (lv_at hl 0 rfl) ?_
    have hPc := hP.sub (ws' := (xw ad cd w wr fl (nI 1) sc lw rot vb (nI rn) tk live row cur ser dur wo bts us act rd rs)) [1, 2, 3, 4, 5, 6, 7, 8, 9, 10, 11, 12, 13, 14, 15] rfl
    have hKc := hK.sub (tys' := (xt cd)) [1, 2, 3, 4, 5, 6, 7, 8, 9, 10] rfl
    have hDc := hD.sub (ws' := (xw ad cd w wr fl (nI 1) sc lw rot vb (nI rn) tk live row cur ser dur wo bts us act rd rs)) [1, 2, 3, 4, 5, 6, 7, 8, 9, 10, 11, 12, 13, 14, 15] (by decide) rfl
    have hFc := va_free (wc := (xw ad cd w wr fl (nI 1) sc lw rot vb (nI rn) tk live row cur ser dur wo bts us act rd rs)) hD hS hA [1, 2, 3, 4, 5, 6, 7, 8, 9, 10, 11, 12, 13, 14, 15] rfl
    have hSz := hS.1
    refine va_calli (va_runV (C := R_R) (As := []) (rest := [.int (nI 0), .ref ao]) ⟨hx, hb, hml, hown, hts⟩ (c_R_sync_ok l dC dI ad cd s.heap.size w wr fl (nI 1) sc lw rot vb (nI rn) tk live row cur ser dur wo bts us act rd rs rn (by first | omega | rfl | assumption | decide) (by first | omega | rfl | assumption | decide) (by first | omega | rfl | assumption | decide) (by first | omega | rfl | assumption | decide) (by first | omega | rfl | assumption | decide)) (cwV 0 hts (g_V t_479 t_480 t_481 t_1 t_482) rfl rfl rfl (by decide +kernel) ⟨by decide, by decide⟩) (xP_v hPc hKc hDc hN 0 rfl rfl) rfl rfl hl.1 rfl (lv_room (Nat.le_of_ble_eq_true rfl)) d_L_sync_3 ⟨by decide, by decide⟩) hS (fun q _ h => hFc q (xw_A h)) (fun q h => hFc q (xw_A h)) (fun r3 u3 t H1 locs1 ht hvm q3 hB hz1 hk1 hS => ?_)
    obtain ⟨hP1, hK1, hD1⟩ := hB
    rw [ht] at hP1
    obtain ⟨hP, hD⟩ := va_join (wr := [(ao, .inl (co, 1, .inr (.inl fo)))]) (w1 := (xw ad cd (u3.1 0) (u3.1 1) fl (u3.2.1 0) (u3.2.1 1) lw rot vb (nI rn) tk (u3.1 2) (u3.1 3) (u3.2.1 2) (u3.2.1 3) (u3.2.1 4) (u3.2.1 5) bts us act rd rs)) hP hD [1, 2, 3, 4, 5, 6, 7, 8, 9, 10, 11, 12, 13, 14, 15] [0] rfl rfl (by decide) (by decide) (fun q h1 h2 => hk1 q h1 (fun z => h2 (xw_A z))) hFc hP1 (hD1.weaken (fun _ _ _ h => xw_A h))
    have hP : va_P (dC, dI) vwCl ((ao, .inl (co, 1, .inr (.inl fo))) :: (xw ad cd (u3.1 0) (u3.1 1) fl (u3.2.1 0) (u3.2.1 1) lw rot vb (nI rn) tk (u3.1 2) (u3.1 3) (u3.2.1 2) (u3.2.1 3) (u3.2.1 4) (u3.2.1 5) bts us act rd rs)) H1 := hP.sub [0, 1, 2, 3, 4, 5, 6, 7, 8, 9, 10, 11, 12, 13, 14, 15] rfl
    have hD : va_D (oA ao ad s.heap.size) ((ao, .inl (co, 1, .inr (.inl fo))) :: (xw ad cd (u3.1 0) (u3.1 1) fl (u3.2.1 0) (u3.2.1 1) lw rot vb (nI rn) tk (u3.1 2) (u3.1 3) (u3.2.1 2) (u3.2.1 3) (u3.2.1 4) (u3.2.1 5) bts us act rd rs)) := hD.sub [0, 1, 2, 3, 4, 5, 6, 7, 8, 9, 10, 11, 12, 13, 14, 15] (by decide) rfl
    generalize H1 = H at hP hS ⊢
    generalize locs1 = locs at hS ⊢
    obtain ⟨hpw, hlv, hcu, hwo⟩ := q3
    refine lv_i2l (v := r3.toInt64) hx hb d_L_sync_6 rfl ?_
    refine va_last hx hb hK hP hD hS 0 0 rfl rfl (vp_in_nI (by omega) (by decide)) d_L_sync_7 (fun H locs hP hD hS => ?_)
    rw [nI_clamp (by omega)] at hP hD
    have hP : va_P (dC, dI) vwCl ((ao, .inl (co, 1, .inr (.inl (vp_updL fo 0 r3.toInt64)))) :: (xw ad cd (u3.1 0) (u3.1 1) fl (u3.2.1 0) (u3.2.1 1) lw rot vb (nI rn) tk (u3.1 2) (u3.1 3) (u3.2.1 2) (u3.2.1 3) (u3.2.1 4) (u3.2.1 5) bts us act rd rs)) H := hP
    have hD : va_D (oA ao ad s.heap.size) ((ao, .inl (co, 1, .inr (.inl (vp_updL fo 0 r3.toInt64)))) :: (xw ad cd (u3.1 0) (u3.1 1) fl (u3.2.1 0) (u3.2.1 1) lw rot vb (nI rn) tk (u3.1 2) (u3.1 3) (u3.2.1 2) (u3.2.1 3) (u3.2.1 4) (u3.2.1 5) bts us act rd rs)) := hD
    refine lv_goto (tgt := 14) hx hb d_L_sync_8 (by decide) ?_
    refine lv_iconst (v := nI 0) hx hb d_L_sync_14 (by decide) ?_
    refine W.widen (k := 1) (n := 6) (by decide) (by decide) ?_
    exact W.iret (v := nI 0) hx hb hr (fun t ht hW => ⟨⟨nI 0, ((fun i => [u3.1 0, u3.1 1, u3.1 2, u3.1 3].getD i (fun _ => 0), fun i => [u3.2.1 0, u3.2.1 1, u3.2.1 2, u3.2.1 3, u3.2.1 4, u3.2.1 5].getD i 0, fun i => [].getD i 0), (vp_updL fo 0 r3.toInt64)), rfl, ⟨by first | exact hpw | exact B01.n0 | exact B01.n1, hlv, by first | exact hcu | exact PG.m1, hwo⟩, ⟨by rw [ht]; exact hP, va_K.moved hW.alike hK, hD⟩⟩, hS.F ht⟩) hS.2.2 d_L_sync_15
set_option maxHeartbeats 4000000 in
set_option maxRecDepth 100000 in
theorem cw_L_ticket (l : Launch) (hl9 : l.stackTraces = false) (dC : Nat → ClassId) (dI : Nat → Nat → Nat) (ad cd : Nat → Nat) (ao co : Nat) (sz az : Nat) (w wr fl : Nat → Int32) (pw sc : Int32) (lw rot vb : Nat → Int32) (rec tk : Int32) (live row : Nat → Int32) (cur ser dur wo : Int32) (bts : Nat → Int32) (us : Int32) (act : Nat → Int32) (rd rs : Int32) (fo : Nat → Int64) (tn : Nat) (tno : Int32) (what : Int32) (hpw : B01 pw) (ht48 : tn ≤ 48) (hrot : ∀ i, i < 48 → IX 48 (rot i)) : Met l y_L_ticket w_L_ticket ({ frames := 8, cells := 1, slots := 6, locals := 142 }) (oP (dC, dI) vwCl ((co, .long) :: xt cd) ((ao, .inl (co, 1, .inr (.inl fo))) :: (xw ad cd w wr fl pw sc lw rot vb rec (nI tn) live row cur ser dur wo bts us act rd rs)) sz az [.ref (ad 0), .int tno, .int what, .ref ao]) (va_Qi (fun r (u : ((Nat → Nat → Int32) × (Nat → Int32) × (Nat → Nat)) × (Nat → Int64)) => True) (fun (u : ((Nat → Nat → Int32) × (Nat → Int32) × (Nat → Nat)) × (Nat → Int64)) (t : State) => xB (dC, dI) vwCl ((co, .long) :: xt cd) (oA ao ad sz) ((ao, .inl (co, 1, .inr (.inl u.2))) :: (xw ad cd w wr fl pw sc lw rot vb rec (nI tn) live row cur ser dur wo bts us act rd rs)) t) (oA ao ad sz)) 1 6 (oA ao ad sz) := by
  refine va_MetW (cc := b_L_ticket) (maxL := 5) (ret := (some (.int))) (by decide) rfl ?_
  intro P e s m args below meth c0 s₁ B hml hv
  obtain ⟨rfl, hsz, hP, hK, hD0, hz, hn, hc, hN⟩ := hv
  have hx := B.exec
  have hb := B.bytes
  have hr := B.returns
  have hts := atoms_spec (ws := w_L_ticket) B.pre
  have hown : s.vm.findClass R_L = some m.cls := findClass_of_methodNamed B.named
  have hlocks := B.notSynchronized
  subst hsz
  have hD := ow_D (sz := s.heap.size) hD0
  have hS : va_S (oA ao ad s.heap.size) s.heap s.heap [] := va_S.rf
  have hA : ∀ q : Nat, s.heap.size ≤ q → (oA ao ad s.heap.size) q := fun q h => Or.inr (Or.inr h)
  have hl := lv_entry ([.ref (ad 0), .int tno, .int what, .ref ao]) (n := 5) (Nat.le_of_ble_eq_true rfl)
  rw [lg_entry_eq]
  generalize (lg_sl ([.ref (ad 0), .int tno, .int what, .ref ao]) ++ List.replicate (5 - (lg_sl ([.ref (ad 0), .int tno, .int what, .ref ao])).length) Slot.unset).toArray = ls at hl ⊢
  have hl : lv_has ls 5 [(0, .ref (ad 0)), (1, .int tno), (2, .int what), (3, .ref ao)] := hl
  obtain ⟨m9, meth9, c9, hn9, hm9, hc9, -, -, hh9, -⟩ := Cond.codeWith_spec (hts _ List.mem_cons_self)
  cases B.named.symm.trans hn9
  cases B.method.symm.trans hm9
  cases (Stand.of_body B).code.symm.trans hc9
  have hrows := rows_of hh9
  rcases hpw with rfl | rfl
  ·
    refine lv_aload_n hx hb d_L_ticket_0 rfl (lv_at hl 3 rfl) ?_
    refine lv_iconst (v := nI 0) hx hb d_L_ticket_1 (by decide) ?_
    refine lv_aload_n hx hb d_L_ticket_2 rfl (lv_at hl 0 rfl) ?_
    refine lv_iload_n hx hb d_L_ticket_3 rfl (lv_at hl 1 rfl) ?_
    refine lv_iload_n hx hb d_L_ticket_4 rfl (lv_at hl 2 rfl) ?_
    have hPc := hP.sub (ws' := (xw ad cd w wr fl (nI 0) sc lw rot vb rec (nI tn) live row cur ser dur wo bts us act rd rs)) [1, 2, 3, 4, 5, 6, 7, 8, 9, 10, 11, 12, 13, 14, 15] rfl
    have hKc := hK.sub (tys' := (xt cd)) [1, 2, 3, 4, 5, 6, 7, 8, 9, 10] rfl
    refine th_catch1 (x := ⟨0, 10, 13, 15⟩) (rest := [.int (nI 0), .ref ao]) hrows (by decide) (by decide) hown (hts (.classLink R_L 15 E_S) (List.mem_cons_of_mem _ t_266)) (va_Nw.use rfl hn.1.2.1) (fun T hT X => th_runV (C := R_R) (As := [.int tno, .int what]) (rest := [.int (nI 0), .ref ao]) ⟨hx, hb, hml, hown, hts⟩ (th_R_ticket_o l hl9 dC dI ad cd az w wr fl (nI 0) sc lw rot vb rec (nI tn) live row cur ser dur wo bts us act rd rs tno what ) (cwV 2 hts (g_V t_487 t_488 t_489 t_1 t_490) rfl rfl rfl (by decide +kernel) ⟨by decide, by decide⟩) (xT_v hPc hKc hz hn hN 0 rfl rfl) rfl rfl hl.1 rfl (lv_room (Nat.le_of_ble_eq_true rfl)) d_L_ticket_5 ⟨by decide, by decide⟩ hT X) (fun q H1 hz1 hk1 => ?_)
    have hP1 : va_P (dC, dI) vwCl ((ao, .inl (co, 1, .inr (.inl fo))) :: (xw ad cd w wr fl (nI 0) sc lw rot vb rec (nI tn) live row cur ser dur wo bts us act rd rs)) H1 := hP.kept (fun k q hk => hk1 _ ((hP k q hk).lt))
    have hS1 : va_S (oA ao ad s.heap.size) s.heap H1 [] := ⟨hz1, fun q h1 _ => hk1 q h1, fun _ h => by cases h⟩
    refine W.eq (g2 := F0 m 13 ls [.ref q]) rfl ?_
    refine lv_astore hx hb d_L_ticket_13 hl (by decide) rfl (fun ls hl => ?_)
    have hl : lv_has ls 5 [(4, .ref q), (0, .ref (ad 0)), (1, .int tno), (2, .int what), (3, .ref ao)] := hl
    refine lv_iconst (v := nI 1) hx hb d_L_ticket_15 (by decide) ?_
    exact W.iret (v := nI 1) hx hb hr (fun t ht hW => ⟨⟨nI 1, ((fun i => [].getD i (fun _ => 0), fun i => [].getD i 0, fun i => [].getD i 0), fo), rfl, trivial, ⟨by rw [ht]; exact hP1, va_K.moved hW.alike hK, hD⟩⟩, hS1.F ht⟩) hS1.2.2 d_L_ticket_16
  ·
    by_cases hok : ((nI 1 ≤ tno ∧ tno ≤ nI tn) ∧ (nI 0 ≤ what ∧ what ≤ nI 6))
    ·
      refine lv_aload_n hx hb d_L_ticket_0 rfl (lv_at hl 3 rfl) ?_
      refine lv_iconst (v := nI 0) hx hb d_L_ticket_1 (by decide) ?_
      refine lv_aload_n hx hb d_L_ticket_2 rfl (lv_at hl 0 rfl) ?_
      refine lv_iload_n hx hb d_L_ticket_3 rfl (lv_at hl 1 rfl) ?_
      refine lv_iload_n hx hb d_L_ticket_4 rfl (lv_at hl 2 rfl) ?_
      have hPc := hP.sub (ws' := (xw ad cd w wr fl (nI 1) sc lw rot vb rec (nI tn) live row cur ser dur wo bts us act rd rs)) [1, 2, 3, 4, 5, 6, 7, 8, 9, 10, 11, 12, 13, 14, 15] rfl
      have hKc := hK.sub (tys' := (xt cd)) [1, 2, 3, 4, 5, 6, 7, 8, 9, 10] rfl
      refine vp_callSi (va_runV (C := R_R) (As := [.int tno, .int what]) (rest := [.int (nI 0), .ref ao]) ⟨hx, hb, hml, hown, hts⟩ (c_R_ticket_ok l dC dI ad cd w wr fl (nI 1) sc lw rot vb rec (nI tn) live row cur ser dur wo bts us act rd rs tn tno what (by first | omega | rfl | assumption | decide) (by first | omega | rfl | assumption | decide) (by first | omega | rfl | assumption | decide)) (cwV 2 hts (g_V t_487 t_488 t_489 t_1 t_490) rfl rfl rfl (by decide +kernel) ⟨by decide, by decide⟩) (xR_v hPc hKc hN 0 rfl rfl) rfl rfl hl.1 rfl (lv_room (Nat.le_of_ble_eq_true rfl)) d_L_ticket_5 ⟨by decide, by decide⟩).run (fun r5 q5 => ?_)
      refine lv_i2l (v := r5.toInt64) hx hb d_L_ticket_8 rfl ?_
      refine va_last hx hb hK hP hD hS 0 0 rfl rfl (vp_in_nI (by omega) (by decide)) d_L_ticket_9 (fun H locs hP hD hS => ?_)
      rw [nI_clamp (by omega)] at hP hD
      have hP : va_P (dC, dI) vwCl ((ao, .inl (co, 1, .inr (.inl (vp_updL fo 0 r5.toInt64)))) :: (xw ad cd w wr fl (nI 1) sc lw rot vb rec (nI tn) live row cur ser dur wo bts us act rd rs)) H := hP
      have hD : va_D (oA ao ad s.heap.size) ((ao, .inl (co, 1, .inr (.inl (vp_updL fo 0 r5.toInt64)))) :: (xw ad cd w wr fl (nI 1) sc lw rot vb rec (nI tn) live row cur ser dur wo bts us act rd rs)) := hD
      refine lv_goto (tgt := 21) hx hb d_L_ticket_10 (by decide) ?_
      refine lv_iconst (v := nI 0) hx hb d_L_ticket_21 (by decide) ?_
      refine W.widen (k := 1) (n := 6) (by decide) (by decide) ?_
      exact W.iret (v := nI 0) hx hb hr (fun t ht hW => ⟨⟨nI 0, ((fun i => [].getD i (fun _ => 0), fun i => [].getD i 0, fun i => [].getD i 0), (vp_updL fo 0 r5.toInt64)), rfl, trivial, ⟨by rw [ht]; exact hP, va_K.moved hW.alike hK, hD⟩⟩, hS.F ht⟩) hS.2.2 d_L_ticket_22
    ·
      refine lv_aload_n hx hb d_L_ticket_0 rfl (lv_at hl 3 rfl) ?_
      refine lv_iconst (v := nI 0) hx hb d_L_ticket_1 (by decide) ?_
      refine lv_aload_n hx hb d_L_ticket_2 rfl (lv_at hl 0 rfl) ?_
      refine lv_iload_n hx hb d_L_ticket_3 rfl (lv_at hl 1 rfl) ?_
      refine lv_iload_n hx hb d_L_ticket_4 rfl (lv_at hl 2 rfl) ?_
      have hPc := hP.sub (ws' := (xw ad cd w wr fl (nI 1) sc lw rot vb rec (nI tn) live row cur ser dur wo bts us act rd rs)) [1, 2, 3, 4, 5, 6, 7, 8, 9, 10, 11, 12, 13, 14, 15] rfl
      have hKc := hK.sub (tys' := (xt cd)) [1, 2, 3, 4, 5, 6, 7, 8, 9, 10] rfl
      refine th_catch2 (y := ⟨0, 10, 13, 15⟩) (x := ⟨0, 10, 17, 32⟩) (rest := [.int (nI 0), .ref ao]) (N := E_S) hrows (by decide) (by decide) (by decide) (by decide) hown (hts (.classLink R_L 15 E_S) (List.mem_cons_of_mem _ t_266)) hc.1 (hts (.classLink R_L 32 E_I) (List.mem_cons_of_mem _ t_486)) (va_Nw.use rfl hn.1.2.2) (fun T hT X => th_runV (C := R_R) (As := [.int tno, .int what]) (rest := [.int (nI 0), .ref ao]) ⟨hx, hb, hml, hown, hts⟩ (th_R_ticket_i l hl9 dC dI ad cd az w wr fl (nI 1) sc lw rot vb rec (nI tn) live row cur ser dur wo bts us act rd rs tn tno what (by first | assumption | omega)) (cwV 2 hts (g_V t_487 t_488 t_489 t_1 t_490) rfl rfl rfl (by decide +kernel) ⟨by decide, by decide⟩) (xT_v hPc hKc hz hn hN 0 rfl rfl) rfl rfl hl.1 rfl (lv_room (Nat.le_of_ble_eq_true rfl)) d_L_ticket_5 ⟨by decide, by decide⟩ hT X) (fun q H1 hz1 hk1 => ?_)
      have hP1 : va_P (dC, dI) vwCl ((ao, .inl (co, 1, .inr (.inl fo))) :: (xw ad cd w wr fl (nI 1) sc lw rot vb rec (nI tn) live row cur ser dur wo bts us act rd rs)) H1 := hP.kept (fun k q hk => hk1 _ ((hP k q hk).lt))
      have hS1 : va_S (oA ao ad s.heap.size) s.heap H1 [] := ⟨hz1, fun q h1 _ => hk1 q h1, fun _ h => by cases h⟩
      refine W.eq (g2 := F0 m 17 ls [.ref q]) rfl ?_
      refine lv_astore hx hb d_L_ticket_17 hl (by decide) rfl (fun ls hl => ?_)
      have hl : lv_has ls 5 [(4, .ref q), (0, .ref (ad 0)), (1, .int tno), (2, .int what), (3, .ref ao)] := hl
      refine lv_iconst (v := nI 2) hx hb d_L_ticket_19 (by decide) ?_
      exact W.iret (v := nI 2) hx hb hr (fun t ht hW => ⟨⟨nI 2, ((fun i => [].getD i (fun _ => 0), fun i => [].getD i 0, fun i => [].getD i 0), fo), rfl, trivial, ⟨by rw [ht]; exact hP1, va_K.moved hW.alike hK, hD⟩⟩, hS1.F ht⟩) hS1.2.2 d_L_ticket_20
set_option maxHeartbeats 4000000 in
set_option maxRecDepth 100000 in
theorem cw_L_dayTotal (l : Launch) (hl9 : l.stackTraces = false) (dC : Nat → ClassId) (dI : Nat → Nat → Nat) (ad cd : Nat → Nat) (ao co : Nat) (sz az : Nat) (w wr fl : Nat → Int32) (pw sc : Int32) (lw rot vb : Nat → Int32) (rec tk : Int32) (live row : Nat → Int32) (cur ser dur wo : Int32) (bts : Nat → Int32) (us : Int32) (act : Nat → Int32) (rd rs : Int32) (fo : Nat → Int64) (tn : Nat) (da : Int32) (pr : Int32) (hpw : B01 pw) (ht48 : tn ≤ 48) (hrot : ∀ i, i < 48 → IX 48 (rot i)) : Met l y_L_dayTotal w_L_dayTotal ({ frames := 8, cells := 1, slots := 6, locals := 146 }) (oP (dC, dI) vwCl ((co, .long) :: xt cd) ((ao, .inl (co, 1, .inr (.inl fo))) :: (xw ad cd w wr fl pw sc lw rot vb rec (nI tn) live row cur ser dur wo bts us act rd rs)) sz az [.ref (ad 0), .int da, .int pr, .ref ao]) (va_Qi (fun r (u : ((Nat → Nat → Int32) × (Nat → Int32) × (Nat → Nat)) × (Nat → Int64)) => True) (fun (u : ((Nat → Nat → Int32) × (Nat → Int32) × (Nat → Nat)) × (Nat → Int64)) (t : State) => xB (dC, dI) vwCl ((co, .long) :: xt cd) (oA ao ad sz) ((ao, .inl (co, 1, .inr (.inl u.2))) :: (xw ad cd w wr fl pw sc lw rot vb rec (nI tn) live row cur ser dur wo bts us act rd rs)) t) (oA ao ad sz)) 1 6 (oA ao ad sz) := by
  refine va_MetW (cc := b_L_dayTotal) (maxL := 5) (ret := (some (.int))) (by decide) rfl ?_
  intro P e s m args below meth c0 s₁ B hml hv
  obtain ⟨rfl, hsz, hP, hK, hD0, hz, hn, hc, hN⟩ := hv
  have hx := B.exec
  have hb := B.bytes
  have hr := B.returns
  have hts := atoms_spec (ws := w_L_dayTotal) B.pre
  have hown : s.vm.findClass R_L = some m.cls := findClass_of_methodNamed B.named
  have hlocks := B.notSynchronized
  subst hsz
  have hD := ow_D (sz := s.heap.size) hD0
  have hS : va_S (oA ao ad s.heap.size) s.heap s.heap [] := va_S.rf
  have hA : ∀ q : Nat, s.heap.size ≤ q → (oA ao ad s.heap.size) q := fun q h => Or.inr (Or.inr h)
  have hl := lv_entry ([.ref (ad 0), .int da, .int pr, .ref ao]) (n := 5) (Nat.le_of_ble_eq_true rfl)
  rw [lg_entry_eq]
  generalize (lg_sl ([.ref (ad 0), .int da, .int pr, .ref ao]) ++ List.replicate (5 - (lg_sl ([.ref (ad 0), .int da, .int pr, .ref ao])).length) Slot.unset).toArray = ls at hl ⊢
  have hl : lv_has ls 5 [(0, .ref (ad 0)), (1, .int da), (2, .int pr), (3, .ref ao)] := hl
  obtain ⟨m9, meth9, c9, hn9, hm9, hc9, -, -, hh9, -⟩ := Cond.codeWith_spec (hts _ List.mem_cons_self)
  cases B.named.symm.trans hn9
  cases B.method.symm.trans hm9
  cases (Stand.of_body B).code.symm.trans hc9
  have hrows := rows_of hh9
  rcases hpw with rfl | rfl
  ·
    refine lv_aload_n hx hb d_L_dayTotal_0 rfl (lv_at hl 3 rfl) ?_
    refine lv_iconst (v := nI 0) hx hb d_L_dayTotal_1 (by decide) ?_
    refine lv_aload_n hx hb d_L_dayTotal_2 rfl (lv_at hl 0 rfl) ?_
    refine lv_iload_n hx hb d_L_dayTotal_3 rfl (lv_at hl 1 rfl) ?_
    refine lv_iload_n hx hb d_L_dayTotal_4 rfl (lv_at hl 2 rfl) ?_
    have hPc := hP.sub (ws' := (xw ad cd w wr fl (nI 0) sc lw rot vb rec (nI tn) live row cur ser dur wo bts us act rd rs)) [1, 2, 3, 4, 5, 6, 7, 8, 9, 10, 11, 12, 13, 14, 15] rfl
    have hKc := hK.sub (tys' := (xt cd)) [1, 2, 3, 4, 5, 6, 7, 8, 9, 10] rfl
    refine th_catch1 (x := ⟨0, 9, 12, 15⟩) (rest := [.int (nI 0), .ref ao]) hrows (by decide) (by decide) hown (hts (.classLink R_L 15 E_S) (List.mem_cons_of_mem _ t_266)) (va_Nw.use rfl hn.1.2.1) (fun T hT X => th_runV (C := R_R) (As := [.int da, .int pr]) (rest := [.int (nI 0), .ref ao]) ⟨hx, hb, hml, hown, hts⟩ (th_R_dayTotal_o l hl9 dC dI ad cd az w wr fl (nI 0) sc lw rot vb rec (nI tn) live row cur ser dur wo bts us act rd rs da pr ) (cwV 2 hts (g_V t_550 t_551 t_552 t_1 t_553) rfl rfl rfl (by decide +kernel) ⟨by decide, by decide⟩) (xT_v hPc hKc hz hn hN 0 rfl rfl) rfl rfl hl.1 rfl (lv_room (Nat.le_of_ble_eq_true rfl)) d_L_dayTotal_5 ⟨by decide, by decide⟩ hT X) (fun q H1 hz1 hk1 => ?_)
    have hP1 : va_P (dC, dI) vwCl ((ao, .inl (co, 1, .inr (.inl fo))) :: (xw ad cd w wr fl (nI 0) sc lw rot vb rec (nI tn) live row cur ser dur wo bts us act rd rs)) H1 := hP.kept (fun k q hk => hk1 _ ((hP k q hk).lt))
    have hS1 : va_S (oA ao ad s.heap.size) s.heap H1 [] := ⟨hz1, fun q h1 _ => hk1 q h1, fun _ h => by cases h⟩
    refine W.eq (g2 := F0 m 12 ls [.ref q]) rfl ?_
    refine lv_astore hx hb d_L_dayTotal_12 hl (by decide) rfl (fun ls hl => ?_)
    have hl : lv_has ls 5 [(4, .ref q), (0, .ref (ad 0)), (1, .int da), (2, .int pr), (3, .ref ao)] := hl
    refine lv_iconst (v := nI 1) hx hb d_L_dayTotal_14 (by decide) ?_
    exact W.iret (v := nI 1) hx hb hr (fun t ht hW => ⟨⟨nI 1, ((fun i => [].getD i (fun _ => 0), fun i => [].getD i 0, fun i => [].getD i 0), fo), rfl, trivial, ⟨by rw [ht]; exact hP1, va_K.moved hW.alike hK, hD⟩⟩, hS1.F ht⟩) hS1.2.2 d_L_dayTotal_15
  ·
    refine lv_aload_n hx hb d_L_dayTotal_0 rfl (lv_at hl 3 rfl) ?_
    refine lv_iconst (v := nI 0) hx hb d_L_dayTotal_1 (by decide) ?_
    refine lv_aload_n hx hb d_L_dayTotal_2 rfl (lv_at hl 0 rfl) ?_
    refine lv_iload_n hx hb d_L_dayTotal_3 rfl (lv_at hl 1 rfl) ?_
    refine lv_iload_n hx hb d_L_dayTotal_4 rfl (lv_at hl 2 rfl) ?_
    have hPc := hP.sub (ws' := (xw ad cd w wr fl (nI 1) sc lw rot vb rec (nI tn) live row cur ser dur wo bts us act rd rs)) [1, 2, 3, 4, 5, 6, 7, 8, 9, 10, 11, 12, 13, 14, 15] rfl
    have hKc := hK.sub (tys' := (xt cd)) [1, 2, 3, 4, 5, 6, 7, 8, 9, 10] rfl
    refine vp_callSl (va_runV (C := R_R) (As := [.int da, .int pr]) (rest := [.int (nI 0), .ref ao]) ⟨hx, hb, hml, hown, hts⟩ (c_R_dayTotal_ok l dC dI ad cd w wr fl (nI 1) sc lw rot vb rec (nI tn) live row cur ser dur wo bts us act rd rs tn da pr (by first | omega | rfl | assumption | decide) (by first | omega | rfl | assumption | decide)) (cwV 2 hts (g_V t_550 t_551 t_552 t_1 t_553) rfl rfl rfl (by decide +kernel) ⟨by decide, by decide⟩) (xR_v hPc hKc hN 0 rfl rfl) rfl rfl hl.1 rfl (lv_room (Nat.le_of_ble_eq_true rfl)) d_L_dayTotal_5 ⟨by decide, by decide⟩).run (fun r5 q5 => ?_)
    refine va_last hx hb hK hP hD hS 0 0 rfl rfl (vp_in_nI (by omega) (by decide)) d_L_dayTotal_8 (fun H locs hP hD hS => ?_)
    rw [nI_clamp (by omega)] at hP hD
    have hP : va_P (dC, dI) vwCl ((ao, .inl (co, 1, .inr (.inl (vp_updL fo 0 r5)))) :: (xw ad cd w wr fl (nI 1) sc lw rot vb rec (nI tn) live row cur ser dur wo bts us act rd rs)) H := hP
    have hD : va_D (oA ao ad s.heap.size) ((ao, .inl (co, 1, .inr (.inl (vp_updL fo 0 r5)))) :: (xw ad cd w wr fl (nI 1) sc lw rot vb rec (nI tn) live row cur ser dur wo bts us act rd rs)) := hD
    refine lv_goto (tgt := 16) hx hb d_L_dayTotal_9 (by decide) ?_
    refine lv_iconst (v := nI 0) hx hb d_L_dayTotal_16 (by decide) ?_
    refine W.widen (k := 1) (n := 6) (by decide) (by decide) ?_
    exact W.iret (v := nI 0) hx hb hr (fun t ht hW => ⟨⟨nI 0, ((fun i => [].getD i (fun _ => 0), fun i => [].getD i 0, fun i => [].getD i 0), (vp_updL fo 0 r5)), rfl, trivial, ⟨by rw [ht]; exact hP, va_K.moved hW.alike hK, hD⟩⟩, hS.F ht⟩) hS.2.2 d_L_dayTotal_17
set_option maxHeartbeats 4000000 in
set_option maxRecDepth 100000 in
theorem cw_L_rangeTotal (l : Launch) (hl9 : l.stackTraces = false) (dC : Nat → ClassId) (dI : Nat → Nat → Nat) (ad cd : Nat → Nat) (ao co : Nat) (sz az : Nat) (w wr fl : Nat → Int32) (pw sc : Int32) (lw rot vb : Nat → Int32) (rec tk : Int32) (live row : Nat → Int32) (cur ser dur wo : Int32) (bts : Nat → Int32) (us : Int32) (act : Nat → Int32) (rd rs : Int32) (fo : Nat → Int64) (tn : Nat) (fr : Int32) (to : Int32) (hpw : B01 pw) (ht48 : tn ≤ 48) (hrot : ∀ i, i < 48 → IX 48 (rot i)) : Met l y_L_rangeTotal w_L_rangeTotal ({ frames := 8, cells := 1, slots := 6, locals := 146 }) (oP (dC, dI) vwCl ((co, .long) :: xt cd) ((ao, .inl (co, 1, .inr (.inl fo))) :: (xw ad cd w wr fl pw sc lw rot vb rec (nI tn) live row cur ser dur wo bts us act rd rs)) sz az [.ref (ad 0), .int fr, .int to, .ref ao]) (va_Qi (fun r (u : ((Nat → Nat → Int32) × (Nat → Int32) × (Nat → Nat)) × (Nat → Int64)) => True) (fun (u : ((Nat → Nat → Int32) × (Nat → Int32) × (Nat → Nat)) × (Nat → Int64)) (t : State) => xB (dC, dI) vwCl ((co, .long) :: xt cd) (oA ao ad sz) ((ao, .inl (co, 1, .inr (.inl u.2))) :: (xw ad cd w wr fl pw sc lw rot vb rec (nI tn) live row cur ser dur wo bts us act rd rs)) t) (oA ao ad sz)) 1 6 (oA ao ad sz) := by
  refine va_MetW (cc := b_L_rangeTotal) (maxL := 5) (ret := (some (.int))) (by decide) rfl ?_
  intro P e s m args below meth c0 s₁ B hml hv
  obtain ⟨rfl, hsz, hP, hK, hD0, hz, hn, hc, hN⟩ := hv
  have hx := B.exec
  have hb := B.bytes
  have hr := B.returns
  have hts := atoms_spec (ws := w_L_rangeTotal) B.pre
  have hown : s.vm.findClass R_L = some m.cls := findClass_of_methodNamed B.named
  have hlocks := B.notSynchronized
  subst hsz
  have hD := ow_D (sz := s.heap.size) hD0
  have hS : va_S (oA ao ad s.heap.size) s.heap s.heap [] := va_S.rf
  have hA : ∀ q : Nat, s.heap.size ≤ q → (oA ao ad s.heap.size) q := fun q h => Or.inr (Or.inr h)
  have hl := lv_entry ([.ref (ad 0), .int fr, .int to, .ref ao]) (n := 5) (Nat.le_of_ble_eq_true rfl)
  rw [lg_entry_eq]
  generalize (lg_sl ([.ref (ad 0), .int fr, .int to, .ref ao]) ++ List.replicate (5 - (lg_sl ([.ref (ad 0), .int fr, .int to, .ref ao])).length) Slot.unset).toArray = ls at hl ⊢
  have hl : lv_has ls 5 [(0, .ref (ad 0)), (1, .int fr), (2, .int to), (3, .ref ao)] := hl
  obtain ⟨m9, meth9, c9, hn9, hm9, hc9, -, -, hh9, -⟩ := Cond.codeWith_spec (hts _ List.mem_cons_self)
  cases B.named.symm.trans hn9
  cases B.method.symm.trans hm9
  cases (Stand.of_body B).code.symm.trans hc9
  have hrows := rows_of hh9
  rcases hpw with rfl | rfl
  ·
    refine lv_aload_n hx hb d_L_rangeTotal_0 rfl (lv_at hl 3 rfl) ?_
    refine lv_iconst (v := nI 0) hx hb d_L_rangeTotal_1 (by decide) ?_
    refine lv_aload_n hx hb d_L_rangeTotal_2 rfl (lv_at hl 0 rfl) ?_
    refine lv_iload_n hx hb d_L_rangeTotal_3 rfl (lv_at hl 1 rfl) ?_
    refine lv_iload_n hx hb d_L_rangeTotal_4 rfl (lv_at hl 2 rfl) ?_
    have hPc := hP.sub (ws' := (xw ad cd w wr fl (nI 0) sc lw rot vb rec (nI tn) live row cur ser dur wo bts us act rd rs)) [1, 2, 3, 4, 5, 6, 7, 8, 9, 10, 11, 12, 13, 14, 15] rfl
    have hKc := hK.sub (tys' := (xt cd)) [1, 2, 3, 4, 5, 6, 7, 8, 9, 10] rfl
    refine th_catch1 (x := ⟨0, 9, 12, 15⟩) (rest := [.int (nI 0), .ref ao]) hrows (by decide) (by decide) hown (hts (.classLink R_L 15 E_S) (List.mem_cons_of_mem _ t_266)) (va_Nw.use rfl hn.1.2.1) (fun T hT X => th_runV (C := R_R) (As := [.int fr, .int to]) (rest := [.int (nI 0), .ref ao]) ⟨hx, hb, hml, hown, hts⟩ (th_R_rangeTotal_o l hl9 dC dI ad cd az w wr fl (nI 0) sc lw rot vb rec (nI tn) live row cur ser dur wo bts us act rd rs fr to ) (cwV 2 hts (g_V t_563 t_564 t_565 t_1 t_566) rfl rfl rfl (by decide +kernel) ⟨by decide, by decide⟩) (xT_v hPc hKc hz hn hN 0 rfl rfl) rfl rfl hl.1 rfl (lv_room (Nat.le_of_ble_eq_true rfl)) d_L_rangeTotal_5 ⟨by decide, by decide⟩ hT X) (fun q H1 hz1 hk1 => ?_)
    have hP1 : va_P (dC, dI) vwCl ((ao, .inl (co, 1, .inr (.inl fo))) :: (xw ad cd w wr fl (nI 0) sc lw rot vb rec (nI tn) live row cur ser dur wo bts us act rd rs)) H1 := hP.kept (fun k q hk => hk1 _ ((hP k q hk).lt))
    have hS1 : va_S (oA ao ad s.heap.size) s.heap H1 [] := ⟨hz1, fun q h1 _ => hk1 q h1, fun _ h => by cases h⟩
    refine W.eq (g2 := F0 m 12 ls [.ref q]) rfl ?_
    refine lv_astore hx hb d_L_rangeTotal_12 hl (by decide) rfl (fun ls hl => ?_)
    have hl : lv_has ls 5 [(4, .ref q), (0, .ref (ad 0)), (1, .int fr), (2, .int to), (3, .ref ao)] := hl
    refine lv_iconst (v := nI 1) hx hb d_L_rangeTotal_14 (by decide) ?_
    exact W.iret (v := nI 1) hx hb hr (fun t ht hW => ⟨⟨nI 1, ((fun i => [].getD i (fun _ => 0), fun i => [].getD i 0, fun i => [].getD i 0), fo), rfl, trivial, ⟨by rw [ht]; exact hP1, va_K.moved hW.alike hK, hD⟩⟩, hS1.F ht⟩) hS1.2.2 d_L_rangeTotal_15
  ·
    refine lv_aload_n hx hb d_L_rangeTotal_0 rfl (lv_at hl 3 rfl) ?_
    refine lv_iconst (v := nI 0) hx hb d_L_rangeTotal_1 (by decide) ?_
    refine lv_aload_n hx hb d_L_rangeTotal_2 rfl (lv_at hl 0 rfl) ?_
    refine lv_iload_n hx hb d_L_rangeTotal_3 rfl (lv_at hl 1 rfl) ?_
    refine lv_iload_n hx hb d_L_rangeTotal_4 rfl (lv_at hl 2 rfl) ?_
    have hPc := hP.sub (ws' := (xw ad cd w wr fl (nI 1) sc lw rot vb rec (nI tn) live row cur ser dur wo bts us act rd rs)) [1, 2, 3, 4, 5, 6, 7, 8, 9, 10, 11, 12, 13, 14, 15] rfl
    have hKc := hK.sub (tys' := (xt cd)) [1, 2, 3, 4, 5, 6, 7, 8, 9, 10] rfl
    refine vp_callSl (va_runV (C := R_R) (As := [.int fr, .int to]) (rest := [.int (nI 0), .ref ao]) ⟨hx, hb, hml, hown, hts⟩ (c_R_rangeTotal_ok l dC dI ad cd w wr fl (nI 1) sc lw rot vb rec (nI tn) live row cur ser dur wo bts us act rd rs tn fr to (by first | omega | rfl | assumption | decide) (by first | omega | rfl | assumption | decide)) (cwV 2 hts (g_V t_563 t_564 t_565 t_1 t_566) rfl rfl rfl (by decide +kernel) ⟨by decide, by decide⟩) (xR_v hPc hKc hN 0 rfl rfl) rfl rfl hl.1 rfl (lv_room (Nat.le_of_ble_eq_true rfl)) d_L_rangeTotal_5 ⟨by decide, by decide⟩).run (fun r5 q5 => ?_)
    refine va_last hx hb hK hP hD hS 0 0 rfl rfl (vp_in_nI (by omega) (by decide)) d_L_rangeTotal_8 (fun H locs hP hD hS => ?_)
    rw [nI_clamp (by omega)] at hP hD
    have hP : va_P (dC, dI) vwCl ((ao, .inl (co, 1, .inr (.inl (vp_updL fo 0 r5)))) :: (xw ad cd w wr fl (nI 1) sc lw rot vb rec (nI tn) live row cur ser dur wo bts us act rd rs)) H := hP
    have hD : va_D (oA ao ad s.heap.size) ((ao, .inl (co, 1, .inr (.inl (vp_updL fo 0 r5)))) :: (xw ad cd w wr fl (nI 1) sc lw rot vb rec (nI tn) live row cur ser dur wo bts us act rd rs)) := hD
    refine lv_goto (tgt := 16) hx hb d_L_rangeTotal_9 (by decide) ?_
    refine lv_iconst (v := nI 0) hx hb d_L_rangeTotal_16 (by decide) ?_
    refine W.widen (k := 1) (n := 6) (by decide) (by decide) ?_
    exact W.iret (v := nI 0) hx hb hr (fun t ht hW => ⟨⟨nI 0, ((fun i => [].getD i (fun _ => 0), fun i => [].getD i 0, fun i => [].getD i 0), (vp_updL fo 0 r5)), rfl, trivial, ⟨by rw [ht]; exact hP, va_K.moved hW.alike hK, hD⟩⟩, hS.F ht⟩) hS.2.2 d_L_rangeTotal_17
set_option maxHeartbeats 4000000 in
set_option maxRecDepth 100000 in
theorem cw_L_find (l : Launch) (hl9 : l.stackTraces = false) (dC : Nat → ClassId) (dI : Nat → Nat → Nat) (ad cd : Nat → Nat) (ao co : Nat) (sz az : Nat) (w wr fl : Nat → Int32) (pw sc : Int32) (lw rot vb : Nat → Int32) (rec tk : Int32) (live row : Nat → Int32) (cur ser dur wo : Int32) (bts : Nat → Int32) (us : Int32) (act : Nat → Int32) (rd rs : Int32) (fo : Nat → Int64) (tn : Nat) (pl : Int32) (fr : Int32) (hpw : B01 pw) (ht48 : tn ≤ 48) (hrot : ∀ i, i < 48 → IX 48 (rot i)) : Met l y_L_find w_L_find ({ frames := 8, cells := 1, slots := 6, locals := 143 }) (oP (dC, dI) vwCl ((co, .long) :: xt cd) ((ao, .inl (co, 1, .inr (.inl fo))) :: (xw ad cd w wr fl pw sc lw rot vb rec (nI tn) live row cur ser dur wo bts us act rd rs)) sz az [.ref (ad 0), .int pl, .int fr, .ref ao]) (va_Qi (fun r (u : ((Nat → Nat → Int32) × (Nat → Int32) × (Nat → Nat)) × (Nat → Int64)) => True) (fun (u : ((Nat → Nat → Int32) × (Nat → Int32) × (Nat → Nat)) × (Nat → Int64)) (t : State) => xB (dC, dI) vwCl ((co, .long) :: xt cd) (oA ao ad sz) ((ao, .inl (co, 1, .inr (.inl u.2))) :: (xw ad cd w wr fl pw sc lw rot vb rec (nI tn) live row cur ser dur wo bts us act rd rs)) t) (oA ao ad sz)) 1 6 (oA ao ad sz) := by
  refine va_MetW (cc := b_L_find) (maxL := 5) (ret := (some (.int))) (by decide) rfl ?_
  intro P e s m args below meth c0 s₁ B hml hv
  obtain ⟨rfl, hsz, hP, hK, hD0, hz, hn, hc, hN⟩ := hv
  have hx := B.exec
  have hb := B.bytes
  have hr := B.returns
  have hts := atoms_spec (ws := w_L_find) B.pre
  have hown : s.vm.findClass R_L = some m.cls := findClass_of_methodNamed B.named
  have hlocks := B.notSynchronized
  subst hsz
  have hD := ow_D (sz := s.heap.size) hD0
  have hS : va_S (oA ao ad s.heap.size) s.heap s.heap [] := va_S.rf
  have hA : ∀ q : Nat, s.heap.size ≤ q → (oA ao ad s.heap.size) q := fun q h => Or.inr (Or.inr h)
  have hl := lv_entry ([.ref (ad 0), .int pl, .int fr, .ref ao]) (n := 5) (Nat.le_of_ble_eq_true rfl)
  rw [lg_entry_eq]
  generalize (lg_sl ([.ref (ad 0), .int pl, .int fr, .ref ao]) ++ List.replicate (5 - (lg_sl ([.ref (ad 0), .int pl, .int fr, .ref ao])).length) Slot.unset).toArray = ls at hl ⊢
  have hl : lv_has ls 5 [(0, .ref (ad 0)), (1, .int pl), (2, .int fr), (3, .ref ao)] := hl
  obtain ⟨m9, meth9, c9, hn9, hm9, hc9, -, -, hh9, -⟩ := Cond.codeWith_spec (hts _ List.mem_cons_self)
  cases B.named.symm.trans hn9
  cases B.method.symm.trans hm9
  cases (Stand.of_body B).code.symm.trans hc9
  have hrows := rows_of hh9
  rcases hpw with rfl | rfl
  ·
    refine lv_aload_n hx hb d_L_find_0 rfl (lv_at hl 3 rfl) ?_
    refine lv_iconst (v := nI 0) hx hb d_L_find_1 (by decide) ?_
    refine lv_aload_n hx hb d_L_find_2 rfl (lv_at hl 0 rfl) ?_
    refine lv_iload_n hx hb d_L_find_3 rfl (lv_at hl 1 rfl) ?_
    refine lv_iload_n hx hb d_L_find_4 rfl (lv_at hl 2 rfl) ?_
    have hPc := hP.sub (ws' := (xw ad cd w wr fl (nI 0) sc lw rot vb rec (nI tn) live row cur ser dur wo bts us act rd rs)) [1, 2, 3, 4, 5, 6, 7, 8, 9, 10, 11, 12, 13, 14, 15] rfl
    have hKc := hK.sub (tys' := (xt cd)) [1, 2, 3, 4, 5, 6, 7, 8, 9, 10] rfl
    refine th_catch1 (x := ⟨0, 10, 13, 15⟩) (rest := [.int (nI 0), .ref ao]) hrows (by decide) (by decide) hown (hts (.classLink R_L 15 E_S) (List.mem_cons_of_mem _ t_266)) (va_Nw.use rfl hn.1.2.1) (fun T hT X => th_runV (C := R_R) (As := [.int pl, .int fr]) (rest := [.int (nI 0), .ref ao]) ⟨hx, hb, hml, hown, hts⟩ (th_R_find_o l hl9 dC dI ad cd az w wr fl (nI 0) sc lw rot vb rec (nI tn) live row cur ser dur wo bts us act rd rs pl fr ) (cwV 2 hts (g_V t_576 t_577 t_578 t_1 t_579) rfl rfl rfl (by decide +kernel) ⟨by decide, by decide⟩) (xT_v hPc hKc hz hn hN 0 rfl rfl) rfl rfl hl.1 rfl (lv_room (Nat.le_of_ble_eq_true rfl)) d_L_find_5 ⟨by decide, by decide⟩ hT X) (fun q H1 hz1 hk1 => ?_)
    have hP1 : va_P (dC, dI) vwCl ((ao, .inl (co, 1, .inr (.inl fo))) :: (xw ad cd w wr fl (nI 0) sc lw rot vb rec (nI tn) live row cur ser dur wo bts us act rd rs)) H1 := hP.kept (fun k q hk => hk1 _ ((hP k q hk).lt))
    have hS1 : va_S (oA ao ad s.heap.size) s.heap H1 [] := ⟨hz1, fun q h1 _ => hk1 q h1, fun _ h => by cases h⟩
    refine W.eq (g2 := F0 m 13 ls [.ref q]) rfl ?_
    refine lv_astore hx hb d_L_find_13 hl (by decide) rfl (fun ls hl => ?_)
    have hl : lv_has ls 5 [(4, .ref q), (0, .ref (ad 0)), (1, .int pl), (2, .int fr), (3, .ref ao)] := hl
    refine lv_iconst (v := nI 1) hx hb d_L_find_15 (by decide) ?_
    exact W.iret (v := nI 1) hx hb hr (fun t ht hW => ⟨⟨nI 1, ((fun i => [].getD i (fun _ => 0), fun i => [].getD i 0, fun i => [].getD i 0), fo), rfl, trivial, ⟨by rw [ht]; exact hP1, va_K.moved hW.alike hK, hD⟩⟩, hS1.F ht⟩) hS1.2.2 d_L_find_16
  ·
    refine lv_aload_n hx hb d_L_find_0 rfl (lv_at hl 3 rfl) ?_
    refine lv_iconst (v := nI 0) hx hb d_L_find_1 (by decide) ?_
    refine lv_aload_n hx hb d_L_find_2 rfl (lv_at hl 0 rfl) ?_
    refine lv_iload_n hx hb d_L_find_3 rfl (lv_at hl 1 rfl) ?_
    refine lv_iload_n hx hb d_L_find_4 rfl (lv_at hl 2 rfl) ?_
    have hPc := hP.sub (ws' := (xw ad cd w wr fl (nI 1) sc lw rot vb rec (nI tn) live row cur ser dur wo bts us act rd rs)) [1, 2, 3, 4, 5, 6, 7, 8, 9, 10, 11, 12, 13, 14, 15] rfl
    have hKc := hK.sub (tys' := (xt cd)) [1, 2, 3, 4, 5, 6, 7, 8, 9, 10] rfl
    refine vp_callSi (va_runV (C := R_R) (As := [.int pl, .int fr]) (rest := [.int (nI 0), .ref ao]) ⟨hx, hb, hml, hown, hts⟩ (c_R_find_ok l dC dI ad cd w wr fl (nI 1) sc lw rot vb rec (nI tn) live row cur ser dur wo bts us act rd rs tn pl fr (by first | omega | rfl | assumption | decide) (by first | omega | rfl | assumption | decide)) (cwV 2 hts (g_V t_576 t_577 t_578 t_1 t_579) rfl rfl rfl (by decide +kernel) ⟨by decide, by decide⟩) (xR_v hPc hKc hN 0 rfl rfl) rfl rfl hl.1 rfl (lv_room (Nat.le_of_ble_eq_true rfl)) d_L_find_5 ⟨by decide, by decide⟩).run (fun r5 q5 => ?_)
    refine lv_i2l (v := r5.toInt64) hx hb d_L_find_8 rfl ?_
    refine va_last hx hb hK hP hD hS 0 0 rfl rfl (vp_in_nI (by omega) (by decide)) d_L_find_9 (fun H locs hP hD hS => ?_)
    rw [nI_clamp (by omega)] at hP hD
    have hP : va_P (dC, dI) vwCl ((ao, .inl (co, 1, .inr (.inl (vp_updL fo 0 r5.toInt64)))) :: (xw ad cd w wr fl (nI 1) sc lw rot vb rec (nI tn) live row cur ser dur wo bts us act rd rs)) H := hP
    have hD : va_D (oA ao ad s.heap.size) ((ao, .inl (co, 1, .inr (.inl (vp_updL fo 0 r5.toInt64)))) :: (xw ad cd w wr fl (nI 1) sc lw rot vb rec (nI tn) live row cur ser dur wo bts us act rd rs)) := hD
    refine lv_goto (tgt := 17) hx hb d_L_find_10 (by decide) ?_
    refine lv_iconst (v := nI 0) hx hb d_L_find_17 (by decide) ?_
    refine W.widen (k := 1) (n := 6) (by decide) (by decide) ?_
    exact W.iret (v := nI 0) hx hb hr (fun t ht hW => ⟨⟨nI 0, ((fun i => [].getD i (fun _ => 0), fun i => [].getD i 0, fun i => [].getD i 0), (vp_updL fo 0 r5.toInt64)), rfl, trivial, ⟨by rw [ht]; exact hP, va_K.moved hW.alike hK, hD⟩⟩, hS.F ht⟩) hS.2.2 d_L_find_18
set_option maxHeartbeats 4000000 in
set_option maxRecDepth 100000 in
theorem cw_L_audit (l : Launch) (hl9 : l.stackTraces = false) (dC : Nat → ClassId) (dI : Nat → Nat → Nat) (ad cd : Nat → Nat) (ao co : Nat) (sz az : Nat) (w wr fl : Nat → Int32) (pw sc : Int32) (lw rot vb : Nat → Int32) (rec tk : Int32) (live row : Nat → Int32) (cur ser dur wo : Int32) (bts : Nat → Int32) (us : Int32) (act : Nat → Int32) (rd rs : Int32) (fo : Nat → Int64) (tn : Nat) (fr : Int32) (to : Int32) (hpw : B01 pw) (ht48 : tn ≤ 48) (hrot : ∀ i, i < 48 → IX 48 (rot i)) (hlv : ∀ i, i < 16 → PG 32 (live i)) : Met l y_L_audit w_L_audit ({ frames := 8, cells := 1, slots := 6, locals := 144 }) (oP (dC, dI) vwCl ((co, .long) :: xt cd) ((ao, .inl (co, 1, .inr (.inl fo))) :: (xw ad cd w wr fl pw sc lw rot vb rec (nI tn) live row cur ser dur wo bts us act rd rs)) sz az [.ref (ad 0), .int fr, .int to, .ref ao]) (va_Qi (fun r (u : ((Nat → Nat → Int32) × (Nat → Int32) × (Nat → Nat)) × (Nat → Int64)) => True) (fun (u : ((Nat → Nat → Int32) × (Nat → Int32) × (Nat → Nat)) × (Nat → Int64)) (t : State) => xB (dC, dI) vwCl ((co, .long) :: xt cd) (oA ao ad sz) ((ao, .inl (co, 1, .inr (.inl u.2))) :: (xw ad cd w wr fl pw sc lw rot vb rec (nI tn) live row cur ser dur wo bts us act rd rs)) t) (oA ao ad sz)) 1 6 (oA ao ad sz) := by
  refine va_MetW (cc := b_L_audit) (maxL := 5) (ret := (some (.int))) (by decide) rfl ?_
  intro P e s m args below meth c0 s₁ B hml hv
  obtain ⟨rfl, hsz, hP, hK, hD0, hz, hn, hc, hN⟩ := hv
  have hx := B.exec
  have hb := B.bytes
  have hr := B.returns
  have hts := atoms_spec (ws := w_L_audit) B.pre
  have hown : s.vm.findClass R_L = some m.cls := findClass_of_methodNamed B.named
  have hlocks := B.notSynchronized
  subst hsz
  have hD := ow_D (sz := s.heap.size) hD0
  have hS : va_S (oA ao ad s.heap.size) s.heap s.heap [] := va_S.rf
  have hA : ∀ q : Nat, s.heap.size ≤ q → (oA ao ad s.heap.size) q := fun q h => Or.inr (Or.inr h)
  have hl := lv_entry ([.ref (ad 0), .int fr, .int to, .ref ao]) (n := 5) (Nat.le_of_ble_eq_true rfl)
  rw [lg_entry_eq]
  generalize (lg_sl ([.ref (ad 0), .int fr, .int to, .ref ao]) ++ List.replicate (5 - (lg_sl ([.ref (ad 0), .int fr, .int to, .ref ao])).length) Slot.unset).toArray = ls at hl ⊢
  have hl : lv_has ls 5 [(0, .ref (ad 0)), (1, .int fr), (2, .int to), (3, .ref ao)] := hl
  obtain ⟨m9, meth9, c9, hn9, hm9, hc9, -, -, hh9, -⟩ := Cond.codeWith_spec (hts _ List.mem_cons_self)
  cases B.named.symm.trans hn9
  cases B.method.symm.trans hm9
  cases (Stand.of_body B).code.symm.trans hc9
  have hrows := rows_of hh9
  rcases hpw with rfl | rfl
  ·
    refine lv_aload_n hx hb d_L_audit_0 rfl (lv_at hl 3 rfl) ?_
    refine lv_iconst (v := nI 0) hx hb d_L_audit_1 (by decide) ?_
    refine lv_aload_n hx hb d_L_audit_2 rfl (lv_at hl 0 rfl) ?_
    refine lv_iload_n hx hb d_L_audit_3 rfl (lv_at hl 1 rfl) ?_
    refine lv_iload_n hx hb d_L_audit_4 rfl (lv_at hl 2 rfl) ?_
    have hPc := hP.sub (ws' := (xw ad cd w wr fl (nI 0) sc lw rot vb rec (nI tn) live row cur ser dur wo bts us act rd rs)) [1, 2, 3, 4, 5, 6, 7, 8, 9, 10, 11, 12, 13, 14, 15] rfl
    have hKc := hK.sub (tys' := (xt cd)) [1, 2, 3, 4, 5, 6, 7, 8, 9, 10] rfl
    refine th_catch1 (x := ⟨0, 10, 13, 15⟩) (rest := [.int (nI 0), .ref ao]) hrows (by decide) (by decide) hown (hts (.classLink R_L 15 E_S) (List.mem_cons_of_mem _ t_266)) (va_Nw.use rfl hn.1.2.1) (fun T hT X => th_runV (C := R_R) (As := [.int fr, .int to]) (rest := [.int (nI 0), .ref ao]) ⟨hx, hb, hml, hown, hts⟩ (th_R_audit_o l hl9 dC dI ad cd az w wr fl (nI 0) sc lw rot vb rec (nI tn) live row cur ser dur wo bts us act rd rs fr to ) (cwV 2 hts (g_V t_583 t_584 t_585 t_1 t_586) rfl rfl rfl (by decide +kernel) ⟨by decide, by decide⟩) (xT_v hPc hKc hz hn hN 0 rfl rfl) rfl rfl hl.1 rfl (lv_room (Nat.le_of_ble_eq_true rfl)) d_L_audit_5 ⟨by decide, by decide⟩ hT X) (fun q H1 hz1 hk1 => ?_)
    have hP1 : va_P (dC, dI) vwCl ((ao, .inl (co, 1, .inr (.inl fo))) :: (xw ad cd w wr fl (nI 0) sc lw rot vb rec (nI tn) live row cur ser dur wo bts us act rd rs)) H1 := hP.kept (fun k q hk => hk1 _ ((hP k q hk).lt))
    have hS1 : va_S (oA ao ad s.heap.size) s.heap H1 [] := ⟨hz1, fun q h1 _ => hk1 q h1, fun _ h => by cases h⟩
    refine W.eq (g2 := F0 m 13 ls [.ref q]) rfl ?_
    refine lv_astore hx hb d_L_audit_13 hl (by decide) rfl (fun ls hl => ?_)
    have hl : lv_has ls 5 [(4, .ref q), (0, .ref (ad 0)), (1, .int fr), (2, .int to), (3, .ref ao)] := hl
    refine lv_iconst (v := nI 1) hx hb d_L_audit_15 (by decide) ?_
    exact W.iret (v := nI 1) hx hb hr (fun t ht hW => ⟨⟨nI 1, ((fun i => [].getD i (fun _ => 0), fun i => [].getD i 0, fun i => [].getD i 0), fo), rfl, trivial, ⟨by rw [ht]; exact hP1, va_K.moved hW.alike hK, hD⟩⟩, hS1.F ht⟩) hS1.2.2 d_L_audit_16
  ·
    refine lv_aload_n hx hb d_L_audit_0 rfl (lv_at hl 3 rfl) ?_
    refine lv_iconst (v := nI 0) hx hb d_L_audit_1 (by decide) ?_
    refine lv_aload_n hx hb d_L_audit_2 rfl (lv_at hl 0 rfl) ?_
    refine lv_iload_n hx hb d_L_audit_3 rfl (lv_at hl 1 rfl) ?_
    refine lv_iload_n hx hb d_L_audit_4 rfl (lv_at hl 2 rfl) ?_
    have hPc := hP.sub (ws' := (xw ad cd w wr fl (nI 1) sc lw rot vb rec (nI tn) live row cur ser dur wo bts us act rd rs)) [1, 2, 3, 4, 5, 6, 7, 8, 9, 10, 11, 12, 13, 14, 15] rfl
    have hKc := hK.sub (tys' := (xt cd)) [1, 2, 3, 4, 5, 6, 7, 8, 9, 10] rfl
    refine vp_callSi (va_runV (C := R_R) (As := [.int fr, .int to]) (rest := [.int (nI 0), .ref ao]) ⟨hx, hb, hml, hown, hts⟩ (c_R_audit_ok l dC dI ad cd w wr fl (nI 1) sc lw rot vb rec (nI tn) live row cur ser dur wo bts us act rd rs tn fr to (by first | omega | rfl | assumption | decide) (by first | omega | rfl | assumption | decide) (by first | omega | rfl | assumption | decide)) (cwV 2 hts (g_V t_583 t_584 t_585 t_1 t_586) rfl rfl rfl (by decide +kernel) ⟨by decide, by decide⟩) (xR_v hPc hKc hN 0 rfl rfl) rfl rfl hl.1 rfl (lv_room (Nat.le_of_ble_eq_true rfl)) d_L_audit_5 ⟨by decide, by decide⟩).run (fun r5 q5 => ?_)
    refine lv_i2l (v := r5.toInt64) hx hb d_L_audit_8 rfl ?_
    refine va_last hx hb hK hP hD hS 0 0 rfl rfl (vp_in_nI (by omega) (by decide)) d_L_audit_9 (fun H locs hP hD hS => ?_)
    rw [nI_clamp (by omega)] at hP hD
    have hP : va_P (dC, dI) vwCl ((ao, .inl (co, 1, .inr (.inl (vp_updL fo 0 r5.toInt64)))) :: (xw ad cd w wr fl (nI 1) sc lw rot vb rec (nI tn) live row cur ser dur wo bts us act rd rs)) H := hP
    have hD : va_D (oA ao ad s.heap.size) ((ao, .inl (co, 1, .inr (.inl (vp_updL fo 0 r5.toInt64)))) :: (xw ad cd w wr fl (nI 1) sc lw rot vb rec (nI tn) live row cur ser dur wo bts us act rd rs)) := hD
    refine lv_goto (tgt := 17) hx hb d_L_audit_10 (by decide) ?_
    refine lv_iconst (v := nI 0) hx hb d_L_audit_17 (by decide) ?_
    refine W.widen (k := 1) (n := 6) (by decide) (by decide) ?_
    exact W.iret (v := nI 0) hx hb hr (fun t ht hW => ⟨⟨nI 0, ((fun i => [].getD i (fun _ => 0), fun i => [].getD i 0, fun i => [].getD i 0), (vp_updL fo 0 r5.toInt64)), rfl, trivial, ⟨by rw [ht]; exact hP, va_K.moved hW.alike hK, hD⟩⟩, hS.F ht⟩) hS.2.2 d_L_audit_18
set_option maxHeartbeats 4000000 in
set_option maxRecDepth 100000 in
theorem cw_L_exportByte (l : Launch) (hl9 : l.stackTraces = false) (dC : Nat → ClassId) (dI : Nat → Nat → Nat) (ad cd : Nat → Nat) (ao co : Nat) (sz az : Nat) (w wr fl : Nat → Int32) (pw sc : Int32) (lw rot vb : Nat → Int32) (rec tk : Int32) (live row : Nat → Int32) (cur ser dur wo : Int32) (bts : Nat → Int32) (us : Int32) (act : Nat → Int32) (rd rs : Int32) (fo : Nat → Int64) (tn : Nat) (un : Nat) (fr : Int32) (to : Int32) (ix0 : Int32) (hpw : B01 pw) (ht48 : tn ≤ 48) (hrot : ∀ i, i < 48 → IX 48 (rot i)) (hus : un ≤ 32) : Met l y_L_exportByte w_L_exportByte ({ frames := 8, cells := 1, slots := 6, locals := 146 }) (oP (dC, dI) vwCl ((co, .long) :: xt cd) ((ao, .inl (co, 1, .inr (.inl fo))) :: (xw ad cd w wr fl pw sc lw rot vb rec (nI tn) live row cur ser dur wo bts (nI un) act rd rs)) sz az [.ref (ad 0), .int fr, .int to, .int ix0, .ref ao]) (va_Qi (fun r (u : ((Nat → Nat → Int32) × (Nat → Int32) × (Nat → Nat)) × (Nat → Int64)) => (u.1.2.2 0) ≤ 32) (fun (u : ((Nat → Nat → Int32) × (Nat → Int32) × (Nat → Nat)) × (Nat → Int64)) (t : State) => xB (dC, dI) vwCl ((co, .long) :: xt cd) (oA ao ad sz) ((ao, .inl (co, 1, .inr (.inl u.2))) :: (xw ad cd w wr fl pw sc lw rot vb rec (nI tn) live row cur ser dur wo (u.1.1 0) (nI (u.1.2.2 0)) act rd rs)) t) (oA ao ad sz)) 1 6 (oA ao ad sz) := by
  refine va_MetW (cc := b_L_exportByte) (maxL := 6) (ret := (some (.int))) (by decide) rfl ?_
  intro P e s m args below meth c0 s₁ B hml hv
  obtain ⟨rfl, hsz, hP, hK, hD0, hz, hn, hc, hN⟩ := hv
  have hx := B.exec
  have hb := B.bytes
  have hr := B.returns
  have hts := atoms_spec (ws := w_L_exportByte) B.pre
  have hown : s.vm.findClass R_L = some m.cls := findClass_of_methodNamed B.named
  have hlocks := B.notSynchronized
  subst hsz
  have hD := ow_D (sz := s.heap.size) hD0
  have hS : va_S (oA ao ad s.heap.size) s.heap s.heap [] := va_S.rf
  have hA : ∀ q : Nat, s.heap.size ≤ q → (oA ao ad s.heap.size) q := fun q h => Or.inr (Or.inr h)
  have hl := lv_entry ([.ref (ad 0), .int fr, .int to, .int ix0, .ref ao]) (n := 6) (Nat.le_of_ble_eq_true rfl)
  rw [lg_entry_eq]
  generalize (lg_sl ([.ref (ad 0), .int fr, .int to, .int ix0, .ref ao]) ++ List.replicate (6 - (lg_sl ([.ref (ad 0), .int fr, .int to, .int ix0, .ref ao])).length) Slot.unset).toArray = ls at hl ⊢
  have hl : lv_has ls 6 [(0, .ref (ad 0)), (1, .int fr), (2, .int to), (3, .int ix0), (4, .ref ao)] := hl
  obtain ⟨m9, meth9, c9, hn9, hm9, hc9, -, -, hh9, -⟩ := Cond.codeWith_spec (hts _ List.mem_cons_self)
  cases B.named.symm.trans hn9
  cases B.method.symm.trans hm9
  cases (Stand.of_body B).code.symm.trans hc9
  have hrows := rows_of hh9
  rcases hpw with rfl | rfl
  ·
    refine lv_aload hx hb d_L_exportByte_0 (lv_at hl 4 rfl) ?_
    refine lv_iconst (v := nI 0) hx hb d_L_exportByte_2 (by decide) ?_
    refine lv_aload_n hx hb d_L_exportByte_3 rfl (lv_at hl 0 rfl) ?_
    refine lv_iload_n hx hb d_L_exportByte_4 rfl (lv_at hl 1 rfl) ?_
    refine lv_iload_n hx hb d_L_exportByte_5 rfl (lv_at hl 2 rfl) ?_
    refine lv_iload_n hx hb d_L_exportByte_6 rfl (lv_at hl 3 rfl) ?_
    have hPc := hP.sub (ws' := (xw ad cd w wr fl (nI 0) sc lw rot vb rec (nI tn) live row cur ser dur wo bts (nI un) act rd rs)) [1, 2, 3, 4, 5, 6, 7, 8, 9, 10, 11, 12, 13, 14, 15] rfl
    have hKc := hK.sub (tys' := (xt cd)) [1, 2, 3, 4, 5, 6, 7, 8, 9, 10] rfl
    refine th_catch1 (x := ⟨0, 12, 15, 15⟩) (rest := [.int (nI 0), .ref ao]) hrows (by decide) (by decide) hown (hts (.classLink R_L 15 E_S) (List.mem_cons_of_mem _ t_266)) (va_Nw.use rfl hn.1.2.1) (fun T hT X => th_runV (C := R_R) (As := [.int fr, .int to, .int ix0]) (rest := [.int (nI 0), .ref ao]) ⟨hx, hb, hml, hown, hts⟩ (th_R_exportByte_o l hl9 dC dI ad cd az w wr fl (nI 0) sc lw rot vb rec (nI tn) live row cur ser dur wo bts (nI un) act rd rs fr to ix0 ) (cwV 3 hts (g_V t_607 t_608 t_609 t_1 t_610) rfl rfl rfl (by decide +kernel) ⟨by decide, by decide⟩) (xT_v hPc hKc hz hn hN 0 rfl rfl) rfl rfl hl.1 rfl (lv_room (Nat.le_of_ble_eq_true rfl)) d_L_exportByte_7 ⟨by decide, by decide⟩ hT X) (fun q H1 hz1 hk1 => ?_)
    have hP1 : va_P (dC, dI) vwCl ((ao, .inl (co, 1, .inr (.inl fo))) :: (xw ad cd w wr fl (nI 0) sc lw rot vb rec (nI tn) live row cur ser dur wo bts (nI un) act rd rs)) H1 := hP.kept (fun k q hk => hk1 _ ((hP k q hk).lt))
    have hS1 : va_S (oA ao ad s.heap.size) s.heap H1 [] := ⟨hz1, fun q h1 _ => hk1 q h1, fun _ h => by cases h⟩
    refine W.eq (g2 := F0 m 15 ls [.ref q]) rfl ?_
    refine lv_astore hx hb d_L_exportByte_15 hl (by decide) rfl (fun ls hl => ?_)
    have hl : lv_has ls 6 [(5, .ref q), (0, .ref (ad 0)), (1, .int fr), (2, .int to), (3, .int ix0), (4, .ref ao)] := hl
    refine lv_iconst (v := nI 1) hx hb d_L_exportByte_17 (by decide) ?_
    exact W.iret (v := nI 1) hx hb hr (fun t ht hW => ⟨⟨nI 1, ((fun i => [bts].getD i (fun _ => 0), fun i => [].getD i 0, fun i => [un].getD i 0), fo), rfl, hus, ⟨by rw [ht]; exact hP1, va_K.moved hW.alike hK, hD⟩⟩, hS1.F ht⟩) hS1.2.2 d_L_exportByte_18
  ·
    refine lv_aload hx hb d_L_exportByte_0 (lv_at hl 4 rfl) ?_
    refine lv_iconst (v := nI 0) hx hb d_L_exportByte_2 (by decide) ?_
    refine lv_aload_n hx hb d_L_exportByte_3 rfl (lv_at hl 0 rfl) ?_
    refine lv_iload_n hx hb d_L_exportByte_4 rfl (lv_at hl 1 rfl) ?_
    refine lv_iload_n hx hb d_L_exportByte_5 rfl (lv_at hl 2 rfl) ?_
    refine lv_iload_n hx hb d_L_exportByte_6 rfl (lv_at hl 3 rfl) ?_
    have hPc := hP.sub (ws' := (xw ad cd w wr fl (nI 1) sc lw rot vb rec (nI tn) live row cur ser dur wo bts (nI un) act rd rs)) [1, 2, 3, 4, 5, 6, 7, 8, 9, 10, 11, 12, 13, 14, 15] rfl
    have hKc := hK.sub (tys' := (xt cd)) [1, 2, 3, 4, 5, 6, 7, 8, 9, 10] rfl
    have hDc := hD.sub (ws' := (xw ad cd w wr fl (nI 1) sc lw rot vb rec (nI tn) live row cur ser dur wo bts (nI un) act rd rs)) [1, 2, 3, 4, 5, 6, 7, 8, 9, 10, 11, 12, 13, 14, 15] (by decide) rfl
    have hFc := va_free (wc := (xw ad cd w wr fl (nI 1) sc lw rot vb rec (nI tn) live row cur ser dur wo bts (nI un) act rd rs)) hD hS hA [1, 2, 3, 4, 5, 6, 7, 8, 9, 10, 11, 12, 13, 14, 15] rfl
    have hSz := hS.1
    refine va_calli (va_runV (C := R_R) (As := [.int fr, .int to, .int ix0]) (rest := [.int (nI 0), .ref ao]) ⟨hx, hb, hml, hown, hts⟩ (c_R_exportByte_ok l dC dI ad cd s.heap.size w wr fl (nI 1) sc lw rot vb rec (nI tn) live row cur ser dur wo bts (nI un) act rd rs tn un fr to ix0 (by first | omega | rfl | assumption | decide) (by first | omega | rfl | assumption | decide) (by first | omega | rfl | assumption | decide)) (cwV 3 hts (g_V t_607 t_608 t_609 t_1 t_610) rfl rfl rfl (by decide +kernel) ⟨by decide, by decide⟩) (xP_v hPc hKc hDc hN 0 rfl rfl) rfl rfl hl.1 rfl (lv_room (Nat.le_of_ble_eq_true rfl)) d_L_exportByte_7 ⟨by decide, by decide⟩) hS (fun q _ h => hFc q (xw_A h)) (fun q h => hFc q (xw_A h)) (fun r7 u7 t H1 locs1 ht hvm q7 hB hz1 hk1 hS => ?_)
    obtain ⟨hP1, hK1, hD1⟩ := hB
    rw [ht] at hP1
    obtain ⟨hP, hD⟩ := va_join (wr := [(ao, .inl (co, 1, .inr (.inl fo)))]) (w1 := (xw ad cd w wr fl (nI 1) sc lw rot vb rec (nI tn) live row cur ser dur wo (u7.1 0) (nI (u7.2.2 0)) act rd rs)) hP hD [1, 2, 3, 4, 5, 6, 7, 8, 9, 10, 11, 12, 13, 14, 15] [0] rfl rfl (by decide) (by decide) (fun q h1 h2 => hk1 q h1 (fun z => h2 (xw_A z))) hFc hP1 (hD1.weaken (fun _ _ _ h => xw_A h))
    have hP : va_P (dC, dI) vwCl ((ao, .inl (co, 1, .inr (.inl fo))) :: (xw ad cd w wr fl (nI 1) sc lw rot vb rec (nI tn) live row cur ser dur wo (u7.1 0) (nI (u7.2.2 0)) act rd rs)) H1 := hP.sub [0, 1, 2, 3, 4, 5, 6, 7, 8, 9, 10, 11, 12, 13, 14, 15] rfl
    have hD : va_D (oA ao ad s.heap.size) ((ao, .inl (co, 1, .inr (.inl fo))) :: (xw ad cd w wr fl (nI 1) sc lw rot vb rec (nI tn) live row cur ser dur wo (u7.1 0) (nI (u7.2.2 0)) act rd rs)) := hD.sub [0, 1, 2, 3, 4, 5, 6, 7, 8, 9, 10, 11, 12, 13, 14, 15] (by decide) rfl
    generalize H1 = H at hP hS ⊢
    generalize locs1 = locs at hS ⊢
    have hus := q7
    refine lv_i2l (v := r7.toInt64) hx hb d_L_exportByte_10 rfl ?_
    refine va_last hx hb hK hP hD hS 0 0 rfl rfl (vp_in_nI (by omega) (by decide)) d_L_exportByte_11 (fun H locs hP hD hS => ?_)
    rw [nI_clamp (by omega)] at hP hD
    have hP : va_P (dC, dI) vwCl ((ao, .inl (co, 1, .inr (.inl (vp_updL fo 0 r7.toInt64)))) :: (xw ad cd w wr fl (nI 1) sc lw rot vb rec (nI tn) live row cur ser dur wo (u7.1 0) (nI (u7.2.2 0)) act rd rs)) H := hP
    have hD : va_D (oA ao ad s.heap.size) ((ao, .inl (co, 1, .inr (.inl (vp_updL fo 0 r7.toInt64)))) :: (xw ad cd w wr fl (nI 1) sc lw rot vb rec (nI tn) live row cur ser dur wo (u7.1 0) (nI (u7.2.2 0)) act rd rs)) := hD
    refine lv_goto (tgt := 19) hx hb d_L_exportByte_12 (by decide) ?_
    refine lv_iconst (v := nI 0) hx hb d_L_exportByte_19 (by decide) ?_
    refine W.widen (k := 1) (n := 6) (by decide) (by decide) ?_
    exact W.iret (v := nI 0) hx hb hr (fun t ht hW => ⟨⟨nI 0, ((fun i => [u7.1 0].getD i (fun _ => 0), fun i => [].getD i 0, fun i => [u7.2.2 0].getD i 0), (vp_updL fo 0 r7.toInt64)), rfl, hus, ⟨by rw [ht]; exact hP, va_K.moved hW.alike hK, hD⟩⟩, hS.F ht⟩) hS.2.2 d_L_exportByte_20
set_option maxHeartbeats 4000000 in
set_option maxRecDepth 100000 in
theorem cw_L_setProduct (l : Launch) (hl9 : l.stackTraces = false) (dC : Nat → ClassId) (dI : Nat → Nat → Nat) (ad cd : Nat → Nat) (sz az : Nat) (w wr fl : Nat → Int32) (pw sc : Int32) (lw rot vb : Nat → Int32) (rec tk : Int32) (live row : Nat → Int32) (cur ser dur wo : Int32) (bts : Nat → Int32) (us : Int32) (act : Nat → Int32) (rd rs : Int32) (co : Int32) (b : Int32) : Met l y_L_setProduct w_L_setProduct ({ frames := 8, cells := 1, slots := 6, locals := 142 }) (oP (dC, dI) vwCl (xt cd) (xw ad cd w wr fl pw sc lw rot vb rec tk live row cur ser dur wo bts us act rd rs) sz az [.ref (ad 0), .int co, .int b]) (va_Qi (fun r (u : (Nat → Nat → Int32) × (Nat → Int32) × (Nat → Nat)) => ((r = nI 0 ∧ (nI 0 ≤ co ∧ co ≤ nI 39)) ∨ (r = nI 1 ∧ ¬ (nI 0 ≤ co ∧ co ≤ nI 39)))) (fun (u : (Nat → Nat → Int32) × (Nat → Int32) × (Nat → Nat)) (t : State) => xB (dC, dI) vwCl (xt cd) (xA 15 ad sz) (xw ad cd w wr fl pw sc lw rot vb rec tk live row cur ser dur wo bts us (u.1 0) rd rs) t) (xA 15 ad sz)) 1 6 (xA 15 ad sz) := by
  refine va_MetW (cc := b_L_setProduct) (maxL := 4) (ret := (some (.int))) (by decide) rfl ?_
  intro P e s m args below meth c0 s₁ B hml hv
  obtain ⟨rfl, hsz, hP, hK, hD0, hz, hn, hc, hN⟩ := hv
  have hx := B.exec
  have hb := B.bytes
  have hr := B.returns
  have hts := atoms_spec (ws := w_L_setProduct) B.pre
  have hown : s.vm.findClass R_L = some m.cls := findClass_of_methodNamed B.named
  have hlocks := B.notSynchronized
  subst hsz
  have hD := xw_D (sz := s.heap.size) hD0
  have hS : va_S (xA 15 ad s.heap.size) s.heap s.heap [] := va_S.rf
  have hA : ∀ q : Nat, s.heap.size ≤ q → (xA 15 ad s.heap.size) q := fun q h => Or.inr h
  have hl := lv_entry ([.ref (ad 0), .int co, .int b]) (n := 4) (Nat.le_of_ble_eq_true rfl)
  rw [lg_entry_eq]
  generalize (lg_sl ([.ref (ad 0), .int co, .int b]) ++ List.replicate (4 - (lg_sl ([.ref (ad 0), .int co, .int b])).length) Slot.unset).toArray = ls at hl ⊢
  have hl : lv_has ls 4 [(0, .ref (ad 0)), (1, .int co), (2, .int b)] := hl
  obtain ⟨m9, meth9, c9, hn9, hm9, hc9, -, -, hh9, -⟩ := Cond.codeWith_spec (hts _ List.mem_cons_self)
  cases B.named.symm.trans hn9
  cases B.method.symm.trans hm9
  cases (Stand.of_body B).code.symm.trans hc9
  have hrows := rows_of hh9
  by_cases hok : (nI 0 ≤ co ∧ co ≤ nI 39)
  ·
    refine lv_aload_n hx hb d_L_setProduct_0 rfl (lv_at hl 0 rfl) ?_
    refine lv_iload_n hx hb d_L_setProduct_1 rfl (lv_at hl 1 rfl) ?_
    refine lv_iload_n hx hb d_L_setProduct_2 rfl (lv_at hl 2 rfl) ?_
    have hSz := hS.1
    refine va_callv (va_runV (C := R_R) (As := [.int co, .int b]) (rest := []) ⟨hx, hb, hml, hown, hts⟩ (c_R_setProduct_ok l dC dI ad cd s.heap.size w wr fl pw sc lw rot vb rec tk live row cur ser dur wo bts us act rd rs co b (by first | omega | rfl | assumption | decide)) (cwV 2 hts (g_V t_643 t_644 t_645 t_1 t_646) rfl rfl rfl (by decide +kernel) ⟨by decide, by decide⟩) (xP_v hP hK hD hN 0 rfl rfl) rfl rfl hl.1 rfl (lv_room (Nat.le_of_ble_eq_true rfl)) d_L_setProduct_3 ⟨by decide, by decide⟩) hS (fun q _ h => xA_up hS.1 q h) (fun q h => xA_up hS.1 q h) (fun u3 t H1 locs1 ht hvm q3 hB hz1 hk1 hS => ?_)
    obtain ⟨hP1, hK1, hD1⟩ := hB
    rw [ht] at hP1
    have hD : va_D (xA 15 ad s.heap.size) (xw ad cd w wr fl pw sc lw rot vb rec tk live row cur ser dur wo bts us (u3.1 0) rd rs) := hD1.weaken (fun _ q _ h => xA_up hSz _ h)
    have hP : va_P (dC, dI) vwCl (xw ad cd w wr fl pw sc lw rot vb rec tk live row cur ser dur wo bts us (u3.1 0) rd rs) H1 := hP1
    generalize H1 = H at hP hS ⊢
    generalize locs1 = locs at hS ⊢
    obtain hk3 := q3
    refine lv_goto (tgt := 12) hx hb d_L_setProduct_6 (by decide) ?_
    refine lv_iconst (v := nI 0) hx hb d_L_setProduct_12 (by decide) ?_
    refine W.widen (k := 1) (n := 6) (by decide) (by decide) ?_
    exact W.iret (v := nI 0) hx hb hr (fun t ht hW => ⟨⟨nI 0, (fun i => [u3.1 0].getD i (fun _ => 0), fun i => [].getD i 0, fun i => [].getD i 0), rfl, Or.inl ⟨rfl, hok⟩, ⟨by rw [ht]; exact hP, va_K.moved hW.alike hK, hD⟩⟩, hS.F ht⟩) hS.2.2 d_L_setProduct_13
  ·
    refine lv_aload_n hx hb d_L_setProduct_0 rfl (lv_at hl 0 rfl) ?_
    refine lv_iload_n hx hb d_L_setProduct_1 rfl (lv_at hl 1 rfl) ?_
    refine lv_iload_n hx hb d_L_setProduct_2 rfl (lv_at hl 2 rfl) ?_
    have hPc := hP.sub (ws' := (xw ad cd w wr fl pw sc lw rot vb rec tk live row cur ser dur wo bts us act rd rs)) [0, 1, 2, 3, 4, 5, 6, 7, 8, 9, 10, 11, 12, 13, 14] rfl
    have hKc := hK.sub (tys' := (xt cd)) [0, 1, 2, 3, 4, 5, 6, 7, 8, 9] rfl
    refine th_catch1 (x := ⟨0, 6, 9, 13⟩) (rest := []) hrows (by decide) (by decide) hown (hts (.classLink R_L 13 E_A) (List.mem_cons_of_mem _ t_265)) (va_Nw.use rfl hn.1.1) (fun T hT X => th_runV (C := R_R) (As := [.int co, .int b]) (rest := []) ⟨hx, hb, hml, hown, hts⟩ (th_R_setProduct_a l hl9 dC dI ad cd az w wr fl pw sc lw rot vb rec tk live row cur ser dur wo bts us act rd rs co b (by first | assumption | omega)) (cwV 2 hts (g_V t_643 t_644 t_645 t_1 t_646) rfl rfl rfl (by decide +kernel) ⟨by decide, by decide⟩) (xT_v hPc hKc hz hn hN 0 rfl rfl) rfl rfl hl.1 rfl (lv_room (Nat.le_of_ble_eq_true rfl)) d_L_setProduct_3 ⟨by decide, by decide⟩ hT X) (fun q H1 hz1 hk1 => ?_)
    have hP1 : va_P (dC, dI) vwCl (xw ad cd w wr fl pw sc lw rot vb rec tk live row cur ser dur wo bts us act rd rs) H1 := hP.kept (fun k q hk => hk1 _ ((hP k q hk).lt))
    have hS1 : va_S (xA 15 ad s.heap.size) s.heap H1 [] := ⟨hz1, fun q h1 _ => hk1 q h1, fun _ h => by cases h⟩
    refine W.eq (g2 := F0 m 9 ls [.ref q]) rfl ?_
    refine lv_astore_n hx hb d_L_setProduct_9 rfl hl (by decide) rfl (fun ls hl => ?_)
    have hl : lv_has ls 4 [(3, .ref q), (0, .ref (ad 0)), (1, .int co), (2, .int b)] := hl
    refine lv_iconst (v := nI 1) hx hb d_L_setProduct_10 (by decide) ?_
    exact W.iret (v := nI 1) hx hb hr (fun t ht hW => ⟨⟨nI 1, (fun i => [act].getD i (fun _ => 0), fun i => [].getD i 0, fun i => [].getD i 0), rfl, Or.inr ⟨rfl, hok⟩, ⟨by rw [ht]; exact hP1, va_K.moved hW.alike hK, hD⟩⟩, hS1.F ht⟩) hS1.2.2 d_L_setProduct_11
set_option maxHeartbeats 4000000 in
set_option maxRecDepth 100000 in
theorem cw_L_cutAfter (l : Launch) (hl9 : l.stackTraces = false) (dC : Nat → ClassId) (dI : Nat → Nat → Nat) (ad cd : Nat → Nat) (sz az : Nat) (w wr fl : Nat → Int32) (pw sc : Int32) (lw rot vb : Nat → Int32) (rec tk : Int32) (live row : Nat → Int32) (cur ser dur wo : Int32) (bts : Nat → Int32) (us : Int32) (act : Nat → Int32) (rd rs : Int32) (n : Int32) : Met l y_L_cutAfter w_L_cutAfter ({ frames := 8, cells := 1, slots := 6, locals := 141 }) (oP (dC, dI) vwCl (xt cd) (xw ad cd w wr fl pw sc lw rot vb rec tk live row cur ser dur wo bts us act rd rs) sz az [.ref (ad 0), .int n]) (va_Qi (fun r (u : (Nat → Nat → Int32) × (Nat → Int32) × (Nat → Nat)) => ((r = nI 0 ∧ (nI 0 ≤ n ∧ n ≤ nI 300)) ∨ (r = nI 1 ∧ ¬ (nI 0 ≤ n ∧ n ≤ nI 300)))) (fun (u : (Nat → Nat → Int32) × (Nat → Int32) × (Nat → Nat)) (t : State) => xB (dC, dI) vwCl (xt cd) (xA 15 ad sz) (xw ad cd w wr fl pw (u.2.1 0) lw rot vb rec tk live row cur ser dur wo bts us act rd rs) t) (xA 15 ad sz)) 1 6 (xA 15 ad sz) := by
  refine va_MetW (cc := b_L_cutAfter) (maxL := 3) (ret := (some (.int))) (by decide) rfl ?_
  intro P e s m args below meth c0 s₁ B hml hv
  obtain ⟨rfl, hsz, hP, hK, hD0, hz, hn, hc, hN⟩ := hv
  have hx := B.exec
  have hb := B.bytes
  have hr := B.returns
  have hts := atoms_spec (ws := w_L_cutAfter) B.pre
  have hown : s.vm.findClass R_L = some m.cls := findClass_of_methodNamed B.named
  have hlocks := B.notSynchronized
  subst hsz
  have hD := xw_D (sz := s.heap.size) hD0
  have hS : va_S (xA 15 ad s.heap.size) s.heap s.heap [] := va_S.rf
  have hA : ∀ q : Nat, s.heap.size ≤ q → (xA 15 ad s.heap.size) q := fun q h => Or.inr h
  have hl := lv_entry ([.ref (ad 0), .int n]) (n := 3) (Nat.le_of_ble_eq_true rfl)
  rw [lg_entry_eq]
  generalize (lg_sl ([.ref (ad 0), .int n]) ++ List.replicate (3 - (lg_sl ([.ref (ad 0), .int n])).length) Slot.unset).toArray = ls at hl ⊢
  have hl : lv_has ls 3 [(0, .ref (ad 0)), (1, .int n)] := hl
  obtain ⟨m9, meth9, c9, hn9, hm9, hc9, -, -, hh9, -⟩ := Cond.codeWith_spec (hts _ List.mem_cons_self)
  cases B.named.symm.trans hn9
  cases B.method.symm.trans hm9
  cases (Stand.of_body B).code.symm.trans hc9
  have hrows := rows_of hh9
  by_cases hok : (nI 0 ≤ n ∧ n ≤ nI 300)
  ·
    refine lv_aload_n hx hb d_L_cutAfter_0 rfl (lv_at hl 0 rfl) ?_
    refine lv_iload_n hx hb d_L_cutAfter_1 rfl (lv_at hl 1 rfl) ?_
    have hSz := hS.1
    refine va_callv (va_runV (C := R_R) (As := [.int n]) (rest := []) ⟨hx, hb, hml, hown, hts⟩ (c_R_cutAfter_ok l dC dI ad cd s.heap.size w wr fl pw sc lw rot vb rec tk live row cur ser dur wo bts us act rd rs n (by first | omega | rfl | assumption | decide)) (cwV 1 hts (g_V t_650 t_651 t_652 t_1 t_653) rfl rfl rfl (by decide +kernel) ⟨by decide, by decide⟩) (xP_v hP hK hD hN 0 rfl rfl) rfl rfl hl.1 rfl (lv_room (Nat.le_of_ble_eq_true rfl)) d_L_cutAfter_2 ⟨by decide, by decide⟩) hS (fun q _ h => xA_up hS.1 q h) (fun q h => xA_up hS.1 q h) (fun u2 t H1 locs1 ht hvm q2 hB hz1 hk1 hS => ?_)
    obtain ⟨hP1, hK1, hD1⟩ := hB
    rw [ht] at hP1
    have hD : va_D (xA 15 ad s.heap.size) (xw ad cd w wr fl pw (u2.2.1 0) lw rot vb rec tk live row cur ser dur wo bts us act rd rs) := hD1.weaken (fun _ q _ h => xA_up hSz _ h)
    have hP : va_P (dC, dI) vwCl (xw ad cd w wr fl pw (u2.2.1 0) lw rot vb rec tk live row cur ser dur wo bts us act rd rs) H1 := hP1
    generalize H1 = H at hP hS ⊢
    generalize locs1 = locs at hS ⊢
    obtain hk2 := q2
    refine lv_goto (tgt := 11) hx hb d_L_cutAfter_5 (by decide) ?_
    refine lv_iconst (v := nI 0) hx hb d_L_cutAfter_11 (by decide) ?_
    refine W.widen (k := 1) (n := 6) (by decide) (by decide) ?_
    exact W.iret (v := nI 0) hx hb hr (fun t ht hW => ⟨⟨nI 0, (fun i => [].getD i (fun _ => 0), fun i => [u2.2.1 0].getD i 0, fun i => [].getD i 0), rfl, Or.inl ⟨rfl, hok⟩, ⟨by rw [ht]; exact hP, va_K.moved hW.alike hK, hD⟩⟩, hS.F ht⟩) hS.2.2 d_L_cutAfter_12
  ·
    refine lv_aload_n hx hb d_L_cutAfter_0 rfl (lv_at hl 0 rfl) ?_
    refine lv_iload_n hx hb d_L_cutAfter_1 rfl (lv_at hl 1 rfl) ?_
    have hPc := hP.sub (ws' := (xw ad cd w wr fl pw sc lw rot vb rec tk live row cur ser dur wo bts us act rd rs)) [0, 1, 2, 3, 4, 5, 6, 7, 8, 9, 10, 11, 12, 13, 14] rfl
    have hKc := hK.sub (tys' := (xt cd)) [0, 1, 2, 3, 4, 5, 6, 7, 8, 9] rfl
    refine th_catch1 (x := ⟨0, 5, 8, 13⟩) (rest := []) hrows (by decide) (by decide) hown (hts (.classLink R_L 13 E_A) (List.mem_cons_of_mem _ t_265)) (va_Nw.use rfl hn.1.1) (fun T hT X => th_runV (C := R_R) (As := [.int n]) (rest := []) ⟨hx, hb, hml, hown, hts⟩ (th_R_cutAfter_a l hl9 dC dI ad cd az w wr fl pw sc lw rot vb rec tk live row cur ser dur wo bts us act rd rs n (by first | assumption | omega)) (cwV 1 hts (g_V t_650 t_651 t_652 t_1 t_653) rfl rfl rfl (by decide +kernel) ⟨by decide, by decide⟩) (xT_v hPc hKc hz hn hN 0 rfl rfl) rfl rfl hl.1 rfl (lv_room (Nat.le_of_ble_eq_true rfl)) d_L_cutAfter_2 ⟨by decide, by decide⟩ hT X) (fun q H1 hz1 hk1 => ?_)
    have hP1 : va_P (dC, dI) vwCl (xw ad cd w wr fl pw sc lw rot vb rec tk live row cur ser dur wo bts us act rd rs) H1 := hP.kept (fun k q hk => hk1 _ ((hP k q hk).lt))
    have hS1 : va_S (xA 15 ad s.heap.size) s.heap H1 [] := ⟨hz1, fun q h1 _ => hk1 q h1, fun _ h => by cases h⟩
    refine W.eq (g2 := F0 m 8 ls [.ref q]) rfl ?_
    refine lv_astore_n hx hb d_L_cutAfter_8 rfl hl (by decide) rfl (fun ls hl => ?_)
    have hl : lv_has ls 3 [(2, .ref q), (0, .ref (ad 0)), (1, .int n)] := hl
    refine lv_iconst (v := nI 1) hx hb d_L_cutAfter_9 (by decide) ?_
    exact W.iret (v := nI 1) hx hb hr (fun t ht hW => ⟨⟨nI 1, (fun i => [].getD i (fun _ => 0), fun i => [sc].getD i 0, fun i => [].getD i 0), rfl, Or.inr ⟨rfl, hok⟩, ⟨by rw [ht]; exact hP1, va_K.moved hW.alike hK, hD⟩⟩, hS1.F ht⟩) hS1.2.2 d_L_cutAfter_10
set_option maxHeartbeats 4000000 in
set_option maxRecDepth 100000 in
theorem cw_L_wearOf (l : Launch) (hl9 : l.stackTraces = false) (dC : Nat → ClassId) (dI : Nat → Nat → Nat) (ad cd : Nat → Nat) (ao co : Nat) (sz az : Nat) (w wr fl : Nat → Int32) (pw sc : Int32) (lw rot vb : Nat → Int32) (rec tk : Int32) (live row : Nat → Int32) (cur ser dur wo : Int32) (bts : Nat → Int32) (us : Int32) (act : Nat → Int32) (rd rs : Int32) (fo : Nat → Int64) (b : Int32) : Met l y_L_wearOf w_L_wearOf ({ frames := 8, cells := 1, slots := 6, locals := 141 }) (oP (dC, dI) vwCl ((co, .long) :: xt cd) ((ao, .inl (co, 1, .inr (.inl fo))) :: (xw ad cd w wr fl pw sc lw rot vb rec tk live row cur ser dur wo bts us act rd rs)) sz az [.ref (ad 0), .int b, .ref ao]) (va_Qi (fun r (u : ((Nat → Nat → Int32) × (Nat → Int32) × (Nat → Nat)) × (Nat → Int64)) => True) (fun (u : ((Nat → Nat → Int32) × (Nat → Int32) × (Nat → Nat)) × (Nat → Int64)) (t : State) => xB (dC, dI) vwCl ((co, .long) :: xt cd) (oA ao ad sz) ((ao, .inl (co, 1, .inr (.inl u.2))) :: (xw ad cd w wr fl pw sc lw rot vb rec tk live row cur ser dur wo bts us act rd rs)) t) (oA ao ad sz)) 1 6 (oA ao ad sz) := by
  refine va_MetW (cc := b_L_wearOf) (maxL := 4) (ret := (some (.int))) (by decide) rfl ?_
  intro P e s m args below meth c0 s₁ B hml hv
  obtain ⟨rfl, hsz, hP, hK, hD0, hz, hn, hc, hN⟩ := hv
  have hx := B.exec
  have hb := B.bytes
  have hr := B.returns
  have hts := atoms_spec (ws := w_L_wearOf) B.pre
  have hown : s.vm.findClass R_L = some m.cls := findClass_of_methodNamed B.named
  have hlocks := B.notSynchronized
  subst hsz
  have hD := ow_D (sz := s.heap.size) hD0
  have hS : va_S (oA ao ad s.heap.size) s.heap s.heap [] := va_S.rf
  have hA : ∀ q : Nat, s.heap.size ≤ q → (oA ao ad s.heap.size) q := fun q h => Or.inr (Or.inr h)
  have hl := lv_entry ([.ref (ad 0), .int b, .ref ao]) (n := 4) (Nat.le_of_ble_eq_true rfl)
  rw [lg_entry_eq]
  generalize (lg_sl ([.ref (ad 0), .int b, .ref ao]) ++ List.replicate (4 - (lg_sl ([.ref (ad 0), .int b, .ref ao])).length) Slot.unset).toArray = ls at hl ⊢
  have hl : lv_has ls 4 [(0, .ref (ad 0)), (1, .int b), (2, .ref ao)] := hl
  obtain ⟨m9, meth9, c9, hn9, hm9, hc9, -, -, hh9, -⟩ := Cond.codeWith_spec (hts _ List.mem_cons_self)
  cases B.named.symm.trans hn9
  cases B.method.symm.trans hm9
  cases (Stand.of_body B).code.symm.trans hc9
  have hrows := rows_of hh9
  by_cases hok : (nI 0 ≤ b ∧ b ≤ nI 7)
  ·
    refine lv_aload_n hx hb d_L_wearOf_0 rfl (lv_at hl 2 rfl) ?_
    refine lv_iconst (v := nI 0) hx hb d_L_wearOf_1 (by decide) ?_
    refine lv_aload_n hx hb d_L_wearOf_2 rfl (lv_at hl 0 rfl) ?_
    refine lv_iload_n hx hb d_L_wearOf_3 rfl (lv_at hl 1 rfl) ?_
    have hPc := hP.sub (ws' := (xw ad cd w wr fl pw sc lw rot vb rec tk live row cur ser dur wo bts us act rd rs)) [1, 2, 3, 4, 5, 6, 7, 8, 9, 10, 11, 12, 13, 14, 15] rfl
    have hKc := hK.sub (tys' := (xt cd)) [1, 2, 3, 4, 5, 6, 7, 8, 9, 10] rfl
    refine vp_callSi (va_runV (C := R_R) (As := [.int b]) (rest := [.int (nI 0), .ref ao]) ⟨hx, hb, hml, hown, hts⟩ (c_R_wearOf_ok l dC dI ad cd w wr fl pw sc lw rot vb rec tk live row cur ser dur wo bts us act rd rs b (by first | omega | rfl | assumption | decide)) (cwV 1 hts (g_V t_661 t_662 t_663 t_1 t_664) rfl rfl rfl (by decide +kernel) ⟨by decide, by decide⟩) (xR_v hPc hKc hN 0 rfl rfl) rfl rfl hl.1 rfl (lv_room (Nat.le_of_ble_eq_true rfl)) d_L_wearOf_4 ⟨by decide, by decide⟩).run (fun r4 q4 => ?_)
    refine lv_i2l (v := r4.toInt64) hx hb d_L_wearOf_7 rfl ?_
    refine va_last hx hb hK hP hD hS 0 0 rfl rfl (vp_in_nI (by omega) (by decide)) d_L_wearOf_8 (fun H locs hP hD hS => ?_)
    rw [nI_clamp (by omega)] at hP hD
    have hP : va_P (dC, dI) vwCl ((ao, .inl (co, 1, .inr (.inl (vp_updL fo 0 r4.toInt64)))) :: (xw ad cd w wr fl pw sc lw rot vb rec tk live row cur ser dur wo bts us act rd rs)) H := hP
    have hD : va_D (oA ao ad s.heap.size) ((ao, .inl (co, 1, .inr (.inl (vp_updL fo 0 r4.toInt64)))) :: (xw ad cd w wr fl pw sc lw rot vb rec tk live row cur ser dur wo bts us act rd rs)) := hD
    refine lv_goto (tgt := 15) hx hb d_L_wearOf_9 (by decide) ?_
    refine lv_iconst (v := nI 0) hx hb d_L_wearOf_15 (by decide) ?_
    refine W.widen (k := 1) (n := 6) (by decide) (by decide) ?_
    exact W.iret (v := nI 0) hx hb hr (fun t ht hW => ⟨⟨nI 0, ((fun i => [].getD i (fun _ => 0), fun i => [].getD i 0, fun i => [].getD i 0), (vp_updL fo 0 r4.toInt64)), rfl, trivial, ⟨by rw [ht]; exact hP, va_K.moved hW.alike hK, hD⟩⟩, hS.F ht⟩) hS.2.2 d_L_wearOf_16
  ·
    refine lv_aload_n hx hb d_L_wearOf_0 rfl (lv_at hl 2 rfl) ?_
    refine lv_iconst (v := nI 0) hx hb d_L_wearOf_1 (by decide) ?_
    refine lv_aload_n hx hb d_L_wearOf_2 rfl (lv_at hl 0 rfl) ?_
    refine lv_iload_n hx hb d_L_wearOf_3 rfl (lv_at hl 1 rfl) ?_
    have hPc := hP.sub (ws' := (xw ad cd w wr fl pw sc lw rot vb rec tk live row cur ser dur wo bts us act rd rs)) [1, 2, 3, 4, 5, 6, 7, 8, 9, 10, 11, 12, 13, 14, 15] rfl
    have hKc := hK.sub (tys' := (xt cd)) [1, 2, 3, 4, 5, 6, 7, 8, 9, 10] rfl
    refine th_catch1 (x := ⟨0, 9, 12, 13⟩) (rest := [.int (nI 0), .ref ao]) hrows (by decide) (by decide) hown (hts (.classLink R_L 13 E_A) (List.mem_cons_of_mem _ t_265)) (va_Nw.use rfl hn.1.1) (fun T hT X => th_runV (C := R_R) (As := [.int b]) (rest := [.int (nI 0), .ref ao]) ⟨hx, hb, hml, hown, hts⟩ (th_R_wearOf_a l hl9 dC dI ad cd az w wr fl pw sc lw rot vb rec tk live row cur ser dur wo bts us act rd rs b (by first | assumption | omega)) (cwV 1 hts (g_V t_661 t_662 t_663 t_1 t_664) rfl rfl rfl (by decide +kernel) ⟨by decide, by decide⟩) (xT_v hPc hKc hz hn hN 0 rfl rfl) rfl rfl hl.1 rfl (lv_room (Nat.le_of_ble_eq_true rfl)) d_L_wearOf_4 ⟨by decide, by decide⟩ hT X) (fun q H1 hz1 hk1 => ?_)
    have hP1 : va_P (dC, dI) vwCl ((ao, .inl (co, 1, .inr (.inl fo))) :: (xw ad cd w wr fl pw sc lw rot vb rec tk live row cur ser dur wo bts us act rd rs)) H1 := hP.kept (fun k q hk => hk1 _ ((hP k q hk).lt))
    have hS1 : va_S (oA ao ad s.heap.size) s.heap H1 [] := ⟨hz1, fun q h1 _ => hk1 q h1, fun _ h => by cases h⟩
    refine W.eq (g2 := F0 m 12 ls [.ref q]) rfl ?_
    refine lv_astore_n hx hb d_L_wearOf_12 rfl hl (by decide) rfl (fun ls hl => ?_)
    have hl : lv_has ls 4 [(3, .ref q), (0, .ref (ad 0)), (1, .int b), (2, .ref ao)] := hl
    refine lv_iconst (v := nI 1) hx hb d_L_wearOf_13 (by decide) ?_
    exact W.iret (v := nI 1) hx hb hr (fun t ht hW => ⟨⟨nI 1, ((fun i => [].getD i (fun _ => 0), fun i => [].getD i 0, fun i => [].getD i 0), fo), rfl, trivial, ⟨by rw [ht]; exact hP1, va_K.moved hW.alike hK, hD⟩⟩, hS1.F ht⟩) hS1.2.2 d_L_wearOf_14
set_option maxHeartbeats 4000000 in
set_option maxRecDepth 100000 in
theorem cw_L_failBlock (l : Launch) (hl9 : l.stackTraces = false) (dC : Nat → ClassId) (dI : Nat → Nat → Nat) (ad cd : Nat → Nat) (sz az : Nat) (w wr fl : Nat → Int32) (pw sc : Int32) (lw rot vb : Nat → Int32) (rec tk : Int32) (live row : Nat → Int32) (cur ser dur wo : Int32) (bts : Nat → Int32) (us : Int32) (act : Nat → Int32) (rd rs : Int32) (b : Int32) (hfl : ∀ i, i < 8 → B01 (fl i)) : Met l y_L_failBlock w_L_failBlock ({ frames := 8, cells := 1, slots := 6, locals := 141 }) (oP (dC, dI) vwCl (xt cd) (xw ad cd w wr fl pw sc lw rot vb rec tk live row cur ser dur wo bts us act rd rs) sz az [.ref (ad 0), .int b]) (va_Qi (fun r (u : (Nat → Nat → Int32) × (Nat → Int32) × (Nat → Nat)) => ((r = nI 0 ∧ (nI 0 ≤ b ∧ b ≤ nI 7)) ∨ (r = nI 1 ∧ ¬ (nI 0 ≤ b ∧ b ≤ nI 7))) ∧ ∀ i, i < 8 → B01 ((u.1 0) i)) (fun (u : (Nat → Nat → Int32) × (Nat → Int32) × (Nat → Nat)) (t : State) => xB (dC, dI) vwCl (xt cd) (xA 15 ad sz) (xw ad cd w wr (u.1 0) pw sc lw rot vb rec tk live row cur ser dur wo bts us act rd rs) t) (xA 15 ad sz)) 1 6 (xA 15 ad sz) := by
  refine va_MetW (cc := b_L_failBlock) (maxL := 3) (ret := (some (.int))) (by decide) rfl ?_
  intro P e s m args below meth c0 s₁ B hml hv
  obtain ⟨rfl, hsz, hP, hK, hD0, hz, hn, hc, hN⟩ := hv
  have hx := B.exec
  have hb := B.bytes
  have hr := B.returns
  have hts := atoms_spec (ws := w_L_failBlock) B.pre
  have hown : s.vm.findClass R_L = some m.cls := findClass_of_methodNamed B.named
  have hlocks := B.notSynchronized
  subst hsz
  have hD := xw_D (sz := s.heap.size) hD0
  have hS : va_S (xA 15 ad s.heap.size) s.heap s.heap [] := va_S.rf
  have hA : ∀ q : Nat, s.heap.size ≤ q → (xA 15 ad s.heap.size) q := fun q h => Or.inr h
  have hl := lv_entry ([.ref (ad 0), .int b]) (n := 3) (Nat.le_of_ble_eq_true rfl)
  rw [lg_entry_eq]
  generalize (lg_sl ([.ref (ad 0), .int b]) ++ List.replicate (3 - (lg_sl ([.ref (ad 0), .int b])).length) Slot.unset).toArray = ls at hl ⊢
  have hl : lv_has ls 3 [(0, .ref (ad 0)), (1, .int b)] := hl
  obtain ⟨m9, meth9, c9, hn9, hm9, hc9, -, -, hh9, -⟩ := Cond.codeWith_spec (hts _ List.mem_cons_self)
  cases B.named.symm.trans hn9
  cases B.method.symm.trans hm9
  cases (Stand.of_body B).code.symm.trans hc9
  have hrows := rows_of hh9
  by_cases hok : (nI 0 ≤ b ∧ b ≤ nI 7)
  ·
    refine lv_aload_n hx hb d_L_failBlock_0 rfl (lv_at hl 0 rfl) ?_
    refine lv_iload_n hx hb d_L_failBlock_1 rfl (lv_at hl 1 rfl) ?_
    have hSz := hS.1
    refine va_callv (va_runV (C := R_R) (As := [.int b]) (rest := []) ⟨hx, hb, hml, hown, hts⟩ (c_R_failBlock_ok l dC dI ad cd s.heap.size w wr fl pw sc lw rot vb rec tk live row cur ser dur wo bts us act rd rs b (by first | omega | rfl | assumption | decide) (by first | omega | rfl | assumption | decide)) (cwV 1 hts (g_V t_672 t_673 t_674 t_1 t_675) rfl rfl rfl (by decide +kernel) ⟨by decide, by decide⟩) (xP_v hP hK hD hN 0 rfl rfl) rfl rfl hl.1 rfl (lv_room (Nat.le_of_ble_eq_true rfl)) d_L_failBlock_2 ⟨by decide, by decide⟩) hS (fun q _ h => xA_up hS.1 q h) (fun q h => xA_up hS.1 q h) (fun u2 t H1 locs1 ht hvm q2 hB hz1 hk1 hS => ?_)
    obtain ⟨hP1, hK1, hD1⟩ := hB
    rw [ht] at hP1
    have hD : va_D (xA 15 ad s.heap.size) (xw ad cd w wr (u2.1 0) pw sc lw rot vb rec tk live row cur ser dur wo bts us act rd rs) := hD1.weaken (fun _ q _ h => xA_up hSz _ h)
    have hP : va_P (dC, dI) vwCl (xw ad cd w wr (u2.1 0) pw sc lw rot vb rec tk live row cur ser dur wo bts us act rd rs) H1 := hP1
    generalize H1 = H at hP hS ⊢
    generalize locs1 = locs at hS ⊢
    have hfl := q2
    refine lv_goto (tgt := 11) hx hb d_L_failBlock_5 (by decide) ?_
    refine lv_iconst (v := nI 0) hx hb d_L_failBlock_11 (by decide) ?_
    refine W.widen (k := 1) (n := 6) (by decide) (by decide) ?_
    exact W.iret (v := nI 0) hx hb hr (fun t ht hW => ⟨⟨nI 0, (fun i => [u2.1 0].getD i (fun _ => 0), fun i => [].getD i 0, fun i => [].getD i 0), rfl, ⟨Or.inl ⟨rfl, hok⟩, hfl⟩, ⟨by rw [ht]; exact hP, va_K.moved hW.alike hK, hD⟩⟩, hS.F ht⟩) hS.2.2 d_L_failBlock_12
  ·
    refine lv_aload_n hx hb d_L_failBlock_0 rfl (lv_at hl 0 rfl) ?_
    refine lv_iload_n hx hb d_L_failBlock_1 rfl (lv_at hl 1 rfl) ?_
    have hPc := hP.sub (ws' := (xw ad cd w wr fl pw sc lw rot vb rec tk live row cur ser dur wo bts us act rd rs)) [0, 1, 2, 3, 4, 5, 6, 7, 8, 9, 10, 11, 12, 13, 14] rfl
    have hKc := hK.sub (tys' := (xt cd)) [0, 1, 2, 3, 4, 5, 6, 7, 8, 9] rfl
    refine th_catch1 (x := ⟨0, 5, 8, 13⟩) (rest := []) hrows (by decide) (by decide) hown (hts (.classLink R_L 13 E_A) (List.mem_cons_of_mem _ t_265)) (va_Nw.use rfl hn.1.1) (fun T hT X => th_runV (C := R_R) (As := [.int b]) (rest := []) ⟨hx, hb, hml, hown, hts⟩ (th_R_failBlock_a l hl9 dC dI ad cd az w wr fl pw sc lw rot vb rec tk live row cur ser dur wo bts us act rd rs b (by first | assumption | omega)) (cwV 1 hts (g_V t_672 t_673 t_674 t_1 t_675) rfl rfl rfl (by decide +kernel) ⟨by decide, by decide⟩) (xT_v hPc hKc hz hn hN 0 rfl rfl) rfl rfl hl.1 rfl (lv_room (Nat.le_of_ble_eq_true rfl)) d_L_failBlock_2 ⟨by decide, by decide⟩ hT X) (fun q H1 hz1 hk1 => ?_)
    have hP1 : va_P (dC, dI) vwCl (xw ad cd w wr fl pw sc lw rot vb rec tk live row cur ser dur wo bts us act rd rs) H1 := hP.kept (fun k q hk => hk1 _ ((hP k q hk).lt))
    have hS1 : va_S (xA 15 ad s.heap.size) s.heap H1 [] := ⟨hz1, fun q h1 _ => hk1 q h1, fun _ h => by cases h⟩
    refine W.eq (g2 := F0 m 8 ls [.ref q]) rfl ?_
    refine lv_astore_n hx hb d_L_failBlock_8 rfl hl (by decide) rfl (fun ls hl => ?_)
    have hl : lv_has ls 3 [(2, .ref q), (0, .ref (ad 0)), (1, .int b)] := hl
    refine lv_iconst (v := nI 1) hx hb d_L_failBlock_9 (by decide) ?_
    exact W.iret (v := nI 1) hx hb hr (fun t ht hW => ⟨⟨nI 1, (fun i => [fl].getD i (fun _ => 0), fun i => [].getD i 0, fun i => [].getD i 0), rfl, ⟨Or.inr ⟨rfl, hok⟩, hfl⟩, ⟨by rw [ht]; exact hP1, va_K.moved hW.alike hK, hD⟩⟩, hS1.F ht⟩) hS1.2.2 d_L_failBlock_10
set_option maxHeartbeats 4000000 in
set_option maxRecDepth 100000 in
theorem cw_L_poke (l : Launch) (hl9 : l.stackTraces = false) (dC : Nat → ClassId) (dI : Nat → Nat → Nat) (ad cd : Nat → Nat) (sz az : Nat) (w wr fl : Nat → Int32) (pw sc : Int32) (lw rot vb : Nat → Int32) (rec tk : Int32) (live row : Nat → Int32) (cur ser dur wo : Int32) (bts : Nat → Int32) (us : Int32) (act : Nat → Int32) (rd rs : Int32) (pa : Int32) (wo_ : Int32) (mask : Int32) : Met l y_L_poke w_L_poke ({ frames := 8, cells := 1, slots := 6, locals := 143 }) (oP (dC, dI) vwCl (xt cd) (xw ad cd w wr fl pw sc lw rot vb rec tk live row cur ser dur wo bts us act rd rs) sz az [.ref (ad 0), .int pa, .int wo_, .int mask]) (va_Qi (fun r (u : (Nat → Nat → Int32) × (Nat → Int32) × (Nat → Nat)) => ((r = nI 0 ∧ ((nI 0 ≤ pa ∧ pa ≤ nI 31) ∧ (nI 0 ≤ wo_ ∧ wo_ ≤ nI 15))) ∨ (r = nI 1 ∧ ¬ ((nI 0 ≤ pa ∧ pa ≤ nI 31) ∧ (nI 0 ≤ wo_ ∧ wo_ ≤ nI 15))))) (fun (u : (Nat → Nat → Int32) × (Nat → Int32) × (Nat → Nat)) (t : State) => xB (dC, dI) vwCl (xt cd) (xA 15 ad sz) (xw ad cd (u.1 0) wr fl pw sc lw rot vb rec tk live row cur ser dur wo bts us act rd rs) t) (xA 15 ad sz)) 1 6 (xA 15 ad sz) := by
  refine va_MetW (cc := b_L_poke) (maxL := 5) (ret := (some (.int))) (by decide) rfl ?_
  intro P e s m args below meth c0 s₁ B hml hv
  obtain ⟨rfl, hsz, hP, hK, hD0, hz, hn, hc, hN⟩ := hv
  have hx := B.exec
  have hb := B.bytes
  have hr := B.returns
  have hts := atoms_spec (ws := w_L_poke) B.pre
  have hown : s.vm.findClass R_L = some m.cls := findClass_of_methodNamed B.named
  have hlocks := B.notSynchronized
  subst hsz
  have hD := xw_D (sz := s.heap.size) hD0
  have hS : va_S (xA 15 ad s.heap.size) s.heap s.heap [] := va_S.rf
  have hA : ∀ q : Nat, s.heap.size ≤ q → (xA 15 ad s.heap.size) q := fun q h => Or.inr h
  have hl := lv_entry ([.ref (ad 0), .int pa, .int wo_, .int mask]) (n := 5) (Nat.le_of_ble_eq_true rfl)
  rw [lg_entry_eq]
  generalize (lg_sl ([.ref (ad 0), .int pa, .int wo_, .int mask]) ++ List.replicate (5 - (lg_sl ([.ref (ad 0), .int pa, .int wo_, .int mask])).length) Slot.unset).toArray = ls at hl ⊢
  have hl : lv_has ls 5 [(0, .ref (ad 0)), (1, .int pa), (2, .int wo_), (3, .int mask)] := hl
  obtain ⟨m9, meth9, c9, hn9, hm9, hc9, -, -, hh9, -⟩ := Cond.codeWith_spec (hts _ List.mem_cons_self)
  cases B.named.symm.trans hn9
  cases B.method.symm.trans hm9
  cases (Stand.of_body B).code.symm.trans hc9
  have hrows := rows_of hh9
  by_cases hok : ((nI 0 ≤ pa ∧ pa ≤ nI 31) ∧ (nI 0 ≤ wo_ ∧ wo_ ≤ nI 15))
  ·
    refine lv_aload_n hx hb d_L_poke_0 rfl (lv_at hl 0 rfl) ?_
    refine lv_iload_n hx hb d_L_poke_1 rfl (lv_at hl 1 rfl) ?_
    refine lv_iload_n hx hb d_L_poke_2 rfl (lv_at hl 2 rfl) ?_
    refine lv_iload_n hx hb d_L_poke_3 rfl (lv_at hl 3 rfl) ?_
    have hSz := hS.1
    refine va_callv (va_runV (C := R_R) (As := [.int pa, .int wo_, .int mask]) (rest := []) ⟨hx, hb, hml, hown, hts⟩ (c_R_poke_ok l dC dI ad cd s.heap.size w wr fl pw sc lw rot vb rec tk live row cur ser dur wo bts us act rd rs pa wo_ mask (by first | omega | rfl | assumption | decide)) (cwV 3 hts (g_V t_683 t_684 t_685 t_1 t_686) rfl rfl rfl (by decide +kernel) ⟨by decide, by decide⟩) (xP_v hP hK hD hN 0 rfl rfl) rfl rfl hl.1 rfl (lv_room (Nat.le_of_ble_eq_true rfl)) d_L_poke_4 ⟨by decide, by decide⟩) hS (fun q _ h => xA_up hS.1 q h) (fun q h => xA_up hS.1 q h) (fun u4 t H1 locs1 ht hvm q4 hB hz1 hk1 hS => ?_)
    obtain ⟨hP1, hK1, hD1⟩ := hB
    rw [ht] at hP1
    have hD : va_D (xA 15 ad s.heap.size) (xw ad cd (u4.1 0) wr fl pw sc lw rot vb rec tk live row cur ser dur wo bts us act rd rs) := hD1.weaken (fun _ q _ h => xA_up hSz _ h)
    have hP : va_P (dC, dI) vwCl (xw ad cd (u4.1 0) wr fl pw sc lw rot vb rec tk live row cur ser dur wo bts us act rd rs) H1 := hP1
    generalize H1 = H at hP hS ⊢
    generalize locs1 = locs at hS ⊢
    obtain hk4 := q4
    refine lv_goto (tgt := 14) hx hb d_L_poke_7 (by decide) ?_
    refine lv_iconst (v := nI 0) hx hb d_L_poke_14 (by decide) ?_
    refine W.widen (k := 1) (n := 6) (by decide) (by decide) ?_
    exact W.iret (v := nI 0) hx hb hr (fun t ht hW => ⟨⟨nI 0, (fun i => [u4.1 0].getD i (fun _ => 0), fun i => [].getD i 0, fun i => [].getD i 0), rfl, Or.inl ⟨rfl, hok⟩, ⟨by rw [ht]; exact hP, va_K.moved hW.alike hK, hD⟩⟩, hS.F ht⟩) hS.2.2 d_L_poke_15
  ·
    refine lv_aload_n hx hb d_L_poke_0 rfl (lv_at hl 0 rfl) ?_
    refine lv_iload_n hx hb d_L_poke_1 rfl (lv_at hl 1 rfl) ?_
    refine lv_iload_n hx hb d_L_poke_2 rfl (lv_at hl 2 rfl) ?_
    refine lv_iload_n hx hb d_L_poke_3 rfl (lv_at hl 3 rfl) ?_
    have hPc := hP.sub (ws' := (xw ad cd w wr fl pw sc lw rot vb rec tk live row cur ser dur wo bts us act rd rs)) [0, 1, 2, 3, 4, 5, 6, 7, 8, 9, 10, 11, 12, 13, 14] rfl
    have hKc := hK.sub (tys' := (xt cd)) [0, 1, 2, 3, 4, 5, 6, 7, 8, 9] rfl
    refine th_catch1 (x := ⟨0, 7, 10, 13⟩) (rest := []) hrows (by decide) (by decide) hown (hts (.classLink R_L 13 E_A) (List.mem_cons_of_mem _ t_265)) (va_Nw.use rfl hn.1.1) (fun T hT X => th_runV (C := R_R) (As := [.int pa, .int wo_, .int mask]) (rest := []) ⟨hx, hb, hml, hown, hts⟩ (th_R_poke_a l hl9 dC dI ad cd az w wr fl pw sc lw rot vb rec tk live row cur ser dur wo bts us act rd rs pa wo_ mask (by first | assumption | omega)) (cwV 3 hts (g_V t_683 t_684 t_685 t_1 t_686) rfl rfl rfl (by decide +kernel) ⟨by decide, by decide⟩) (xT_v hPc hKc hz hn hN 0 rfl rfl) rfl rfl hl.1 rfl (lv_room (Nat.le_of_ble_eq_true rfl)) d_L_poke_4 ⟨by decide, by decide⟩ hT X) (fun q H1 hz1 hk1 => ?_)
    have hP1 : va_P (dC, dI) vwCl (xw ad cd w wr fl pw sc lw rot vb rec tk live row cur ser dur wo bts us act rd rs) H1 := hP.kept (fun k q hk => hk1 _ ((hP k q hk).lt))
    have hS1 : va_S (xA 15 ad s.heap.size) s.heap H1 [] := ⟨hz1, fun q h1 _ => hk1 q h1, fun _ h => by cases h⟩
    refine W.eq (g2 := F0 m 10 ls [.ref q]) rfl ?_
    refine lv_astore hx hb d_L_poke_10 hl (by decide) rfl (fun ls hl => ?_)
    have hl : lv_has ls 5 [(4, .ref q), (0, .ref (ad 0)), (1, .int pa), (2, .int wo_), (3, .int mask)] := hl
    refine lv_iconst (v := nI 1) hx hb d_L_poke_12 (by decide) ?_
    exact W.iret (v := nI 1) hx hb hr (fun t ht hW => ⟨⟨nI 1, (fun i => [w].getD i (fun _ => 0), fun i => [].getD i 0, fun i => [].getD i 0), rfl, Or.inr ⟨rfl, hok⟩, ⟨by rw [ht]; exact hP1, va_K.moved hW.alike hK, hD⟩⟩, hS1.F ht⟩) hS1.2.2 d_L_poke_13
set_option maxHeartbeats 4000000 in
set_option maxRecDepth 100000 in
theorem cw_L_word (l : Launch) (hl9 : l.stackTraces = false) (dC : Nat → ClassId) (dI : Nat → Nat → Nat) (ad cd : Nat → Nat) (ao co : Nat) (sz az : Nat) (w wr fl : Nat → Int32) (pw sc : Int32) (lw rot vb : Nat → Int32) (rec tk : Int32) (live row : Nat → Int32) (cur ser dur wo : Int32) (bts : Nat → Int32) (us : Int32) (act : Nat → Int32) (rd rs : Int32) (fo : Nat → Int64) (pa : Int32) (wo_ : Int32) : Met l y_L_word w_L_word ({ frames := 8, cells := 1, slots := 6, locals := 142 }) (oP (dC, dI) vwCl ((co, .long) :: xt cd) ((ao, .inl (co, 1, .inr (.inl fo))) :: (xw ad cd w wr fl pw sc lw rot vb rec tk live row cur ser dur wo bts us act rd rs)) sz az [.ref (ad 0), .int pa, .int wo_, .ref ao]) (va_Qi (fun r (u : ((Nat → Nat → Int32) × (Nat → Int32) × (Nat → Nat)) × (Nat → Int64)) => True) (fun (u : ((Nat → Nat → Int32) × (Nat → Int32) × (Nat → Nat)) × (Nat → Int64)) (t : State) => xB (dC, dI) vwCl ((co, .long) :: xt cd) (oA ao ad sz) ((ao, .inl (co, 1, .inr (.inl u.2))) :: (xw ad cd w wr fl pw sc lw rot vb rec tk live row cur ser dur wo bts us act rd rs)) t) (oA ao ad sz)) 1 6 (oA ao ad sz) := by
  refine va_MetW (cc := b_L_word) (maxL := 5) (ret := (some (.int))) (by decide) rfl ?_
  intro P e s m args below meth c0 s₁ B hml hv
  obtain ⟨rfl, hsz, hP, hK, hD0, hz, hn, hc, hN⟩ := hv
  have hx := B.exec
  have hb := B.bytes
  have hr := B.returns
  have hts := atoms_spec (ws := w_L_word) B.pre
  have hown : s.vm.findClass R_L = some m.cls := findClass_of_methodNamed B.named
  have hlocks := B.notSynchronized
  subst hsz
  have hD := ow_D (sz := s.heap.size) hD0
  have hS : va_S (oA ao ad s.heap.size) s.heap s.heap [] := va_S.rf
  have hA : ∀ q : Nat, s.heap.size ≤ q → (oA ao ad s.heap.size) q := fun q h => Or.inr (Or.inr h)
  have hl := lv_entry ([.ref (ad 0), .int pa, .int wo_, .ref ao]) (n := 5) (Nat.le_of_ble_eq_true rfl)
  rw [lg_entry_eq]
  generalize (lg_sl ([.ref (ad 0), .int pa, .int wo_, .ref ao]) ++ List.replicate (5 - (lg_sl ([.ref (ad 0), .int pa, .int wo_, .ref ao])).length) Slot.unset).toArray = ls at hl ⊢
  have hl : lv_has ls 5 [(0, .ref (ad 0)), (1, .int pa), (2, .int wo_), (3, .ref ao)] := hl
  obtain ⟨m9, meth9, c9, hn9, hm9, hc9, -, -, hh9, -⟩ := Cond.codeWith_spec (hts _ List.mem_cons_self)
  cases B.named.symm.trans hn9
  cases B.method.symm.trans hm9
  cases (Stand.of_body B).code.symm.trans hc9
  have hrows := rows_of hh9
  by_cases hok : ((nI 0 ≤ pa ∧ pa ≤ nI 31) ∧ (nI 0 ≤ wo_ ∧ wo_ ≤ nI 15))
  ·
    refine lv_aload_n hx hb d_L_word_0 rfl (lv_at hl 3 rfl) ?_
    refine lv_iconst (v := nI 0) hx hb d_L_word_1 (by decide) ?_
    refine lv_aload_n hx hb d_L_word_2 rfl (lv_at hl 0 rfl) ?_
    refine lv_iload_n hx hb d_L_word_3 rfl (lv_at hl 1 rfl) ?_
    refine lv_iload_n hx hb d_L_word_4 rfl (lv_at hl 2 rfl) ?_
    have hPc := hP.sub (ws' := (xw ad cd w wr fl pw sc lw rot vb rec tk live row cur ser dur wo bts us act rd rs)) [1, 2, 3, 4, 5, 6, 7, 8, 9, 10, 11, 12, 13, 14, 15] rfl
    have hKc := hK.sub (tys' := (xt cd)) [1, 2, 3, 4, 5, 6, 7, 8, 9, 10] rfl
    refine vp_callSi (va_runV (C := R_R) (As := [.int pa, .int wo_]) (rest := [.int (nI 0), .ref ao]) ⟨hx, hb, hml, hown, hts⟩ (c_R_word_ok l dC dI ad cd w wr fl pw sc lw rot vb rec tk live row cur ser dur wo bts us act rd rs pa wo_ (by first | omega | rfl | assumption | decide)) (cwV 2 hts (g_V t_697 t_698 t_699 t_1 t_700) rfl rfl rfl (by decide +kernel) ⟨by decide, by decide⟩) (xR_v hPc hKc hN 0 rfl rfl) rfl rfl hl.1 rfl (lv_room (Nat.le_of_ble_eq_true rfl)) d_L_word_5 ⟨by decide, by decide⟩).run (fun r5 q5 => ?_)
    refine lv_i2l (v := r5.toInt64) hx hb d_L_word_8 rfl ?_
    refine va_last hx hb hK hP hD hS 0 0 rfl rfl (vp_in_nI (by omega) (by decide)) d_L_word_9 (fun H locs hP hD hS => ?_)
    rw [nI_clamp (by omega)] at hP hD
    have hP : va_P (dC, dI) vwCl ((ao, .inl (co, 1, .inr (.inl (vp_updL fo 0 r5.toInt64)))) :: (xw ad cd w wr fl pw sc lw rot vb rec tk live row cur ser dur wo bts us act rd rs)) H := hP
    have hD : va_D (oA ao ad s.heap.size) ((ao, .inl (co, 1, .inr (.inl (vp_updL fo 0 r5.toInt64)))) :: (xw ad cd w wr fl pw sc lw rot vb rec tk live row cur ser dur wo bts us act rd rs)) := hD
    refine lv_goto (tgt := 17) hx hb d_L_word_10 (by decide) ?_
    refine lv_iconst (v := nI 0) hx hb d_L_word_17 (by decide) ?_
    refine W.widen (k := 1) (n := 6) (by decide) (by decide) ?_
    exact W.iret (v := nI 0) hx hb hr (fun t ht hW => ⟨⟨nI 0, ((fun i => [].getD i (fun _ => 0), fun i => [].getD i 0, fun i => [].getD i 0), (vp_updL fo 0 r5.toInt64)), rfl, trivial, ⟨by rw [ht]; exact hP, va_K.moved hW.alike hK, hD⟩⟩, hS.F ht⟩) hS.2.2 d_L_word_18
  ·
    refine lv_aload_n hx hb d_L_word_0 rfl (lv_at hl 3 rfl) ?_
    refine lv_iconst (v := nI 0) hx hb d_L_word_1 (by decide) ?_
    refine lv_aload_n hx hb d_L_word_2 rfl (lv_at hl 0 rfl) ?_
    refine lv_iload_n hx hb d_L_word_3 rfl (lv_at hl 1 rfl) ?_
    refine lv_iload_n hx hb d_L_word_4 rfl (lv_at hl 2 rfl) ?_
    have hPc := hP.sub (ws' := (xw ad cd w wr fl pw sc lw rot vb rec tk live row cur ser dur wo bts us act rd rs)) [1, 2, 3, 4, 5, 6, 7, 8, 9, 10, 11, 12, 13, 14, 15] rfl
    have hKc := hK.sub (tys' := (xt cd)) [1, 2, 3, 4, 5, 6, 7, 8, 9, 10] rfl
    refine th_catch1 (x := ⟨0, 10, 13, 32⟩) (rest := [.int (nI 0), .ref ao]) hrows (by decide) (by decide) hown (hts (.classLink R_L 32 E_I) (List.mem_cons_of_mem _ t_486)) (va_Nw.use rfl hn.1.2.2) (fun T hT X => th_runV (C := R_R) (As := [.int pa, .int wo_]) (rest := [.int (nI 0), .ref ao]) ⟨hx, hb, hml, hown, hts⟩ (th_R_word_i l hl9 dC dI ad cd az w wr fl pw sc lw rot vb rec tk live row cur ser dur wo bts us act rd rs pa wo_ (by first | assumption | omega)) (cwV 2 hts (g_V t_697 t_698 t_699 t_1 t_700) rfl rfl rfl (by decide +kernel) ⟨by decide, by decide⟩) (xT_v hPc hKc hz hn hN 0 rfl rfl) rfl rfl hl.1 rfl (lv_room (Nat.le_of_ble_eq_true rfl)) d_L_word_5 ⟨by decide, by decide⟩ hT X) (fun q H1 hz1 hk1 => ?_)
    have hP1 : va_P (dC, dI) vwCl ((ao, .inl (co, 1, .inr (.inl fo))) :: (xw ad cd w wr fl pw sc lw rot vb rec tk live row cur ser dur wo bts us act rd rs)) H1 := hP.kept (fun k q hk => hk1 _ ((hP k q hk).lt))
    have hS1 : va_S (oA ao ad s.heap.size) s.heap H1 [] := ⟨hz1, fun q h1 _ => hk1 q h1, fun _ h => by cases h⟩
    refine W.eq (g2 := F0 m 13 ls [.ref q]) rfl ?_
    refine lv_astore hx hb d_L_word_13 hl (by decide) rfl (fun ls hl => ?_)
    have hl : lv_has ls 5 [(4, .ref q), (0, .ref (ad 0)), (1, .int pa), (2, .int wo_), (3, .ref ao)] := hl
    refine lv_iconst (v := nI 1) hx hb d_L_word_15 (by decide) ?_
    exact W.iret (v := nI 1) hx hb hr (fun t ht hW => ⟨⟨nI 1, ((fun i => [].getD i (fun _ => 0), fun i => [].getD i 0, fun i => [].getD i 0), fo), rfl, trivial, ⟨by rw [ht]; exact hP1, va_K.moved hW.alike hK, hD⟩⟩, hS1.F ht⟩) hS1.2.2 d_L_word_16
