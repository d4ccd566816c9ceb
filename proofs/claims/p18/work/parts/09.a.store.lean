set_option maxHeartbeats 4000000 in
set_option maxRecDepth 100000 in
theorem c_S_isWornOut (l : Launch) (dC : Nat → ClassId) (dI : Nat → Nat → Nat) (ad cd : Nat → Nat) (w wr fl : Nat → Int32) (pw sc : Int32) (lw rot vb : Nat → Int32) (rec tk : Int32) (live row : Nat → Int32) (cur ser dur wo : Int32) (bts : Nat → Int32) (us : Int32) (act : Nat → Int32) (rd rs : Int32)  (hwo : B01 wo) : Met l y_S_isWornOut w_S_isWornOut ({ frames := 0, cells := 0, slots := 0, locals := 0 }) (xR (dC, dI) vwCl (xt cd) (xw ad cd w wr fl pw sc lw rot vb rec tk live row cur ser dur wo bts us act rd rs) [.ref (ad 1)]) (vp_Si (fun r => True)) 0 0 (fun _ => False) := by
  refine Met.ofW (cc := b_S_isWornOut) (maxL := 1) (ret := (some (.boolean))) (by decide) rfl ?_
  intro P e s m args below meth c0 s₁ B hml hv
  obtain ⟨rfl, hP, hK, hN⟩ := hv
  have hx := B.exec
  have hb := B.bytes
  have hr := B.returns
  have hts := atoms_spec (ws := w_S_isWornOut) B.pre
  have hown : s.vm.findClass R_S = some m.cls := findClass_of_methodNamed B.named
  have hlocks := B.notSynchronized
  have hl := lv_entry ([.ref (ad 1)]) (n := 1) (Nat.le_of_ble_eq_true rfl)
  rw [lg_entry_eq]
  generalize (lg_sl ([.ref (ad 1)]) ++ List.replicate (1 - (lg_sl ([.ref (ad 1)])).length) Slot.unset).toArray = ls at hl ⊢
  have hl : lv_has ls 1 [(0, .ref (ad 1))] := hl
  refine lv_aload_n hx hb d_S_isWornOut_0 rfl (lv_at hl 0 rfl) ?_
  refine va_get (D := (dC, dI)) (ci := 3) (v := .int wo) (C := R_S) (T := F_S) (N := 7) hx hb hts (fun w h => List.mem_cons_of_mem _ (in_S w h)) hown hK hP 1 rfl rfl 6 (by decide) (hts (.fieldLink R_S 35 R_S "wornOut" "Z") (List.mem_cons_of_mem _ t_58)) (fun _ h9 => h9) rfl d_S_isWornOut_1 ?_
  exact W.zret (v := wo) hx hb hr (hwo.nar) (fun t ht hW => ⟨wo, rfl, trivial, ht⟩) (fun q hq => by cases hq) d_S_isWornOut_4
set_option maxHeartbeats 4000000 in
set_option maxRecDepth 100000 in
theorem c_S_durableCount (l : Launch) (dC : Nat → ClassId) (dI : Nat → Nat → Nat) (ad cd : Nat → Nat) (w wr fl : Nat → Int32) (pw sc : Int32) (lw rot vb : Nat → Int32) (rec tk : Int32) (live row : Nat → Int32) (cur ser dur wo : Int32) (bts : Nat → Int32) (us : Int32) (act : Nat → Int32) (rd rs : Int32)  : Met l y_S_durableCount w_S_durableCount ({ frames := 0, cells := 0, slots := 0, locals := 0 }) (xR (dC, dI) vwCl (xt cd) (xw ad cd w wr fl pw sc lw rot vb rec tk live row cur ser dur wo bts us act rd rs) [.ref (ad 1)]) (vp_Si (fun r => True)) 0 0 (fun _ => False) := by
  refine Met.ofW (cc := b_S_durableCount) (maxL := 1) (ret := (some (.int))) (by decide) rfl ?_
  intro P e s m args below meth c0 s₁ B hml hv
  obtain ⟨rfl, hP, hK, hN⟩ := hv
  have hx := B.exec
  have hb := B.bytes
  have hr := B.returns
  have hts := atoms_spec (ws := w_S_durableCount) B.pre
  have hown : s.vm.findClass R_S = some m.cls := findClass_of_methodNamed B.named
  have hlocks := B.notSynchronized
  have hl := lv_entry ([.ref (ad 1)]) (n := 1) (Nat.le_of_ble_eq_true rfl)
  rw [lg_entry_eq]
  generalize (lg_sl ([.ref (ad 1)]) ++ List.replicate (1 - (lg_sl ([.ref (ad 1)])).length) Slot.unset).toArray = ls at hl ⊢
  have hl : lv_has ls 1 [(0, .ref (ad 1))] := hl
  refine lv_aload_n hx hb d_S_durableCount_0 rfl (lv_at hl 0 rfl) ?_
  refine va_get (D := (dC, dI)) (ci := 3) (v := .int dur) (C := R_S) (T := F_S) (N := 7) hx hb hts (fun w h => List.mem_cons_of_mem _ (in_S w h)) hown hK hP 1 rfl rfl 5 (by decide) (hts (.fieldLink R_S 32 R_S "durable" "I") (List.mem_cons_of_mem _ t_57)) (fun _ h9 => h9) rfl d_S_durableCount_1 ?_
  exact W.iret (v := dur) hx hb hr (fun t ht hW => ⟨dur, rfl, by first | rfl | trivial | omega, ht⟩) (fun q hq => by cases hq) d_S_durableCount_4
set_option maxHeartbeats 4000000 in
set_option maxRecDepth 100000 in
theorem c_S_latestSerial (l : Launch) (dC : Nat → ClassId) (dI : Nat → Nat → Nat) (ad cd : Nat → Nat) (w wr fl : Nat → Int32) (pw sc : Int32) (lw rot vb : Nat → Int32) (rec tk : Int32) (live row : Nat → Int32) (cur ser dur wo : Int32) (bts : Nat → Int32) (us : Int32) (act : Nat → Int32) (rd rs : Int32)  : Met l y_S_latestSerial w_S_latestSerial ({ frames := 0, cells := 0, slots := 0, locals := 0 }) (xR (dC, dI) vwCl (xt cd) (xw ad cd w wr fl pw sc lw rot vb rec tk live row cur ser dur wo bts us act rd rs) [.ref (ad 1)]) (vp_Si (fun r => True)) 0 0 (fun _ => False) := by
  refine Met.ofW (cc := b_S_latestSerial) (maxL := 1) (ret := (some (.int))) (by decide) rfl ?_
  intro P e s m args below meth c0 s₁ B hml hv
  obtain ⟨rfl, hP, hK, hN⟩ := hv
  have hx := B.exec
  have hb := B.bytes
  have hr := B.returns
  have hts := atoms_spec (ws := w_S_latestSerial) B.pre
  have hown : s.vm.findClass R_S = some m.cls := findClass_of_methodNamed B.named
  have hlocks := B.notSynchronized
  have hl := lv_entry ([.ref (ad 1)]) (n := 1) (Nat.le_of_ble_eq_true rfl)
  rw [lg_entry_eq]
  generalize (lg_sl ([.ref (ad 1)]) ++ List.replicate (1 - (lg_sl ([.ref (ad 1)])).length) Slot.unset).toArray = ls at hl ⊢
  have hl : lv_has ls 1 [(0, .ref (ad 1))] := hl
  refine lv_aload_n hx hb d_S_latestSerial_0 rfl (lv_at hl 0 rfl) ?_
  refine va_get (D := (dC, dI)) (ci := 3) (v := .int ser) (C := R_S) (T := F_S) (N := 7) hx hb hts (fun w h => List.mem_cons_of_mem _ (in_S w h)) hown hK hP 1 rfl rfl 4 (by decide) (hts (.fieldLink R_S 29 R_S "serial" "I") (List.mem_cons_of_mem _ t_56)) (fun _ h9 => h9) rfl d_S_latestSerial_1 ?_
  exact W.iret (v := ser) hx hb hr (fun t ht hW => ⟨ser, rfl, by first | rfl | trivial | omega, ht⟩) (fun q hq => by cases hq) d_S_latestSerial_4
set_option maxHeartbeats 4000000 in
set_option maxRecDepth 100000 in
theorem c_S_cursorBlock (l : Launch) (dC : Nat → ClassId) (dI : Nat → Nat → Nat) (ad cd : Nat → Nat) (w wr fl : Nat → Int32) (pw sc : Int32) (lw rot vb : Nat → Int32) (rec tk : Int32) (live row : Nat → Int32) (cur ser dur wo : Int32) (bts : Nat → Int32) (us : Int32) (act : Nat → Int32) (rd rs : Int32)  : Met l y_S_cursorBlock w_S_cursorBlock ({ frames := 0, cells := 0, slots := 0, locals := 0 }) (xR (dC, dI) vwCl (xt cd) (xw ad cd w wr fl pw sc lw rot vb rec tk live row cur ser dur wo bts us act rd rs) [.ref (ad 1)]) (vp_Si (fun r => True)) 0 0 (fun _ => False) := by
  refine Met.ofW (cc := b_S_cursorBlock) (maxL := 1) (ret := (some (.int))) (by decide) rfl ?_
  intro P e s m args below meth c0 s₁ B hml hv
  obtain ⟨rfl, hP, hK, hN⟩ := hv
  have hx := B.exec
  have hb := B.bytes
  have hr := B.returns
  have hts := atoms_spec (ws := w_S_cursorBlock) B.pre
  have hown : s.vm.findClass R_S = some m.cls := findClass_of_methodNamed B.named
  have hlocks := B.notSynchronized
  have hl := lv_entry ([.ref (ad 1)]) (n := 1) (Nat.le_of_ble_eq_true rfl)
  rw [lg_entry_eq]
  generalize (lg_sl ([.ref (ad 1)]) ++ List.replicate (1 - (lg_sl ([.ref (ad 1)])).length) Slot.unset).toArray = ls at hl ⊢
  have hl : lv_has ls 1 [(0, .ref (ad 1))] := hl
  refine lv_aload_n hx hb d_S_cursorBlock_0 rfl (lv_at hl 0 rfl) ?_
  refine va_get (D := (dC, dI)) (ci := 3) (v := .int cur) (C := R_S) (T := F_S) (N := 7) hx hb hts (fun w h => List.mem_cons_of_mem _ (in_S w h)) hown hK hP 1 rfl rfl 3 (by decide) (hts (.fieldLink R_S 25 R_S "cursor" "I") (List.mem_cons_of_mem _ t_55)) (fun _ h9 => h9) rfl d_S_cursorBlock_1 ?_
  exact W.iret (v := cur) hx hb hr (fun t ht hW => ⟨cur, rfl, by first | rfl | trivial | omega, ht⟩) (fun q hq => by cases hq) d_S_cursorBlock_4
set_option maxHeartbeats 4000000 in
set_option maxRecDepth 100000 in
theorem c_S_isLive (l : Launch) (dC : Nat → ClassId) (dI : Nat → Nat → Nat) (ad cd : Nat → Nat) (w wr fl : Nat → Int32) (pw sc : Int32) (lw rot vb : Nat → Int32) (rec tk : Int32) (live row : Nat → Int32) (cur ser dur wo : Int32) (bts : Nat → Int32) (us : Int32) (act : Nat → Int32) (rd rs : Int32) (pa : Nat) (hp : pa < 32) : Met l y_S_isLive w_S_isLive ({ frames := 0, cells := 0, slots := 0, locals := 0 }) (xR (dC, dI) vwCl (xt cd) (xw ad cd w wr fl pw sc lw rot vb rec tk live row cur ser dur wo bts us act rd rs) [.ref (ad 1), .int (nI pa)]) (vp_Si (fun r => B01 r)) 0 0 (fun _ => False) := by
  refine Met.ofW (cc := b_S_isLive) (maxL := 3) (ret := (some (.boolean))) (by decide) rfl ?_
  intro P e s m args below meth c0 s₁ B hml hv
  obtain ⟨rfl, hP, hK, hN⟩ := hv
  have hx := B.exec
  have hb := B.bytes
  have hr := B.returns
  have hts := atoms_spec (ws := w_S_isLive) B.pre
  have hown : s.vm.findClass R_S = some m.cls := findClass_of_methodNamed B.named
  have hlocks := B.notSynchronized
  have hl := lv_entry ([.ref (ad 1), .int (nI pa)]) (n := 3) (Nat.le_of_ble_eq_true rfl)
  rw [lg_entry_eq]
  generalize (lg_sl ([.ref (ad 1), .int (nI pa)]) ++ List.replicate (3 - (lg_sl ([.ref (ad 1), .int (nI pa)])).length) Slot.unset).toArray = ls at hl ⊢
  have hl : lv_has ls 3 [(0, .ref (ad 1)), (1, .int (nI pa))] := hl
  refine lv_iconst (v := nI 0) hx hb d_S_isLive_0 (by decide) ?_
  refine lv_istore_n hx hb d_S_isLive_1 rfl hl (by decide) rfl (fun ls hl => ?_)
  have hl : lv_has ls 3 [(2, .int (nI 0)), (0, .ref (ad 1)), (1, .int (nI pa))] := hl
  have lp2 : ∀ (n : Nat) (k : Nat) (ls : Array Slot), (16 - k) < n → (k ≤ 16) → lv_has ls 3 [(0, .ref (ad 1)), (1, .int (nI pa)), (2, .int (nI k))] → W P l e (headSpec w_S_isLive ({ frames := 0, cells := 0, slots := 0, locals := 0 })).room s m (([.ref (ad 1), .int (nI pa)] : List Value).toArray) below meth c0 s.heap [] 0 0 (MQ below (vp_Si (fun r => B01 r)) (([.ref (ad 1), .int (nI pa)] : List Value).toArray) s 0 0 (fun _ => False)) (F0 m 2 ls []) := by
    intro n
    induction n with
    | zero => intro k ls hm; intros; omega
    | succ n ih2 =>
      intro k ls hm hk hl
      refine lv_iload_n hx hb d_S_isLive_2 rfl (lv_at hl 2 rfl) ?_
      refine lv_bipush (v := nI 16) hx hb d_S_isLive_3 (by decide) ?_
      refine lv_icmp_ge (tgt := 26) hx hb d_S_isLive_5 (by decide) (fun c5 => ?_) (fun c5 => ?_)
      ·
        have c5 := cd_ge_t (by omega) (by omega) c5
        refine lv_iconst (v := nI 0) hx hb d_S_isLive_26 (by decide) ?_
        exact W.zret (v := nI 0) hx hb hr (by first | rfl | decide | assumption) (fun t ht hW => ⟨nI 0, rfl, by first | exact Or.inl rfl | exact Or.inr rfl | assumption, ht⟩) (fun q hq => by cases hq) d_S_isLive_27
      ·
        have c5 := cd_ge_f (by omega) (by omega) c5
        refine lv_aload_n hx hb d_S_isLive_8 rfl (lv_at hl 0 rfl) ?_
        refine va_get (D := (dC, dI)) (ci := 3) (v := .ref (ad 6)) (C := R_S) (T := F_S) (N := 7) hx hb hts (fun w h => List.mem_cons_of_mem _ (in_S w h)) hown hK hP 1 rfl rfl 1 (by decide) (hts (.fieldLink R_S 18 R_S "livePages" "[I") (List.mem_cons_of_mem _ t_53)) (fun _ h9 => h9) rfl d_S_isLive_9 ?_
        refine lv_iload_n hx hb d_S_isLive_12 rfl (lv_at hl 2 rfl) ?_
        refine va_iald hx hb hK hP 6 1 rfl rfl (vp_in_nI (by omega) (by decide)) d_S_isLive_13 ?_
        refine tp_i (y := live k) (by rw [nI_clamp (by omega)]) ?_
        refine lv_iload_n hx hb d_S_isLive_14 rfl (lv_at hl 1 rfl) ?_
        refine lv_icmp_ne (tgt := 20) hx hb d_S_isLive_15 (by decide) (fun c15 => ?_) (fun c15 => ?_)
        ·
          refine lv_iinc (k := 2) (v := nI (k + 1)) hx hb d_S_isLive_20 hl rfl (nI_1 _) (by decide) rfl (fun ls hl => ?_)
          have hl : lv_has ls 3 [(2, .int (nI (k + 1))), (0, .ref (ad 1)), (1, .int (nI pa))] := hl
          refine lv_goto (tgt := 2) hx hb d_S_isLive_23 (by decide) ?_
          exact ih2 (k + 1) ls (by omega) (by omega) (lv_sub hl [1, 2, 0] rfl)
        ·
          refine lv_iconst (v := nI 1) hx hb d_S_isLive_18 (by decide) ?_
          exact W.zret (v := nI 1) hx hb hr (by first | rfl | decide | assumption) (fun t ht hW => ⟨nI 1, rfl, by first | exact Or.inl rfl | exact Or.inr rfl | assumption, ht⟩) (fun q hq => by cases hq) d_S_isLive_19
  exact lp2 _ 0 ls (Nat.lt_succ_self _) (by omega) (lv_sub hl [1, 2, 0] rfl)
set_option maxHeartbeats 4000000 in
set_option maxRecDepth 100000 in
theorem c_S_livePageCount (l : Launch) (dC : Nat → ClassId) (dI : Nat → Nat → Nat) (ad cd : Nat → Nat) (w wr fl : Nat → Int32) (pw sc : Int32) (lw rot vb : Nat → Int32) (rec tk : Int32) (live row : Nat → Int32) (cur ser dur wo : Int32) (bts : Nat → Int32) (us : Int32) (act : Nat → Int32) (rd rs : Int32)  : Met l y_S_livePageCount w_S_livePageCount ({ frames := 1, cells := 0, slots := 0, locals := 22 }) (xR (dC, dI) vwCl (xt cd) (xw ad cd w wr fl pw sc lw rot vb rec tk live row cur ser dur wo bts us act rd rs) [.ref (ad 1)]) (vp_Si (fun r => True)) 0 0 (fun _ => False) := by
  refine Met.ofW (cc := b_S_livePageCount) (maxL := 3) (ret := (some (.int))) (by decide) rfl ?_
  intro P e s m args below meth c0 s₁ B hml hv
  obtain ⟨rfl, hP, hK, hN⟩ := hv
  have hx := B.exec
  have hb := B.bytes
  have hr := B.returns
  have hts := atoms_spec (ws := w_S_livePageCount) B.pre
  have hown : s.vm.findClass R_S = some m.cls := findClass_of_methodNamed B.named
  have hlocks := B.notSynchronized
  have hl := lv_entry ([.ref (ad 1)]) (n := 3) (Nat.le_of_ble_eq_true rfl)
  rw [lg_entry_eq]
  generalize (lg_sl ([.ref (ad 1)]) ++ List.replicate (3 - (lg_sl ([.ref (ad 1)])).length) Slot.unset).toArray = ls at hl ⊢
  have hl : lv_has ls 3 [(0, .ref (ad 1))] := hl
  refine lv_iconst (v := nI 0) hx hb d_S_livePageCount_0 (by decide) ?_
  refine lv_istore_n hx hb d_S_livePageCount_1 rfl hl (by decide) rfl (fun ls hl => ?_)
  have hl : lv_has ls 3 [(1, .int (nI 0)), (0, .ref (ad 1))] := hl
  refine lv_iconst (v := nI 0) hx hb d_S_livePageCount_2 (by decide) ?_
  refine lv_istore_n hx hb d_S_livePageCount_3 rfl hl (by decide) rfl (fun ls hl => ?_)
  have hl : lv_has ls 3 [(2, .int (nI 0)), (1, .int (nI 0)), (0, .ref (ad 1))] := hl
  have lp4 : ∀ (n : Nat) (k : Nat) (x : Int32) (ls : Array Slot), (32 - k) < n → (k ≤ 32) → lv_has ls 3 [(0, .ref (ad 1)), (1, .int x), (2, .int (nI k))] → W P l e (headSpec w_S_livePageCount ({ frames := 1, cells := 0, slots := 0, locals := 22 })).room s m (([.ref (ad 1)] : List Value).toArray) below meth c0 s.heap [] 0 0 (MQ below (vp_Si (fun r => True)) (([.ref (ad 1)] : List Value).toArray) s 0 0 (fun _ => False)) (F0 m 4 ls []) := by
    intro n
    induction n with
    | zero => intro k x ls hm; intros; omega
    | succ n ih4 =>
      intro k x ls hm hk hl
      refine lv_iload_n hx hb d_S_livePageCount_4 rfl (lv_at hl 2 rfl) ?_
      refine lv_bipush (v := nI 32) hx hb d_S_livePageCount_5 (by decide) ?_
      refine lv_icmp_ge (tgt := 27) hx hb d_S_livePageCount_7 (by decide) (fun c7 => ?_) (fun c7 => ?_)
      ·
        have c7 := cd_ge_t (by omega) (by omega) c7
        refine lv_iload_n hx hb d_S_livePageCount_27 rfl (lv_at hl 1 rfl) ?_
        exact W.iret (v := x) hx hb hr (fun t ht hW => ⟨x, rfl, by first | rfl | trivial | omega, ht⟩) (fun q hq => by cases hq) d_S_livePageCount_28
      ·
        have c7 := cd_ge_f (by omega) (by omega) c7
        refine lv_aload_n hx hb d_S_livePageCount_10 rfl (lv_at hl 0 rfl) ?_
        refine lv_iload_n hx hb d_S_livePageCount_11 rfl (lv_at hl 2 rfl) ?_
        refine vp_callSi (va_runV (C := R_S) (As := [.int (nI k)]) (rest := []) ⟨hx, hb, hml, hown, hts⟩ (c_S_isLive l dC dI ad cd w wr fl pw sc lw rot vb rec tk live row cur ser dur wo bts us act rd rs k (by first | omega | rfl | assumption | decide)) (cwV 1 hts (g_V t_238 t_240 s_5 t_2 t_241) rfl rfl rfl (by decide +kernel) ⟨by decide, by decide⟩) (xR_v hP hK hN 1 rfl rfl) rfl rfl hl.1 rfl (lv_room (Nat.le_of_ble_eq_true rfl)) d_S_livePageCount_12 ⟨Nat.le_refl _, Nat.le_refl _⟩).run (fun r12 q12 => ?_)
        have hk12 := q12
        refine lv_if_eq (tgt := 21) hx hb d_S_livePageCount_15 (by decide) (fun c15 => ?_) (fun c15 => ?_)
        ·
          refine lv_iinc (k := 2) (v := nI (k + 1)) hx hb d_S_livePageCount_21 hl rfl (nI_1 _) (by decide) rfl (fun ls hl => ?_)
          have hl : lv_has ls 3 [(2, .int (nI (k + 1))), (0, .ref (ad 1)), (1, .int x)] := hl
          refine lv_goto (tgt := 4) hx hb d_S_livePageCount_24 (by decide) ?_
          exact ih4 (k + 1) x ls (by omega) (by omega) (lv_sub hl [1, 2, 0] rfl)
        ·
          refine lv_iinc (k := 1) (v := x + 1) hx hb d_S_livePageCount_18 hl rfl (by rfl) (by decide) rfl (fun ls hl => ?_)
          have hl : lv_has ls 3 [(1, .int (x + 1)), (0, .ref (ad 1)), (2, .int (nI k))] := hl
          refine lv_iinc (k := 2) (v := nI (k + 1)) hx hb d_S_livePageCount_21 hl rfl (nI_1 _) (by decide) rfl (fun ls hl => ?_)
          have hl : lv_has ls 3 [(2, .int (nI (k + 1))), (1, .int (x + 1)), (0, .ref (ad 1))] := hl
          refine lv_goto (tgt := 4) hx hb d_S_livePageCount_24 (by decide) ?_
          exact ih4 (k + 1) (x + 1) ls (by omega) (by omega) (lv_sub hl [2, 1, 0] rfl)
  exact lp4 _ 0 (nI 0) ls (Nat.lt_succ_self _) (by omega) (lv_sub hl [2, 1, 0] rfl)
set_option maxHeartbeats 4000000 in
set_option maxRecDepth 100000 in
theorem c_S_hasLivePages (l : Launch) (dC : Nat → ClassId) (dI : Nat → Nat → Nat) (ad cd : Nat → Nat) (w wr fl : Nat → Int32) (pw sc : Int32) (lw rot vb : Nat → Int32) (rec tk : Int32) (live row : Nat → Int32) (cur ser dur wo : Int32) (bts : Nat → Int32) (us : Int32) (act : Nat → Int32) (rd rs : Int32) (b : Nat) (hp : b < 8) : Met l y_S_hasLivePages w_S_hasLivePages ({ frames := 1, cells := 0, slots := 0, locals := 22 }) (xR (dC, dI) vwCl (xt cd) (xw ad cd w wr fl pw sc lw rot vb rec tk live row cur ser dur wo bts us act rd rs) [.ref (ad 1), .int (nI b)]) (vp_Si (fun r => B01 r)) 0 0 (fun _ => False) := by
  refine Met.ofW (cc := b_S_hasLivePages) (maxL := 3) (ret := (some (.boolean))) (by decide) rfl ?_
  intro P e s m args below meth c0 s₁ B hml hv
  obtain ⟨rfl, hP, hK, hN⟩ := hv
  have hx := B.exec
  have hb := B.bytes
  have hr := B.returns
  have hts := atoms_spec (ws := w_S_hasLivePages) B.pre
  have hown : s.vm.findClass R_S = some m.cls := findClass_of_methodNamed B.named
  have hlocks := B.notSynchronized
  have hl := lv_entry ([.ref (ad 1), .int (nI b)]) (n := 3) (Nat.le_of_ble_eq_true rfl)
  rw [lg_entry_eq]
  generalize (lg_sl ([.ref (ad 1), .int (nI b)]) ++ List.replicate (3 - (lg_sl ([.ref (ad 1), .int (nI b)])).length) Slot.unset).toArray = ls at hl ⊢
  have hl : lv_has ls 3 [(0, .ref (ad 1)), (1, .int (nI b))] := hl
  refine lv_iload_n hx hb d_S_hasLivePages_0 rfl (lv_at hl 1 rfl) ?_
  refine lv_iconst (v := nI 4) hx hb d_S_hasLivePages_1 (by decide) ?_
  refine lv_imul hx hb d_S_hasLivePages_2 ?_
  refine tp_i (y := nI (b * 4)) (pk_mul _ _) ?_
  refine lv_istore_n hx hb d_S_hasLivePages_3 rfl hl (by decide) rfl (fun ls hl => ?_)
  have hl : lv_has ls 3 [(2, .int (nI (b * 4))), (0, .ref (ad 1)), (1, .int (nI b))] := hl
  have lp4 : ∀ (n : Nat) (k : Nat) (ls : Array Slot), (4 - k) < n → (k ≤ 4) → lv_has ls 3 [(0, .ref (ad 1)), (1, .int (nI b)), (2, .int (nI (b * 4 + k)))] → W P l e (headSpec w_S_hasLivePages ({ frames := 1, cells := 0, slots := 0, locals := 22 })).room s m (([.ref (ad 1), .int (nI b)] : List Value).toArray) below meth c0 s.heap [] 0 0 (MQ below (vp_Si (fun r => B01 r)) (([.ref (ad 1), .int (nI b)] : List Value).toArray) s 0 0 (fun _ => False)) (F0 m 4 ls []) := by
    intro n
    induction n with
    | zero => intro k ls hm; intros; omega
    | succ n ih4 =>
      intro k ls hm hk hl
      refine lv_iload_n hx hb d_S_hasLivePages_4 rfl (lv_at hl 2 rfl) ?_
      refine lv_iload_n hx hb d_S_hasLivePages_5 rfl (lv_at hl 1 rfl) ?_
      refine lv_iconst (v := nI 1) hx hb d_S_hasLivePages_6 (by decide) ?_
      refine lv_iadd hx hb d_S_hasLivePages_7 ?_
      refine tp_i (y := nI (b + 1)) (nI_add _ _) ?_
      refine lv_iconst (v := nI 4) hx hb d_S_hasLivePages_8 (by decide) ?_
      refine lv_imul hx hb d_S_hasLivePages_9 ?_
      refine tp_i (y := nI ((b + 1) * 4)) (pk_mul _ _) ?_
      refine lv_icmp_ge (tgt := 29) hx hb d_S_hasLivePages_10 (by decide) (fun c10 => ?_) (fun c10 => ?_)
      ·
        have c10 := cd_ge_t (by omega) (by omega) c10
        refine lv_iconst (v := nI 0) hx hb d_S_hasLivePages_29 (by decide) ?_
        exact W.zret (v := nI 0) hx hb hr (by first | rfl | decide | assumption) (fun t ht hW => ⟨nI 0, rfl, by first | exact Or.inl rfl | exact Or.inr rfl | assumption, ht⟩) (fun q hq => by cases hq) d_S_hasLivePages_30
      ·
        have c10 := cd_ge_f (by omega) (by omega) c10
        refine lv_aload_n hx hb d_S_hasLivePages_13 rfl (lv_at hl 0 rfl) ?_
        refine lv_iload_n hx hb d_S_hasLivePages_14 rfl (lv_at hl 2 rfl) ?_
        refine vp_callSi (va_runV (C := R_S) (As := [.int (nI (b * 4 + k))]) (rest := []) ⟨hx, hb, hml, hown, hts⟩ (c_S_isLive l dC dI ad cd w wr fl pw sc lw rot vb rec tk live row cur ser dur wo bts us act rd rs (b * 4 + k) (by first | omega | rfl | assumption | decide)) (cwV 1 hts (g_V t_238 t_240 s_5 t_2 t_241) rfl rfl rfl (by decide +kernel) ⟨by decide, by decide⟩) (xR_v hP hK hN 1 rfl rfl) rfl rfl hl.1 rfl (lv_room (Nat.le_of_ble_eq_true rfl)) d_S_hasLivePages_15 ⟨Nat.le_refl _, Nat.le_refl _⟩).run (fun r15 q15 => ?_)
        have hk15 := q15
        refine lv_if_eq (tgt := 23) hx hb d_S_hasLivePages_18 (by decide) (fun c18 => ?_) (fun c18 => ?_)
        ·
          refine lv_iinc (k := 2) (v := nI ((b * 4 + k) + 1)) hx hb d_S_hasLivePages_23 hl rfl (nI_1 _) (by decide) rfl (fun ls hl => ?_)
          have hl : lv_has ls 3 [(2, .int (nI ((b * 4 + k) + 1))), (0, .ref (ad 1)), (1, .int (nI b))] := hl
          refine lv_goto (tgt := 4) hx hb d_S_hasLivePages_26 (by decide) ?_
          exact ih4 (k + 1) ls (by omega) (by omega) (lv_sub hl [1, 2, 0] rfl)
        ·
          refine lv_iconst (v := nI 1) hx hb d_S_hasLivePages_21 (by decide) ?_
          exact W.zret (v := nI 1) hx hb hr (by first | rfl | decide | assumption) (fun t ht hW => ⟨nI 1, rfl, by first | exact Or.inl rfl | exact Or.inr rfl | assumption, ht⟩) (fun q hq => by cases hq) d_S_hasLivePages_22
  exact lp4 _ 0 ls (Nat.lt_succ_self _) (by omega) (lv_sub hl [1, 2, 0] rfl)
set_option maxHeartbeats 4000000 in
set_option maxRecDepth 100000 in
theorem c_S_stalePagesOf (l : Launch) (dC : Nat → ClassId) (dI : Nat → Nat → Nat) (ad cd : Nat → Nat) (w wr fl : Nat → Int32) (pw sc : Int32) (lw rot vb : Nat → Int32) (rec tk : Int32) (live row : Nat → Int32) (cur ser dur wo : Int32) (bts : Nat → Int32) (us : Int32) (act : Nat → Int32) (rd rs : Int32) (b : Nat) (hp : b < 8) : Met l y_S_stalePagesOf w_S_stalePagesOf ({ frames := 1, cells := 0, slots := 0, locals := 23 }) (xR (dC, dI) vwCl (xt cd) (xw ad cd w wr fl pw sc lw rot vb rec tk live row cur ser dur wo bts us act rd rs) [.ref (ad 1), .int (nI b)]) (vp_Si (fun r => True)) 0 0 (fun _ => False) := by
  refine Met.ofW (cc := b_S_stalePagesOf) (maxL := 4) (ret := (some (.int))) (by decide) rfl ?_
  intro P e s m args below meth c0 s₁ B hml hv
  obtain ⟨rfl, hP, hK, hN⟩ := hv
  have hx := B.exec
  have hb := B.bytes
  have hr := B.returns
  have hts := atoms_spec (ws := w_S_stalePagesOf) B.pre
  have hown : s.vm.findClass R_S = some m.cls := findClass_of_methodNamed B.named
  have hlocks := B.notSynchronized
  have hl := lv_entry ([.ref (ad 1), .int (nI b)]) (n := 4) (Nat.le_of_ble_eq_true rfl)
  rw [lg_entry_eq]
  generalize (lg_sl ([.ref (ad 1), .int (nI b)]) ++ List.replicate (4 - (lg_sl ([.ref (ad 1), .int (nI b)])).length) Slot.unset).toArray = ls at hl ⊢
  have hl : lv_has ls 4 [(0, .ref (ad 1)), (1, .int (nI b))] := hl
  refine lv_iconst (v := nI 0) hx hb d_S_stalePagesOf_0 (by decide) ?_
  refine lv_istore_n hx hb d_S_stalePagesOf_1 rfl hl (by decide) rfl (fun ls hl => ?_)
  have hl : lv_has ls 4 [(2, .int (nI 0)), (0, .ref (ad 1)), (1, .int (nI b))] := hl
  refine lv_iload_n hx hb d_S_stalePagesOf_2 rfl (lv_at hl 2 rfl) ?_
  refine lv_iconst (v := nI 4) hx hb d_S_stalePagesOf_3 (by decide) ?_
  refine lv_imul hx hb d_S_stalePagesOf_4 ?_
  refine tp_i (y := nI (b * 4)) (pk_mul _ _) ?_
  refine lv_istore_n hx hb d_S_stalePagesOf_5 rfl hl (by decide) rfl (fun ls hl => ?_)
  have hl : lv_has ls 4 [(3, .int (nI (b * 4))), (2, .int (nI 0)), (0, .ref (ad 1)), (1, .int (nI b))] := hl
  have lp6 : ∀ (n : Nat) (k : Nat) (x : Int32) (ls : Array Slot), (4 - k) < n → (k ≤ 4) → lv_has ls 4 [(0, .ref (ad 1)), (1, .int (nI b)), (2, .int x), (3, .int (nI (b * 4 + k)))] → W P l e (headSpec w_S_stalePagesOf ({ frames := 1, cells := 0, slots := 0, locals := 23 })).room s m (([.ref (ad 1), .int (nI b)] : List Value).toArray) below meth c0 s.heap [] 0 0 (MQ below (vp_Si (fun r => True)) (([.ref (ad 1), .int (nI b)] : List Value).toArray) s 0 0 (fun _ => False)) (F0 m 6 ls []) := by
    intro n
    induction n with
    | zero => intro k x ls hm; intros; omega
    | succ n ih6 =>
      intro k x ls hm hk hl
      refine lv_iload_n hx hb d_S_stalePagesOf_6 rfl (lv_at hl 3 rfl) ?_
      refine lv_iload_n hx hb d_S_stalePagesOf_7 rfl (lv_at hl 1 rfl) ?_
      refine lv_iconst (v := nI 1) hx hb d_S_stalePagesOf_8 (by decide) ?_
      refine lv_iadd hx hb d_S_stalePagesOf_9 ?_
      refine tp_i (y := nI (b + 1)) (nI_add _ _) ?_
      refine lv_iconst (v := nI 4) hx hb d_S_stalePagesOf_10 (by decide) ?_
      refine lv_imul hx hb d_S_stalePagesOf_11 ?_
      refine tp_i (y := nI ((b + 1) * 4)) (pk_mul _ _) ?_
      refine lv_icmp_ge (tgt := 43) hx hb d_S_stalePagesOf_12 (by decide) (fun c12 => ?_) (fun c12 => ?_)
      ·
        have c12 := cd_ge_t (by omega) (by omega) c12
        refine lv_iload_n hx hb d_S_stalePagesOf_43 rfl (lv_at hl 2 rfl) ?_
        exact W.iret (v := x) hx hb hr (fun t ht hW => ⟨x, rfl, by first | rfl | trivial | omega, ht⟩) (fun q hq => by cases hq) d_S_stalePagesOf_44
      ·
        have c12 := cd_ge_f (by omega) (by omega) c12
        refine lv_aload_n hx hb d_S_stalePagesOf_15 rfl (lv_at hl 0 rfl) ?_
        refine va_get (D := (dC, dI)) (ci := 3) (v := .ref (ad 2)) (C := R_S) (T := F_S) (N := 7) hx hb hts (fun w h => List.mem_cons_of_mem _ (in_S w h)) hown hK hP 1 rfl rfl 0 (by decide) (hts (.fieldLink R_S 12 R_S "chip" "LWeighRecorder$Chip;") (List.mem_cons_of_mem _ t_52)) (fun _ h9 => h9) rfl d_S_stalePagesOf_16 ?_
        refine lv_iload_n hx hb d_S_stalePagesOf_19 rfl (lv_at hl 3 rfl) ?_
        refine vp_callSi (va_runV (C := R_C) (As := [.int (nI (b * 4 + k))]) (rest := []) ⟨hx, hb, hml, hown, hts⟩ (c_C_isFree l dC dI ad cd w wr fl pw sc lw rot vb rec tk live row cur ser dur wo bts us act rd rs (b * 4 + k) (by first | omega | rfl | assumption | decide)) (cwV 1 hts (g_V t_419 t_259 t_260 t_3 t_261) rfl rfl rfl (by decide +kernel) ⟨by decide, by decide⟩) (xR_v hP hK hN 2 rfl rfl) rfl rfl hl.1 rfl (lv_room (Nat.le_of_ble_eq_true rfl)) d_S_stalePagesOf_20 ⟨Nat.le_refl _, Nat.le_refl _⟩).run (fun r20 q20 => ?_)
        rcases q20 with ⟨rfl, hb20⟩ | ⟨rfl, hb20⟩
        ·
          refine lv_if_ne (tgt := 37) hx hb d_S_stalePagesOf_23 (by decide) (fun c23 => ?_) (fun c23 => ?_)
          ·
            refine lv_iinc (k := 3) (v := nI ((b * 4 + k) + 1)) hx hb d_S_stalePagesOf_37 hl rfl (nI_1 _) (by decide) rfl (fun ls hl => ?_)
            have hl : lv_has ls 4 [(3, .int (nI ((b * 4 + k) + 1))), (0, .ref (ad 1)), (1, .int (nI b)), (2, .int x)] := hl
            refine lv_goto (tgt := 6) hx hb d_S_stalePagesOf_40 (by decide) ?_
            exact ih6 (k + 1) x ls (by omega) (by omega) (lv_sub hl [1, 2, 3, 0] rfl)
          ·
            exact absurd c23 (by decide)
        ·
          refine lv_if_ne (tgt := 37) hx hb d_S_stalePagesOf_23 (by decide) (fun c23 => ?_) (fun c23 => ?_)
          ·
            exact absurd c23 (by decide)
          ·
            refine lv_aload_n hx hb d_S_stalePagesOf_26 rfl (lv_at hl 0 rfl) ?_
            refine lv_iload_n hx hb d_S_stalePagesOf_27 rfl (lv_at hl 3 rfl) ?_
            refine vp_callSi (va_runV (C := R_S) (As := [.int (nI (b * 4 + k))]) (rest := []) ⟨hx, hb, hml, hown, hts⟩ (c_S_isLive l dC dI ad cd w wr fl pw sc lw rot vb rec tk live row cur ser dur wo bts us act rd rs (b * 4 + k) (by first | omega | rfl | assumption | decide)) (cwV 1 hts (g_V t_238 t_240 s_5 t_2 t_241) rfl rfl rfl (by decide +kernel) ⟨by decide, by decide⟩) (xR_v hP hK hN 1 rfl rfl) rfl rfl hl.1 rfl (lv_room (Nat.le_of_ble_eq_true rfl)) d_S_stalePagesOf_28 ⟨Nat.le_refl _, Nat.le_refl _⟩).run (fun r28 q28 => ?_)
            have hk28 := q28
            refine lv_if_ne (tgt := 37) hx hb d_S_stalePagesOf_31 (by decide) (fun c31 => ?_) (fun c31 => ?_)
            ·
              refine lv_iinc (k := 3) (v := nI ((b * 4 + k) + 1)) hx hb d_S_stalePagesOf_37 hl rfl (nI_1 _) (by decide) rfl (fun ls hl => ?_)
              have hl : lv_has ls 4 [(3, .int (nI ((b * 4 + k) + 1))), (0, .ref (ad 1)), (1, .int (nI b)), (2, .int x)] := hl
              refine lv_goto (tgt := 6) hx hb d_S_stalePagesOf_40 (by decide) ?_
              exact ih6 (k + 1) x ls (by omega) (by omega) (lv_sub hl [1, 2, 3, 0] rfl)
            ·
              refine lv_iinc (k := 2) (v := x + 1) hx hb d_S_stalePagesOf_34 hl rfl (by rfl) (by decide) rfl (fun ls hl => ?_)
              have hl : lv_has ls 4 [(2, .int (x + 1)), (0, .ref (ad 1)), (1, .int (nI b)), (3, .int (nI (b * 4 + k)))] := hl
              refine lv_iinc (k := 3) (v := nI ((b * 4 + k) + 1)) hx hb d_S_stalePagesOf_37 hl rfl (nI_1 _) (by decide) rfl (fun ls hl => ?_)
              have hl : lv_has ls 4 [(3, .int (nI ((b * 4 + k) + 1))), (2, .int (x + 1)), (0, .ref (ad 1)), (1, .int (nI b))] := hl
              refine lv_goto (tgt := 6) hx hb d_S_stalePagesOf_40 (by decide) ?_
              exact ih6 (k + 1) (x + 1) ls (by omega) (by omega) (lv_sub hl [2, 3, 1, 0] rfl)
  exact lp6 _ 0 (nI 0) ls (Nat.lt_succ_self _) (by omega) (lv_sub hl [2, 3, 1, 0] rfl)
set_option maxHeartbeats 4000000 in
set_option maxRecDepth 100000 in
theorem c_S_chooseVictim (l : Launch) (dC : Nat → ClassId) (dI : Nat → Nat → Nat) (ad cd : Nat → Nat) (w wr fl : Nat → Int32) (pw sc : Int32) (lw rot vb : Nat → Int32) (rec tk : Int32) (live row : Nat → Int32) (cur ser dur wo : Int32) (bts : Nat → Int32) (us : Int32) (act : Nat → Int32) (rd rs : Int32)  (hfl : ∀ i, i < 8 → B01 (fl i)) : Met l y_S_chooseVictim w_S_chooseVictim ({ frames := 2, cells := 0, slots := 0, locals := 46 }) (xR (dC, dI) vwCl (xt cd) (xw ad cd w wr fl pw sc lw rot vb rec tk live row cur ser dur wo bts us act rd rs) [.ref (ad 1)]) (vp_Si (fun r => PG 8 r)) 0 0 (fun _ => False) := by
  refine Met.ofW (cc := b_S_chooseVictim) (maxL := 5) (ret := (some (.int))) (by decide) rfl ?_
  intro P e s m args below meth c0 s₁ B hml hv
  obtain ⟨rfl, hP, hK, hN⟩ := hv
  have hx := B.exec
  have hb := B.bytes
  have hr := B.returns
  have hts := atoms_spec (ws := w_S_chooseVictim) B.pre
  have hown : s.vm.findClass R_S = some m.cls := findClass_of_methodNamed B.named
  have hlocks := B.notSynchronized
  have hl := lv_entry ([.ref (ad 1)]) (n := 5) (Nat.le_of_ble_eq_true rfl)
  rw [lg_entry_eq]
  generalize (lg_sl ([.ref (ad 1)]) ++ List.replicate (5 - (lg_sl ([.ref (ad 1)])).length) Slot.unset).toArray = ls at hl ⊢
  have hl : lv_has ls 5 [(0, .ref (ad 1))] := hl
  refine lv_iconst (v := (-1)) hx hb d_S_chooseVictim_0 (by decide) ?_
  refine lv_istore_n hx hb d_S_chooseVictim_1 rfl hl (by decide) rfl (fun ls hl => ?_)
  have hl : lv_has ls 5 [(1, .int (-1)), (0, .ref (ad 1))] := hl
  refine lv_iconst (v := nI 0) hx hb d_S_chooseVictim_2 (by decide) ?_
  refine lv_istore_n hx hb d_S_chooseVictim_3 rfl hl (by decide) rfl (fun ls hl => ?_)
  have hl : lv_has ls 5 [(2, .int (nI 0)), (1, .int (-1)), (0, .ref (ad 1))] := hl
  refine lv_iconst (v := nI 0) hx hb d_S_chooseVictim_4 (by decide) ?_
  refine lv_istore_n hx hb d_S_chooseVictim_5 rfl hl (by decide) rfl (fun ls hl => ?_)
  have hl : lv_has ls 5 [(3, .int (nI 0)), (2, .int (nI 0)), (1, .int (-1)), (0, .ref (ad 1))] := hl
  have lp6 : ∀ (n : Nat) (k : Nat) (bv : Int32) (y : Int32) (ls : Array Slot), (8 - k) < n → (k ≤ 8) → (PG 8 bv) → lv_has ls 5 [(0, .ref (ad 1)), (1, .int bv), (2, .int y), (3, .int (nI k))] → W P l e (headSpec w_S_chooseVictim ({ frames := 2, cells := 0, slots := 0, locals := 46 })).room s m (([.ref (ad 1)] : List Value).toArray) below meth c0 s.heap [] 0 0 (MQ below (vp_Si (fun r => PG 8 r)) (([.ref (ad 1)] : List Value).toArray) s 0 0 (fun _ => False)) (F0 m 6 ls []) := by
    intro n
    induction n with
    | zero => intro k bv y ls hm; intros; omega
    | succ n ih6 =>
      intro k bv y ls hm hk hbv hl
      refine lv_iload_n hx hb d_S_chooseVictim_6 rfl (lv_at hl 3 rfl) ?_
      refine lv_bipush (v := nI 8) hx hb d_S_chooseVictim_7 (by decide) ?_
      refine lv_icmp_ge (tgt := 51) hx hb d_S_chooseVictim_9 (by decide) (fun c9 => ?_) (fun c9 => ?_)
      ·
        have c9 := cd_ge_t (by omega) (by omega) c9
        refine lv_iload_n hx hb d_S_chooseVictim_51 rfl (lv_at hl 1 rfl) ?_
        exact W.iret (v := bv) hx hb hr (fun t ht hW => ⟨bv, rfl, hbv, ht⟩) (fun q hq => by cases hq) d_S_chooseVictim_52
      ·
        have c9 := cd_ge_f (by omega) (by omega) c9
        refine lv_aload_n hx hb d_S_chooseVictim_12 rfl (lv_at hl 0 rfl) ?_
        refine va_get (D := (dC, dI)) (ci := 3) (v := .ref (ad 2)) (C := R_S) (T := F_S) (N := 7) hx hb hts (fun w h => List.mem_cons_of_mem _ (in_S w h)) hown hK hP 1 rfl rfl 0 (by decide) (hts (.fieldLink R_S 12 R_S "chip" "LWeighRecorder$Chip;") (List.mem_cons_of_mem _ t_52)) (fun _ h9 => h9) rfl d_S_chooseVictim_13 ?_
        refine lv_iload_n hx hb d_S_chooseVictim_16 rfl (lv_at hl 3 rfl) ?_
        refine vp_callSi (va_runV (C := R_C) (As := [.int (nI k)]) (rest := []) ⟨hx, hb, hml, hown, hts⟩ (c_C_hasFailed l dC dI ad cd w wr fl pw sc lw rot vb rec tk live row cur ser dur wo bts us act rd rs k (by first | omega | rfl | assumption | decide) (by first | omega | rfl | assumption | decide)) (cwV 1 hts (g_V t_395 t_396 t_397 t_3 t_398) rfl rfl rfl (by decide +kernel) ⟨by decide, by decide⟩) (xR_v hP hK hN 2 rfl rfl) rfl rfl hl.1 rfl (lv_room (Nat.le_of_ble_eq_true rfl)) d_S_chooseVictim_17 ⟨Nat.le_refl _, Nat.le_refl _⟩).run (fun r17 q17 => ?_)
        have hk17 := q17
        refine lv_if_eq (tgt := 27) hx hb d_S_chooseVictim_20 (by decide) (fun c20 => ?_) (fun c20 => ?_)
        ·
          refine lv_aload_n hx hb d_S_chooseVictim_27 rfl (lv_at hl 0 rfl) ?_
          refine lv_iload_n hx hb d_S_chooseVictim_28 rfl (lv_at hl 3 rfl) ?_
          refine vp_callSi (va_runV (C := R_S) (As := [.int (nI k)]) (rest := []) ⟨hx, hb, hml, hown, hts⟩ (c_S_stalePagesOf l dC dI ad cd w wr fl pw sc lw rot vb rec tk live row cur ser dur wo bts us act rd rs k (by first | omega | rfl | assumption | decide)) (cwV 1 hts (g_V t_415 t_417 s_10 t_2 t_418) rfl rfl rfl (by decide +kernel) ⟨by decide, by decide⟩) (xR_v hP hK hN 1 rfl rfl) rfl rfl hl.1 rfl (lv_room (Nat.le_of_ble_eq_true rfl)) d_S_chooseVictim_29 ⟨Nat.le_refl _, Nat.le_refl _⟩).run (fun r29 q29 => ?_)
          have hk29 := q29
          refine lv_istore hx hb d_S_chooseVictim_32 hl (by decide) rfl (fun ls hl => ?_)
          have hl : lv_has ls 5 [(4, .int r29), (0, .ref (ad 1)), (1, .int bv), (2, .int y), (3, .int (nI k))] := hl
          refine lv_iload hx hb d_S_chooseVictim_34 (lv_at hl 0 rfl) ?_
          refine lv_iload_n hx hb d_S_chooseVictim_36 rfl (lv_at hl 3 rfl) ?_
          refine lv_icmp_le (tgt := 45) hx hb d_S_chooseVictim_37 (by decide) (fun c37 => ?_) (fun c37 => ?_)
          ·
            refine lv_iinc (k := 4) (v := nI (k + 1)) hx hb d_S_chooseVictim_45 hl rfl (nI_1 _) (by decide) rfl (fun ls hl => ?_)
            have hl : lv_has ls 5 [(3, .int (nI (k + 1))), (4, .int r29), (0, .ref (ad 1)), (1, .int bv), (2, .int y)] := hl
            refine lv_goto (tgt := 6) hx hb d_S_chooseVictim_48 (by decide) ?_
            exact ih6 (k + 1) bv y ls (by omega) (by omega) (by first | exact hbv | exact PG.of (by omega)) (lv_sub hl [2, 3, 4, 0] rfl)
          ·
            refine lv_iload_n hx hb d_S_chooseVictim_40 rfl (lv_at hl 4 rfl) ?_
            refine lv_istore_n hx hb d_S_chooseVictim_41 rfl hl (by decide) rfl (fun ls hl => ?_)
            have hl : lv_has ls 5 [(1, .int (nI k)), (4, .int r29), (0, .ref (ad 1)), (2, .int y), (3, .int (nI k))] := hl
            refine lv_iload hx hb d_S_chooseVictim_42 (lv_at hl 1 rfl) ?_
            refine lv_istore_n hx hb d_S_chooseVictim_44 rfl hl (by decide) rfl (fun ls hl => ?_)
            have hl : lv_has ls 5 [(2, .int r29), (1, .int (nI k)), (4, .int r29), (0, .ref (ad 1)), (3, .int (nI k))] := hl
            refine lv_iinc (k := 4) (v := nI (k + 1)) hx hb d_S_chooseVictim_45 hl rfl (nI_1 _) (by decide) rfl (fun ls hl => ?_)
            have hl : lv_has ls 5 [(3, .int (nI (k + 1))), (2, .int r29), (1, .int (nI k)), (4, .int r29), (0, .ref (ad 1))] := hl
            refine lv_goto (tgt := 6) hx hb d_S_chooseVictim_48 (by decide) ?_
            exact ih6 (k + 1) (nI k) r29 ls (by omega) (by omega) (by first | exact hbv | exact PG.of (by omega)) (lv_sub hl [4, 2, 1, 0] rfl)
        ·
          refine lv_iconst (v := nI 0) hx hb d_S_chooseVictim_23 (by decide) ?_
          refine lv_goto (tgt := 32) hx hb d_S_chooseVictim_24 (by decide) ?_
          refine lv_istore hx hb d_S_chooseVictim_32 hl (by decide) rfl (fun ls hl => ?_)
          have hl : lv_has ls 5 [(4, .int (nI 0)), (0, .ref (ad 1)), (1, .int bv), (2, .int y), (3, .int (nI k))] := hl
          refine lv_iload hx hb d_S_chooseVictim_34 (lv_at hl 0 rfl) ?_
          refine lv_iload_n hx hb d_S_chooseVictim_36 rfl (lv_at hl 3 rfl) ?_
          refine lv_icmp_le (tgt := 45) hx hb d_S_chooseVictim_37 (by decide) (fun c37 => ?_) (fun c37 => ?_)
          ·
            refine lv_iinc (k := 4) (v := nI (k + 1)) hx hb d_S_chooseVictim_45 hl rfl (nI_1 _) (by decide) rfl (fun ls hl => ?_)
            have hl : lv_has ls 5 [(3, .int (nI (k + 1))), (4, .int (nI 0)), (0, .ref (ad 1)), (1, .int bv), (2, .int y)] := hl
            refine lv_goto (tgt := 6) hx hb d_S_chooseVictim_48 (by decide) ?_
            exact ih6 (k + 1) bv y ls (by omega) (by omega) (by first | exact hbv | exact PG.of (by omega)) (lv_sub hl [2, 3, 4, 0] rfl)
          ·
            refine lv_iload_n hx hb d_S_chooseVictim_40 rfl (lv_at hl 4 rfl) ?_
            refine lv_istore_n hx hb d_S_chooseVictim_41 rfl hl (by decide) rfl (fun ls hl => ?_)
            have hl : lv_has ls 5 [(1, .int (nI k)), (4, .int (nI 0)), (0, .ref (ad 1)), (2, .int y), (3, .int (nI k))] := hl
            refine lv_iload hx hb d_S_chooseVictim_42 (lv_at hl 1 rfl) ?_
            refine lv_istore_n hx hb d_S_chooseVictim_44 rfl hl (by decide) rfl (fun ls hl => ?_)
            have hl : lv_has ls 5 [(2, .int (nI 0)), (1, .int (nI k)), (4, .int (nI 0)), (0, .ref (ad 1)), (3, .int (nI k))] := hl
            refine lv_iinc (k := 4) (v := nI (k + 1)) hx hb d_S_chooseVictim_45 hl rfl (nI_1 _) (by decide) rfl (fun ls hl => ?_)
            have hl : lv_has ls 5 [(3, .int (nI (k + 1))), (2, .int (nI 0)), (1, .int (nI k)), (4, .int (nI 0)), (0, .ref (ad 1))] := hl
            refine lv_goto (tgt := 6) hx hb d_S_chooseVictim_48 (by decide) ?_
            exact ih6 (k + 1) (nI k) (nI 0) ls (by omega) (by omega) (by first | exact hbv | exact PG.of (by omega)) (lv_sub hl [4, 2, 1, 0] rfl)
  exact lp6 _ 0 (-1) (nI 0) ls (Nat.lt_succ_self _) (by omega) PG.m1 (lv_sub hl [3, 2, 1, 0] rfl)
set_option maxHeartbeats 4000000 in
set_option maxRecDepth 100000 in
theorem c_S_freePageOfCursor (l : Launch) (dC : Nat → ClassId) (dI : Nat → Nat → Nat) (ad cd : Nat → Nat) (w wr fl : Nat → Int32) (pw sc : Int32) (lw rot vb : Nat → Int32) (rec tk : Int32) (live row : Nat → Int32) (cur ser dur wo : Int32) (bts : Nat → Int32) (us : Int32) (act : Nat → Int32) (rd rs : Int32)  (hcu : PG 8 cur) (hfl : ∀ i, i < 8 → B01 (fl i)) : Met l y_S_freePageOfCursor w_S_freePageOfCursor ({ frames := 2, cells := 0, slots := 0, locals := 45 }) (xR (dC, dI) vwCl (xt cd) (xw ad cd w wr fl pw sc lw rot vb rec tk live row cur ser dur wo bts us act rd rs) [.ref (ad 1)]) (vp_Si (fun r => PG 32 r)) 0 0 (fun _ => False) := by
  refine Met.ofW (cc := b_S_freePageOfCursor) (maxL := 1) (ret := (some (.int))) (by decide) rfl ?_
  intro P e s m args below meth c0 s₁ B hml hv
  obtain ⟨rfl, hP, hK, hN⟩ := hv
  have hx := B.exec
  have hb := B.bytes
  have hr := B.returns
  have hts := atoms_spec (ws := w_S_freePageOfCursor) B.pre
  have hown : s.vm.findClass R_S = some m.cls := findClass_of_methodNamed B.named
  have hlocks := B.notSynchronized
  have hl := lv_entry ([.ref (ad 1)]) (n := 1) (Nat.le_of_ble_eq_true rfl)
  rw [lg_entry_eq]
  generalize (lg_sl ([.ref (ad 1)]) ++ List.replicate (1 - (lg_sl ([.ref (ad 1)])).length) Slot.unset).toArray = ls at hl ⊢
  have hl : lv_has ls 1 [(0, .ref (ad 1))] := hl
  rcases hcu with rfl | ⟨c, hhc, rfl⟩
  ·
    refine lv_aload_n hx hb d_S_freePageOfCursor_0 rfl (lv_at hl 0 rfl) ?_
    refine va_get (D := (dC, dI)) (ci := 3) (v := .int (-1)) (C := R_S) (T := F_S) (N := 7) hx hb hts (fun w h => List.mem_cons_of_mem _ (in_S w h)) hown hK hP 1 rfl rfl 3 (by decide) (hts (.fieldLink R_S 25 R_S "cursor" "I") (List.mem_cons_of_mem _ t_55)) (fun _ h9 => h9) rfl d_S_freePageOfCursor_1 ?_
    refine lv_iconst (v := (-1)) hx hb d_S_freePageOfCursor_4 (by decide) ?_
    refine lv_icmp_eq (tgt := 22) hx hb d_S_freePageOfCursor_5 (by decide) (fun c5 => ?_) (fun c5 => ?_)
    ·
      refine lv_iconst (v := (-1)) hx hb d_S_freePageOfCursor_22 (by decide) ?_
      refine lv_goto (tgt := 37) hx hb d_S_freePageOfCursor_23 (by decide) ?_
      exact W.iret (v := (-1)) hx hb hr (fun t ht hW => ⟨(-1), rfl, by first | exact PG.m1 | assumption, ht⟩) (fun q hq => by cases hq) d_S_freePageOfCursor_37
    ·
      exact absurd c5 (by decide)
  ·
    refine lv_aload_n hx hb d_S_freePageOfCursor_0 rfl (lv_at hl 0 rfl) ?_
    refine va_get (D := (dC, dI)) (ci := 3) (v := .int (nI c)) (C := R_S) (T := F_S) (N := 7) hx hb hts (fun w h => List.mem_cons_of_mem _ (in_S w h)) hown hK hP 1 rfl rfl 3 (by decide) (hts (.fieldLink R_S 25 R_S "cursor" "I") (List.mem_cons_of_mem _ t_55)) (fun _ h9 => h9) rfl d_S_freePageOfCursor_1 ?_
    refine lv_iconst (v := (-1)) hx hb d_S_freePageOfCursor_4 (by decide) ?_
    refine lv_icmp_eq (tgt := 22) hx hb d_S_freePageOfCursor_5 (by decide) (fun c5 => ?_) (fun c5 => ?_)
    ·
      exact absurd c5 (nm_ne (by omega) (by decide))
    ·
      refine lv_aload_n hx hb d_S_freePageOfCursor_8 rfl (lv_at hl 0 rfl) ?_
      refine va_get (D := (dC, dI)) (ci := 3) (v := .ref (ad 2)) (C := R_S) (T := F_S) (N := 7) hx hb hts (fun w h => List.mem_cons_of_mem _ (in_S w h)) hown hK hP 1 rfl rfl 0 (by decide) (hts (.fieldLink R_S 12 R_S "chip" "LWeighRecorder$Chip;") (List.mem_cons_of_mem _ t_52)) (fun _ h9 => h9) rfl d_S_freePageOfCursor_9 ?_
      refine lv_aload_n hx hb d_S_freePageOfCursor_12 rfl (lv_at hl 0 rfl) ?_
      refine va_get (D := (dC, dI)) (ci := 3) (v := .int (nI c)) (C := R_S) (T := F_S) (N := 7) hx hb hts (fun w h => List.mem_cons_of_mem _ (in_S w h)) hown hK hP 1 rfl rfl 3 (by decide) (hts (.fieldLink R_S 25 R_S "cursor" "I") (List.mem_cons_of_mem _ t_55)) (fun _ h9 => h9) rfl d_S_freePageOfCursor_13 ?_
      refine vp_callSi (va_runV (C := R_C) (As := [.int (nI c)]) (rest := []) ⟨hx, hb, hml, hown, hts⟩ (c_C_hasFailed l dC dI ad cd w wr fl pw sc lw rot vb rec tk live row (nI c) ser dur wo bts us act rd rs c (by first | omega | rfl | assumption | decide) (by first | omega | rfl | assumption | decide)) (cwV 1 hts (g_V t_395 t_396 t_397 t_3 t_398) rfl rfl rfl (by decide +kernel) ⟨by decide, by decide⟩) (xR_v hP hK hN 2 rfl rfl) rfl rfl hl.1 rfl (lv_room (Nat.le_of_ble_eq_true rfl)) d_S_freePageOfCursor_16 ⟨Nat.le_refl _, Nat.le_refl _⟩).run (fun r16 q16 => ?_)
      have hk16 := q16
      refine lv_if_eq (tgt := 26) hx hb d_S_freePageOfCursor_19 (by decide) (fun c19 => ?_) (fun c19 => ?_)
      ·
        refine lv_aload_n hx hb d_S_freePageOfCursor_26 rfl (lv_at hl 0 rfl) ?_
        refine va_get (D := (dC, dI)) (ci := 3) (v := .ref (ad 2)) (C := R_S) (T := F_S) (N := 7) hx hb hts (fun w h => List.mem_cons_of_mem _ (in_S w h)) hown hK hP 1 rfl rfl 0 (by decide) (hts (.fieldLink R_S 12 R_S "chip" "LWeighRecorder$Chip;") (List.mem_cons_of_mem _ t_52)) (fun _ h9 => h9) rfl d_S_freePageOfCursor_27 ?_
        refine lv_aload_n hx hb d_S_freePageOfCursor_30 rfl (lv_at hl 0 rfl) ?_
        refine va_get (D := (dC, dI)) (ci := 3) (v := .int (nI c)) (C := R_S) (T := F_S) (N := 7) hx hb hts (fun w h => List.mem_cons_of_mem _ (in_S w h)) hown hK hP 1 rfl rfl 3 (by decide) (hts (.fieldLink R_S 25 R_S "cursor" "I") (List.mem_cons_of_mem _ t_55)) (fun _ h9 => h9) rfl d_S_freePageOfCursor_31 ?_
        refine vp_callSi (va_runV (C := R_C) (As := [.int (nI c)]) (rest := []) ⟨hx, hb, hml, hown, hts⟩ (c_C_firstFreePage l dC dI ad cd w wr fl pw sc lw rot vb rec tk live row (nI c) ser dur wo bts us act rd rs c (by first | omega | rfl | assumption | decide)) (cwV 1 hts (g_V t_399 t_400 t_401 t_3 t_402) rfl rfl rfl (by decide +kernel) ⟨by decide, by decide⟩) (xR_v hP hK hN 2 rfl rfl) rfl rfl hl.1 rfl (lv_room (Nat.le_of_ble_eq_true rfl)) d_S_freePageOfCursor_34 ⟨Nat.le_refl _, Nat.le_refl _⟩).run (fun r34 q34 => ?_)
        have hk34 := q34
        exact W.iret (v := r34) hx hb hr (fun t ht hW => ⟨r34, rfl, by first | exact PG.m1 | assumption, ht⟩) (fun q hq => by cases hq) d_S_freePageOfCursor_37
      ·
        refine lv_iconst (v := (-1)) hx hb d_S_freePageOfCursor_22 (by decide) ?_
        refine lv_goto (tgt := 37) hx hb d_S_freePageOfCursor_23 (by decide) ?_
        exact W.iret (v := (-1)) hx hb hr (fun t ht hW => ⟨(-1), rfl, by first | exact PG.m1 | assumption, ht⟩) (fun q hq => by cases hq) d_S_freePageOfCursor_37
set_option maxHeartbeats 4000000 in
set_option maxRecDepth 100000 in
theorem c_S_sealRow (l : Launch) (dC : Nat → ClassId) (dI : Nat → Nat → Nat) (ad cd : Nat → Nat) (sz : Nat) (w wr fl : Nat → Int32) (pw sc : Int32) (lw rot vb : Nat → Int32) (rec tk : Int32) (live row : Nat → Int32) (cur ser dur wo : Int32) (bts : Nat → Int32) (us : Int32) (act : Nat → Int32) (rd rs : Int32)  : Met l y_S_sealRow w_S_sealRow ({ frames := 1, cells := 0, slots := 0, locals := 24 }) (xP (dC, dI) vwCl (xt cd) (xw ad cd w wr fl pw sc lw rot vb rec tk live row cur ser dur wo bts us act rd rs) sz [.ref (ad 1)]) (va_Qv (fun (u : (Nat → Nat → Int32) × (Nat → Int32) × (Nat → Nat)) => True) (fun (u : (Nat → Nat → Int32) × (Nat → Int32) × (Nat → Nat)) (t : State) => xB (dC, dI) vwCl (xt cd) (xA 15 ad sz) (xw ad cd w wr fl pw sc lw rot vb rec tk live (u.1 0) cur (u.2.1 0) dur wo bts us act rd rs) t) (xA 15 ad sz)) 0 0 (xA 15 ad sz) := by
  refine Met.ofW (cc := b_S_sealRow) (maxL := 1) (ret := none) (by decide) rfl ?_
  intro P e s m args below meth c0 s₁ B hml hv
  obtain ⟨rfl, hsz, hP, hK, hD0, hN⟩ := hv
  have hx := B.exec
  have hb := B.bytes
  have hr := B.returns
  have hts := atoms_spec (ws := w_S_sealRow) B.pre
  have hown : s.vm.findClass R_S = some m.cls := findClass_of_methodNamed B.named
  have hlocks := B.notSynchronized
  subst hsz
  have hD := xw_D (sz := s.heap.size) hD0
  have hS : va_S (xA 15 ad s.heap.size) s.heap s.heap [] := va_S.rf
  have hA : ∀ q : Nat, s.heap.size ≤ q → (xA 15 ad s.heap.size) q := fun q h => Or.inr h
  have hl := lv_entry ([.ref (ad 1)]) (n := 1) (Nat.le_of_ble_eq_true rfl)
  rw [lg_entry_eq]
  generalize (lg_sl ([.ref (ad 1)]) ++ List.replicate (1 - (lg_sl ([.ref (ad 1)])).length) Slot.unset).toArray = ls at hl ⊢
  have hl : lv_has ls 1 [(0, .ref (ad 1))] := hl
  refine lv_aload_n hx hb d_S_sealRow_0 rfl (lv_at hl 0 rfl) ?_
  refine lv_dup hx hb d_S_sealRow_1 rfl ?_
  refine va_get (D := (dC, dI)) (ci := 3) (v := .int ser) (C := R_S) (T := F_S) (N := 7) hx hb hts (fun w h => List.mem_cons_of_mem _ (in_S w h)) hown hK hP 1 rfl rfl 4 (by decide) (hts (.fieldLink R_S 29 R_S "serial" "I") (List.mem_cons_of_mem _ t_56)) (fun _ h9 => h9) rfl d_S_sealRow_2 ?_
  refine lv_iconst (v := nI 1) hx hb d_S_sealRow_5 (by decide) ?_
  refine lv_iadd hx hb d_S_sealRow_6 ?_
  refine va_put (D := (dC, dI)) (ci := 3) (v := .int (ser + (nI 1))) (ty := .int) (C := R_S) (T := F_S) (N := 7) hx hb hts (fun w h => List.mem_cons_of_mem _ (in_S w h)) t_S ok_S nm_S hown hK hP hD hS 1 rfl rfl 4 (by decide) (hts (.fieldLink R_S 29 R_S "serial" "I") (List.mem_cons_of_mem _ t_56)) (fun _ h9 => h9) rfl (by decide +kernel) rfl rfl (Nat.le_of_ble_eq_true rfl) d_S_sealRow_7 (fun H locs hP hD hS => ?_)
  have hP : va_P (dC, dI) vwCl (xw ad cd w wr fl pw sc lw rot vb rec tk live row cur (ser + (nI 1)) dur wo bts us act rd rs) H := hP
  have hD : va_D (xA 15 ad s.heap.size) (xw ad cd w wr fl pw sc lw rot vb rec tk live row cur (ser + (nI 1)) dur wo bts us act rd rs) := hD
  refine lv_aload_n hx hb d_S_sealRow_10 rfl (lv_at hl 0 rfl) ?_
  refine va_get (D := (dC, dI)) (ci := 3) (v := .ref (ad 7)) (C := R_S) (T := F_S) (N := 7) hx hb hts (fun w h => List.mem_cons_of_mem _ (in_S w h)) hown hK hP 1 rfl rfl 2 (by decide) (hts (.fieldLink R_S 22 R_S "row" "[I") (List.mem_cons_of_mem _ t_54)) (fun _ h9 => h9) rfl d_S_sealRow_11 ?_
  refine lv_iconst (v := nI 1) hx hb d_S_sealRow_14 (by decide) ?_
  refine lv_aload_n hx hb d_S_sealRow_15 rfl (lv_at hl 0 rfl) ?_
  refine va_get (D := (dC, dI)) (ci := 3) (v := .int (ser + (nI 1))) (C := R_S) (T := F_S) (N := 7) hx hb hts (fun w h => List.mem_cons_of_mem _ (in_S w h)) hown hK hP 1 rfl rfl 4 (by decide) (hts (.fieldLink R_S 29 R_S "serial" "I") (List.mem_cons_of_mem _ t_56)) (fun _ h9 => h9) rfl d_S_sealRow_16 ?_
  refine va_iast hx hb hK hP hD hS 7 2 rfl rfl (vp_in_nI (by omega) (by decide)) d_S_sealRow_19 (fun H locs hP hD hS => ?_)
  rw [nI_clamp (by omega)] at hP hD
  have hP : va_P (dC, dI) vwCl (xw ad cd w wr fl pw sc lw rot vb rec tk live (upd row 1 (ser + (nI 1))) cur (ser + (nI 1)) dur wo bts us act rd rs) H := hP
  have hD : va_D (xA 15 ad s.heap.size) (xw ad cd w wr fl pw sc lw rot vb rec tk live (upd row 1 (ser + (nI 1))) cur (ser + (nI 1)) dur wo bts us act rd rs) := hD
  refine lv_aload_n hx hb d_S_sealRow_20 rfl (lv_at hl 0 rfl) ?_
  refine va_get (D := (dC, dI)) (ci := 3) (v := .ref (ad 7)) (C := R_S) (T := F_S) (N := 7) hx hb hts (fun w h => List.mem_cons_of_mem _ (in_S w h)) hown hK hP 1 rfl rfl 2 (by decide) (hts (.fieldLink R_S 22 R_S "row" "[I") (List.mem_cons_of_mem _ t_54)) (fun _ h9 => h9) rfl d_S_sealRow_21 ?_
  refine lv_bipush (v := nI 14) hx hb d_S_sealRow_24 (by decide) ?_
  refine lv_aload_n hx hb d_S_sealRow_26 rfl (lv_at hl 0 rfl) ?_
  refine va_get (D := (dC, dI)) (ci := 3) (v := .ref (ad 7)) (C := R_S) (T := F_S) (N := 7) hx hb hts (fun w h => List.mem_cons_of_mem _ (in_S w h)) hown hK hP 1 rfl rfl 2 (by decide) (hts (.fieldLink R_S 22 R_S "row" "[I") (List.mem_cons_of_mem _ t_54)) (fun _ h9 => h9) rfl d_S_sealRow_27 ?_
  refine lv_iconst (v := nI 0) hx hb d_S_sealRow_30 (by decide) ?_
  refine lv_bipush (v := nI 14) hx hb d_S_sealRow_31 (by decide) ?_
  refine vp_callSi (va_runSN (host := R_R) (As := [.ref (ad 7), .int (nI 0), .int (nI 14)]) (rest := [.int (nI 14), .ref (ad 7)]) ⟨hx, hb, hml, hown, hts⟩ (c_R_sumOf_r l dC dI ad cd w wr fl pw sc lw rot vb rec tk live (upd row 1 (ser + (nI 1))) cur (ser + (nI 1)) dur wo bts us act rd rs 0 14 (by first | omega | rfl | assumption | decide)) ⟨va_cnB 3 hts (g_c t_171) rfl rfl rfl hN.2.2.2 (hts _ (List.mem_cons_of_mem _ t_1)) (by decide +kernel) ⟨by decide, by decide⟩, (hts (.static y_R_sumOf) (List.mem_cons_of_mem _ t_170)), trivial⟩ (xR_s hP hK hN) rfl rfl hl.1 rfl (lv_room (Nat.le_of_ble_eq_true rfl)) d_S_sealRow_33 ⟨Nat.le_refl _, Nat.le_refl _⟩).run (fun r33 q33 => ?_)
  refine va_iast hx hb hK hP hD hS 7 2 rfl rfl (vp_in_nI (by omega) (by decide)) d_S_sealRow_36 (fun H locs hP hD hS => ?_)
  rw [nI_clamp (by omega)] at hP hD
  have hP : va_P (dC, dI) vwCl (xw ad cd w wr fl pw sc lw rot vb rec tk live (upd (upd row 1 (ser + (nI 1))) 14 r33) cur (ser + (nI 1)) dur wo bts us act rd rs) H := hP
  have hD : va_D (xA 15 ad s.heap.size) (xw ad cd w wr fl pw sc lw rot vb rec tk live (upd (upd row 1 (ser + (nI 1))) 14 r33) cur (ser + (nI 1)) dur wo bts us act rd rs) := hD
  refine lv_aload_n hx hb d_S_sealRow_37 rfl (lv_at hl 0 rfl) ?_
  refine va_get (D := (dC, dI)) (ci := 3) (v := .ref (ad 7)) (C := R_S) (T := F_S) (N := 7) hx hb hts (fun w h => List.mem_cons_of_mem _ (in_S w h)) hown hK hP 1 rfl rfl 2 (by decide) (hts (.fieldLink R_S 22 R_S "row" "[I") (List.mem_cons_of_mem _ t_54)) (fun _ h9 => h9) rfl d_S_sealRow_38 ?_
  refine lv_bipush (v := nI 15) hx hb d_S_sealRow_41 (by decide) ?_
  refine lv_ldc (v := nI 1515870810) hx hb hown (hts (.constant R_S 109 1515870810) (List.mem_cons_of_mem _ t_453)) d_S_sealRow_43 ?_
  refine va_iast hx hb hK hP hD hS 7 2 rfl rfl (vp_in_nI (by omega) (by decide)) d_S_sealRow_45 (fun H locs hP hD hS => ?_)
  rw [nI_clamp (by omega)] at hP hD
  have hP : va_P (dC, dI) vwCl (xw ad cd w wr fl pw sc lw rot vb rec tk live (upd (upd (upd row 1 (ser + (nI 1))) 14 r33) 15 (nI 1515870810)) cur (ser + (nI 1)) dur wo bts us act rd rs) H := hP
  have hD : va_D (xA 15 ad s.heap.size) (xw ad cd w wr fl pw sc lw rot vb rec tk live (upd (upd (upd row 1 (ser + (nI 1))) 14 r33) 15 (nI 1515870810)) cur (ser + (nI 1)) dur wo bts us act rd rs) := hD
  exact W.vret hx hb hr (fun t ht hW => ⟨⟨(fun i => [upd (upd (upd row 1 (ser + (nI 1))) 14 r33) 15 (nI 1515870810)].getD i (fun _ => 0), fun i => [ser + (nI 1)].getD i 0, fun i => [].getD i 0), rfl, by first | rfl | trivial | omega, ⟨by rw [ht]; exact hP, va_K.moved hW.alike hK, hD⟩⟩, hS.F ht⟩) hS.2.2 d_S_sealRow_46
