set_option maxHeartbeats 4000000 in
set_option maxRecDepth 100000 in
theorem c_S_durableCount (l : Launch) (dC : Nat → ClassId) (dI : Nat → Nat → Nat) (ad cd : Nat → Nat) (w wr fl : Nat → Int32) (pw sc : Int32) (lw rot vb : Nat → Int32) (rec tk : Int32) (live row : Nat → Int32) (cur ser dur wo : Int32) (bts : Nat → Int32) (us : Int32) (act : Nat → Int32) (rd rs : Int32)  : Met l y_S_durableCount w_S_durableCount ({ frames := 0, cells := 0, slots := 0, locals := 0 }) (xR (dC, dI) vwCl (xt cd) (xw ad cd w wr fl pw sc lw rot vb rec tk live row cur ser dur wo bts us act rd rs) [.ref (ad 1)]) (vp_Si (fun r => r = dur)) 0 0 (fun _ => False) := by
  refine Met.ofW (cc := b_S_durableCount) (maxL := 1) (ret := (some (.int))) (by decide) rfl ?_
  intro P e s m args below meth c0 s₁ B hml hv
  obtain ⟨rfl, hP, hK⟩ := hv
  have hx := B.exec
  have hb := B.bytes
  have hr := B.returns
  have hts := atoms_spec (ws := w_S_durableCount) B.pre
  have hown : s.vm.findClass R_S = some m.cls := findClass_of_methodNamed B.named
  have hlocks := B.notSynchronized
  have hl := lv_entry ([.ref (ad 1)]) (n := 1) (Nat.le_of_ble_eq_true rfl)
  rw [lg_entry_eq]
  generalize (lg_sl ([.ref (ad 1)]) ++ List.replicate (1 - (lg_sl ([.ref (ad 1)])).length) Slot.unset).toArray = ls at hl ⊢
  have hl : lv_has ls 1 [(0, .ref (ad 1))] := hl
  refine lv_aload_n hx hb d_S_durableCount_0 rfl (lv_at hl 0 rfl) ?_
  refine va_get (D := (dC, dI)) (ci := 3) (v := .int dur) (C := R_S) (T := F_S) (N := 7) hx hb hts (fun w h => List.mem_cons_of_mem _ (in_S w h)) hown hK hP 1 rfl rfl 5 (by decide) (hts (.fieldLink R_S 32 R_S "durable" "I") (List.mem_cons_of_mem _ t_57)) (fun _ h9 => h9) rfl d_S_durableCount_1 ?_
  exact W.iret (v := dur) hx hb hr (fun t ht hW => ⟨dur, rfl, by first | rfl | trivial | omega, ht⟩) (fun q hq => by cases hq) d_S_durableCount_4
set_option maxHeartbeats 4000000 in
set_option maxRecDepth 100000 in
theorem c_S_latestSerial (l : Launch) (dC : Nat → ClassId) (dI : Nat → Nat → Nat) (ad cd : Nat → Nat) (w wr fl : Nat → Int32) (pw sc : Int32) (lw rot vb : Nat → Int32) (rec tk : Int32) (live row : Nat → Int32) (cur ser dur wo : Int32) (bts : Nat → Int32) (us : Int32) (act : Nat → Int32) (rd rs : Int32)  : Met l y_S_latestSerial w_S_latestSerial ({ frames := 0, cells := 0, slots := 0, locals := 0 }) (xR (dC, dI) vwCl (xt cd) (xw ad cd w wr fl pw sc lw rot vb rec tk live row cur ser dur wo bts us act rd rs) [.ref (ad 1)]) (vp_Si (fun r => r = ser)) 0 0 (fun _ => False) := by
  refine Met.ofW (cc := b_S_latestSerial) (maxL := 1) (ret := (some (.int))) (by decide) rfl ?_
  intro P e s m args below meth c0 s₁ B hml hv
  obtain ⟨rfl, hP, hK⟩ := hv
  have hx := B.exec
  have hb := B.bytes
  have hr := B.returns
  have hts := atoms_spec (ws := w_S_latestSerial) B.pre
  have hown : s.vm.findClass R_S = some m.cls := findClass_of_methodNamed B.named
  have hlocks := B.notSynchronized
  have hl := lv_entry ([.ref (ad 1)]) (n := 1) (Nat.le_of_ble_eq_true rfl)
  rw [lg_entry_eq]
  generalize (lg_sl ([.ref (ad 1)]) ++ List.replicate (1 - (lg_sl ([.ref (ad 1)])).length) Slot.unset).toArray = ls at hl ⊢
  have hl : lv_has ls 1 [(0, .ref (ad 1))] := hl
  refine lv_aload_n hx hb d_S_latestSerial_0 rfl (lv_at hl 0 rfl) ?_
  refine va_get (D := (dC, dI)) (ci := 3) (v := .int ser) (C := R_S) (T := F_S) (N := 7) hx hb hts (fun w h => List.mem_cons_of_mem _ (in_S w h)) hown hK hP 1 rfl rfl 4 (by decide) (hts (.fieldLink R_S 29 R_S "serial" "I") (List.mem_cons_of_mem _ t_56)) (fun _ h9 => h9) rfl d_S_latestSerial_1 ?_
  exact W.iret (v := ser) hx hb hr (fun t ht hW => ⟨ser, rfl, by first | rfl | trivial | omega, ht⟩) (fun q hq => by cases hq) d_S_latestSerial_4
set_option maxHeartbeats 4000000 in
set_option maxRecDepth 100000 in
theorem c_S_cursorBlock (l : Launch) (dC : Nat → ClassId) (dI : Nat → Nat → Nat) (ad cd : Nat → Nat) (w wr fl : Nat → Int32) (pw sc : Int32) (lw rot vb : Nat → Int32) (rec tk : Int32) (live row : Nat → Int32) (cur ser dur wo : Int32) (bts : Nat → Int32) (us : Int32) (act : Nat → Int32) (rd rs : Int32)  : Met l y_S_cursorBlock w_S_cursorBlock ({ frames := 0, cells := 0, slots := 0, locals := 0 }) (xR (dC, dI) vwCl (xt cd) (xw ad cd w wr fl pw sc lw rot vb rec tk live row cur ser dur wo bts us act rd rs) [.ref (ad 1)]) (vp_Si (fun r => r = cur)) 0 0 (fun _ => False) := by
  refine Met.ofW (cc := b_S_cursorBlock) (maxL := 1) (ret := (some (.int))) (by decide) rfl ?_
  intro P e s m args below meth c0 s₁ B hml hv
  obtain ⟨rfl, hP, hK⟩ := hv
  have hx := B.exec
  have hb := B.bytes
  have hr := B.returns
  have hts := atoms_spec (ws := w_S_cursorBlock) B.pre
  have hown : s.vm.findClass R_S = some m.cls := findClass_of_methodNamed B.named
  have hlocks := B.notSynchronized
  have hl := lv_entry ([.ref (ad 1)]) (n := 1) (Nat.le_of_ble_eq_true rfl)
  rw [lg_entry_eq]
  generalize (lg_sl ([.ref (ad 1)]) ++ List.replicate (1 - (lg_sl ([.ref (ad 1)])).length) Slot.unset).toArray = ls at hl ⊢
  have hl : lv_has ls 1 [(0, .ref (ad 1))] := hl
  refine lv_aload_n hx hb d_S_cursorBlock_0 rfl (lv_at hl 0 rfl) ?_
  refine va_get (D := (dC, dI)) (ci := 3) (v := .int cur) (C := R_S) (T := F_S) (N := 7) hx hb hts (fun w h => List.mem_cons_of_mem _ (in_S w h)) hown hK hP 1 rfl rfl 3 (by decide) (hts (.fieldLink R_S 25 R_S "cursor" "I") (List.mem_cons_of_mem _ t_55)) (fun _ h9 => h9) rfl d_S_cursorBlock_1 ?_
  exact W.iret (v := cur) hx hb hr (fun t ht hW => ⟨cur, rfl, by first | rfl | trivial | omega, ht⟩) (fun q hq => by cases hq) d_S_cursorBlock_4
set_option maxHeartbeats 4000000 in
set_option maxRecDepth 100000 in
theorem c_S_isLive_f (l : Launch) (dC : Nat → ClassId) (dI : Nat → Nat → Nat) (ad cd : Nat → Nat) (w wr fl : Nat → Int32) (pw sc : Int32) (lw rot vb : Nat → Int32) (rec tk : Int32) (live row : Nat → Int32) (cur ser dur wo : Int32) (bts : Nat → Int32) (us : Int32) (act : Nat → Int32) (rd rs : Int32) (pa : Nat) (hp : pa < 32) (hlv : ∀ i, i < 16 → live i = -1) : Met l y_S_isLive w_S_isLive ({ frames := 0, cells := 0, slots := 0, locals := 0 }) (xR (dC, dI) vwCl (xt cd) (xw ad cd w wr fl pw sc lw rot vb rec tk live row cur ser dur wo bts us act rd rs) [.ref (ad 1), .int (nI pa)]) (vp_Si (fun r => r = 0)) 0 0 (fun _ => False) := by
  refine Met.ofW (cc := b_S_isLive) (maxL := 3) (ret := (some (.boolean))) (by decide) rfl ?_
  intro P e s m args below meth c0 s₁ B hml hv
  obtain ⟨rfl, hP, hK⟩ := hv
  have hx := B.exec
  have hb := B.bytes
  have hr := B.returns
  have hts := atoms_spec (ws := w_S_isLive) B.pre
  have hown : s.vm.findClass R_S = some m.cls := findClass_of_methodNamed B.named
  have hlocks := B.notSynchronized
  have hl := lv_entry ([.ref (ad 1), .int (nI pa)]) (n := 3) (Nat.le_of_ble_eq_true rfl)
  rw [lg_entry_eq]
  generalize (lg_sl ([.ref (ad 1), .int (nI pa)]) ++ List.replicate (3 - (lg_sl ([.ref (ad 1), .int (nI pa)])).length) Slot.unset).toArray = ls at hl ⊢
  have hl : lv_has ls 3 [(0, .ref (ad 1)), (1, .int (nI pa))] := hl
  refine lv_iconst (v := nI 0) hx hb d_S_isLive_0 (by decide) ?_
  refine lv_istore_n hx hb d_S_isLive_1 rfl hl (by decide) rfl (fun ls hl => ?_)
  have hl : lv_has ls 3 [(2, .int (nI 0)), (0, .ref (ad 1)), (1, .int (nI pa))] := hl
  have lp2 : ∀ (n : Nat) (k : Nat) (ls : Array Slot), (16 - k) < n → (k ≤ 16) → lv_has ls 3 [(0, .ref (ad 1)), (1, .int (nI pa)), (2, .int (nI k))] → W P l e (headSpec w_S_isLive ({ frames := 0, cells := 0, slots := 0, locals := 0 })).room s m (([.ref (ad 1), .int (nI pa)] : List Value).toArray) below meth c0 s.heap [] 0 0 (MQ below (vp_Si (fun r => r = 0)) (([.ref (ad 1), .int (nI pa)] : List Value).toArray) s 0 0 (fun _ => False)) (F0 m 2 ls []) := by
    intro n
    induction n with
    | zero => intro k ls hm; intros; omega
    | succ n ih2 =>
      intro k ls hm hk hl
      refine lv_iload_n hx hb d_S_isLive_2 rfl (lv_at hl 2 rfl) ?_
      refine lv_bipush (v := nI 16) hx hb d_S_isLive_3 (by decide) ?_
      refine lv_icmp_ge (tgt := 26) hx hb d_S_isLive_5 (by decide) (fun c5 => ?_) (fun c5 => ?_)
      ·
        have c5 := cd_ge_t (by omega) (by omega) c5
        refine lv_iconst (v := 0) hx hb d_S_isLive_26 (by decide) ?_
        exact W.zret (v := 0) hx hb hr (by first | rfl | decide | assumption) (fun t ht hW => ⟨0, rfl, by first | rfl | trivial | omega, ht⟩) (fun q hq => by cases hq) d_S_isLive_27
      ·
        have c5 := cd_ge_f (by omega) (by omega) c5
        refine lv_aload_n hx hb d_S_isLive_8 rfl (lv_at hl 0 rfl) ?_
        refine va_get (D := (dC, dI)) (ci := 3) (v := .ref (ad 6)) (C := R_S) (T := F_S) (N := 7) hx hb hts (fun w h => List.mem_cons_of_mem _ (in_S w h)) hown hK hP 1 rfl rfl 1 (by decide) (hts (.fieldLink R_S 18 R_S "livePages" "[I") (List.mem_cons_of_mem _ t_53)) (fun _ h9 => h9) rfl d_S_isLive_9 ?_
        refine lv_iload_n hx hb d_S_isLive_12 rfl (lv_at hl 2 rfl) ?_
        refine va_iald hx hb hK hP 6 1 rfl rfl (vp_in_nI (by omega) (by decide)) d_S_isLive_13 ?_
        refine tp_i (y := live k) (by rw [nI_clamp (by omega)]) ?_
        refine lv_iload_n hx hb d_S_isLive_14 rfl (lv_at hl 1 rfl) ?_
        refine lv_icmp_ne (tgt := 20) hx hb d_S_isLive_15 (by decide) (fun c15 => ?_) (fun c15 => ?_)
        ·
          refine lv_iinc (k := 2) (v := nI (k + 1)) hx hb d_S_isLive_20 hl rfl (nI_1 _) (by decide) rfl (fun ls hl => ?_)
          have hl : lv_has ls 3 [(2, .int (nI (k + 1))), (0, .ref (ad 1)), (1, .int (nI pa))] := hl
          refine lv_goto (tgt := 2) hx hb d_S_isLive_23 (by decide) ?_
          exact ih2 (k + 1) ls (by omega) (by omega) (lv_sub hl [1, 2, 0] rfl)
        ·
          exact absurd ((hlv k (by omega)).symm.trans c15).symm (m1_ne (by omega))
  exact lp2 _ 0 ls (Nat.lt_succ_self _) (by omega) (lv_sub hl [1, 2, 0] rfl)
set_option maxHeartbeats 4000000 in
set_option maxRecDepth 100000 in
theorem c_S_livePageCount_f (l : Launch) (dC : Nat → ClassId) (dI : Nat → Nat → Nat) (ad cd : Nat → Nat) (w wr fl : Nat → Int32) (pw sc : Int32) (lw rot vb : Nat → Int32) (rec tk : Int32) (live row : Nat → Int32) (cur ser dur wo : Int32) (bts : Nat → Int32) (us : Int32) (act : Nat → Int32) (rd rs : Int32)  (hlv : ∀ i, i < 16 → live i = -1) : Met l y_S_livePageCount w_S_livePageCount ({ frames := 1, cells := 0, slots := 0, locals := 22 }) (xR (dC, dI) vwCl (xt cd) (xw ad cd w wr fl pw sc lw rot vb rec tk live row cur ser dur wo bts us act rd rs) [.ref (ad 1)]) (vp_Si (fun r => r = nI 0)) 0 0 (fun _ => False) := by
  refine Met.ofW (cc := b_S_livePageCount) (maxL := 3) (ret := (some (.int))) (by decide) rfl ?_
  intro P e s m args below meth c0 s₁ B hml hv
  obtain ⟨rfl, hP, hK⟩ := hv
  have hx := B.exec
  have hb := B.bytes
  have hr := B.returns
  have hts := atoms_spec (ws := w_S_livePageCount) B.pre
  have hown : s.vm.findClass R_S = some m.cls := findClass_of_methodNamed B.named
  have hlocks := B.notSynchronized
  have hl := lv_entry ([.ref (ad 1)]) (n := 3) (Nat.le_of_ble_eq_true rfl)
  rw [lg_entry_eq]
  generalize (lg_sl ([.ref (ad 1)]) ++ List.replicate (3 - (lg_sl ([.ref (ad 1)])).length) Slot.unset).toArray = ls at hl ⊢
  have hl : lv_has ls 3 [(0, .ref (ad 1))] := hl
  refine lv_iconst (v := nI 0) hx hb d_S_livePageCount_0 (by decide) ?_
  refine lv_istore_n hx hb d_S_livePageCount_1 rfl hl (by decide) rfl (fun ls hl => ?_)
  have hl : lv_has ls 3 [(1, .int (nI 0)), (0, .ref (ad 1))] := hl
  refine lv_iconst (v := nI 0) hx hb d_S_livePageCount_2 (by decide) ?_
  refine lv_istore_n hx hb d_S_livePageCount_3 rfl hl (by decide) rfl (fun ls hl => ?_)
  have hl : lv_has ls 3 [(2, .int (nI 0)), (1, .int (nI 0)), (0, .ref (ad 1))] := hl
  have lp4 : ∀ (n : Nat) (k : Nat) (ls : Array Slot), (32 - k) < n → (k ≤ 32) → lv_has ls 3 [(0, .ref (ad 1)), (1, .int (nI 0)), (2, .int (nI k))] → W P l e (headSpec w_S_livePageCount ({ frames := 1, cells := 0, slots := 0, locals := 22 })).room s m (([.ref (ad 1)] : List Value).toArray) below meth c0 s.heap [] 0 0 (MQ below (vp_Si (fun r => r = nI 0)) (([.ref (ad 1)] : List Value).toArray) s 0 0 (fun _ => False)) (F0 m 4 ls []) := by
    intro n
    induction n with
    | zero => intro k ls hm; intros; omega
    | succ n ih4 =>
      intro k ls hm hk hl
      refine lv_iload_n hx hb d_S_livePageCount_4 rfl (lv_at hl 2 rfl) ?_
      refine lv_bipush (v := nI 32) hx hb d_S_livePageCount_5 (by decide) ?_
      refine lv_icmp_ge (tgt := 27) hx hb d_S_livePageCount_7 (by decide) (fun c7 => ?_) (fun c7 => ?_)
      ·
        have c7 := cd_ge_t (by omega) (by omega) c7
        refine lv_iload_n hx hb d_S_livePageCount_27 rfl (lv_at hl 1 rfl) ?_
        exact W.iret (v := nI 0) hx hb hr (fun t ht hW => ⟨nI 0, rfl, by first | rfl | trivial | omega, ht⟩) (fun q hq => by cases hq) d_S_livePageCount_28
      ·
        have c7 := cd_ge_f (by omega) (by omega) c7
        refine lv_aload_n hx hb d_S_livePageCount_10 rfl (lv_at hl 0 rfl) ?_
        refine lv_iload_n hx hb d_S_livePageCount_11 rfl (lv_at hl 2 rfl) ?_
        refine vp_callSi (va_runV (C := R_S) (As := [.int (nI k)]) (rest := []) ⟨hx, hb, hml, hown, hts⟩ (c_S_isLive_f l dC dI ad cd w wr fl pw sc lw rot vb rec tk live row cur ser dur wo bts us act rd rs k (by omega) (hlv)) (cwV 1 hts (g_V t_238 t_240 s_5 t_2 t_241) rfl rfl rfl (by decide +kernel) ⟨by decide, by decide⟩) (xR_v hP hK 1 rfl rfl) rfl rfl hl.1 rfl (lv_room (Nat.le_of_ble_eq_true rfl)) d_S_livePageCount_12 ⟨Nat.le_refl _, Nat.le_refl _⟩).run (fun r12 q12 => ?_)
        subst q12
        refine lv_if_eq (tgt := 21) hx hb d_S_livePageCount_15 (by decide) (fun c15 => ?_) (fun c15 => ?_)
        ·
          refine lv_iinc (k := 2) (v := nI (k + 1)) hx hb d_S_livePageCount_21 hl rfl (nI_1 _) (by decide) rfl (fun ls hl => ?_)
          have hl : lv_has ls 3 [(2, .int (nI (k + 1))), (0, .ref (ad 1)), (1, .int (nI 0))] := hl
          refine lv_goto (tgt := 4) hx hb d_S_livePageCount_24 (by decide) ?_
          exact ih4 (k + 1) ls (by omega) (by omega) (lv_sub hl [1, 2, 0] rfl)
        ·
          exact absurd c15 (by decide)
  exact lp4 _ 0 ls (Nat.lt_succ_self _) (by omega) (lv_sub hl [2, 1, 0] rfl)
