set_option maxHeartbeats 4000000 in
set_option maxRecDepth 100000 in
theorem c_N_length (l : Launch) (dC : Nat → ClassId) (dI : Nat → Nat → Nat) (ad cd : Nat → Nat) (w wr fl : Nat → Int32) (pw sc : Int32) (lw rot vb : Nat → Int32) (rec tk : Int32) (live row : Nat → Int32) (cur ser dur wo : Int32) (bts : Nat → Int32) (us : Int32) (act : Nat → Int32) (rd rs : Int32) (un : Nat) : Met l y_N_length w_N_length ({ frames := 0, cells := 0, slots := 0, locals := 0 }) (xR (dC, dI) vwCl (xt cd) (xw ad cd w wr fl pw sc lw rot vb rec tk live row cur ser dur wo bts (nI un) act rd rs) [.ref (ad 4)]) (vp_Si (fun r => r = nI un)) 0 0 (fun _ => False) := by
  refine Met.ofW (cc := b_N_length) (maxL := 1) (ret := (some (.int))) (by decide) rfl ?_
  intro P e s m args below meth c0 s₁ B hml hv
  obtain ⟨rfl, hP, hK, hN⟩ := hv
  have hx := B.exec
  have hb := B.bytes
  have hr := B.returns
  have hts := atoms_spec (ws := w_N_length) B.pre
  have hown : s.vm.findClass R_N = some m.cls := findClass_of_methodNamed B.named
  have hlocks := B.notSynchronized
  have hl := lv_entry ([.ref (ad 4)]) (n := 1) (Nat.le_of_ble_eq_true rfl)
  rw [lg_entry_eq]
  generalize (lg_sl ([.ref (ad 4)]) ++ List.replicate (1 - (lg_sl ([.ref (ad 4)])).length) Slot.unset).toArray = ls at hl ⊢
  have hl : lv_has ls 1 [(0, .ref (ad 4))] := hl
  refine lv_aload_n hx hb d_N_length_0 rfl (lv_at hl 0 rfl) ?_
  refine va_get (D := (dC, dI)) (ci := 1) (v := .int (nI un)) (C := R_N) (T := F_N) (N := 2) hx hb hts (fun w h => List.mem_cons_of_mem _ (in_N w h)) hown hK hP 4 rfl rfl 1 (by decide) (hts (.fieldLink R_N 13 R_N "used" "I") (List.mem_cons_of_mem _ t_107)) (fun _ h9 => h9) rfl d_N_length_1 ?_
  exact W.iret (v := nI un) hx hb hr (fun t ht hW => ⟨nI un, rfl, by first | rfl | trivial | omega, ht⟩) (fun q hq => by cases hq) d_N_length_4
set_option maxHeartbeats 4000000 in
set_option maxRecDepth 100000 in
theorem c_N_byteAt (l : Launch) (dC : Nat → ClassId) (dI : Nat → Nat → Nat) (ad cd : Nat → Nat) (w wr fl : Nat → Int32) (pw sc : Int32) (lw rot vb : Nat → Int32) (rec tk : Int32) (live row : Nat → Int32) (cur ser dur wo : Int32) (bts : Nat → Int32) (us : Int32) (act : Nat → Int32) (rd rs : Int32) (ix : Nat) (hi : ix < 32) : Met l y_N_byteAt w_N_byteAt ({ frames := 0, cells := 0, slots := 0, locals := 0 }) (xR (dC, dI) vwCl (xt cd) (xw ad cd w wr fl pw sc lw rot vb rec tk live row cur ser dur wo bts us act rd rs) [.ref (ad 4), .int (nI ix)]) (vp_Si (fun r => True)) 0 0 (fun _ => False) := by
  refine Met.ofW (cc := b_N_byteAt) (maxL := 2) (ret := (some (.int))) (by decide) rfl ?_
  intro P e s m args below meth c0 s₁ B hml hv
  obtain ⟨rfl, hP, hK, hN⟩ := hv
  have hx := B.exec
  have hb := B.bytes
  have hr := B.returns
  have hts := atoms_spec (ws := w_N_byteAt) B.pre
  have hown : s.vm.findClass R_N = some m.cls := findClass_of_methodNamed B.named
  have hlocks := B.notSynchronized
  have hl := lv_entry ([.ref (ad 4), .int (nI ix)]) (n := 2) (Nat.le_of_ble_eq_true rfl)
  rw [lg_entry_eq]
  generalize (lg_sl ([.ref (ad 4), .int (nI ix)]) ++ List.replicate (2 - (lg_sl ([.ref (ad 4), .int (nI ix)])).length) Slot.unset).toArray = ls at hl ⊢
  have hl : lv_has ls 2 [(0, .ref (ad 4)), (1, .int (nI ix))] := hl
  refine lv_aload_n hx hb d_N_byteAt_0 rfl (lv_at hl 0 rfl) ?_
  refine va_get (D := (dC, dI)) (ci := 1) (v := .ref (ad 14)) (C := R_N) (T := F_N) (N := 2) hx hb hts (fun w h => List.mem_cons_of_mem _ (in_N w h)) hown hK hP 4 rfl rfl 0 (by decide) (hts (.fieldLink R_N 9 R_N "bytes" "[B") (List.mem_cons_of_mem _ t_106)) (fun _ h9 => h9) rfl d_N_byteAt_1 ?_
  refine lv_iload_n hx hb d_N_byteAt_4 rfl (lv_at hl 1 rfl) ?_
  refine va_bald hx hb hK hP 14 9 rfl rfl (vp_in_nI (by omega) (by decide)) d_N_byteAt_5 ?_
  refine tp_i (y := bts ix) (by rw [nI_clamp (by omega)]) ?_
  exact W.iret (v := bts ix) hx hb hr (fun t ht hW => ⟨bts ix, rfl, by first | rfl | trivial | omega, ht⟩) (fun q hq => by cases hq) d_N_byteAt_6
set_option maxHeartbeats 4000000 in
set_option maxRecDepth 100000 in
theorem c_N_addByte (l : Launch) (dC : Nat → ClassId) (dI : Nat → Nat → Nat) (ad cd : Nat → Nat) (sz : Nat) (w wr fl : Nat → Int32) (pw sc : Int32) (lw rot vb : Nat → Int32) (rec tk : Int32) (live row : Nat → Int32) (cur ser dur wo : Int32) (bts : Nat → Int32) (us : Int32) (act : Nat → Int32) (rd rs : Int32) (un : Nat) (v : Int32) (hus : un ≤ 32) : Met l y_N_addByte w_N_addByte ({ frames := 0, cells := 0, slots := 0, locals := 0 }) (xP (dC, dI) vwCl (xt cd) (xw ad cd w wr fl pw sc lw rot vb rec tk live row cur ser dur wo bts (nI un) act rd rs) sz [.ref (ad 4), .int v]) (va_Qv (fun (u : (Nat → Nat → Int32) × (Nat → Int32) × (Nat → Nat)) => (u.2.2 0) ≤ 32) (fun (u : (Nat → Nat → Int32) × (Nat → Int32) × (Nat → Nat)) (t : State) => xB (dC, dI) vwCl (xt cd) (xA 15 ad sz) (xw ad cd w wr fl pw sc lw rot vb rec tk live row cur ser dur wo (u.1 0) (nI (u.2.2 0)) act rd rs) t) (xA 15 ad sz)) 0 0 (xA 15 ad sz) := by
  refine Met.ofW (cc := b_N_addByte) (maxL := 2) (ret := none) (by decide) rfl ?_
  intro P e s m args below meth c0 s₁ B hml hv
  obtain ⟨rfl, hsz, hP, hK, hD0, hN⟩ := hv
  have hx := B.exec
  have hb := B.bytes
  have hr := B.returns
  have hts := atoms_spec (ws := w_N_addByte) B.pre
  have hown : s.vm.findClass R_N = some m.cls := findClass_of_methodNamed B.named
  have hlocks := B.notSynchronized
  subst hsz
  have hD := xw_D (sz := s.heap.size) hD0
  have hS : va_S (xA 15 ad s.heap.size) s.heap s.heap [] := va_S.rf
  have hA : ∀ q : Nat, s.heap.size ≤ q → (xA 15 ad s.heap.size) q := fun q h => Or.inr h
  have hl := lv_entry ([.ref (ad 4), .int v]) (n := 2) (Nat.le_of_ble_eq_true rfl)
  rw [lg_entry_eq]
  generalize (lg_sl ([.ref (ad 4), .int v]) ++ List.replicate (2 - (lg_sl ([.ref (ad 4), .int v])).length) Slot.unset).toArray = ls at hl ⊢
  have hl : lv_has ls 2 [(0, .ref (ad 4)), (1, .int v)] := hl
  refine lv_aload_n hx hb d_N_addByte_0 rfl (lv_at hl 0 rfl) ?_
  refine va_get (D := (dC, dI)) (ci := 1) (v := .int (nI un)) (C := R_N) (T := F_N) (N := 2) hx hb hts (fun w h => List.mem_cons_of_mem _ (in_N w h)) hown hK hP 4 rfl rfl 1 (by decide) (hts (.fieldLink R_N 13 R_N "used" "I") (List.mem_cons_of_mem _ t_107)) (fun _ h9 => h9) rfl d_N_addByte_1 ?_
  refine lv_bipush (v := nI 32) hx hb d_N_addByte_4 (by decide) ?_
  refine lv_icmp_ge (tgt := 30) hx hb d_N_addByte_6 (by decide) (fun c6 => ?_) (fun c6 => ?_)
  ·
    have c6 := cd_ge_t (by omega) (by omega) c6
    exact W.vret hx hb hr (fun t ht hW => ⟨⟨(fun i => [bts].getD i (fun _ => 0), fun i => [].getD i 0, fun i => [un].getD i 0), rfl, (show un ≤ 32 by omega), ⟨by rw [ht]; exact hP, va_K.moved hW.alike hK, hD⟩⟩, hS.F ht⟩) hS.2.2 d_N_addByte_30
  ·
    have c6 := cd_ge_f (by omega) (by omega) c6
    refine lv_aload_n hx hb d_N_addByte_9 rfl (lv_at hl 0 rfl) ?_
    refine va_get (D := (dC, dI)) (ci := 1) (v := .ref (ad 14)) (C := R_N) (T := F_N) (N := 2) hx hb hts (fun w h => List.mem_cons_of_mem _ (in_N w h)) hown hK hP 4 rfl rfl 0 (by decide) (hts (.fieldLink R_N 9 R_N "bytes" "[B") (List.mem_cons_of_mem _ t_106)) (fun _ h9 => h9) rfl d_N_addByte_10 ?_
    refine lv_aload_n hx hb d_N_addByte_13 rfl (lv_at hl 0 rfl) ?_
    refine va_get (D := (dC, dI)) (ci := 1) (v := .int (nI un)) (C := R_N) (T := F_N) (N := 2) hx hb hts (fun w h => List.mem_cons_of_mem _ (in_N w h)) hown hK hP 4 rfl rfl 1 (by decide) (hts (.fieldLink R_N 13 R_N "used" "I") (List.mem_cons_of_mem _ t_107)) (fun _ h9 => h9) rfl d_N_addByte_14 ?_
    refine lv_iload_n hx hb d_N_addByte_17 rfl (lv_at hl 1 rfl) ?_
    refine lv_i2b (v := v.toInt8.toInt32) hx hb d_N_addByte_18 rfl ?_
    refine va_bast hx hb hK hP hD hS 14 9 rfl rfl (vp_in_nI (by omega) (by decide)) d_N_addByte_19 (fun H locs hP hD hS => ?_)
    rw [nI_clamp (by omega)] at hP hD
    have hP : va_P (dC, dI) vwCl (xw ad cd w wr fl pw sc lw rot vb rec tk live row cur ser dur wo (upd bts un (vp_nar .byte v.toInt8.toInt32)) (nI un) act rd rs) H := hP
    have hD : va_D (xA 15 ad s.heap.size) (xw ad cd w wr fl pw sc lw rot vb rec tk live row cur ser dur wo (upd bts un (vp_nar .byte v.toInt8.toInt32)) (nI un) act rd rs) := hD
    refine lv_aload_n hx hb d_N_addByte_20 rfl (lv_at hl 0 rfl) ?_
    refine lv_dup hx hb d_N_addByte_21 rfl ?_
    refine va_get (D := (dC, dI)) (ci := 1) (v := .int (nI un)) (C := R_N) (T := F_N) (N := 2) hx hb hts (fun w h => List.mem_cons_of_mem _ (in_N w h)) hown hK hP 4 rfl rfl 1 (by decide) (hts (.fieldLink R_N 13 R_N "used" "I") (List.mem_cons_of_mem _ t_107)) (fun _ h9 => h9) rfl d_N_addByte_22 ?_
    refine lv_iconst (v := nI 1) hx hb d_N_addByte_25 (by decide) ?_
    refine lv_iadd hx hb d_N_addByte_26 ?_
    refine tp_i (y := nI (un + 1)) (nI_add _ _) ?_
    refine va_put (D := (dC, dI)) (ci := 1) (v := .int (nI (un + 1))) (ty := .int) (C := R_N) (T := F_N) (N := 2) hx hb hts (fun w h => List.mem_cons_of_mem _ (in_N w h)) t_N ok_N nm_N hown hK hP hD hS 4 rfl rfl 1 (by decide) (hts (.fieldLink R_N 13 R_N "used" "I") (List.mem_cons_of_mem _ t_107)) (fun _ h9 => h9) rfl (by decide +kernel) rfl rfl (Nat.le_of_ble_eq_true rfl) d_N_addByte_27 (fun H locs hP hD hS => ?_)
    have hP : va_P (dC, dI) vwCl (xw ad cd w wr fl pw sc lw rot vb rec tk live row cur ser dur wo (upd bts un (vp_nar .byte v.toInt8.toInt32)) (nI (un + 1)) act rd rs) H := hP
    have hD : va_D (xA 15 ad s.heap.size) (xw ad cd w wr fl pw sc lw rot vb rec tk live row cur ser dur wo (upd bts un (vp_nar .byte v.toInt8.toInt32)) (nI (un + 1)) act rd rs) := hD
    exact W.vret hx hb hr (fun t ht hW => ⟨⟨(fun i => [upd bts un (vp_nar .byte v.toInt8.toInt32)].getD i (fun _ => 0), fun i => [].getD i 0, fun i => [un + 1].getD i 0), rfl, (show un + 1 ≤ 32 by omega), ⟨by rw [ht]; exact hP, va_K.moved hW.alike hK, hD⟩⟩, hS.F ht⟩) hS.2.2 d_N_addByte_30
set_option maxHeartbeats 4000000 in
set_option maxRecDepth 100000 in
theorem c_N_digitsOf (l : Launch) (dC : Nat → ClassId) (dI : Nat → Nat → Nat)  (v : Int64) : Met l y_N_digitsOf w_N_digitsOf ({ frames := 0, cells := 0, slots := 0, locals := 0 }) (xR (dC, dI) vwCl [] [] [.long v]) (vp_Si (fun r => ∃ d : Nat, 1 ≤ d ∧ d ≤ 10 ∧ r = nI d)) 0 0 (fun _ => False) := by
  refine Met.ofW (cc := b_N_digitsOf) (maxL := 5) (ret := (some (.int))) (by decide) rfl ?_
  intro P e s m args below meth c0 s₁ B hml hv
  obtain ⟨rfl, hP, hK, hN⟩ := hv
  have hx := B.exec
  have hb := B.bytes
  have hr := B.returns
  have hts := atoms_spec (ws := w_N_digitsOf) B.pre
  have hown : s.vm.findClass R_N = some m.cls := findClass_of_methodNamed B.named
  have hlocks := B.notSynchronized
  have hl := lv_entry ([.long v]) (n := 5) (Nat.le_of_ble_eq_true rfl)
  rw [lg_entry_eq]
  generalize (lg_sl ([.long v]) ++ List.replicate (5 - (lg_sl ([.long v])).length) Slot.unset).toArray = ls at hl ⊢
  have hl : lv_has ls 5 [(0, .long v)] := hl
  refine lv_iconst (v := nI 1) hx hb d_N_digitsOf_0 (by decide) ?_
  refine lv_istore_n hx hb d_N_digitsOf_1 rfl hl (by decide) rfl (fun ls hl => ?_)
  have hl : lv_has ls 5 [(2, .int (nI 1)), (0, .long v)] := hl
  refine lv_ldc2 (v := 10) hx hb hown (hts (.constantLong R_N 46 10) (List.mem_cons_of_mem _ t_626)) d_N_digitsOf_2 ?_
  refine lv_lstore_n hx hb d_N_digitsOf_5 rfl hl (by decide) rfl (fun ls hl => ?_)
  have hl : lv_has ls 5 [(3, .long 10), (2, .int (nI 1)), (0, .long v)] := hl
  have lp6 : ∀ (n : Nat) (k : Nat) (x : Int64) (ls : Array Slot), (10 - k) < n → (k ≤ 10) → (1 ≤ k) → lv_has ls 5 [(0, .long v), (2, .int (nI k)), (3, .long x)] → W P l e (headSpec w_N_digitsOf ({ frames := 0, cells := 0, slots := 0, locals := 0 })).room s m (([.long v] : List Value).toArray) below meth c0 s.heap [] 0 0 (MQ below (vp_Si (fun r => ∃ d : Nat, 1 ≤ d ∧ d ≤ 10 ∧ r = nI d)) (([.long v] : List Value).toArray) s 0 0 (fun _ => False)) (F0 m 6 ls []) := by
    intro n
    induction n with
    | zero => intro k x ls hm; intros; omega
    | succ n ih6 =>
      intro k x ls hm hk hk1 hl
      refine lv_iload_n hx hb d_N_digitsOf_6 rfl (lv_at hl 1 rfl) ?_
      refine lv_bipush (v := nI 10) hx hb d_N_digitsOf_7 (by decide) ?_
      refine lv_icmp_ge (tgt := 30) hx hb d_N_digitsOf_9 (by decide) (fun c9 => ?_) (fun c9 => ?_)
      ·
        have c9 := cd_ge_t (by omega) (by omega) c9
        refine lv_iload_n hx hb d_N_digitsOf_30 rfl (lv_at hl 1 rfl) ?_
        exact W.iret (v := nI k) hx hb hr (fun t ht hW => ⟨nI k, rfl, ⟨k, hk1, hk, rfl⟩, ht⟩) (fun q hq => by cases hq) d_N_digitsOf_31
      ·
        have c9 := cd_ge_f (by omega) (by omega) c9
        refine lv_lload_n hx hb d_N_digitsOf_12 rfl (lv_at hl 0 rfl) ?_
        refine lv_lload_n hx hb d_N_digitsOf_13 rfl (lv_at hl 2 rfl) ?_
        refine W.lcmp hx hb d_N_digitsOf_14 ?_
        refine lv_if_lt (tgt := 30) hx hb d_N_digitsOf_15 (by decide) (fun c15 => ?_) (fun c15 => ?_)
        ·
          refine lv_iload_n hx hb d_N_digitsOf_30 rfl (lv_at hl 1 rfl) ?_
          exact W.iret (v := nI k) hx hb hr (fun t ht hW => ⟨nI k, rfl, ⟨k, hk1, hk, rfl⟩, ht⟩) (fun q hq => by cases hq) d_N_digitsOf_31
        ·
          refine lv_iinc (k := 1) (v := nI (k + 1)) hx hb d_N_digitsOf_18 hl rfl (nI_1 _) (by decide) rfl (fun ls hl => ?_)
          have hl : lv_has ls 5 [(2, .int (nI (k + 1))), (0, .long v), (3, .long x)] := hl
          refine lv_lload_n hx hb d_N_digitsOf_21 rfl (lv_at hl 2 rfl) ?_
          refine lv_ldc2 (v := 10) hx hb hown (hts (.constantLong R_N 46 10) (List.mem_cons_of_mem _ t_626)) d_N_digitsOf_22 ?_
          refine lv_lmul hx hb d_N_digitsOf_25 ?_
          refine lv_lstore_n hx hb d_N_digitsOf_26 rfl hl (by decide) rfl (fun ls hl => ?_)
          have hl : lv_has ls 5 [(3, .long (x * 10)), (2, .int (nI (k + 1))), (0, .long v)] := hl
          refine lv_goto (tgt := 6) hx hb d_N_digitsOf_27 (by decide) ?_
          exact ih6 (k + 1) (x * 10) ls (by omega) (by omega) (by omega) (lv_sub hl [2, 1, 0] rfl)
  exact lp6 _ 1 10 ls (Nat.lt_succ_self _) (by omega) (by omega) (lv_sub hl [2, 1, 0] rfl)
set_option maxHeartbeats 4000000 in
set_option maxRecDepth 100000 in
theorem c_N_addNumber (l : Launch) (dC : Nat → ClassId) (dI : Nat → Nat → Nat) (ad cd : Nat → Nat) (sz : Nat) (w wr fl : Nat → Int32) (pw sc : Int32) (lw rot vb : Nat → Int32) (rec tk : Int32) (live row : Nat → Int32) (cur ser dur wo : Int32) (bts : Nat → Int32) (us : Int32) (act : Nat → Int32) (rd rs : Int32) (un : Nat) (v : Int32) (hus : un ≤ 32) : Met l y_N_addNumber w_N_addNumber ({ frames := 1, cells := 0, slots := 0, locals := 24 }) (xP (dC, dI) vwCl (xt cd) (xw ad cd w wr fl pw sc lw rot vb rec tk live row cur ser dur wo bts (nI un) act rd rs) sz [.ref (ad 4), .int v]) (va_Qv (fun (u : (Nat → Nat → Int32) × (Nat → Int32) × (Nat → Nat)) => (u.2.2 0) ≤ 32) (fun (u : (Nat → Nat → Int32) × (Nat → Int32) × (Nat → Nat)) (t : State) => xB (dC, dI) vwCl (xt cd) (xA 15 ad sz) (xw ad cd w wr fl pw sc lw rot vb rec tk live row cur ser dur wo (u.1 0) (nI (u.2.2 0)) act rd rs) t) (xA 15 ad sz)) 0 0 (xA 15 ad sz) := by
  refine Met.ofW (cc := b_N_addNumber) (maxL := 6) (ret := none) (by decide) rfl ?_
  intro P e s m args below meth c0 s₁ B hml hv
  obtain ⟨rfl, hsz, hP, hK, hD0, hN⟩ := hv
  have hx := B.exec
  have hb := B.bytes
  have hr := B.returns
  have hts := atoms_spec (ws := w_N_addNumber) B.pre
  have hown : s.vm.findClass R_N = some m.cls := findClass_of_methodNamed B.named
  have hlocks := B.notSynchronized
  subst hsz
  have hD := xw_D (sz := s.heap.size) hD0
  have hS : va_S (xA 15 ad s.heap.size) s.heap s.heap [] := va_S.rf
  have hA : ∀ q : Nat, s.heap.size ≤ q → (xA 15 ad s.heap.size) q := fun q h => Or.inr h
  have hl := lv_entry ([.ref (ad 4), .int v]) (n := 6) (Nat.le_of_ble_eq_true rfl)
  rw [lg_entry_eq]
  generalize (lg_sl ([.ref (ad 4), .int v]) ++ List.replicate (6 - (lg_sl ([.ref (ad 4), .int v])).length) Slot.unset).toArray = ls at hl ⊢
  have hl : lv_has ls 6 [(0, .ref (ad 4)), (1, .int v)] := hl
  refine lv_iload_n hx hb d_N_addNumber_0 rfl (lv_at hl 1 rfl) ?_
  refine lv_i2l (v := v.toInt64) hx hb d_N_addNumber_1 rfl ?_
  refine lv_lstore_n hx hb d_N_addNumber_2 rfl hl (by decide) rfl (fun ls hl => ?_)
  have hl : lv_has ls 6 [(2, .long v.toInt64), (0, .ref (ad 4)), (1, .int v)] := hl
  refine lv_lload_n hx hb d_N_addNumber_3 rfl (lv_at hl 0 rfl) ?_
  refine lv_lconst (v := 0) hx hb d_N_addNumber_4 (by decide) ?_
  refine W.lcmp hx hb d_N_addNumber_5 ?_
  refine lv_if_ge (tgt := 18) hx hb d_N_addNumber_6 (by decide) (fun c6 => ?_) (fun c6 => ?_)
  ·
    refine lv_lload_n hx hb d_N_addNumber_18 rfl (lv_at hl 0 rfl) ?_
    refine vp_callSi (va_runS (As := [.long v.toInt64]) (rest := []) ⟨hx, hb, hml, hown, hts⟩ (c_N_digitsOf l dC dI v.toInt64 ) (cwS 1 hts (g_S t_623 t_624 t_5 t_625) rfl rfl rfl (by decide +kernel) ⟨by decide, by decide⟩) (xR_s (va_P.sub hP [] rfl) (hK.sub [] rfl) hN) rfl rfl hl.1 rfl (lv_room (Nat.le_of_ble_eq_true rfl)) d_N_addNumber_19 ⟨Nat.le_refl _, Nat.le_refl _⟩).run (fun r19 q19 => ?_)
    obtain ⟨d19, hd19, he19, rfl⟩ := q19
    refine lv_istore hx hb d_N_addNumber_22 hl (by decide) rfl (fun ls hl => ?_)
    have hl : lv_has ls 6 [(4, .int (nI d19)), (2, .long v.toInt64), (0, .ref (ad 4)), (1, .int v)] := hl
    refine lv_aload_n hx hb d_N_addNumber_24 rfl (lv_at hl 2 rfl) ?_
    refine va_get (D := (dC, dI)) (ci := 1) (v := .int (nI un)) (C := R_N) (T := F_N) (N := 2) hx hb hts (fun w h => List.mem_cons_of_mem _ (in_N w h)) hown hK hP 4 rfl rfl 1 (by decide) (hts (.fieldLink R_N 13 R_N "used" "I") (List.mem_cons_of_mem _ t_107)) (fun _ h9 => h9) rfl d_N_addNumber_25 ?_
    refine lv_iload hx hb d_N_addNumber_28 (lv_at hl 0 rfl) ?_
    refine lv_iadd hx hb d_N_addNumber_30 ?_
    refine tp_i (y := nI (un + d19)) (nI_add _ _) ?_
    refine lv_bipush (v := nI 32) hx hb d_N_addNumber_31 (by decide) ?_
    refine lv_icmp_le (tgt := 37) hx hb d_N_addNumber_33 (by decide) (fun c33 => ?_) (fun c33 => ?_)
    ·
      have c33 := cd_le_t (by omega) (by omega) c33
      refine lv_aload_n hx hb d_N_addNumber_37 rfl (lv_at hl 2 rfl) ?_
      refine va_get (D := (dC, dI)) (ci := 1) (v := .int (nI un)) (C := R_N) (T := F_N) (N := 2) hx hb hts (fun w h => List.mem_cons_of_mem _ (in_N w h)) hown hK hP 4 rfl rfl 1 (by decide) (hts (.fieldLink R_N 13 R_N "used" "I") (List.mem_cons_of_mem _ t_107)) (fun _ h9 => h9) rfl d_N_addNumber_38 ?_
      refine lv_iload hx hb d_N_addNumber_41 (lv_at hl 0 rfl) ?_
      refine lv_iadd hx hb d_N_addNumber_43 ?_
      refine tp_i (y := nI (un + d19)) (nI_add _ _) ?_
      refine lv_iconst (v := nI 1) hx hb d_N_addNumber_44 (by decide) ?_
      refine lv_isub hx hb d_N_addNumber_45 ?_
      refine tp_i (y := nI (un + d19) + (-1)) (pl_m1 _ _) ?_
      refine lv_istore hx hb d_N_addNumber_46 hl (by decide) rfl (fun ls hl => ?_)
      have hl : lv_has ls 6 [(5, .int (nI (un + d19) + (-1))), (4, .int (nI d19)), (2, .long v.toInt64), (0, .ref (ad 4)), (1, .int v)] := hl
      have lp48 : ∀ (n : Nat) (k : Nat) (x : Int64) (bv : Nat → Int32) (H : Heap) (locs : List Loc) (ls : Array Slot), k < n → (k ≤ d19) → lv_has ls 6 [(0, .ref (ad 4)), (1, .int v), (2, .long x), (4, .int (nI d19)), (5, .int (nI (un + k) + (-1)))] → va_P (dC, dI) vwCl (xw ad cd w wr fl pw sc lw rot vb rec tk live row cur ser dur wo bv (nI un) act rd rs) H → va_D (xA 15 ad s.heap.size) (xw ad cd w wr fl pw sc lw rot vb rec tk live row cur ser dur wo bv (nI un) act rd rs) → va_S (xA 15 ad s.heap.size) s.heap H locs → W P l e (headSpec w_N_addNumber ({ frames := 1, cells := 0, slots := 0, locals := 24 })).room s m (([.ref (ad 4), .int v] : List Value).toArray) below meth c0 H locs 0 0 (MQ below (va_Qv (fun (u : (Nat → Nat → Int32) × (Nat → Int32) × (Nat → Nat)) => (u.2.2 0) ≤ 32) (fun (u : (Nat → Nat → Int32) × (Nat → Int32) × (Nat → Nat)) (t : State) => xB (dC, dI) vwCl (xt cd) (xA 15 ad s.heap.size) (xw ad cd w wr fl pw sc lw rot vb rec tk live row cur ser dur wo (u.1 0) (nI (u.2.2 0)) act rd rs) t) (xA 15 ad s.heap.size)) (([.ref (ad 4), .int v] : List Value).toArray) s 0 0 (xA 15 ad s.heap.size)) (F0 m 48 ls []) := by
        intro n
        induction n with
        | zero => intro k x bv H locs ls hm; intros; omega
        | succ n ih48 =>
          intro k x bv H locs ls hm hk hl hP hD hS
          refine lv_iload hx hb d_N_addNumber_48 (lv_at hl 4 rfl) ?_
          refine lv_aload_n hx hb d_N_addNumber_50 rfl (lv_at hl 0 rfl) ?_
          refine va_get (D := (dC, dI)) (ci := 1) (v := .int (nI un)) (C := R_N) (T := F_N) (N := 2) hx hb hts (fun w h => List.mem_cons_of_mem _ (in_N w h)) hown hK hP 4 rfl rfl 1 (by decide) (hts (.fieldLink R_N 13 R_N "used" "I") (List.mem_cons_of_mem _ t_107)) (fun _ h9 => h9) rfl d_N_addNumber_51 ?_
          refine lv_icmp_lt (tgt := 87) hx hb d_N_addNumber_54 (by decide) (fun c54 => ?_) (fun c54 => ?_)
          ·
            refine lv_aload_n hx hb d_N_addNumber_87 rfl (lv_at hl 0 rfl) ?_
            refine lv_dup hx hb d_N_addNumber_88 rfl ?_
            refine va_get (D := (dC, dI)) (ci := 1) (v := .int (nI un)) (C := R_N) (T := F_N) (N := 2) hx hb hts (fun w h => List.mem_cons_of_mem _ (in_N w h)) hown hK hP 4 rfl rfl 1 (by decide) (hts (.fieldLink R_N 13 R_N "used" "I") (List.mem_cons_of_mem _ t_107)) (fun _ h9 => h9) rfl d_N_addNumber_89 ?_
            refine lv_iload hx hb d_N_addNumber_92 (lv_at hl 3 rfl) ?_
            refine lv_iadd hx hb d_N_addNumber_94 ?_
            refine tp_i (y := nI (un + d19)) (nI_add _ _) ?_
            refine va_put (D := (dC, dI)) (ci := 1) (v := .int (nI (un + d19))) (ty := .int) (C := R_N) (T := F_N) (N := 2) hx hb hts (fun w h => List.mem_cons_of_mem _ (in_N w h)) t_N ok_N nm_N hown hK hP hD hS 4 rfl rfl 1 (by decide) (hts (.fieldLink R_N 13 R_N "used" "I") (List.mem_cons_of_mem _ t_107)) (fun _ h9 => h9) rfl (by decide +kernel) rfl rfl (Nat.le_of_ble_eq_true rfl) d_N_addNumber_95 (fun H locs hP hD hS => ?_)
            have hP : va_P (dC, dI) vwCl (xw ad cd w wr fl pw sc lw rot vb rec tk live row cur ser dur wo bv (nI (un + d19)) act rd rs) H := hP
            have hD : va_D (xA 15 ad s.heap.size) (xw ad cd w wr fl pw sc lw rot vb rec tk live row cur ser dur wo bv (nI (un + d19)) act rd rs) := hD
            exact W.vret hx hb hr (fun t ht hW => ⟨⟨(fun i => [bv].getD i (fun _ => 0), fun i => [].getD i 0, fun i => [un + d19].getD i 0), rfl, (show un + d19 ≤ 32 by omega), ⟨by rw [ht]; exact hP, va_K.moved hW.alike hK, hD⟩⟩, hS.F ht⟩) hS.2.2 d_N_addNumber_98
          ·
            obtain ⟨i, rfl⟩ : ∃ i, k = i + 1 := ⟨k - 1, by have := an_pos (by omega) c54; omega⟩
            rw [show nI (un + (i + 1)) + (-1) = nI (un + i) from pk_m1 _] at hl
            refine lv_aload_n hx hb d_N_addNumber_57 rfl (lv_at hl 0 rfl) ?_
            refine va_get (D := (dC, dI)) (ci := 1) (v := .ref (ad 14)) (C := R_N) (T := F_N) (N := 2) hx hb hts (fun w h => List.mem_cons_of_mem _ (in_N w h)) hown hK hP 4 rfl rfl 0 (by decide) (hts (.fieldLink R_N 9 R_N "bytes" "[B") (List.mem_cons_of_mem _ t_106)) (fun _ h9 => h9) rfl d_N_addNumber_58 ?_
            refine lv_iload hx hb d_N_addNumber_61 (lv_at hl 4 rfl) ?_
            refine lv_ldc2 (v := 48) hx hb hown (hts (.constantLong R_N 44 48) (List.mem_cons_of_mem _ t_627)) d_N_addNumber_63 ?_
            refine lv_lload_n hx hb d_N_addNumber_66 rfl (lv_at hl 2 rfl) ?_
            refine lv_ldc2 (v := 10) hx hb hown (hts (.constantLong R_N 46 10) (List.mem_cons_of_mem _ t_626)) d_N_addNumber_67 ?_
            refine lv_lrem hx hb d_N_addNumber_70 (by decide) ?_
            refine lv_ladd hx hb d_N_addNumber_71 ?_
            refine lv_l2i (v := (48 + (x - x / 10 * 10)).toInt32) hx hb d_N_addNumber_72 rfl ?_
            refine lv_i2b (v := ((48 + (x - x / 10 * 10)).toInt32).toInt8.toInt32) hx hb d_N_addNumber_73 rfl ?_
            refine va_bast hx hb hK hP hD hS 14 9 rfl rfl (vp_in_nI (by omega) (by decide)) d_N_addNumber_74 (fun H locs hP hD hS => ?_)
            rw [nI_clamp (by omega)] at hP hD
            have hP : va_P (dC, dI) vwCl (xw ad cd w wr fl pw sc lw rot vb rec tk live row cur ser dur wo (upd bv (un + i) (vp_nar .byte (((48 + (x - x / 10 * 10)).toInt32).toInt8.toInt32))) (nI un) act rd rs) H := hP
            have hD : va_D (xA 15 ad s.heap.size) (xw ad cd w wr fl pw sc lw rot vb rec tk live row cur ser dur wo (upd bv (un + i) (vp_nar .byte (((48 + (x - x / 10 * 10)).toInt32).toInt8.toInt32))) (nI un) act rd rs) := hD
            refine lv_lload_n hx hb d_N_addNumber_75 rfl (lv_at hl 2 rfl) ?_
            refine lv_ldc2 (v := 10) hx hb hown (hts (.constantLong R_N 46 10) (List.mem_cons_of_mem _ t_626)) d_N_addNumber_76 ?_
            refine lv_ldiv hx hb d_N_addNumber_79 (by decide) ?_
            refine lv_lstore_n hx hb d_N_addNumber_80 rfl hl (by decide) rfl (fun ls hl => ?_)
            have hl : lv_has ls 6 [(2, .long (x / 10)), (0, .ref (ad 4)), (1, .int v), (4, .int (nI d19)), (5, .int (nI (un + i)))] := hl
            refine lv_iinc (k := 4) (v := (nI (un + i)) + (-1)) hx hb d_N_addNumber_81 hl rfl (by rfl) (by decide) rfl (fun ls hl => ?_)
            have hl : lv_has ls 6 [(5, .int ((nI (un + i)) + (-1))), (2, .long (x / 10)), (0, .ref (ad 4)), (1, .int v), (4, .int (nI d19))] := hl
            refine lv_goto (tgt := 48) hx hb d_N_addNumber_84 (by decide) ?_
            exact ih48 i (x / 10) (upd bv (un + i) (vp_nar .byte (((48 + (x - x / 10 * 10)).toInt32).toInt8.toInt32))) H locs ls (by omega) (by omega) (lv_sub hl [2, 3, 1, 4, 0] rfl) hP hD hS
      exact lp48 _ d19 v.toInt64 bts s.heap [] ls (Nat.lt_succ_self _) (by omega) (lv_sub hl [3, 4, 2, 1, 0] rfl) hP hD hS
    ·
      have c33 := cd_le_f (by omega) (by omega) c33
      exact W.vret hx hb hr (fun t ht hW => ⟨⟨(fun i => [bts].getD i (fun _ => 0), fun i => [].getD i 0, fun i => [un].getD i 0), rfl, (show un ≤ 32 by omega), ⟨by rw [ht]; exact hP, va_K.moved hW.alike hK, hD⟩⟩, hS.F ht⟩) hS.2.2 d_N_addNumber_36
  ·
    refine lv_aload_n hx hb d_N_addNumber_9 rfl (lv_at hl 1 rfl) ?_
    refine lv_bipush (v := nI 45) hx hb d_N_addNumber_10 (by decide) ?_
    have hSz := hS.1
    refine va_callv (va_runV (C := R_N) (As := [.int (nI 45)]) (rest := []) ⟨hx, hb, hml, hown, hts⟩ (c_N_addByte l dC dI ad cd s.heap.size w wr fl pw sc lw rot vb rec tk live row cur ser dur wo bts (nI un) act rd rs un (nI 45) (by first | omega | rfl | assumption | decide)) (cwV 1 hts (g_V t_619 t_621 s_20 t_5 t_622) rfl rfl rfl (by decide +kernel) ⟨by decide, by decide⟩) (xP_v hP hK hD hN 4 rfl rfl) rfl rfl hl.1 rfl (lv_room (Nat.le_of_ble_eq_true rfl)) d_N_addNumber_12 ⟨Nat.le_refl _, Nat.le_refl _⟩) hS (fun q _ h => xA_up hS.1 q h) (fun q h => xA_up hS.1 q h) (fun u12 t H1 locs1 ht hvm q12 hB hz1 hk1 hS => ?_)
    obtain ⟨hP1, hK1, hD1⟩ := hB
    rw [ht] at hP1
    have hD : va_D (xA 15 ad s.heap.size) (xw ad cd w wr fl pw sc lw rot vb rec tk live row cur ser dur wo (u12.1 0) (nI (u12.2.2 0)) act rd rs) := hD1.weaken (fun _ q _ h => xA_up hSz _ h)
    have hP : va_P (dC, dI) vwCl (xw ad cd w wr fl pw sc lw rot vb rec tk live row cur ser dur wo (u12.1 0) (nI (u12.2.2 0)) act rd rs) H1 := hP1
    generalize H1 = H at hP hS ⊢
    generalize locs1 = locs at hS ⊢
    have hus := q12
    refine lv_lload_n hx hb d_N_addNumber_15 rfl (lv_at hl 0 rfl) ?_
    refine lv_lneg hx hb d_N_addNumber_16 ?_
    refine lv_lstore_n hx hb d_N_addNumber_17 rfl hl (by decide) rfl (fun ls hl => ?_)
    have hl : lv_has ls 6 [(2, .long (-v.toInt64)), (0, .ref (ad 4)), (1, .int v)] := hl
    refine lv_lload_n hx hb d_N_addNumber_18 rfl (lv_at hl 0 rfl) ?_
    refine vp_callSi (va_runS (As := [.long (-v.toInt64)]) (rest := []) ⟨hx, hb, hml, hown, hts⟩ (c_N_digitsOf l dC dI (-v.toInt64) ) (cwS 1 hts (g_S t_623 t_624 t_5 t_625) rfl rfl rfl (by decide +kernel) ⟨by decide, by decide⟩) (xR_s (va_P.sub hP [] rfl) (hK.sub [] rfl) hN) rfl rfl hl.1 rfl (lv_room (Nat.le_of_ble_eq_true rfl)) d_N_addNumber_19 ⟨Nat.le_refl _, Nat.le_refl _⟩).run (fun r19 q19 => ?_)
    obtain ⟨d19, hd19, he19, rfl⟩ := q19
    refine lv_istore hx hb d_N_addNumber_22 hl (by decide) rfl (fun ls hl => ?_)
    have hl : lv_has ls 6 [(4, .int (nI d19)), (2, .long (-v.toInt64)), (0, .ref (ad 4)), (1, .int v)] := hl
    refine lv_aload_n hx hb d_N_addNumber_24 rfl (lv_at hl 2 rfl) ?_
    refine va_get (D := (dC, dI)) (ci := 1) (v := .int (nI (u12.2.2 0))) (C := R_N) (T := F_N) (N := 2) hx hb hts (fun w h => List.mem_cons_of_mem _ (in_N w h)) hown hK hP 4 rfl rfl 1 (by decide) (hts (.fieldLink R_N 13 R_N "used" "I") (List.mem_cons_of_mem _ t_107)) (fun _ h9 => h9) rfl d_N_addNumber_25 ?_
    refine lv_iload hx hb d_N_addNumber_28 (lv_at hl 0 rfl) ?_
    refine lv_iadd hx hb d_N_addNumber_30 ?_
    refine tp_i (y := nI ((u12.2.2 0) + d19)) (nI_add _ _) ?_
    refine lv_bipush (v := nI 32) hx hb d_N_addNumber_31 (by decide) ?_
    refine lv_icmp_le (tgt := 37) hx hb d_N_addNumber_33 (by decide) (fun c33 => ?_) (fun c33 => ?_)
    ·
      have c33 := cd_le_t (by omega) (by omega) c33
      refine lv_aload_n hx hb d_N_addNumber_37 rfl (lv_at hl 2 rfl) ?_
      refine va_get (D := (dC, dI)) (ci := 1) (v := .int (nI (u12.2.2 0))) (C := R_N) (T := F_N) (N := 2) hx hb hts (fun w h => List.mem_cons_of_mem _ (in_N w h)) hown hK hP 4 rfl rfl 1 (by decide) (hts (.fieldLink R_N 13 R_N "used" "I") (List.mem_cons_of_mem _ t_107)) (fun _ h9 => h9) rfl d_N_addNumber_38 ?_
      refine lv_iload hx hb d_N_addNumber_41 (lv_at hl 0 rfl) ?_
      refine lv_iadd hx hb d_N_addNumber_43 ?_
      refine tp_i (y := nI ((u12.2.2 0) + d19)) (nI_add _ _) ?_
      refine lv_iconst (v := nI 1) hx hb d_N_addNumber_44 (by decide) ?_
      refine lv_isub hx hb d_N_addNumber_45 ?_
      refine tp_i (y := nI ((u12.2.2 0) + d19) + (-1)) (pl_m1 _ _) ?_
      refine lv_istore hx hb d_N_addNumber_46 hl (by decide) rfl (fun ls hl => ?_)
      have hl : lv_has ls 6 [(5, .int (nI ((u12.2.2 0) + d19) + (-1))), (4, .int (nI d19)), (2, .long (-v.toInt64)), (0, .ref (ad 4)), (1, .int v)] := hl
      have lp48 : ∀ (n : Nat) (k : Nat) (x : Int64) (bv : Nat → Int32) (H : Heap) (locs : List Loc) (ls : Array Slot), k < n → (k ≤ d19) → lv_has ls 6 [(0, .ref (ad 4)), (1, .int v), (2, .long x), (4, .int (nI d19)), (5, .int (nI ((u12.2.2 0) + k) + (-1)))] → va_P (dC, dI) vwCl (xw ad cd w wr fl pw sc lw rot vb rec tk live row cur ser dur wo bv (nI (u12.2.2 0)) act rd rs) H → va_D (xA 15 ad s.heap.size) (xw ad cd w wr fl pw sc lw rot vb rec tk live row cur ser dur wo bv (nI (u12.2.2 0)) act rd rs) → va_S (xA 15 ad s.heap.size) s.heap H locs → W P l e (headSpec w_N_addNumber ({ frames := 1, cells := 0, slots := 0, locals := 24 })).room s m (([.ref (ad 4), .int v] : List Value).toArray) below meth c0 H locs 0 0 (MQ below (va_Qv (fun (u : (Nat → Nat → Int32) × (Nat → Int32) × (Nat → Nat)) => (u.2.2 0) ≤ 32) (fun (u : (Nat → Nat → Int32) × (Nat → Int32) × (Nat → Nat)) (t : State) => xB (dC, dI) vwCl (xt cd) (xA 15 ad s.heap.size) (xw ad cd w wr fl pw sc lw rot vb rec tk live row cur ser dur wo (u.1 0) (nI (u.2.2 0)) act rd rs) t) (xA 15 ad s.heap.size)) (([.ref (ad 4), .int v] : List Value).toArray) s 0 0 (xA 15 ad s.heap.size)) (F0 m 48 ls []) := by
        intro n
        induction n with
        | zero => intro k x bv H locs ls hm; intros; omega
        | succ n ih48 =>
          intro k x bv H locs ls hm hk hl hP hD hS
          refine lv_iload hx hb d_N_addNumber_48 (lv_at hl 4 rfl) ?_
          refine lv_aload_n hx hb d_N_addNumber_50 rfl (lv_at hl 0 rfl) ?_
          refine va_get (D := (dC, dI)) (ci := 1) (v := .int (nI (u12.2.2 0))) (C := R_N) (T := F_N) (N := 2) hx hb hts (fun w h => List.mem_cons_of_mem _ (in_N w h)) hown hK hP 4 rfl rfl 1 (by decide) (hts (.fieldLink R_N 13 R_N "used" "I") (List.mem_cons_of_mem _ t_107)) (fun _ h9 => h9) rfl d_N_addNumber_51 ?_
          refine lv_icmp_lt (tgt := 87) hx hb d_N_addNumber_54 (by decide) (fun c54 => ?_) (fun c54 => ?_)
          ·
            refine lv_aload_n hx hb d_N_addNumber_87 rfl (lv_at hl 0 rfl) ?_
            refine lv_dup hx hb d_N_addNumber_88 rfl ?_
            refine va_get (D := (dC, dI)) (ci := 1) (v := .int (nI (u12.2.2 0))) (C := R_N) (T := F_N) (N := 2) hx hb hts (fun w h => List.mem_cons_of_mem _ (in_N w h)) hown hK hP 4 rfl rfl 1 (by decide) (hts (.fieldLink R_N 13 R_N "used" "I") (List.mem_cons_of_mem _ t_107)) (fun _ h9 => h9) rfl d_N_addNumber_89 ?_
            refine lv_iload hx hb d_N_addNumber_92 (lv_at hl 3 rfl) ?_
            refine lv_iadd hx hb d_N_addNumber_94 ?_
            refine tp_i (y := nI ((u12.2.2 0) + d19)) (nI_add _ _) ?_
            refine va_put (D := (dC, dI)) (ci := 1) (v := .int (nI ((u12.2.2 0) + d19))) (ty := .int) (C := R_N) (T := F_N) (N := 2) hx hb hts (fun w h => List.mem_cons_of_mem _ (in_N w h)) t_N ok_N nm_N hown hK hP hD hS 4 rfl rfl 1 (by decide) (hts (.fieldLink R_N 13 R_N "used" "I") (List.mem_cons_of_mem _ t_107)) (fun _ h9 => h9) rfl (by decide +kernel) rfl rfl (Nat.le_of_ble_eq_true rfl) d_N_addNumber_95 (fun H locs hP hD hS => ?_)
            have hP : va_P (dC, dI) vwCl (xw ad cd w wr fl pw sc lw rot vb rec tk live row cur ser dur wo bv (nI ((u12.2.2 0) + d19)) act rd rs) H := hP
            have hD : va_D (xA 15 ad s.heap.size) (xw ad cd w wr fl pw sc lw rot vb rec tk live row cur ser dur wo bv (nI ((u12.2.2 0) + d19)) act rd rs) := hD
            exact W.vret hx hb hr (fun t ht hW => ⟨⟨(fun i => [bv].getD i (fun _ => 0), fun i => [].getD i 0, fun i => [(u12.2.2 0) + d19].getD i 0), rfl, (show (u12.2.2 0) + d19 ≤ 32 by omega), ⟨by rw [ht]; exact hP, va_K.moved hW.alike hK, hD⟩⟩, hS.F ht⟩) hS.2.2 d_N_addNumber_98
          ·
            obtain ⟨i, rfl⟩ : ∃ i, k = i + 1 := ⟨k - 1, by have := an_pos (by omega) c54; omega⟩
            rw [show nI ((u12.2.2 0) + (i + 1)) + (-1) = nI ((u12.2.2 0) + i) from pk_m1 _] at hl
            refine lv_aload_n hx hb d_N_addNumber_57 rfl (lv_at hl 0 rfl) ?_
            refine va_get (D := (dC, dI)) (ci := 1) (v := .ref (ad 14)) (C := R_N) (T := F_N) (N := 2) hx hb hts (fun w h => List.mem_cons_of_mem _ (in_N w h)) hown hK hP 4 rfl rfl 0 (by decide) (hts (.fieldLink R_N 9 R_N "bytes" "[B") (List.mem_cons_of_mem _ t_106)) (fun _ h9 => h9) rfl d_N_addNumber_58 ?_
            refine lv_iload hx hb d_N_addNumber_61 (lv_at hl 4 rfl) ?_
            refine lv_ldc2 (v := 48) hx hb hown (hts (.constantLong R_N 44 48) (List.mem_cons_of_mem _ t_627)) d_N_addNumber_63 ?_
            refine lv_lload_n hx hb d_N_addNumber_66 rfl (lv_at hl 2 rfl) ?_
            refine lv_ldc2 (v := 10) hx hb hown (hts (.constantLong R_N 46 10) (List.mem_cons_of_mem _ t_626)) d_N_addNumber_67 ?_
            refine lv_lrem hx hb d_N_addNumber_70 (by decide) ?_
            refine lv_ladd hx hb d_N_addNumber_71 ?_
            refine lv_l2i (v := (48 + (x - x / 10 * 10)).toInt32) hx hb d_N_addNumber_72 rfl ?_
            refine lv_i2b (v := ((48 + (x - x / 10 * 10)).toInt32).toInt8.toInt32) hx hb d_N_addNumber_73 rfl ?_
            refine va_bast hx hb hK hP hD hS 14 9 rfl rfl (vp_in_nI (by omega) (by decide)) d_N_addNumber_74 (fun H locs hP hD hS => ?_)
            rw [nI_clamp (by omega)] at hP hD
            have hP : va_P (dC, dI) vwCl (xw ad cd w wr fl pw sc lw rot vb rec tk live row cur ser dur wo (upd bv ((u12.2.2 0) + i) (vp_nar .byte (((48 + (x - x / 10 * 10)).toInt32).toInt8.toInt32))) (nI (u12.2.2 0)) act rd rs) H := hP
            have hD : va_D (xA 15 ad s.heap.size) (xw ad cd w wr fl pw sc lw rot vb rec tk live row cur ser dur wo (upd bv ((u12.2.2 0) + i) (vp_nar .byte (((48 + (x - x / 10 * 10)).toInt32).toInt8.toInt32))) (nI (u12.2.2 0)) act rd rs) := hD
            refine lv_lload_n hx hb d_N_addNumber_75 rfl (lv_at hl 2 rfl) ?_
            refine lv_ldc2 (v := 10) hx hb hown (hts (.constantLong R_N 46 10) (List.mem_cons_of_mem _ t_626)) d_N_addNumber_76 ?_
            refine lv_ldiv hx hb d_N_addNumber_79 (by decide) ?_
            refine lv_lstore_n hx hb d_N_addNumber_80 rfl hl (by decide) rfl (fun ls hl => ?_)
            have hl : lv_has ls 6 [(2, .long (x / 10)), (0, .ref (ad 4)), (1, .int v), (4, .int (nI d19)), (5, .int (nI ((u12.2.2 0) + i)))] := hl
            refine lv_iinc (k := 4) (v := (nI ((u12.2.2 0) + i)) + (-1)) hx hb d_N_addNumber_81 hl rfl (by rfl) (by decide) rfl (fun ls hl => ?_)
            have hl : lv_has ls 6 [(5, .int ((nI ((u12.2.2 0) + i)) + (-1))), (2, .long (x / 10)), (0, .ref (ad 4)), (1, .int v), (4, .int (nI d19))] := hl
            refine lv_goto (tgt := 48) hx hb d_N_addNumber_84 (by decide) ?_
            exact ih48 i (x / 10) (upd bv ((u12.2.2 0) + i) (vp_nar .byte (((48 + (x - x / 10 * 10)).toInt32).toInt8.toInt32))) H locs ls (by omega) (by omega) (lv_sub hl [2, 3, 1, 4, 0] rfl) hP hD hS
      exact lp48 _ d19 (-v.toInt64) (u12.1 0) H locs ls (Nat.lt_succ_self _) (by omega) (lv_sub hl [3, 4, 2, 1, 0] rfl) hP hD hS
    ·
      have c33 := cd_le_f (by omega) (by omega) c33
      exact W.vret hx hb hr (fun t ht hW => ⟨⟨(fun i => [u12.1 0].getD i (fun _ => 0), fun i => [].getD i 0, fun i => [u12.2.2 0].getD i 0), rfl, (show u12.2.2 0 ≤ 32 by omega), ⟨by rw [ht]; exact hP, va_K.moved hW.alike hK, hD⟩⟩, hS.F ht⟩) hS.2.2 d_N_addNumber_36
set_option maxHeartbeats 4000000 in
set_option maxRecDepth 100000 in
theorem c_N_fillFrom (l : Launch) (dC : Nat → ClassId) (dI : Nat → Nat → Nat) (ad cd : Nat → Nat) (sz : Nat) (w wr fl : Nat → Int32) (pw sc : Int32) (lw rot vb : Nat → Int32) (rec tk : Int32) (live row : Nat → Int32) (cur ser dur wo : Int32) (bts : Nat → Int32) (us : Int32) (act : Nat → Int32) (rd rs : Int32) (n : Nat) (hn1 : 1 ≤ n) (hn2 : n ≤ 48) (hrot : ∀ i, i < 48 → IX 48 (rot i)) : Met l y_N_fillFrom w_N_fillFrom ({ frames := 4, cells := 0, slots := 0, locals := 85 }) (xP (dC, dI) vwCl (xt cd) (xw ad cd w wr fl pw sc lw rot vb rec tk live row cur ser dur wo bts us act rd rs) sz [.ref (ad 4), .ref (ad 3), .int (nI n)]) (va_Qv (fun (u : (Nat → Nat → Int32) × (Nat → Int32) × (Nat → Nat)) => (u.2.2 0) ≤ 32) (fun (u : (Nat → Nat → Int32) × (Nat → Int32) × (Nat → Nat)) (t : State) => xB (dC, dI) vwCl (xt cd) (xA 15 ad sz) (xw ad cd w wr fl pw sc lw rot vb rec tk live row cur ser dur wo (u.1 0) (nI (u.2.2 0)) act rd rs) t) (xA 15 ad sz)) 0 0 (xA 15 ad sz) := by
  refine Met.ofW (cc := b_N_fillFrom) (maxL := 3) (ret := none) (by decide) rfl ?_
  intro P e s m args below meth c0 s₁ B hml hv
  obtain ⟨rfl, hsz, hP, hK, hD0, hN⟩ := hv
  have hx := B.exec
  have hb := B.bytes
  have hr := B.returns
  have hts := atoms_spec (ws := w_N_fillFrom) B.pre
  have hown : s.vm.findClass R_N = some m.cls := findClass_of_methodNamed B.named
  have hlocks := B.notSynchronized
  subst hsz
  have hD := xw_D (sz := s.heap.size) hD0
  have hS : va_S (xA 15 ad s.heap.size) s.heap s.heap [] := va_S.rf
  have hA : ∀ q : Nat, s.heap.size ≤ q → (xA 15 ad s.heap.size) q := fun q h => Or.inr h
  have hl := lv_entry ([.ref (ad 4), .ref (ad 3), .int (nI n)]) (n := 3) (Nat.le_of_ble_eq_true rfl)
  rw [lg_entry_eq]
  generalize (lg_sl ([.ref (ad 4), .ref (ad 3), .int (nI n)]) ++ List.replicate (3 - (lg_sl ([.ref (ad 4), .ref (ad 3), .int (nI n)])).length) Slot.unset).toArray = ls at hl ⊢
  have hl : lv_has ls 3 [(0, .ref (ad 4)), (1, .ref (ad 3)), (2, .int (nI n))] := hl
  refine lv_aload_n hx hb d_N_fillFrom_0 rfl (lv_at hl 0 rfl) ?_
  refine lv_iconst (v := nI 0) hx hb d_N_fillFrom_1 (by decide) ?_
  refine va_put (D := (dC, dI)) (ci := 1) (v := .int (nI 0)) (ty := .int) (C := R_N) (T := F_N) (N := 2) hx hb hts (fun w h => List.mem_cons_of_mem _ (in_N w h)) t_N ok_N nm_N hown hK hP hD hS 4 rfl rfl 1 (by decide) (hts (.fieldLink R_N 13 R_N "used" "I") (List.mem_cons_of_mem _ t_107)) (fun _ h9 => h9) rfl (by decide +kernel) rfl rfl (Nat.le_of_ble_eq_true rfl) d_N_fillFrom_2 (fun H locs hP hD hS => ?_)
  have hP : va_P (dC, dI) vwCl (xw ad cd w wr fl pw sc lw rot vb rec tk live row cur ser dur wo bts (nI 0) act rd rs) H := hP
  have hD : va_D (xA 15 ad s.heap.size) (xw ad cd w wr fl pw sc lw rot vb rec tk live row cur ser dur wo bts (nI 0) act rd rs) := hD
  refine lv_aload_n hx hb d_N_fillFrom_5 rfl (lv_at hl 0 rfl) ?_
  refine lv_iload_n hx hb d_N_fillFrom_6 rfl (lv_at hl 2 rfl) ?_
  have hSz := hS.1
  refine va_callv (va_runV (C := R_N) (As := [.int (nI n)]) (rest := []) ⟨hx, hb, hml, hown, hts⟩ (c_N_addNumber l dC dI ad cd H.size w wr fl pw sc lw rot vb rec tk live row cur ser dur wo bts (nI 0) act rd rs 0 (nI n) (by first | omega | rfl | assumption | decide)) (cwV 1 hts (g_V t_615 t_617 s_19 t_5 t_618) rfl rfl rfl (by decide +kernel) ⟨by decide, by decide⟩) (xP_v hP hK hD hN 4 rfl rfl) rfl rfl hl.1 rfl (lv_room (Nat.le_of_ble_eq_true rfl)) d_N_fillFrom_7 ⟨Nat.le_refl _, Nat.le_refl _⟩) hS (fun q _ h => xA_up hS.1 q h) (fun q h => xA_up hS.1 q h) (fun u7 t H1 locs1 ht hvm q7 hB hz1 hk1 hS => ?_)
  obtain ⟨hP1, hK1, hD1⟩ := hB
  rw [ht] at hP1
  have hD : va_D (xA 15 ad s.heap.size) (xw ad cd w wr fl pw sc lw rot vb rec tk live row cur ser dur wo (u7.1 0) (nI (u7.2.2 0)) act rd rs) := hD1.weaken (fun _ q _ h => xA_up hSz _ h)
  have hP : va_P (dC, dI) vwCl (xw ad cd w wr fl pw sc lw rot vb rec tk live row cur ser dur wo (u7.1 0) (nI (u7.2.2 0)) act rd rs) H1 := hP1
  generalize H1 = H at hP hS ⊢
  generalize locs1 = locs at hS ⊢
  have hus := q7
  refine lv_aload_n hx hb d_N_fillFrom_10 rfl (lv_at hl 0 rfl) ?_
  refine lv_bipush (v := nI 32) hx hb d_N_fillFrom_11 (by decide) ?_
  have hSz := hS.1
  refine va_callv (va_runV (C := R_N) (As := [.int (nI 32)]) (rest := []) ⟨hx, hb, hml, hown, hts⟩ (c_N_addByte l dC dI ad cd H.size w wr fl pw sc lw rot vb rec tk live row cur ser dur wo (u7.1 0) (nI (u7.2.2 0)) act rd rs (u7.2.2 0) (nI 32) (by first | omega | rfl | assumption | decide)) (cwV 1 hts (g_V t_619 t_621 s_20 t_5 t_622) rfl rfl rfl (by decide +kernel) ⟨by decide, by decide⟩) (xP_v hP hK hD hN 4 rfl rfl) rfl rfl hl.1 rfl (lv_room (Nat.le_of_ble_eq_true rfl)) d_N_fillFrom_13 ⟨Nat.le_refl _, Nat.le_refl _⟩) hS (fun q _ h => xA_up hS.1 q h) (fun q h => xA_up hS.1 q h) (fun u13 t H1 locs1 ht hvm q13 hB hz1 hk1 hS => ?_)
  obtain ⟨hP1, hK1, hD1⟩ := hB
  rw [ht] at hP1
  have hD : va_D (xA 15 ad s.heap.size) (xw ad cd w wr fl pw sc lw rot vb rec tk live row cur ser dur wo (u13.1 0) (nI (u13.2.2 0)) act rd rs) := hD1.weaken (fun _ q _ h => xA_up hSz _ h)
  have hP : va_P (dC, dI) vwCl (xw ad cd w wr fl pw sc lw rot vb rec tk live row cur ser dur wo (u13.1 0) (nI (u13.2.2 0)) act rd rs) H1 := hP1
  generalize H1 = H at hP hS ⊢
  generalize locs1 = locs at hS ⊢
  have hus := q13
  refine lv_aload_n hx hb d_N_fillFrom_16 rfl (lv_at hl 0 rfl) ?_
  refine lv_aload_n hx hb d_N_fillFrom_17 rfl (lv_at hl 1 rfl) ?_
  refine lv_iload_n hx hb d_N_fillFrom_18 rfl (lv_at hl 2 rfl) ?_
  refine vp_callSi (va_runV (C := R_G) (As := [.int (nI n)]) (rest := [.ref (ad 4)]) ⟨hx, hb, hml, hown, hts⟩ (c_G_plateOf l dC dI ad cd w wr fl pw sc lw rot vb rec tk live row cur ser dur wo (u13.1 0) (nI (u13.2.2 0)) act rd rs n (by first | omega | rfl | assumption | decide) (by first | omega | rfl | assumption | decide) (by first | omega | rfl | assumption | decide)) (cwV 1 hts (g_V t_628 t_510 t_511 t_4 t_512) rfl rfl rfl (by decide +kernel) ⟨by decide, by decide⟩) (xR_v hP hK hN 3 rfl rfl) rfl rfl hl.1 rfl (lv_room (Nat.le_of_ble_eq_true rfl)) d_N_fillFrom_19 ⟨Nat.le_refl _, Nat.le_refl _⟩).run (fun r19 q19 => ?_)
  have hk19 := q19
  have hSz := hS.1
  refine va_callv (va_runV (C := R_N) (As := [.int r19]) (rest := []) ⟨hx, hb, hml, hown, hts⟩ (c_N_addNumber l dC dI ad cd H.size w wr fl pw sc lw rot vb rec tk live row cur ser dur wo (u13.1 0) (nI (u13.2.2 0)) act rd rs (u13.2.2 0) r19 (by first | omega | rfl | assumption | decide)) (cwV 1 hts (g_V t_615 t_617 s_19 t_5 t_618) rfl rfl rfl (by decide +kernel) ⟨by decide, by decide⟩) (xP_v hP hK hD hN 4 rfl rfl) rfl rfl hl.1 rfl (lv_room (Nat.le_of_ble_eq_true rfl)) d_N_fillFrom_22 ⟨Nat.le_refl _, Nat.le_refl _⟩) hS (fun q _ h => xA_up hS.1 q h) (fun q h => xA_up hS.1 q h) (fun u22 t H1 locs1 ht hvm q22 hB hz1 hk1 hS => ?_)
  obtain ⟨hP1, hK1, hD1⟩ := hB
  rw [ht] at hP1
  have hD : va_D (xA 15 ad s.heap.size) (xw ad cd w wr fl pw sc lw rot vb rec tk live row cur ser dur wo (u22.1 0) (nI (u22.2.2 0)) act rd rs) := hD1.weaken (fun _ q _ h => xA_up hSz _ h)
  have hP : va_P (dC, dI) vwCl (xw ad cd w wr fl pw sc lw rot vb rec tk live row cur ser dur wo (u22.1 0) (nI (u22.2.2 0)) act rd rs) H1 := hP1
  generalize H1 = H at hP hS ⊢
  generalize locs1 = locs at hS ⊢
  have hus := q22
  refine lv_aload_n hx hb d_N_fillFrom_25 rfl (lv_at hl 0 rfl) ?_
  refine lv_bipush (v := nI 32) hx hb d_N_fillFrom_26 (by decide) ?_
  have hSz := hS.1
  refine va_callv (va_runV (C := R_N) (As := [.int (nI 32)]) (rest := []) ⟨hx, hb, hml, hown, hts⟩ (c_N_addByte l dC dI ad cd H.size w wr fl pw sc lw rot vb rec tk live row cur ser dur wo (u22.1 0) (nI (u22.2.2 0)) act rd rs (u22.2.2 0) (nI 32) (by first | omega | rfl | assumption | decide)) (cwV 1 hts (g_V t_619 t_621 s_20 t_5 t_622) rfl rfl rfl (by decide +kernel) ⟨by decide, by decide⟩) (xP_v hP hK hD hN 4 rfl rfl) rfl rfl hl.1 rfl (lv_room (Nat.le_of_ble_eq_true rfl)) d_N_fillFrom_28 ⟨Nat.le_refl _, Nat.le_refl _⟩) hS (fun q _ h => xA_up hS.1 q h) (fun q h => xA_up hS.1 q h) (fun u28 t H1 locs1 ht hvm q28 hB hz1 hk1 hS => ?_)
  obtain ⟨hP1, hK1, hD1⟩ := hB
  rw [ht] at hP1
  have hD : va_D (xA 15 ad s.heap.size) (xw ad cd w wr fl pw sc lw rot vb rec tk live row cur ser dur wo (u28.1 0) (nI (u28.2.2 0)) act rd rs) := hD1.weaken (fun _ q _ h => xA_up hSz _ h)
  have hP : va_P (dC, dI) vwCl (xw ad cd w wr fl pw sc lw rot vb rec tk live row cur ser dur wo (u28.1 0) (nI (u28.2.2 0)) act rd rs) H1 := hP1
  generalize H1 = H at hP hS ⊢
  generalize locs1 = locs at hS ⊢
  have hus := q28
  refine lv_aload_n hx hb d_N_fillFrom_31 rfl (lv_at hl 0 rfl) ?_
  refine lv_aload_n hx hb d_N_fillFrom_32 rfl (lv_at hl 1 rfl) ?_
  refine lv_iload_n hx hb d_N_fillFrom_33 rfl (lv_at hl 2 rfl) ?_
  refine vp_callSi (va_runV (C := R_G) (As := [.int (nI n)]) (rest := [.ref (ad 4)]) ⟨hx, hb, hml, hown, hts⟩ (c_G_netOf l dC dI ad cd w wr fl pw sc lw rot vb rec tk live row cur ser dur wo (u28.1 0) (nI (u28.2.2 0)) act rd rs n (by first | omega | rfl | assumption | decide) (by first | omega | rfl | assumption | decide) (by first | omega | rfl | assumption | decide)) (cwV 1 hts (g_V t_629 t_555 t_556 t_4 t_557) rfl rfl rfl (by decide +kernel) ⟨by decide, by decide⟩) (xR_v hP hK hN 3 rfl rfl) rfl rfl hl.1 rfl (lv_room (Nat.le_of_ble_eq_true rfl)) d_N_fillFrom_34 ⟨Nat.le_refl _, Nat.le_refl _⟩).run (fun r34 q34 => ?_)
  have hk34 := q34
  have hSz := hS.1
  refine va_callv (va_runV (C := R_N) (As := [.int r34]) (rest := []) ⟨hx, hb, hml, hown, hts⟩ (c_N_addNumber l dC dI ad cd H.size w wr fl pw sc lw rot vb rec tk live row cur ser dur wo (u28.1 0) (nI (u28.2.2 0)) act rd rs (u28.2.2 0) r34 (by first | omega | rfl | assumption | decide)) (cwV 1 hts (g_V t_615 t_617 s_19 t_5 t_618) rfl rfl rfl (by decide +kernel) ⟨by decide, by decide⟩) (xP_v hP hK hD hN 4 rfl rfl) rfl rfl hl.1 rfl (lv_room (Nat.le_of_ble_eq_true rfl)) d_N_fillFrom_37 ⟨Nat.le_refl _, Nat.le_refl _⟩) hS (fun q _ h => xA_up hS.1 q h) (fun q h => xA_up hS.1 q h) (fun u37 t H1 locs1 ht hvm q37 hB hz1 hk1 hS => ?_)
  obtain ⟨hP1, hK1, hD1⟩ := hB
  rw [ht] at hP1
  have hD : va_D (xA 15 ad s.heap.size) (xw ad cd w wr fl pw sc lw rot vb rec tk live row cur ser dur wo (u37.1 0) (nI (u37.2.2 0)) act rd rs) := hD1.weaken (fun _ q _ h => xA_up hSz _ h)
  have hP : va_P (dC, dI) vwCl (xw ad cd w wr fl pw sc lw rot vb rec tk live row cur ser dur wo (u37.1 0) (nI (u37.2.2 0)) act rd rs) H1 := hP1
  generalize H1 = H at hP hS ⊢
  generalize locs1 = locs at hS ⊢
  have hus := q37
  refine lv_aload_n hx hb d_N_fillFrom_40 rfl (lv_at hl 0 rfl) ?_
  refine lv_bipush (v := nI 32) hx hb d_N_fillFrom_41 (by decide) ?_
  have hSz := hS.1
  refine va_callv (va_runV (C := R_N) (As := [.int (nI 32)]) (rest := []) ⟨hx, hb, hml, hown, hts⟩ (c_N_addByte l dC dI ad cd H.size w wr fl pw sc lw rot vb rec tk live row cur ser dur wo (u37.1 0) (nI (u37.2.2 0)) act rd rs (u37.2.2 0) (nI 32) (by first | omega | rfl | assumption | decide)) (cwV 1 hts (g_V t_619 t_621 s_20 t_5 t_622) rfl rfl rfl (by decide +kernel) ⟨by decide, by decide⟩) (xP_v hP hK hD hN 4 rfl rfl) rfl rfl hl.1 rfl (lv_room (Nat.le_of_ble_eq_true rfl)) d_N_fillFrom_43 ⟨Nat.le_refl _, Nat.le_refl _⟩) hS (fun q _ h => xA_up hS.1 q h) (fun q h => xA_up hS.1 q h) (fun u43 t H1 locs1 ht hvm q43 hB hz1 hk1 hS => ?_)
  obtain ⟨hP1, hK1, hD1⟩ := hB
  rw [ht] at hP1
  have hD : va_D (xA 15 ad s.heap.size) (xw ad cd w wr fl pw sc lw rot vb rec tk live row cur ser dur wo (u43.1 0) (nI (u43.2.2 0)) act rd rs) := hD1.weaken (fun _ q _ h => xA_up hSz _ h)
  have hP : va_P (dC, dI) vwCl (xw ad cd w wr fl pw sc lw rot vb rec tk live row cur ser dur wo (u43.1 0) (nI (u43.2.2 0)) act rd rs) H1 := hP1
  generalize H1 = H at hP hS ⊢
  generalize locs1 = locs at hS ⊢
  have hus := q43
  refine lv_aload_n hx hb d_N_fillFrom_46 rfl (lv_at hl 0 rfl) ?_
  refine lv_aload_n hx hb d_N_fillFrom_47 rfl (lv_at hl 1 rfl) ?_
  refine lv_iload_n hx hb d_N_fillFrom_48 rfl (lv_at hl 2 rfl) ?_
  refine vp_callSi (va_runV (C := R_G) (As := [.int (nI n)]) (rest := [.ref (ad 4)]) ⟨hx, hb, hml, hown, hts⟩ (c_G_productOf l dC dI ad cd w wr fl pw sc lw rot vb rec tk live row cur ser dur wo (u43.1 0) (nI (u43.2.2 0)) act rd rs n (by first | omega | rfl | assumption | decide) (by first | omega | rfl | assumption | decide) (by first | omega | rfl | assumption | decide)) (cwV 1 hts (g_V t_630 t_531 t_532 t_4 t_533) rfl rfl rfl (by decide +kernel) ⟨by decide, by decide⟩) (xR_v hP hK hN 3 rfl rfl) rfl rfl hl.1 rfl (lv_room (Nat.le_of_ble_eq_true rfl)) d_N_fillFrom_49 ⟨Nat.le_refl _, Nat.le_refl _⟩).run (fun r49 q49 => ?_)
  have hk49 := q49
  have hSz := hS.1
  refine va_callv (va_runV (C := R_N) (As := [.int r49]) (rest := []) ⟨hx, hb, hml, hown, hts⟩ (c_N_addNumber l dC dI ad cd H.size w wr fl pw sc lw rot vb rec tk live row cur ser dur wo (u43.1 0) (nI (u43.2.2 0)) act rd rs (u43.2.2 0) r49 (by first | omega | rfl | assumption | decide)) (cwV 1 hts (g_V t_615 t_617 s_19 t_5 t_618) rfl rfl rfl (by decide +kernel) ⟨by decide, by decide⟩) (xP_v hP hK hD hN 4 rfl rfl) rfl rfl hl.1 rfl (lv_room (Nat.le_of_ble_eq_true rfl)) d_N_fillFrom_52 ⟨Nat.le_refl _, Nat.le_refl _⟩) hS (fun q _ h => xA_up hS.1 q h) (fun q h => xA_up hS.1 q h) (fun u52 t H1 locs1 ht hvm q52 hB hz1 hk1 hS => ?_)
  obtain ⟨hP1, hK1, hD1⟩ := hB
  rw [ht] at hP1
  have hD : va_D (xA 15 ad s.heap.size) (xw ad cd w wr fl pw sc lw rot vb rec tk live row cur ser dur wo (u52.1 0) (nI (u52.2.2 0)) act rd rs) := hD1.weaken (fun _ q _ h => xA_up hSz _ h)
  have hP : va_P (dC, dI) vwCl (xw ad cd w wr fl pw sc lw rot vb rec tk live row cur ser dur wo (u52.1 0) (nI (u52.2.2 0)) act rd rs) H1 := hP1
  generalize H1 = H at hP hS ⊢
  generalize locs1 = locs at hS ⊢
  have hus := q52
  refine lv_aload_n hx hb d_N_fillFrom_55 rfl (lv_at hl 1 rfl) ?_
  refine lv_iload_n hx hb d_N_fillFrom_56 rfl (lv_at hl 2 rfl) ?_
  refine vp_callSi (va_runV (C := R_G) (As := [.int (nI n)]) (rest := []) ⟨hx, hb, hml, hown, hts⟩ (c_G_isVoided l dC dI ad cd w wr fl pw sc lw rot vb rec tk live row cur ser dur wo (u52.1 0) (nI (u52.2.2 0)) act rd rs n (by first | omega | rfl | assumption | decide) (by first | omega | rfl | assumption | decide)) (cwV 1 hts (g_V t_631 t_203 t_204 t_4 t_205) rfl rfl rfl (by decide +kernel) ⟨by decide, by decide⟩) (xR_v hP hK hN 3 rfl rfl) rfl rfl hl.1 rfl (lv_room (Nat.le_of_ble_eq_true rfl)) d_N_fillFrom_57 ⟨Nat.le_refl _, Nat.le_refl _⟩).run (fun r57 q57 => ?_)
  have hk57 := q57
  refine lv_if_eq (tgt := 75) hx hb d_N_fillFrom_60 (by decide) (fun c60 => ?_) (fun c60 => ?_)
  ·
    refine lv_aload_n hx hb d_N_fillFrom_75 rfl (lv_at hl 0 rfl) ?_
    refine lv_bipush (v := nI 10) hx hb d_N_fillFrom_76 (by decide) ?_
    have hSz := hS.1
    refine va_callv (va_runV (C := R_N) (As := [.int (nI 10)]) (rest := []) ⟨hx, hb, hml, hown, hts⟩ (c_N_addByte l dC dI ad cd H.size w wr fl pw sc lw rot vb rec tk live row cur ser dur wo (u52.1 0) (nI (u52.2.2 0)) act rd rs (u52.2.2 0) (nI 10) (by first | omega | rfl | assumption | decide)) (cwV 1 hts (g_V t_619 t_621 s_20 t_5 t_622) rfl rfl rfl (by decide +kernel) ⟨by decide, by decide⟩) (xP_v hP hK hD hN 4 rfl rfl) rfl rfl hl.1 rfl (lv_room (Nat.le_of_ble_eq_true rfl)) d_N_fillFrom_78 ⟨Nat.le_refl _, Nat.le_refl _⟩) hS (fun q _ h => xA_up hS.1 q h) (fun q h => xA_up hS.1 q h) (fun u78 t H1 locs1 ht hvm q78 hB hz1 hk1 hS => ?_)
    obtain ⟨hP1, hK1, hD1⟩ := hB
    rw [ht] at hP1
    have hD : va_D (xA 15 ad s.heap.size) (xw ad cd w wr fl pw sc lw rot vb rec tk live row cur ser dur wo (u78.1 0) (nI (u78.2.2 0)) act rd rs) := hD1.weaken (fun _ q _ h => xA_up hSz _ h)
    have hP : va_P (dC, dI) vwCl (xw ad cd w wr fl pw sc lw rot vb rec tk live row cur ser dur wo (u78.1 0) (nI (u78.2.2 0)) act rd rs) H1 := hP1
    generalize H1 = H at hP hS ⊢
    generalize locs1 = locs at hS ⊢
    have hus := q78
    exact W.vret hx hb hr (fun t ht hW => ⟨⟨(fun i => [u78.1 0].getD i (fun _ => 0), fun i => [].getD i 0, fun i => [u78.2.2 0].getD i 0), rfl, hus, ⟨by rw [ht]; exact hP, va_K.moved hW.alike hK, hD⟩⟩, hS.F ht⟩) hS.2.2 d_N_fillFrom_81
  ·
    refine lv_aload_n hx hb d_N_fillFrom_63 rfl (lv_at hl 0 rfl) ?_
    refine lv_bipush (v := nI 32) hx hb d_N_fillFrom_64 (by decide) ?_
    have hSz := hS.1
    refine va_callv (va_runV (C := R_N) (As := [.int (nI 32)]) (rest := []) ⟨hx, hb, hml, hown, hts⟩ (c_N_addByte l dC dI ad cd H.size w wr fl pw sc lw rot vb rec tk live row cur ser dur wo (u52.1 0) (nI (u52.2.2 0)) act rd rs (u52.2.2 0) (nI 32) (by first | omega | rfl | assumption | decide)) (cwV 1 hts (g_V t_619 t_621 s_20 t_5 t_622) rfl rfl rfl (by decide +kernel) ⟨by decide, by decide⟩) (xP_v hP hK hD hN 4 rfl rfl) rfl rfl hl.1 rfl (lv_room (Nat.le_of_ble_eq_true rfl)) d_N_fillFrom_66 ⟨Nat.le_refl _, Nat.le_refl _⟩) hS (fun q _ h => xA_up hS.1 q h) (fun q h => xA_up hS.1 q h) (fun u66 t H1 locs1 ht hvm q66 hB hz1 hk1 hS => ?_)
    obtain ⟨hP1, hK1, hD1⟩ := hB
    rw [ht] at hP1
    have hD : va_D (xA 15 ad s.heap.size) (xw ad cd w wr fl pw sc lw rot vb rec tk live row cur ser dur wo (u66.1 0) (nI (u66.2.2 0)) act rd rs) := hD1.weaken (fun _ q _ h => xA_up hSz _ h)
    have hP : va_P (dC, dI) vwCl (xw ad cd w wr fl pw sc lw rot vb rec tk live row cur ser dur wo (u66.1 0) (nI (u66.2.2 0)) act rd rs) H1 := hP1
    generalize H1 = H at hP hS ⊢
    generalize locs1 = locs at hS ⊢
    have hus := q66
    refine lv_aload_n hx hb d_N_fillFrom_69 rfl (lv_at hl 0 rfl) ?_
    refine lv_bipush (v := nI 86) hx hb d_N_fillFrom_70 (by decide) ?_
    have hSz := hS.1
    refine va_callv (va_runV (C := R_N) (As := [.int (nI 86)]) (rest := []) ⟨hx, hb, hml, hown, hts⟩ (c_N_addByte l dC dI ad cd H.size w wr fl pw sc lw rot vb rec tk live row cur ser dur wo (u66.1 0) (nI (u66.2.2 0)) act rd rs (u66.2.2 0) (nI 86) (by first | omega | rfl | assumption | decide)) (cwV 1 hts (g_V t_619 t_621 s_20 t_5 t_622) rfl rfl rfl (by decide +kernel) ⟨by decide, by decide⟩) (xP_v hP hK hD hN 4 rfl rfl) rfl rfl hl.1 rfl (lv_room (Nat.le_of_ble_eq_true rfl)) d_N_fillFrom_72 ⟨Nat.le_refl _, Nat.le_refl _⟩) hS (fun q _ h => xA_up hS.1 q h) (fun q h => xA_up hS.1 q h) (fun u72 t H1 locs1 ht hvm q72 hB hz1 hk1 hS => ?_)
    obtain ⟨hP1, hK1, hD1⟩ := hB
    rw [ht] at hP1
    have hD : va_D (xA 15 ad s.heap.size) (xw ad cd w wr fl pw sc lw rot vb rec tk live row cur ser dur wo (u72.1 0) (nI (u72.2.2 0)) act rd rs) := hD1.weaken (fun _ q _ h => xA_up hSz _ h)
    have hP : va_P (dC, dI) vwCl (xw ad cd w wr fl pw sc lw rot vb rec tk live row cur ser dur wo (u72.1 0) (nI (u72.2.2 0)) act rd rs) H1 := hP1
    generalize H1 = H at hP hS ⊢
    generalize locs1 = locs at hS ⊢
    have hus := q72
    refine lv_aload_n hx hb d_N_fillFrom_75 rfl (lv_at hl 0 rfl) ?_
    refine lv_bipush (v := nI 10) hx hb d_N_fillFrom_76 (by decide) ?_
    have hSz := hS.1
    refine va_callv (va_runV (C := R_N) (As := [.int (nI 10)]) (rest := []) ⟨hx, hb, hml, hown, hts⟩ (c_N_addByte l dC dI ad cd H.size w wr fl pw sc lw rot vb rec tk live row cur ser dur wo (u72.1 0) (nI (u72.2.2 0)) act rd rs (u72.2.2 0) (nI 10) (by first | omega | rfl | assumption | decide)) (cwV 1 hts (g_V t_619 t_621 s_20 t_5 t_622) rfl rfl rfl (by decide +kernel) ⟨by decide, by decide⟩) (xP_v hP hK hD hN 4 rfl rfl) rfl rfl hl.1 rfl (lv_room (Nat.le_of_ble_eq_true rfl)) d_N_fillFrom_78 ⟨Nat.le_refl _, Nat.le_refl _⟩) hS (fun q _ h => xA_up hS.1 q h) (fun q h => xA_up hS.1 q h) (fun u78 t H1 locs1 ht hvm q78 hB hz1 hk1 hS => ?_)
    obtain ⟨hP1, hK1, hD1⟩ := hB
    rw [ht] at hP1
    have hD : va_D (xA 15 ad s.heap.size) (xw ad cd w wr fl pw sc lw rot vb rec tk live row cur ser dur wo (u78.1 0) (nI (u78.2.2 0)) act rd rs) := hD1.weaken (fun _ q _ h => xA_up hSz _ h)
    have hP : va_P (dC, dI) vwCl (xw ad cd w wr fl pw sc lw rot vb rec tk live row cur ser dur wo (u78.1 0) (nI (u78.2.2 0)) act rd rs) H1 := hP1
    generalize H1 = H at hP hS ⊢
    generalize locs1 = locs at hS ⊢
    have hus := q78
    exact W.vret hx hb hr (fun t ht hW => ⟨⟨(fun i => [u78.1 0].getD i (fun _ => 0), fun i => [].getD i 0, fun i => [u78.2.2 0].getD i 0), rfl, hus, ⟨by rw [ht]; exact hP, va_K.moved hW.alike hK, hD⟩⟩, hS.F ht⟩) hS.2.2 d_N_fillFrom_81
