set_option maxHeartbeats 4000000 in
set_option maxRecDepth 100000 in
theorem c_S_reclaim (l : Launch) (dC : Nat → ClassId) (dI : Nat → Nat → Nat) (ad cd : Nat → Nat) (sz : Nat) (w wr fl : Nat → Int32) (pw sc : Int32) (lw rot vb : Nat → Int32) (rec tk : Int32) (live row : Nat → Int32) (cur ser dur wo : Int32) (bts : Nat → Int32) (us : Int32) (act : Nat → Int32) (rd rs : Int32) (v : Int32) (hv : PG 8 v) (hpw : B01 pw) (hcu : PG 8 cur) (hwo : B01 wo) : Met l y_S_reclaim w_S_reclaim ({ frames := 2, cells := 0, slots := 0, locals := 44 }) (xP (dC, dI) vwCl (xt cd) (xw ad cd w wr fl pw sc lw rot vb rec tk live row cur ser dur wo bts us act rd rs) sz [.ref (ad 1), .int v]) (va_Qi (fun r (u : (Nat → Nat → Int32) × (Nat → Int32) × (Nat → Nat)) => RO r ∧ B01 (u.2.1 0) ∧ PG 8 (u.2.1 2) ∧ B01 (u.2.1 3)) (fun (u : (Nat → Nat → Int32) × (Nat → Int32) × (Nat → Nat)) (t : State) => xB (dC, dI) vwCl (xt cd) (xA 15 ad sz) (xw ad cd (u.1 0) (u.1 1) fl (u.2.1 0) (u.2.1 1) lw rot vb rec tk live row (u.2.1 2) ser dur (u.2.1 3) bts us act rd rs) t) (xA 15 ad sz)) 0 0 (xA 15 ad sz) := by
  refine Met.ofW (cc := b_S_reclaim) (maxL := 2) (ret := (some (.int))) (by decide) rfl ?_
  intro P e s m args below meth c0 s₁ B hml hv
  obtain ⟨rfl, hsz, hP, hK, hD0, hN⟩ := hv
  have hx := B.exec
  have hb := B.bytes
  have hr := B.returns
  have hts := atoms_spec (ws := w_S_reclaim) B.pre
  have hown : s.vm.findClass R_S = some m.cls := findClass_of_methodNamed B.named
  have hlocks := B.notSynchronized
  subst hsz
  have hD := xw_D (sz := s.heap.size) hD0
  have hS : va_S (xA 15 ad s.heap.size) s.heap s.heap [] := va_S.rf
  have hA : ∀ q : Nat, s.heap.size ≤ q → (xA 15 ad s.heap.size) q := fun q h => Or.inr h
  have hl := lv_entry ([.ref (ad 1), .int v]) (n := 2) (Nat.le_of_ble_eq_true rfl)
  rw [lg_entry_eq]
  generalize (lg_sl ([.ref (ad 1), .int v]) ++ List.replicate (2 - (lg_sl ([.ref (ad 1), .int v])).length) Slot.unset).toArray = ls at hl ⊢
  have hl : lv_has ls 2 [(0, .ref (ad 1)), (1, .int v)] := hl
  rcases hv with rfl | ⟨b, hhb, rfl⟩
  ·
    refine lv_iload_n hx hb d_S_reclaim_0 rfl (lv_at hl 1 rfl) ?_
    refine lv_iconst (v := (-1)) hx hb d_S_reclaim_1 (by decide) ?_
    refine lv_icmp_eq (tgt := 13) hx hb d_S_reclaim_2 (by decide) (fun c2 => ?_) (fun c2 => ?_)
    ·
      refine lv_aload_n hx hb d_S_reclaim_13 rfl (lv_at hl 0 rfl) ?_
      refine lv_iconst (v := nI 1) hx hb d_S_reclaim_14 (by decide) ?_
      refine va_put (D := (dC, dI)) (ci := 3) (v := .int (nI 1)) (ty := .boolean) (C := R_S) (T := F_S) (N := 7) hx hb hts (fun w h => List.mem_cons_of_mem _ (in_S w h)) t_S ok_S nm_S hown hK hP hD hS 1 rfl rfl 6 (by decide) (hts (.fieldLink R_S 35 R_S "wornOut" "Z") (List.mem_cons_of_mem _ t_58)) (fun _ h9 => h9) rfl (by decide +kernel) (by first | rfl | decide | assumption) rfl (Nat.le_of_ble_eq_true rfl) d_S_reclaim_15 (fun H locs hP hD hS => ?_)
      have hP : va_P (dC, dI) vwCl (xw ad cd w wr fl pw sc lw rot vb rec tk live row cur ser dur (nI 1) bts us act rd rs) H := hP
      have hD : va_D (xA 15 ad s.heap.size) (xw ad cd w wr fl pw sc lw rot vb rec tk live row cur ser dur (nI 1) bts us act rd rs) := hD
      refine lv_iconst (v := (-1)) hx hb d_S_reclaim_18 (by decide) ?_
      exact W.iret (v := (-1)) hx hb hr (fun t ht hW => ⟨⟨(-1), (fun i => [w, wr].getD i (fun _ => 0), fun i => [pw, sc, cur, nI 1].getD i 0, fun i => [].getD i 0), rfl, ⟨Or.inr (Or.inl rfl), hpw, hcu, B01.n1⟩, ⟨by rw [ht]; exact hP, va_K.moved hW.alike hK, hD⟩⟩, hS.F ht⟩) hS.2.2 d_S_reclaim_19
    ·
      exact absurd c2 (by decide)
  ·
    refine lv_iload_n hx hb d_S_reclaim_0 rfl (lv_at hl 1 rfl) ?_
    refine lv_iconst (v := (-1)) hx hb d_S_reclaim_1 (by decide) ?_
    refine lv_icmp_eq (tgt := 13) hx hb d_S_reclaim_2 (by decide) (fun c2 => ?_) (fun c2 => ?_)
    ·
      exact absurd c2 (nm_ne (by omega) (by decide))
    ·
      refine lv_aload_n hx hb d_S_reclaim_5 rfl (lv_at hl 0 rfl) ?_
      refine lv_iload_n hx hb d_S_reclaim_6 rfl (lv_at hl 1 rfl) ?_
      refine vp_callSi (va_runV (C := R_S) (As := [.int (nI b)]) (rest := []) ⟨hx, hb, hml, hown, hts⟩ (c_S_hasLivePages l dC dI ad cd w wr fl pw sc lw rot vb rec tk live row cur ser dur wo bts us act rd rs b (by first | omega | rfl | assumption | decide)) (cwV 1 hts (g_V t_424 t_426 s_12 t_2 t_427) rfl rfl rfl (by decide +kernel) ⟨by decide, by decide⟩) (xR_v hP hK hN 1 rfl rfl) rfl rfl hl.1 rfl (lv_room (Nat.le_of_ble_eq_true rfl)) d_S_reclaim_7 ⟨Nat.le_refl _, Nat.le_refl _⟩).run (fun r7 q7 => ?_)
      have hk7 := q7
      refine lv_if_eq (tgt := 20) hx hb d_S_reclaim_10 (by decide) (fun c10 => ?_) (fun c10 => ?_)
      ·
        refine lv_aload_n hx hb d_S_reclaim_20 rfl (lv_at hl 0 rfl) ?_
        refine va_get (D := (dC, dI)) (ci := 3) (v := .ref (ad 2)) (C := R_S) (T := F_S) (N := 7) hx hb hts (fun w h => List.mem_cons_of_mem _ (in_S w h)) hown hK hP 1 rfl rfl 0 (by decide) (hts (.fieldLink R_S 12 R_S "chip" "LWeighRecorder$Chip;") (List.mem_cons_of_mem _ t_52)) (fun _ h9 => h9) rfl d_S_reclaim_21 ?_
        refine lv_iload_n hx hb d_S_reclaim_24 rfl (lv_at hl 1 rfl) ?_
        have hSz := hS.1
        refine va_calli (va_runV (C := R_C) (As := [.int (nI b)]) (rest := []) ⟨hx, hb, hml, hown, hts⟩ (c_C_eraseBlock l dC dI ad cd s.heap.size w wr fl pw sc lw rot vb rec tk live row cur ser dur wo bts us act rd rs b (by first | omega | rfl | assumption | decide) (by first | omega | rfl | assumption | decide)) (cwV 1 hts (g_V t_428 t_429 t_430 t_3 t_431) rfl rfl rfl (by decide +kernel) ⟨by decide, by decide⟩) (xP_v hP hK hD hN 2 rfl rfl) rfl rfl hl.1 rfl (lv_room (Nat.le_of_ble_eq_true rfl)) d_S_reclaim_25 ⟨Nat.le_refl _, Nat.le_refl _⟩) hS (fun q _ h => xA_up hS.1 q h) (fun q h => xA_up hS.1 q h) (fun r25 u25 t H1 locs1 ht hvm q25 hB hz1 hk1 hS => ?_)
        obtain ⟨hP1, hK1, hD1⟩ := hB
        rw [ht] at hP1
        have hD : va_D (xA 15 ad s.heap.size) (xw ad cd (u25.1 0) (u25.1 1) fl (u25.2.1 0) (u25.2.1 1) lw rot vb rec tk live row cur ser dur wo bts us act rd rs) := hD1.weaken (fun _ q _ h => xA_up hSz _ h)
        have hP : va_P (dC, dI) vwCl (xw ad cd (u25.1 0) (u25.1 1) fl (u25.2.1 0) (u25.2.1 1) lw rot vb rec tk live row cur ser dur wo bts us act rd rs) H1 := hP1
        generalize H1 = H at hP hS ⊢
        generalize locs1 = locs at hS ⊢
        obtain ⟨hr25, hpw⟩ := q25
        refine lv_if_ne (tgt := 34) hx hb d_S_reclaim_28 (by decide) (fun c28 => ?_) (fun c28 => ?_)
        ·
          refine lv_aload_n hx hb d_S_reclaim_34 rfl (lv_at hl 0 rfl) ?_
          refine lv_iload_n hx hb d_S_reclaim_35 rfl (lv_at hl 1 rfl) ?_
          refine va_put (D := (dC, dI)) (ci := 3) (v := .int (nI b)) (ty := .int) (C := R_S) (T := F_S) (N := 7) hx hb hts (fun w h => List.mem_cons_of_mem _ (in_S w h)) t_S ok_S nm_S hown hK hP hD hS 1 rfl rfl 3 (by decide) (hts (.fieldLink R_S 25 R_S "cursor" "I") (List.mem_cons_of_mem _ t_55)) (fun _ h9 => h9) rfl (by decide +kernel) rfl rfl (Nat.le_of_ble_eq_true rfl) d_S_reclaim_36 (fun H locs hP hD hS => ?_)
          have hP : va_P (dC, dI) vwCl (xw ad cd (u25.1 0) (u25.1 1) fl (u25.2.1 0) (u25.2.1 1) lw rot vb rec tk live row (nI b) ser dur wo bts us act rd rs) H := hP
          have hD : va_D (xA 15 ad s.heap.size) (xw ad cd (u25.1 0) (u25.1 1) fl (u25.2.1 0) (u25.2.1 1) lw rot vb rec tk live row (nI b) ser dur wo bts us act rd rs) := hD
          refine lv_iconst (v := nI 1) hx hb d_S_reclaim_39 (by decide) ?_
          exact W.iret (v := nI 1) hx hb hr (fun t ht hW => ⟨⟨nI 1, (fun i => [u25.1 0, u25.1 1].getD i (fun _ => 0), fun i => [u25.2.1 0, u25.2.1 1, nI b, wo].getD i 0, fun i => [].getD i 0), rfl, ⟨Or.inl rfl, hpw, PG.of (by omega), hwo⟩, ⟨by rw [ht]; exact hP, va_K.moved hW.alike hK, hD⟩⟩, hS.F ht⟩) hS.2.2 d_S_reclaim_40
        ·
          refine lv_bipush (v := (-2)) hx hb d_S_reclaim_31 (by decide) ?_
          exact W.iret (v := (-2)) hx hb hr (fun t ht hW => ⟨⟨(-2), (fun i => [u25.1 0, u25.1 1].getD i (fun _ => 0), fun i => [u25.2.1 0, u25.2.1 1, cur, wo].getD i 0, fun i => [].getD i 0), rfl, ⟨Or.inr (Or.inr rfl), hpw, hcu, hwo⟩, ⟨by rw [ht]; exact hP, va_K.moved hW.alike hK, hD⟩⟩, hS.F ht⟩) hS.2.2 d_S_reclaim_33
      ·
        refine lv_aload_n hx hb d_S_reclaim_13 rfl (lv_at hl 0 rfl) ?_
        refine lv_iconst (v := nI 1) hx hb d_S_reclaim_14 (by decide) ?_
        refine va_put (D := (dC, dI)) (ci := 3) (v := .int (nI 1)) (ty := .boolean) (C := R_S) (T := F_S) (N := 7) hx hb hts (fun w h => List.mem_cons_of_mem _ (in_S w h)) t_S ok_S nm_S hown hK hP hD hS 1 rfl rfl 6 (by decide) (hts (.fieldLink R_S 35 R_S "wornOut" "Z") (List.mem_cons_of_mem _ t_58)) (fun _ h9 => h9) rfl (by decide +kernel) (by first | rfl | decide | assumption) rfl (Nat.le_of_ble_eq_true rfl) d_S_reclaim_15 (fun H locs hP hD hS => ?_)
        have hP : va_P (dC, dI) vwCl (xw ad cd w wr fl pw sc lw rot vb rec tk live row cur ser dur (nI 1) bts us act rd rs) H := hP
        have hD : va_D (xA 15 ad s.heap.size) (xw ad cd w wr fl pw sc lw rot vb rec tk live row cur ser dur (nI 1) bts us act rd rs) := hD
        refine lv_iconst (v := (-1)) hx hb d_S_reclaim_18 (by decide) ?_
        exact W.iret (v := (-1)) hx hb hr (fun t ht hW => ⟨⟨(-1), (fun i => [w, wr].getD i (fun _ => 0), fun i => [pw, sc, cur, nI 1].getD i 0, fun i => [].getD i 0), rfl, ⟨Or.inr (Or.inl rfl), hpw, hcu, B01.n1⟩, ⟨by rw [ht]; exact hP, va_K.moved hW.alike hK, hD⟩⟩, hS.F ht⟩) hS.2.2 d_S_reclaim_19
set_option maxHeartbeats 4000000 in
set_option maxRecDepth 100000 in
theorem c_S_rewritePage (l : Launch) (dC : Nat → ClassId) (dI : Nat → Nat → Nat) (ad cd : Nat → Nat) (sz : Nat) (w wr fl : Nat → Int32) (pw sc : Int32) (lw rot vb : Nat → Int32) (rec tk : Int32) (live row : Nat → Int32) (cur ser dur wo : Int32) (bts : Nat → Int32) (us : Int32) (act : Nat → Int32) (rd rs : Int32) (pa : Nat) (ta : Nat) (hp : pa < 32) (ht : ta < 32) (hpw : B01 pw) (hlv : ∀ i, i < 16 → PG 32 (live i)) : Met l y_S_rewritePage w_S_rewritePage ({ frames := 2, cells := 0, slots := 0, locals := 44 }) (xP (dC, dI) vwCl (xt cd) (xw ad cd w wr fl pw sc lw rot vb rec tk live row cur ser dur wo bts us act rd rs) sz [.ref (ad 1), .int (nI pa), .int (nI ta)]) (va_Qi (fun r (u : (Nat → Nat → Int32) × (Nat → Int32) × (Nat → Nat)) => B01 r ∧ B01 (u.2.1 0) ∧ ∀ i, i < 16 → PG 32 ((u.1 1) i)) (fun (u : (Nat → Nat → Int32) × (Nat → Int32) × (Nat → Nat)) (t : State) => xB (dC, dI) vwCl (xt cd) (xA 15 ad sz) (xw ad cd (u.1 0) wr fl (u.2.1 0) (u.2.1 1) lw rot vb rec tk (u.1 1) (u.1 2) cur (u.2.1 2) dur wo bts us act rd rs) t) (xA 15 ad sz)) 0 0 (xA 15 ad sz) := by
  refine Met.ofW (cc := b_S_rewritePage) (maxL := 4) (ret := (some (.boolean))) (by decide) rfl ?_
  intro P e s m args below meth c0 s₁ B hml hv
  obtain ⟨rfl, hsz, hP, hK, hD0, hN⟩ := hv
  have hx := B.exec
  have hb := B.bytes
  have hr := B.returns
  have hts := atoms_spec (ws := w_S_rewritePage) B.pre
  have hown : s.vm.findClass R_S = some m.cls := findClass_of_methodNamed B.named
  have hlocks := B.notSynchronized
  subst hsz
  have hD := xw_D (sz := s.heap.size) hD0
  have hS : va_S (xA 15 ad s.heap.size) s.heap s.heap [] := va_S.rf
  have hA : ∀ q : Nat, s.heap.size ≤ q → (xA 15 ad s.heap.size) q := fun q h => Or.inr h
  have hl := lv_entry ([.ref (ad 1), .int (nI pa), .int (nI ta)]) (n := 4) (Nat.le_of_ble_eq_true rfl)
  rw [lg_entry_eq]
  generalize (lg_sl ([.ref (ad 1), .int (nI pa), .int (nI ta)]) ++ List.replicate (4 - (lg_sl ([.ref (ad 1), .int (nI pa), .int (nI ta)])).length) Slot.unset).toArray = ls at hl ⊢
  have hl : lv_has ls 4 [(0, .ref (ad 1)), (1, .int (nI pa)), (2, .int (nI ta))] := hl
  refine lv_iconst (v := nI 0) hx hb d_S_rewritePage_0 (by decide) ?_
  refine lv_istore_n hx hb d_S_rewritePage_1 rfl hl (by decide) rfl (fun ls hl => ?_)
  have hl : lv_has ls 4 [(3, .int (nI 0)), (0, .ref (ad 1)), (1, .int (nI pa)), (2, .int (nI ta))] := hl
  have lp2 : ∀ (n : Nat) (k : Nat) (rv : Nat → Int32) (H : Heap) (locs : List Loc) (ls : Array Slot), (14 - k) < n → (k ≤ 14) → lv_has ls 4 [(0, .ref (ad 1)), (1, .int (nI pa)), (2, .int (nI ta)), (3, .int (nI k))] → va_P (dC, dI) vwCl (xw ad cd w wr fl pw sc lw rot vb rec tk live rv cur ser dur wo bts us act rd rs) H → va_D (xA 15 ad s.heap.size) (xw ad cd w wr fl pw sc lw rot vb rec tk live rv cur ser dur wo bts us act rd rs) → va_S (xA 15 ad s.heap.size) s.heap H locs → W P l e (headSpec w_S_rewritePage ({ frames := 2, cells := 0, slots := 0, locals := 44 })).room s m (([.ref (ad 1), .int (nI pa), .int (nI ta)] : List Value).toArray) below meth c0 H locs 0 0 (MQ below (va_Qi (fun r (u : (Nat → Nat → Int32) × (Nat → Int32) × (Nat → Nat)) => B01 r ∧ B01 (u.2.1 0) ∧ ∀ i, i < 16 → PG 32 ((u.1 1) i)) (fun (u : (Nat → Nat → Int32) × (Nat → Int32) × (Nat → Nat)) (t : State) => xB (dC, dI) vwCl (xt cd) (xA 15 ad s.heap.size) (xw ad cd (u.1 0) wr fl (u.2.1 0) (u.2.1 1) lw rot vb rec tk (u.1 1) (u.1 2) cur (u.2.1 2) dur wo bts us act rd rs) t) (xA 15 ad s.heap.size)) (([.ref (ad 1), .int (nI pa), .int (nI ta)] : List Value).toArray) s 0 0 (xA 15 ad s.heap.size)) (F0 m 2 ls []) := by
    intro n
    induction n with
    | zero => intro k rv H locs ls hm; intros; omega
    | succ n ih2 =>
      intro k rv H locs ls hm hk hl hP hD hS
      refine lv_iload_n hx hb d_S_rewritePage_2 rfl (lv_at hl 3 rfl) ?_
      refine lv_bipush (v := nI 14) hx hb d_S_rewritePage_3 (by decide) ?_
      refine lv_icmp_ge (tgt := 29) hx hb d_S_rewritePage_5 (by decide) (fun c5 => ?_) (fun c5 => ?_)
      ·
        have c5 := cd_ge_t (by omega) (by omega) c5
        refine lv_aload_n hx hb d_S_rewritePage_29 rfl (lv_at hl 0 rfl) ?_
        have hSz := hS.1
        refine va_callv (va_runV (C := R_S) (As := []) (rest := []) ⟨hx, hb, hml, hown, hts⟩ (c_S_sealRow l dC dI ad cd H.size w wr fl pw sc lw rot vb rec tk live rv cur ser dur wo bts us act rd rs  ) (cwV 0 hts (g_V t_448 t_450 s_16 t_2 t_451) rfl rfl rfl (by decide +kernel) ⟨by decide, by decide⟩) (xP_v hP hK hD hN 1 rfl rfl) rfl rfl hl.1 rfl (lv_room (Nat.le_of_ble_eq_true rfl)) d_S_rewritePage_30 ⟨Nat.le_refl _, Nat.le_refl _⟩) hS (fun q _ h => xA_up hS.1 q h) (fun q h => xA_up hS.1 q h) (fun u30 t H1 locs1 ht hvm q30 hB hz1 hk1 hS => ?_)
        obtain ⟨hP1, hK1, hD1⟩ := hB
        rw [ht] at hP1
        have hD : va_D (xA 15 ad s.heap.size) (xw ad cd w wr fl pw sc lw rot vb rec tk live (u30.1 0) cur (u30.2.1 0) dur wo bts us act rd rs) := hD1.weaken (fun _ q _ h => xA_up hSz _ h)
        have hP : va_P (dC, dI) vwCl (xw ad cd w wr fl pw sc lw rot vb rec tk live (u30.1 0) cur (u30.2.1 0) dur wo bts us act rd rs) H1 := hP1
        generalize H1 = H at hP hS ⊢
        generalize locs1 = locs at hS ⊢
        have hk30 := q30
        refine lv_aload_n hx hb d_S_rewritePage_33 rfl (lv_at hl 0 rfl) ?_
        refine va_get (D := (dC, dI)) (ci := 3) (v := .ref (ad 2)) (C := R_S) (T := F_S) (N := 7) hx hb hts (fun w h => List.mem_cons_of_mem _ (in_S w h)) hown hK hP 1 rfl rfl 0 (by decide) (hts (.fieldLink R_S 12 R_S "chip" "LWeighRecorder$Chip;") (List.mem_cons_of_mem _ t_52)) (fun _ h9 => h9) rfl d_S_rewritePage_34 ?_
        refine lv_iload_n hx hb d_S_rewritePage_37 rfl (lv_at hl 2 rfl) ?_
        refine lv_aload_n hx hb d_S_rewritePage_38 rfl (lv_at hl 0 rfl) ?_
        refine va_get (D := (dC, dI)) (ci := 3) (v := .ref (ad 7)) (C := R_S) (T := F_S) (N := 7) hx hb hts (fun w h => List.mem_cons_of_mem _ (in_S w h)) hown hK hP 1 rfl rfl 2 (by decide) (hts (.fieldLink R_S 22 R_S "row" "[I") (List.mem_cons_of_mem _ t_54)) (fun _ h9 => h9) rfl d_S_rewritePage_39 ?_
        have hSz := hS.1
        refine va_calli (va_runV (C := R_C) (As := [.int (nI ta), .ref (ad 7)]) (rest := []) ⟨hx, hb, hml, hown, hts⟩ (c_C_writePage l dC dI ad cd H.size w wr fl pw sc lw rot vb rec tk live (u30.1 0) cur (u30.2.1 0) dur wo bts us act rd rs ta (by first | omega | rfl | assumption | decide) (by first | omega | rfl | assumption | decide)) (cwV 2 hts (g_V t_454 t_455 t_456 t_3 t_457) rfl rfl rfl (by decide +kernel) ⟨by decide, by decide⟩) (xP_v hP hK hD hN 2 rfl rfl) rfl rfl hl.1 rfl (lv_room (Nat.le_of_ble_eq_true rfl)) d_S_rewritePage_42 ⟨Nat.le_refl _, Nat.le_refl _⟩) hS (fun q _ h => xA_up hS.1 q h) (fun q h => xA_up hS.1 q h) (fun r42 u42 t H1 locs1 ht hvm q42 hB hz1 hk1 hS => ?_)
        obtain ⟨hP1, hK1, hD1⟩ := hB
        rw [ht] at hP1
        have hD : va_D (xA 15 ad s.heap.size) (xw ad cd (u42.1 0) wr fl (u42.2.1 0) (u42.2.1 1) lw rot vb rec tk live (u30.1 0) cur (u30.2.1 0) dur wo bts us act rd rs) := hD1.weaken (fun _ q _ h => xA_up hSz _ h)
        have hP : va_P (dC, dI) vwCl (xw ad cd (u42.1 0) wr fl (u42.2.1 0) (u42.2.1 1) lw rot vb rec tk live (u30.1 0) cur (u30.2.1 0) dur wo bts us act rd rs) H1 := hP1
        generalize H1 = H at hP hS ⊢
        generalize locs1 = locs at hS ⊢
        obtain ⟨hr42, hpw⟩ := q42
        refine lv_if_ne (tgt := 50) hx hb d_S_rewritePage_45 (by decide) (fun c45 => ?_) (fun c45 => ?_)
        ·
          refine lv_iconst (v := nI 0) hx hb d_S_rewritePage_50 (by decide) ?_
          refine lv_istore_n hx hb d_S_rewritePage_51 rfl hl (by decide) rfl (fun ls hl => ?_)
          have hl : lv_has ls 4 [(3, .int (nI 0)), (0, .ref (ad 1)), (1, .int (nI pa)), (2, .int (nI ta))] := hl
          have lp52 : ∀ (n : Nat) (k : Nat) (lv : Nat → Int32) (H : Heap) (locs : List Loc) (ls : Array Slot), (16 - k) < n → (k ≤ 16) → (∀ i, i < 16 → PG 32 (lv i)) → lv_has ls 4 [(0, .ref (ad 1)), (1, .int (nI pa)), (2, .int (nI ta)), (3, .int (nI k))] → va_P (dC, dI) vwCl (xw ad cd (u42.1 0) wr fl (u42.2.1 0) (u42.2.1 1) lw rot vb rec tk lv (u30.1 0) cur (u30.2.1 0) dur wo bts us act rd rs) H → va_D (xA 15 ad s.heap.size) (xw ad cd (u42.1 0) wr fl (u42.2.1 0) (u42.2.1 1) lw rot vb rec tk lv (u30.1 0) cur (u30.2.1 0) dur wo bts us act rd rs) → va_S (xA 15 ad s.heap.size) s.heap H locs → W P l e (headSpec w_S_rewritePage ({ frames := 2, cells := 0, slots := 0, locals := 44 })).room s m (([.ref (ad 1), .int (nI pa), .int (nI ta)] : List Value).toArray) below meth c0 H locs 0 0 (MQ below (va_Qi (fun r (u : (Nat → Nat → Int32) × (Nat → Int32) × (Nat → Nat)) => B01 r ∧ B01 (u.2.1 0) ∧ ∀ i, i < 16 → PG 32 ((u.1 1) i)) (fun (u : (Nat → Nat → Int32) × (Nat → Int32) × (Nat → Nat)) (t : State) => xB (dC, dI) vwCl (xt cd) (xA 15 ad s.heap.size) (xw ad cd (u.1 0) wr fl (u.2.1 0) (u.2.1 1) lw rot vb rec tk (u.1 1) (u.1 2) cur (u.2.1 2) dur wo bts us act rd rs) t) (xA 15 ad s.heap.size)) (([.ref (ad 1), .int (nI pa), .int (nI ta)] : List Value).toArray) s 0 0 (xA 15 ad s.heap.size)) (F0 m 52 ls []) := by
            intro n
            induction n with
            | zero => intro k lv H locs ls hm; intros; omega
            | succ n ih52 =>
              intro k lv H locs ls hm hk hlv hl hP hD hS
              refine lv_iload_n hx hb d_S_rewritePage_52 rfl (lv_at hl 3 rfl) ?_
              refine lv_bipush (v := nI 16) hx hb d_S_rewritePage_53 (by decide) ?_
              refine lv_icmp_ge (tgt := 81) hx hb d_S_rewritePage_55 (by decide) (fun c55 => ?_) (fun c55 => ?_)
              ·
                have c55 := cd_ge_t (by omega) (by omega) c55
                refine lv_iconst (v := nI 1) hx hb d_S_rewritePage_81 (by decide) ?_
                exact W.zret (v := nI 1) hx hb hr (by first | rfl | decide | assumption) (fun t ht hW => ⟨⟨nI 1, (fun i => [u42.1 0, lv, u30.1 0].getD i (fun _ => 0), fun i => [u42.2.1 0, u42.2.1 1, u30.2.1 0].getD i 0, fun i => [].getD i 0), rfl, ⟨by first | exact Or.inl rfl | exact Or.inr rfl, hpw, hlv⟩, ⟨by rw [ht]; exact hP, va_K.moved hW.alike hK, hD⟩⟩, hS.F ht⟩) hS.2.2 d_S_rewritePage_82
              ·
                have c55 := cd_ge_f (by omega) (by omega) c55
                refine lv_aload_n hx hb d_S_rewritePage_58 rfl (lv_at hl 0 rfl) ?_
                refine va_get (D := (dC, dI)) (ci := 3) (v := .ref (ad 6)) (C := R_S) (T := F_S) (N := 7) hx hb hts (fun w h => List.mem_cons_of_mem _ (in_S w h)) hown hK hP 1 rfl rfl 1 (by decide) (hts (.fieldLink R_S 18 R_S "livePages" "[I") (List.mem_cons_of_mem _ t_53)) (fun _ h9 => h9) rfl d_S_rewritePage_59 ?_
                refine lv_iload_n hx hb d_S_rewritePage_62 rfl (lv_at hl 3 rfl) ?_
                refine va_iald hx hb hK hP 6 1 rfl rfl (vp_in_nI (by omega) (by decide)) d_S_rewritePage_63 ?_
                refine tp_i (y := lv k) (by rw [nI_clamp (by omega)]) ?_
                refine lv_iload_n hx hb d_S_rewritePage_64 rfl (lv_at hl 1 rfl) ?_
                refine lv_icmp_ne (tgt := 75) hx hb d_S_rewritePage_65 (by decide) (fun c65 => ?_) (fun c65 => ?_)
                ·
                  refine lv_iinc (k := 3) (v := nI (k + 1)) hx hb d_S_rewritePage_75 hl rfl (nI_1 _) (by decide) rfl (fun ls hl => ?_)
                  have hl : lv_has ls 4 [(3, .int (nI (k + 1))), (0, .ref (ad 1)), (1, .int (nI pa)), (2, .int (nI ta))] := hl
                  refine lv_goto (tgt := 52) hx hb d_S_rewritePage_78 (by decide) ?_
                  exact ih52 (k + 1) lv H locs ls (by omega) (by omega) (by first | exact hlv | exact PG_upd hlv (PG.of (by omega))) (lv_sub hl [1, 2, 3, 0] rfl) hP hD hS
                ·
                  refine lv_aload_n hx hb d_S_rewritePage_68 rfl (lv_at hl 0 rfl) ?_
                  refine va_get (D := (dC, dI)) (ci := 3) (v := .ref (ad 6)) (C := R_S) (T := F_S) (N := 7) hx hb hts (fun w h => List.mem_cons_of_mem _ (in_S w h)) hown hK hP 1 rfl rfl 1 (by decide) (hts (.fieldLink R_S 18 R_S "livePages" "[I") (List.mem_cons_of_mem _ t_53)) (fun _ h9 => h9) rfl d_S_rewritePage_69 ?_
                  refine lv_iload_n hx hb d_S_rewritePage_72 rfl (lv_at hl 3 rfl) ?_
                  refine lv_iload_n hx hb d_S_rewritePage_73 rfl (lv_at hl 2 rfl) ?_
                  refine va_iast hx hb hK hP hD hS 6 1 rfl rfl (vp_in_nI (by omega) (by decide)) d_S_rewritePage_74 (fun H locs hP hD hS => ?_)
                  rw [nI_clamp (by omega)] at hP hD
                  have hP : va_P (dC, dI) vwCl (xw ad cd (u42.1 0) wr fl (u42.2.1 0) (u42.2.1 1) lw rot vb rec tk (upd lv k (nI ta)) (u30.1 0) cur (u30.2.1 0) dur wo bts us act rd rs) H := hP
                  have hD : va_D (xA 15 ad s.heap.size) (xw ad cd (u42.1 0) wr fl (u42.2.1 0) (u42.2.1 1) lw rot vb rec tk (upd lv k (nI ta)) (u30.1 0) cur (u30.2.1 0) dur wo bts us act rd rs) := hD
                  refine lv_iinc (k := 3) (v := nI (k + 1)) hx hb d_S_rewritePage_75 hl rfl (nI_1 _) (by decide) rfl (fun ls hl => ?_)
                  have hl : lv_has ls 4 [(3, .int (nI (k + 1))), (0, .ref (ad 1)), (1, .int (nI pa)), (2, .int (nI ta))] := hl
                  refine lv_goto (tgt := 52) hx hb d_S_rewritePage_78 (by decide) ?_
                  exact ih52 (k + 1) (upd lv k (nI ta)) H locs ls (by omega) (by omega) (by first | exact hlv | exact PG_upd hlv (PG.of (by omega))) (lv_sub hl [1, 2, 3, 0] rfl) hP hD hS
          exact lp52 _ 0 live H locs ls (Nat.lt_succ_self _) (by omega) hlv (lv_sub hl [1, 2, 3, 0] rfl) hP hD hS
        ·
          refine lv_iconst (v := nI 0) hx hb d_S_rewritePage_48 (by decide) ?_
          exact W.zret (v := nI 0) hx hb hr (by first | rfl | decide | assumption) (fun t ht hW => ⟨⟨nI 0, (fun i => [u42.1 0, live, u30.1 0].getD i (fun _ => 0), fun i => [u42.2.1 0, u42.2.1 1, u30.2.1 0].getD i 0, fun i => [].getD i 0), rfl, ⟨by first | exact Or.inl rfl | exact Or.inr rfl, hpw, hlv⟩, ⟨by rw [ht]; exact hP, va_K.moved hW.alike hK, hD⟩⟩, hS.F ht⟩) hS.2.2 d_S_rewritePage_49
      ·
        have c5 := cd_ge_f (by omega) (by omega) c5
        refine lv_aload_n hx hb d_S_rewritePage_8 rfl (lv_at hl 0 rfl) ?_
        refine va_get (D := (dC, dI)) (ci := 3) (v := .ref (ad 7)) (C := R_S) (T := F_S) (N := 7) hx hb hts (fun w h => List.mem_cons_of_mem _ (in_S w h)) hown hK hP 1 rfl rfl 2 (by decide) (hts (.fieldLink R_S 22 R_S "row" "[I") (List.mem_cons_of_mem _ t_54)) (fun _ h9 => h9) rfl d_S_rewritePage_9 ?_
        refine lv_iload_n hx hb d_S_rewritePage_12 rfl (lv_at hl 3 rfl) ?_
        refine lv_aload_n hx hb d_S_rewritePage_13 rfl (lv_at hl 0 rfl) ?_
        refine va_get (D := (dC, dI)) (ci := 3) (v := .ref (ad 2)) (C := R_S) (T := F_S) (N := 7) hx hb hts (fun w h => List.mem_cons_of_mem _ (in_S w h)) hown hK hP 1 rfl rfl 0 (by decide) (hts (.fieldLink R_S 12 R_S "chip" "LWeighRecorder$Chip;") (List.mem_cons_of_mem _ t_52)) (fun _ h9 => h9) rfl d_S_rewritePage_14 ?_
        refine lv_iload_n hx hb d_S_rewritePage_17 rfl (lv_at hl 1 rfl) ?_
        refine lv_iload_n hx hb d_S_rewritePage_18 rfl (lv_at hl 3 rfl) ?_
        refine vp_callSi (va_runV (C := R_C) (As := [.int (nI pa), .int (nI k)]) (rest := [.int (nI k), .ref (ad 7)]) ⟨hx, hb, hml, hown, hts⟩ (c_C_read l dC dI ad cd w wr fl pw sc lw rot vb rec tk live rv cur ser dur wo bts us act rd rs pa k (by first | omega | rfl | assumption | decide) (by first | omega | rfl | assumption | decide)) (cwV 2 hts (g_V t_173 t_165 t_166 t_3 t_167) rfl rfl rfl (by decide +kernel) ⟨by decide, by decide⟩) (xR_v hP hK hN 2 rfl rfl) rfl rfl hl.1 rfl (lv_room (Nat.le_of_ble_eq_true rfl)) d_S_rewritePage_19 ⟨Nat.le_refl _, Nat.le_refl _⟩).run (fun r19 q19 => ?_)
        have q19 := q19.symm
        subst q19
        refine va_iast hx hb hK hP hD hS 7 2 rfl rfl (vp_in_nI (by omega) (by decide)) d_S_rewritePage_22 (fun H locs hP hD hS => ?_)
        rw [nI_clamp (by omega)] at hP hD
        have hP : va_P (dC, dI) vwCl (xw ad cd w wr fl pw sc lw rot vb rec tk live (upd rv k (w (16 * pa + k))) cur ser dur wo bts us act rd rs) H := hP
        have hD : va_D (xA 15 ad s.heap.size) (xw ad cd w wr fl pw sc lw rot vb rec tk live (upd rv k (w (16 * pa + k))) cur ser dur wo bts us act rd rs) := hD
        refine lv_iinc (k := 3) (v := nI (k + 1)) hx hb d_S_rewritePage_23 hl rfl (nI_1 _) (by decide) rfl (fun ls hl => ?_)
        have hl : lv_has ls 4 [(3, .int (nI (k + 1))), (0, .ref (ad 1)), (1, .int (nI pa)), (2, .int (nI ta))] := hl
        refine lv_goto (tgt := 2) hx hb d_S_rewritePage_26 (by decide) ?_
        exact ih2 (k + 1) (upd rv k (w (16 * pa + k))) H locs ls (by omega) (by omega) (lv_sub hl [1, 2, 3, 0] rfl) hP hD hS
  exact lp2 _ 0 row s.heap [] ls (Nat.lt_succ_self _) (by omega) (lv_sub hl [1, 2, 3, 0] rfl) hP hD hS
set_option maxHeartbeats 4000000 in
set_option maxRecDepth 100000 in
theorem c_S_evacuate (l : Launch) (dC : Nat → ClassId) (dI : Nat → Nat → Nat) (ad cd : Nat → Nat) (sz : Nat) (w wr fl : Nat → Int32) (pw sc : Int32) (lw rot vb : Nat → Int32) (rec tk : Int32) (live row : Nat → Int32) (cur ser dur wo : Int32) (bts : Nat → Int32) (us : Int32) (act : Nat → Int32) (rd rs : Int32) (cn : Nat) (v : Int32) (hv : PG 8 v) (hc8 : cn < 8) (hpw : B01 pw) (hlv : ∀ i, i < 16 → PG 32 (live i)) : Met l y_S_evacuate w_S_evacuate ({ frames := 3, cells := 0, slots := 0, locals := 67 }) (xP (dC, dI) vwCl (xt cd) (xw ad cd w wr fl pw sc lw rot vb rec tk live row (nI cn) ser dur wo bts us act rd rs) sz [.ref (ad 1), .int v]) (va_Qi (fun r (u : (Nat → Nat → Int32) × (Nat → Int32) × (Nat → Nat)) => RO r ∧ B01 (u.2.1 0) ∧ ∀ i, i < 16 → PG 32 ((u.1 2) i)) (fun (u : (Nat → Nat → Int32) × (Nat → Int32) × (Nat → Nat)) (t : State) => xB (dC, dI) vwCl (xt cd) (xA 15 ad sz) (xw ad cd (u.1 0) (u.1 1) fl (u.2.1 0) (u.2.1 1) lw rot vb rec tk (u.1 2) (u.1 3) (nI cn) (u.2.1 2) dur wo bts us act rd rs) t) (xA 15 ad sz)) 0 0 (xA 15 ad sz) := by
  refine Met.ofW (cc := b_S_evacuate) (maxL := 4) (ret := (some (.int))) (by decide) rfl ?_
  intro P e s m args below meth c0 s₁ B hml hv
  obtain ⟨rfl, hsz, hP, hK, hD0, hN⟩ := hv
  have hx := B.exec
  have hb := B.bytes
  have hr := B.returns
  have hts := atoms_spec (ws := w_S_evacuate) B.pre
  have hown : s.vm.findClass R_S = some m.cls := findClass_of_methodNamed B.named
  have hlocks := B.notSynchronized
  subst hsz
  have hD := xw_D (sz := s.heap.size) hD0
  have hS : va_S (xA 15 ad s.heap.size) s.heap s.heap [] := va_S.rf
  have hA : ∀ q : Nat, s.heap.size ≤ q → (xA 15 ad s.heap.size) q := fun q h => Or.inr h
  have hl := lv_entry ([.ref (ad 1), .int v]) (n := 4) (Nat.le_of_ble_eq_true rfl)
  rw [lg_entry_eq]
  generalize (lg_sl ([.ref (ad 1), .int v]) ++ List.replicate (4 - (lg_sl ([.ref (ad 1), .int v])).length) Slot.unset).toArray = ls at hl ⊢
  have hl : lv_has ls 4 [(0, .ref (ad 1)), (1, .int v)] := hl
  rcases hv with rfl | ⟨b, hhb, rfl⟩
  ·
    refine lv_iload_n hx hb d_S_evacuate_0 rfl (lv_at hl 1 rfl) ?_
    refine lv_iconst (v := (-1)) hx hb d_S_evacuate_1 (by decide) ?_
    refine lv_icmp_ne (tgt := 7) hx hb d_S_evacuate_2 (by decide) (fun c2 => ?_) (fun c2 => ?_)
    ·
      exact absurd c2 (by decide)
    ·
      refine lv_iconst (v := nI 1) hx hb d_S_evacuate_5 (by decide) ?_
      exact W.iret (v := nI 1) hx hb hr (fun t ht hW => ⟨⟨nI 1, (fun i => [w, wr, live, row].getD i (fun _ => 0), fun i => [pw, sc, ser].getD i 0, fun i => [].getD i 0), rfl, ⟨Or.inl rfl, hpw, hlv⟩, ⟨by rw [ht]; exact hP, va_K.moved hW.alike hK, hD⟩⟩, hS.F ht⟩) hS.2.2 d_S_evacuate_6
  ·
    refine lv_iload_n hx hb d_S_evacuate_0 rfl (lv_at hl 1 rfl) ?_
    refine lv_iconst (v := (-1)) hx hb d_S_evacuate_1 (by decide) ?_
    refine lv_icmp_ne (tgt := 7) hx hb d_S_evacuate_2 (by decide) (fun c2 => ?_) (fun c2 => ?_)
    ·
      refine lv_aload_n hx hb d_S_evacuate_7 rfl (lv_at hl 0 rfl) ?_
      refine va_get (D := (dC, dI)) (ci := 3) (v := .int (nI cn)) (C := R_S) (T := F_S) (N := 7) hx hb hts (fun w h => List.mem_cons_of_mem _ (in_S w h)) hown hK hP 1 rfl rfl 3 (by decide) (hts (.fieldLink R_S 25 R_S "cursor" "I") (List.mem_cons_of_mem _ t_55)) (fun _ h9 => h9) rfl d_S_evacuate_8 ?_
      refine lv_iconst (v := nI 4) hx hb d_S_evacuate_11 (by decide) ?_
      refine lv_imul hx hb d_S_evacuate_12 ?_
      refine tp_i (y := nI (cn * 4)) (pk_mul _ _) ?_
      refine lv_istore_n hx hb d_S_evacuate_13 rfl hl (by decide) rfl (fun ls hl => ?_)
      have hl : lv_has ls 4 [(2, .int (nI (cn * 4))), (0, .ref (ad 1)), (1, .int (nI b))] := hl
      refine lv_iload_n hx hb d_S_evacuate_14 rfl (lv_at hl 2 rfl) ?_
      refine lv_iconst (v := nI 4) hx hb d_S_evacuate_15 (by decide) ?_
      refine lv_imul hx hb d_S_evacuate_16 ?_
      refine tp_i (y := nI (b * 4)) (pk_mul _ _) ?_
      refine lv_istore_n hx hb d_S_evacuate_17 rfl hl (by decide) rfl (fun ls hl => ?_)
      have hl : lv_has ls 4 [(3, .int (nI (b * 4))), (2, .int (nI (cn * 4))), (0, .ref (ad 1)), (1, .int (nI b))] := hl
      have lp18 : ∀ (n : Nat) (k : Nat) (j : Nat) (wv : Nat → Int32) (pv : Int32) (sv : Int32) (lv : Nat → Int32) (rv : Nat → Int32) (ev : Int32) (H : Heap) (locs : List Loc) (ls : Array Slot), (4 - k) < n → (k ≤ 4) → (j ≤ k) → (B01 pv) → (∀ i, i < 16 → PG 32 (lv i)) → lv_has ls 4 [(0, .ref (ad 1)), (1, .int (nI b)), (2, .int (nI (cn * 4 + j))), (3, .int (nI (b * 4 + k)))] → va_P (dC, dI) vwCl (xw ad cd wv wr fl pv sv lw rot vb rec tk lv rv (nI cn) ev dur wo bts us act rd rs) H → va_D (xA 15 ad s.heap.size) (xw ad cd wv wr fl pv sv lw rot vb rec tk lv rv (nI cn) ev dur wo bts us act rd rs) → va_S (xA 15 ad s.heap.size) s.heap H locs → W P l e (headSpec w_S_evacuate ({ frames := 3, cells := 0, slots := 0, locals := 67 })).room s m (([.ref (ad 1), .int (nI b)] : List Value).toArray) below meth c0 H locs 0 0 (MQ below (va_Qi (fun r (u : (Nat → Nat → Int32) × (Nat → Int32) × (Nat → Nat)) => RO r ∧ B01 (u.2.1 0) ∧ ∀ i, i < 16 → PG 32 ((u.1 2) i)) (fun (u : (Nat → Nat → Int32) × (Nat → Int32) × (Nat → Nat)) (t : State) => xB (dC, dI) vwCl (xt cd) (xA 15 ad s.heap.size) (xw ad cd (u.1 0) (u.1 1) fl (u.2.1 0) (u.2.1 1) lw rot vb rec tk (u.1 2) (u.1 3) (nI cn) (u.2.1 2) dur wo bts us act rd rs) t) (xA 15 ad s.heap.size)) (([.ref (ad 1), .int (nI b)] : List Value).toArray) s 0 0 (xA 15 ad s.heap.size)) (F0 m 18 ls []) := by
        intro n
        induction n with
        | zero => intro k j wv pv sv lv rv ev H locs ls hm; intros; omega
        | succ n ih18 =>
          intro k j wv pv sv lv rv ev H locs ls hm hk hj hpw hlv hl hP hD hS
          refine lv_iload_n hx hb d_S_evacuate_18 rfl (lv_at hl 3 rfl) ?_
          refine lv_iload_n hx hb d_S_evacuate_19 rfl (lv_at hl 1 rfl) ?_
          refine lv_iconst (v := nI 1) hx hb d_S_evacuate_20 (by decide) ?_
          refine lv_iadd hx hb d_S_evacuate_21 ?_
          refine tp_i (y := nI (b + 1)) (nI_add _ _) ?_
          refine lv_iconst (v := nI 4) hx hb d_S_evacuate_22 (by decide) ?_
          refine lv_imul hx hb d_S_evacuate_23 ?_
          refine tp_i (y := nI ((b + 1) * 4)) (pk_mul _ _) ?_
          refine lv_icmp_ge (tgt := 56) hx hb d_S_evacuate_24 (by decide) (fun c24 => ?_) (fun c24 => ?_)
          ·
            have c24 := cd_ge_t (by omega) (by omega) c24
            refine lv_aload_n hx hb d_S_evacuate_56 rfl (lv_at hl 0 rfl) ?_
            refine va_get (D := (dC, dI)) (ci := 3) (v := .ref (ad 2)) (C := R_S) (T := F_S) (N := 7) hx hb hts (fun w h => List.mem_cons_of_mem _ (in_S w h)) hown hK hP 1 rfl rfl 0 (by decide) (hts (.fieldLink R_S 12 R_S "chip" "LWeighRecorder$Chip;") (List.mem_cons_of_mem _ t_52)) (fun _ h9 => h9) rfl d_S_evacuate_57 ?_
            refine lv_iload_n hx hb d_S_evacuate_60 rfl (lv_at hl 1 rfl) ?_
            have hSz := hS.1
            refine va_calli (va_runV (C := R_C) (As := [.int (nI b)]) (rest := []) ⟨hx, hb, hml, hown, hts⟩ (c_C_eraseBlock l dC dI ad cd H.size wv wr fl pv sv lw rot vb rec tk lv rv (nI cn) ev dur wo bts us act rd rs b (by first | omega | rfl | assumption | decide) (by first | omega | rfl | assumption | decide)) (cwV 1 hts (g_V t_428 t_429 t_430 t_3 t_431) rfl rfl rfl (by decide +kernel) ⟨by decide, by decide⟩) (xP_v hP hK hD hN 2 rfl rfl) rfl rfl hl.1 rfl (lv_room (Nat.le_of_ble_eq_true rfl)) d_S_evacuate_61 ⟨Nat.le_refl _, Nat.le_refl _⟩) hS (fun q _ h => xA_up hS.1 q h) (fun q h => xA_up hS.1 q h) (fun r61 u61 t H1 locs1 ht hvm q61 hB hz1 hk1 hS => ?_)
            obtain ⟨hP1, hK1, hD1⟩ := hB
            rw [ht] at hP1
            have hD : va_D (xA 15 ad s.heap.size) (xw ad cd (u61.1 0) (u61.1 1) fl (u61.2.1 0) (u61.2.1 1) lw rot vb rec tk lv rv (nI cn) ev dur wo bts us act rd rs) := hD1.weaken (fun _ q _ h => xA_up hSz _ h)
            have hP : va_P (dC, dI) vwCl (xw ad cd (u61.1 0) (u61.1 1) fl (u61.2.1 0) (u61.2.1 1) lw rot vb rec tk lv rv (nI cn) ev dur wo bts us act rd rs) H1 := hP1
            generalize H1 = H at hP hS ⊢
            generalize locs1 = locs at hS ⊢
            obtain ⟨hr61, hpw⟩ := q61
            refine lv_if_eq (tgt := 71) hx hb d_S_evacuate_64 (by decide) (fun c64 => ?_) (fun c64 => ?_)
            ·
              refine lv_bipush (v := (-2)) hx hb d_S_evacuate_71 (by decide) ?_
              exact W.iret (v := (-2)) hx hb hr (fun t ht hW => ⟨⟨(-2), (fun i => [u61.1 0, u61.1 1, lv, rv].getD i (fun _ => 0), fun i => [u61.2.1 0, u61.2.1 1, ev].getD i 0, fun i => [].getD i 0), rfl, ⟨Or.inr (Or.inr rfl), hpw, hlv⟩, ⟨by rw [ht]; exact hP, va_K.moved hW.alike hK, hD⟩⟩, hS.F ht⟩) hS.2.2 d_S_evacuate_73
            ·
              refine lv_iconst (v := nI 1) hx hb d_S_evacuate_67 (by decide) ?_
              refine lv_goto (tgt := 73) hx hb d_S_evacuate_68 (by decide) ?_
              exact W.iret (v := nI 1) hx hb hr (fun t ht hW => ⟨⟨nI 1, (fun i => [u61.1 0, u61.1 1, lv, rv].getD i (fun _ => 0), fun i => [u61.2.1 0, u61.2.1 1, ev].getD i 0, fun i => [].getD i 0), rfl, ⟨Or.inl rfl, hpw, hlv⟩, ⟨by rw [ht]; exact hP, va_K.moved hW.alike hK, hD⟩⟩, hS.F ht⟩) hS.2.2 d_S_evacuate_73
          ·
            have c24 := cd_ge_f (by omega) (by omega) c24
            refine lv_aload_n hx hb d_S_evacuate_27 rfl (lv_at hl 0 rfl) ?_
            refine lv_iload_n hx hb d_S_evacuate_28 rfl (lv_at hl 3 rfl) ?_
            refine vp_callSi (va_runV (C := R_S) (As := [.int (nI (b * 4 + k))]) (rest := []) ⟨hx, hb, hml, hown, hts⟩ (c_S_isLive l dC dI ad cd wv wr fl pv sv lw rot vb rec tk lv rv (nI cn) ev dur wo bts us act rd rs (b * 4 + k) (by first | omega | rfl | assumption | decide)) (cwV 1 hts (g_V t_238 t_240 s_5 t_2 t_241) rfl rfl rfl (by decide +kernel) ⟨by decide, by decide⟩) (xR_v hP hK hN 1 rfl rfl) rfl rfl hl.1 rfl (lv_room (Nat.le_of_ble_eq_true rfl)) d_S_evacuate_29 ⟨Nat.le_refl _, Nat.le_refl _⟩).run (fun r29 q29 => ?_)
            have hk29 := q29
            refine lv_if_eq (tgt := 50) hx hb d_S_evacuate_32 (by decide) (fun c32 => ?_) (fun c32 => ?_)
            ·
              refine lv_iinc (k := 3) (v := nI ((b * 4 + k) + 1)) hx hb d_S_evacuate_50 hl rfl (nI_1 _) (by decide) rfl (fun ls hl => ?_)
              have hl : lv_has ls 4 [(3, .int (nI ((b * 4 + k) + 1))), (0, .ref (ad 1)), (1, .int (nI b)), (2, .int (nI (cn * 4 + j)))] := hl
              refine lv_goto (tgt := 18) hx hb d_S_evacuate_53 (by decide) ?_
              exact ih18 (k + 1) j wv pv sv lv rv ev H locs ls (by omega) (by omega) (by omega) hpw hlv (lv_sub hl [1, 2, 3, 0] rfl) hP hD hS
            ·
              refine lv_aload_n hx hb d_S_evacuate_35 rfl (lv_at hl 0 rfl) ?_
              refine lv_iload_n hx hb d_S_evacuate_36 rfl (lv_at hl 3 rfl) ?_
              refine lv_iload_n hx hb d_S_evacuate_37 rfl (lv_at hl 2 rfl) ?_
              have hSz := hS.1
              refine va_calli (va_runV (C := R_S) (As := [.int (nI (b * 4 + k)), .int (nI (cn * 4 + j))]) (rest := []) ⟨hx, hb, hml, hown, hts⟩ (c_S_rewritePage l dC dI ad cd H.size wv wr fl pv sv lw rot vb rec tk lv rv (nI cn) ev dur wo bts us act rd rs (b * 4 + k) (cn * 4 + j) (by first | omega | rfl | assumption | decide) (by first | omega | rfl | assumption | decide) (by first | omega | rfl | assumption | decide) (by first | omega | rfl | assumption | decide)) (cwV 2 hts (g_V t_444 t_446 s_15 t_2 t_447) rfl rfl rfl (by decide +kernel) ⟨by decide, by decide⟩) (xP_v hP hK hD hN 1 rfl rfl) rfl rfl hl.1 rfl (lv_room (Nat.le_of_ble_eq_true rfl)) d_S_evacuate_38 ⟨Nat.le_refl _, Nat.le_refl _⟩) hS (fun q _ h => xA_up hS.1 q h) (fun q h => xA_up hS.1 q h) (fun r38 u38 t H1 locs1 ht hvm q38 hB hz1 hk1 hS => ?_)
              obtain ⟨hP1, hK1, hD1⟩ := hB
              rw [ht] at hP1
              have hD : va_D (xA 15 ad s.heap.size) (xw ad cd (u38.1 0) wr fl (u38.2.1 0) (u38.2.1 1) lw rot vb rec tk (u38.1 1) (u38.1 2) (nI cn) (u38.2.1 2) dur wo bts us act rd rs) := hD1.weaken (fun _ q _ h => xA_up hSz _ h)
              have hP : va_P (dC, dI) vwCl (xw ad cd (u38.1 0) wr fl (u38.2.1 0) (u38.2.1 1) lw rot vb rec tk (u38.1 1) (u38.1 2) (nI cn) (u38.2.1 2) dur wo bts us act rd rs) H1 := hP1
              generalize H1 = H at hP hS ⊢
              generalize locs1 = locs at hS ⊢
              obtain ⟨hr38, hpw, hlv⟩ := q38
              refine lv_if_ne (tgt := 47) hx hb d_S_evacuate_41 (by decide) (fun c41 => ?_) (fun c41 => ?_)
              ·
                refine lv_iinc (k := 2) (v := nI ((cn * 4 + j) + 1)) hx hb d_S_evacuate_47 hl rfl (nI_1 _) (by decide) rfl (fun ls hl => ?_)
                have hl : lv_has ls 4 [(2, .int (nI ((cn * 4 + j) + 1))), (0, .ref (ad 1)), (1, .int (nI b)), (3, .int (nI (b * 4 + k)))] := hl
                refine lv_iinc (k := 3) (v := nI ((b * 4 + k) + 1)) hx hb d_S_evacuate_50 hl rfl (nI_1 _) (by decide) rfl (fun ls hl => ?_)
                have hl : lv_has ls 4 [(3, .int (nI ((b * 4 + k) + 1))), (2, .int (nI ((cn * 4 + j) + 1))), (0, .ref (ad 1)), (1, .int (nI b))] := hl
                refine lv_goto (tgt := 18) hx hb d_S_evacuate_53 (by decide) ?_
                exact ih18 (k + 1) (j + 1) (u38.1 0) (u38.2.1 0) (u38.2.1 1) (u38.1 1) (u38.1 2) (u38.2.1 2) H locs ls (by omega) (by omega) (by omega) hpw hlv (lv_sub hl [2, 3, 1, 0] rfl) hP hD hS
              ·
                refine lv_bipush (v := (-2)) hx hb d_S_evacuate_44 (by decide) ?_
                exact W.iret (v := (-2)) hx hb hr (fun t ht hW => ⟨⟨(-2), (fun i => [u38.1 0, wr, u38.1 1, u38.1 2].getD i (fun _ => 0), fun i => [u38.2.1 0, u38.2.1 1, u38.2.1 2].getD i 0, fun i => [].getD i 0), rfl, ⟨Or.inr (Or.inr rfl), hpw, hlv⟩, ⟨by rw [ht]; exact hP, va_K.moved hW.alike hK, hD⟩⟩, hS.F ht⟩) hS.2.2 d_S_evacuate_46
      exact lp18 _ 0 0 w pw sc live row ser s.heap [] ls (Nat.lt_succ_self _) (by omega) (by omega) hpw hlv (lv_sub hl [2, 3, 1, 0] rfl) hP hD hS
    ·
      exact absurd c2 (nm_ne (by omega) (by decide))
set_option maxHeartbeats 4000000 in
set_option maxRecDepth 100000 in
theorem c_S_pageForLeaf (l : Launch) (dC : Nat → ClassId) (dI : Nat → Nat → Nat) (ad cd : Nat → Nat) (sz : Nat) (w wr fl : Nat → Int32) (pw sc : Int32) (lw rot vb : Nat → Int32) (rec tk : Int32) (live row : Nat → Int32) (cur ser dur wo : Int32) (bts : Nat → Int32) (us : Int32) (act : Nat → Int32) (rd rs : Int32)  (hpw : B01 pw) (hfl : ∀ i, i < 8 → B01 (fl i)) (hlv : ∀ i, i < 16 → PG 32 (live i)) (hcu : PG 8 cur) (hwo : B01 wo) : Met l y_S_pageForLeaf w_S_pageForLeaf ({ frames := 4, cells := 0, slots := 0, locals := 90 }) (xP (dC, dI) vwCl (xt cd) (xw ad cd w wr fl pw sc lw rot vb rec tk live row cur ser dur wo bts us act rd rs) sz [.ref (ad 1)]) (va_Qi (fun r (u : (Nat → Nat → Int32) × (Nat → Int32) × (Nat → Nat)) => PO r ∧ B01 (u.2.1 0) ∧ (∀ i, i < 16 → PG 32 ((u.1 2) i)) ∧ PG 8 (u.2.1 2) ∧ B01 (u.2.1 4)) (fun (u : (Nat → Nat → Int32) × (Nat → Int32) × (Nat → Nat)) (t : State) => xB (dC, dI) vwCl (xt cd) (xA 15 ad sz) (xw ad cd (u.1 0) (u.1 1) fl (u.2.1 0) (u.2.1 1) lw rot vb rec tk (u.1 2) (u.1 3) (u.2.1 2) (u.2.1 3) dur (u.2.1 4) bts us act rd rs) t) (xA 15 ad sz)) 0 0 (xA 15 ad sz) := by
  refine Met.ofW (cc := b_S_pageForLeaf) (maxL := 4) (ret := (some (.int))) (by decide) rfl ?_
  intro P e s m args below meth c0 s₁ B hml hv
  obtain ⟨rfl, hsz, hP, hK, hD0, hN⟩ := hv
  have hx := B.exec
  have hb := B.bytes
  have hr := B.returns
  have hts := atoms_spec (ws := w_S_pageForLeaf) B.pre
  have hown : s.vm.findClass R_S = some m.cls := findClass_of_methodNamed B.named
  have hlocks := B.notSynchronized
  subst hsz
  have hD := xw_D (sz := s.heap.size) hD0
  have hS : va_S (xA 15 ad s.heap.size) s.heap s.heap [] := va_S.rf
  have hA : ∀ q : Nat, s.heap.size ≤ q → (xA 15 ad s.heap.size) q := fun q h => Or.inr h
  have hl := lv_entry ([.ref (ad 1)]) (n := 4) (Nat.le_of_ble_eq_true rfl)
  rw [lg_entry_eq]
  generalize (lg_sl ([.ref (ad 1)]) ++ List.replicate (4 - (lg_sl ([.ref (ad 1)])).length) Slot.unset).toArray = ls at hl ⊢
  have hl : lv_has ls 4 [(0, .ref (ad 1))] := hl
  refine lv_aload_n hx hb d_S_pageForLeaf_0 rfl (lv_at hl 0 rfl) ?_
  refine va_get (D := (dC, dI)) (ci := 3) (v := .int wo) (C := R_S) (T := F_S) (N := 7) hx hb hts (fun w h => List.mem_cons_of_mem _ (in_S w h)) hown hK hP 1 rfl rfl 6 (by decide) (hts (.fieldLink R_S 35 R_S "wornOut" "Z") (List.mem_cons_of_mem _ t_58)) (fun _ h9 => h9) rfl d_S_pageForLeaf_1 ?_
  refine lv_if_eq (tgt := 9) hx hb d_S_pageForLeaf_4 (by decide) (fun c4 => ?_) (fun c4 => ?_)
  ·
    refine lv_aload_n hx hb d_S_pageForLeaf_9 rfl (lv_at hl 0 rfl) ?_
    refine vp_callSi (va_runV (C := R_S) (As := []) (rest := []) ⟨hx, hb, hml, hown, hts⟩ (c_S_freePageOfCursor l dC dI ad cd w wr fl pw sc lw rot vb rec tk live row cur ser dur wo bts us act rd rs  (by first | omega | rfl | assumption | decide) (by first | omega | rfl | assumption | decide)) (cwV 0 hts (g_V t_391 t_393 s_8 t_2 t_394) rfl rfl rfl (by decide +kernel) ⟨by decide, by decide⟩) (xR_v hP hK hN 1 rfl rfl) rfl rfl hl.1 rfl (lv_room (Nat.le_of_ble_eq_true rfl)) d_S_pageForLeaf_10 ⟨Nat.le_refl _, Nat.le_refl _⟩).run (fun r10 q10 => ?_)
    rcases q10 with rfl | ⟨p10, hp10, rfl⟩
    ·
      refine lv_istore_n hx hb d_S_pageForLeaf_13 rfl hl (by decide) rfl (fun ls hl => ?_)
      have hl : lv_has ls 4 [(1, .int (-1)), (0, .ref (ad 1))] := hl
      refine lv_iload_n hx hb d_S_pageForLeaf_14 rfl (lv_at hl 0 rfl) ?_
      refine lv_iconst (v := (-1)) hx hb d_S_pageForLeaf_15 (by decide) ?_
      refine lv_icmp_eq (tgt := 21) hx hb d_S_pageForLeaf_16 (by decide) (fun c16 => ?_) (fun c16 => ?_)
      ·
        refine lv_aload_n hx hb d_S_pageForLeaf_21 rfl (lv_at hl 1 rfl) ?_
        refine va_get (D := (dC, dI)) (ci := 3) (v := .ref (ad 2)) (C := R_S) (T := F_S) (N := 7) hx hb hts (fun w h => List.mem_cons_of_mem _ (in_S w h)) hown hK hP 1 rfl rfl 0 (by decide) (hts (.fieldLink R_S 12 R_S "chip" "LWeighRecorder$Chip;") (List.mem_cons_of_mem _ t_52)) (fun _ h9 => h9) rfl d_S_pageForLeaf_22 ?_
        refine vp_callSi (va_runV (C := R_C) (As := []) (rest := []) ⟨hx, hb, hml, hown, hts⟩ (c_C_cleanBlockCount l dC dI ad cd w wr fl pw sc lw rot vb rec tk live row cur ser dur wo bts us act rd rs  ) (cwV 0 hts (g_V t_403 t_404 t_405 t_3 t_406) rfl rfl rfl (by decide +kernel) ⟨by decide, by decide⟩) (xR_v hP hK hN 2 rfl rfl) rfl rfl hl.1 rfl (lv_room (Nat.le_of_ble_eq_true rfl)) d_S_pageForLeaf_25 ⟨Nat.le_refl _, Nat.le_refl _⟩).run (fun r25 q25 => ?_)
        obtain ⟨m25, hm25, hc25, rfl⟩ := q25
        refine lv_istore_n hx hb d_S_pageForLeaf_28 rfl hl (by decide) rfl (fun ls hl => ?_)
        have hl : lv_has ls 4 [(2, .int (nI m25)), (1, .int (-1)), (0, .ref (ad 1))] := hl
        refine lv_iload_n hx hb d_S_pageForLeaf_29 rfl (lv_at hl 0 rfl) ?_
        refine lv_if_ne (tgt := 45) hx hb d_S_pageForLeaf_30 (by decide) (fun c30 => ?_) (fun c30 => ?_)
        ·
          have c30 := cz_ne_t (by omega) c30
          refine lv_aload_n hx hb d_S_pageForLeaf_45 rfl (lv_at hl 2 rfl) ?_
          refine lv_aload_n hx hb d_S_pageForLeaf_46 rfl (lv_at hl 2 rfl) ?_
          refine va_get (D := (dC, dI)) (ci := 3) (v := .ref (ad 2)) (C := R_S) (T := F_S) (N := 7) hx hb hts (fun w h => List.mem_cons_of_mem _ (in_S w h)) hown hK hP 1 rfl rfl 0 (by decide) (hts (.fieldLink R_S 12 R_S "chip" "LWeighRecorder$Chip;") (List.mem_cons_of_mem _ t_52)) (fun _ h9 => h9) rfl d_S_pageForLeaf_47 ?_
          refine vp_callSi (va_runV (C := R_C) (As := []) (rest := [.ref (ad 1)]) ⟨hx, hb, hml, hown, hts⟩ (c_C_leastWornCleanBlock l dC dI ad cd w wr fl pw sc lw rot vb rec tk live row cur ser dur wo bts us act rd rs  (hc25 c30)) (cwV 0 hts (g_V t_436 t_437 t_438 t_3 t_439) rfl rfl rfl (by decide +kernel) ⟨by decide, by decide⟩) (xR_v hP hK hN 2 rfl rfl) rfl rfl hl.1 rfl (lv_room (Nat.le_of_ble_eq_true rfl)) d_S_pageForLeaf_50 ⟨Nat.le_refl _, Nat.le_refl _⟩).run (fun r50 q50 => ?_)
          obtain ⟨c50, hc50, rfl⟩ := q50
          refine va_put (D := (dC, dI)) (ci := 3) (v := .int (nI c50)) (ty := .int) (C := R_S) (T := F_S) (N := 7) hx hb hts (fun w h => List.mem_cons_of_mem _ (in_S w h)) t_S ok_S nm_S hown hK hP hD hS 1 rfl rfl 3 (by decide) (hts (.fieldLink R_S 25 R_S "cursor" "I") (List.mem_cons_of_mem _ t_55)) (fun _ h9 => h9) rfl (by decide +kernel) rfl rfl (Nat.le_of_ble_eq_true rfl) d_S_pageForLeaf_53 (fun H locs hP hD hS => ?_)
          have hP : va_P (dC, dI) vwCl (xw ad cd w wr fl pw sc lw rot vb rec tk live row (nI c50) ser dur wo bts us act rd rs) H := hP
          have hD : va_D (xA 15 ad s.heap.size) (xw ad cd w wr fl pw sc lw rot vb rec tk live row (nI c50) ser dur wo bts us act rd rs) := hD
          refine lv_iload_n hx hb d_S_pageForLeaf_56 rfl (lv_at hl 0 rfl) ?_
          refine lv_iconst (v := nI 1) hx hb d_S_pageForLeaf_57 (by decide) ?_
          refine lv_icmp_ne (tgt := 72) hx hb d_S_pageForLeaf_58 (by decide) (fun c58 => ?_) (fun c58 => ?_)
          ·
            have c58 := cd_ne_t (by omega) (by omega) c58
            refine lv_iconst (v := nI 1) hx hb d_S_pageForLeaf_72 (by decide) ?_
            refine lv_istore_n hx hb d_S_pageForLeaf_73 rfl hl (by decide) rfl (fun ls hl => ?_)
            have hl : lv_has ls 4 [(3, .int (nI 1)), (2, .int (nI m25)), (1, .int (-1)), (0, .ref (ad 1))] := hl
            refine lv_iload_n hx hb d_S_pageForLeaf_74 rfl (lv_at hl 0 rfl) ?_
            refine lv_iconst (v := nI 1) hx hb d_S_pageForLeaf_75 (by decide) ?_
            refine lv_icmp_ne (tgt := 86) hx hb d_S_pageForLeaf_76 (by decide) (fun c76 => ?_) (fun c76 => ?_)
            ·
              exact absurd c76 (by decide)
            ·
              refine lv_aload_n hx hb d_S_pageForLeaf_79 rfl (lv_at hl 3 rfl) ?_
              refine vp_callSi (va_runV (C := R_S) (As := []) (rest := []) ⟨hx, hb, hml, hown, hts⟩ (c_S_freePageOfCursor l dC dI ad cd w wr fl pw sc lw rot vb rec tk live row (nI c50) ser dur wo bts us act rd rs  (by first | exact hcu | exact PG.of (by assumption)) (by first | omega | rfl | assumption | decide)) (cwV 0 hts (g_V t_391 t_393 s_8 t_2 t_394) rfl rfl rfl (by decide +kernel) ⟨by decide, by decide⟩) (xR_v hP hK hN 1 rfl rfl) rfl rfl hl.1 rfl (lv_room (Nat.le_of_ble_eq_true rfl)) d_S_pageForLeaf_80 ⟨Nat.le_refl _, Nat.le_refl _⟩).run (fun r80 q80 => ?_)
              have hk80 := q80
              refine lv_goto (tgt := 87) hx hb d_S_pageForLeaf_83 (by decide) ?_
              exact W.iret (v := r80) hx hb hr (fun t ht hW => ⟨⟨r80, (fun i => [w, wr, live, row].getD i (fun _ => 0), fun i => [pw, sc, nI c50, ser, wo].getD i 0, fun i => [].getD i 0), rfl, ⟨hk80.po, hpw, hlv, PG.of (by assumption), hwo⟩, ⟨by rw [ht]; exact hP, va_K.moved hW.alike hK, hD⟩⟩, hS.F ht⟩) hS.2.2 d_S_pageForLeaf_87
          ·
            have c58 := cd_ne_f (by omega) (by omega) c58
            refine lv_aload_n hx hb d_S_pageForLeaf_61 rfl (lv_at hl 2 rfl) ?_
            refine lv_aload_n hx hb d_S_pageForLeaf_62 rfl (lv_at hl 2 rfl) ?_
            refine vp_callSi (va_runV (C := R_S) (As := []) (rest := [.ref (ad 1)]) ⟨hx, hb, hml, hown, hts⟩ (c_S_chooseVictim l dC dI ad cd w wr fl pw sc lw rot vb rec tk live row (nI c50) ser dur wo bts us act rd rs  (by first | omega | rfl | assumption | decide)) (cwV 0 hts (g_V t_411 t_413 s_9 t_2 t_414) rfl rfl rfl (by decide +kernel) ⟨by decide, by decide⟩) (xR_v hP hK hN 1 rfl rfl) rfl rfl hl.1 rfl (lv_room (Nat.le_of_ble_eq_true rfl)) d_S_pageForLeaf_63 ⟨Nat.le_refl _, Nat.le_refl _⟩).run (fun r63 q63 => ?_)
            have hk63 := q63
            have hSz := hS.1
            refine va_calli (va_runV (C := R_S) (As := [.int r63]) (rest := []) ⟨hx, hb, hml, hown, hts⟩ (c_S_evacuate l dC dI ad cd H.size w wr fl pw sc lw rot vb rec tk live row (nI c50) ser dur wo bts us act rd rs c50 r63 (by first | omega | rfl | assumption | decide) (by first | omega | rfl | assumption | decide) (by first | omega | rfl | assumption | decide) (by first | omega | rfl | assumption | decide)) (cwV 1 hts (g_V t_440 t_442 s_14 t_2 t_443) rfl rfl rfl (by decide +kernel) ⟨by decide, by decide⟩) (xP_v hP hK hD hN 1 rfl rfl) rfl rfl hl.1 rfl (lv_room (Nat.le_of_ble_eq_true rfl)) d_S_pageForLeaf_66 ⟨Nat.le_refl _, Nat.le_refl _⟩) hS (fun q _ h => xA_up hS.1 q h) (fun q h => xA_up hS.1 q h) (fun r66 u66 t H1 locs1 ht hvm q66 hB hz1 hk1 hS => ?_)
            obtain ⟨hP1, hK1, hD1⟩ := hB
            rw [ht] at hP1
            have hD : va_D (xA 15 ad s.heap.size) (xw ad cd (u66.1 0) (u66.1 1) fl (u66.2.1 0) (u66.2.1 1) lw rot vb rec tk (u66.1 2) (u66.1 3) (nI c50) (u66.2.1 2) dur wo bts us act rd rs) := hD1.weaken (fun _ q _ h => xA_up hSz _ h)
            have hP : va_P (dC, dI) vwCl (xw ad cd (u66.1 0) (u66.1 1) fl (u66.2.1 0) (u66.2.1 1) lw rot vb rec tk (u66.1 2) (u66.1 3) (nI c50) (u66.2.1 2) dur wo bts us act rd rs) H1 := hP1
            generalize H1 = H at hP hS ⊢
            generalize locs1 = locs at hS ⊢
            obtain ⟨hro66, hpw, hlv⟩ := q66
            refine lv_goto (tgt := 73) hx hb d_S_pageForLeaf_69 (by decide) ?_
            refine lv_istore_n hx hb d_S_pageForLeaf_73 rfl hl (by decide) rfl (fun ls hl => ?_)
            have hl : lv_has ls 4 [(3, .int r66), (2, .int (nI m25)), (1, .int (-1)), (0, .ref (ad 1))] := hl
            refine lv_iload_n hx hb d_S_pageForLeaf_74 rfl (lv_at hl 0 rfl) ?_
            refine lv_iconst (v := nI 1) hx hb d_S_pageForLeaf_75 (by decide) ?_
            refine lv_icmp_ne (tgt := 86) hx hb d_S_pageForLeaf_76 (by decide) (fun c76 => ?_) (fun c76 => ?_)
            ·
              refine lv_iload_n hx hb d_S_pageForLeaf_86 rfl (lv_at hl 0 rfl) ?_
              exact W.iret (v := r66) hx hb hr (fun t ht hW => ⟨⟨r66, (fun i => [u66.1 0, u66.1 1, u66.1 2, u66.1 3].getD i (fun _ => 0), fun i => [u66.2.1 0, u66.2.1 1, nI c50, u66.2.1 2, wo].getD i 0, fun i => [].getD i 0), rfl, ⟨hro66.po c76, hpw, hlv, PG.of (by assumption), hwo⟩, ⟨by rw [ht]; exact hP, va_K.moved hW.alike hK, hD⟩⟩, hS.F ht⟩) hS.2.2 d_S_pageForLeaf_87
            ·
              refine lv_aload_n hx hb d_S_pageForLeaf_79 rfl (lv_at hl 3 rfl) ?_
              refine vp_callSi (va_runV (C := R_S) (As := []) (rest := []) ⟨hx, hb, hml, hown, hts⟩ (c_S_freePageOfCursor l dC dI ad cd (u66.1 0) (u66.1 1) fl (u66.2.1 0) (u66.2.1 1) lw rot vb rec tk (u66.1 2) (u66.1 3) (nI c50) (u66.2.1 2) dur wo bts us act rd rs  (by first | exact hcu | exact PG.of (by assumption)) (by first | omega | rfl | assumption | decide)) (cwV 0 hts (g_V t_391 t_393 s_8 t_2 t_394) rfl rfl rfl (by decide +kernel) ⟨by decide, by decide⟩) (xR_v hP hK hN 1 rfl rfl) rfl rfl hl.1 rfl (lv_room (Nat.le_of_ble_eq_true rfl)) d_S_pageForLeaf_80 ⟨Nat.le_refl _, Nat.le_refl _⟩).run (fun r80 q80 => ?_)
              have hk80 := q80
              refine lv_goto (tgt := 87) hx hb d_S_pageForLeaf_83 (by decide) ?_
              exact W.iret (v := r80) hx hb hr (fun t ht hW => ⟨⟨r80, (fun i => [u66.1 0, u66.1 1, u66.1 2, u66.1 3].getD i (fun _ => 0), fun i => [u66.2.1 0, u66.2.1 1, nI c50, u66.2.1 2, wo].getD i 0, fun i => [].getD i 0), rfl, ⟨hk80.po, hpw, hlv, PG.of (by assumption), hwo⟩, ⟨by rw [ht]; exact hP, va_K.moved hW.alike hK, hD⟩⟩, hS.F ht⟩) hS.2.2 d_S_pageForLeaf_87
        ·
          have c30 := cz_ne_f (by omega) c30
          refine lv_aload_n hx hb d_S_pageForLeaf_33 rfl (lv_at hl 2 rfl) ?_
          refine lv_aload_n hx hb d_S_pageForLeaf_34 rfl (lv_at hl 2 rfl) ?_
          refine vp_callSi (va_runV (C := R_S) (As := []) (rest := [.ref (ad 1)]) ⟨hx, hb, hml, hown, hts⟩ (c_S_chooseVictim l dC dI ad cd w wr fl pw sc lw rot vb rec tk live row cur ser dur wo bts us act rd rs  (by first | omega | rfl | assumption | decide)) (cwV 0 hts (g_V t_411 t_413 s_9 t_2 t_414) rfl rfl rfl (by decide +kernel) ⟨by decide, by decide⟩) (xR_v hP hK hN 1 rfl rfl) rfl rfl hl.1 rfl (lv_room (Nat.le_of_ble_eq_true rfl)) d_S_pageForLeaf_35 ⟨Nat.le_refl _, Nat.le_refl _⟩).run (fun r35 q35 => ?_)
          have hk35 := q35
          have hSz := hS.1
          refine va_calli (va_runV (C := R_S) (As := [.int r35]) (rest := []) ⟨hx, hb, hml, hown, hts⟩ (c_S_reclaim l dC dI ad cd s.heap.size w wr fl pw sc lw rot vb rec tk live row cur ser dur wo bts us act rd rs r35 (by first | omega | rfl | assumption | decide) (by first | omega | rfl | assumption | decide) (by first | omega | rfl | assumption | decide) (by first | omega | rfl | assumption | decide)) (cwV 1 hts (g_V t_420 t_422 s_11 t_2 t_423) rfl rfl rfl (by decide +kernel) ⟨by decide, by decide⟩) (xP_v hP hK hD hN 1 rfl rfl) rfl rfl hl.1 rfl (lv_room (Nat.le_of_ble_eq_true rfl)) d_S_pageForLeaf_38 ⟨Nat.le_refl _, Nat.le_refl _⟩) hS (fun q _ h => xA_up hS.1 q h) (fun q h => xA_up hS.1 q h) (fun r38 u38 t H1 locs1 ht hvm q38 hB hz1 hk1 hS => ?_)
          obtain ⟨hP1, hK1, hD1⟩ := hB
          rw [ht] at hP1
          have hD : va_D (xA 15 ad s.heap.size) (xw ad cd (u38.1 0) (u38.1 1) fl (u38.2.1 0) (u38.2.1 1) lw rot vb rec tk live row (u38.2.1 2) ser dur (u38.2.1 3) bts us act rd rs) := hD1.weaken (fun _ q _ h => xA_up hSz _ h)
          have hP : va_P (dC, dI) vwCl (xw ad cd (u38.1 0) (u38.1 1) fl (u38.2.1 0) (u38.2.1 1) lw rot vb rec tk live row (u38.2.1 2) ser dur (u38.2.1 3) bts us act rd rs) H1 := hP1
          generalize H1 = H at hP hS ⊢
          generalize locs1 = locs at hS ⊢
          obtain ⟨hro38, hpw, hcu, hwo⟩ := q38
          refine lv_istore_n hx hb d_S_pageForLeaf_41 rfl hl (by decide) rfl (fun ls hl => ?_)
          have hl : lv_has ls 4 [(3, .int r38), (2, .int (nI m25)), (1, .int (-1)), (0, .ref (ad 1))] := hl
          refine lv_goto (tgt := 74) hx hb d_S_pageForLeaf_42 (by decide) ?_
          refine lv_iload_n hx hb d_S_pageForLeaf_74 rfl (lv_at hl 0 rfl) ?_
          refine lv_iconst (v := nI 1) hx hb d_S_pageForLeaf_75 (by decide) ?_
          refine lv_icmp_ne (tgt := 86) hx hb d_S_pageForLeaf_76 (by decide) (fun c76 => ?_) (fun c76 => ?_)
          ·
            refine lv_iload_n hx hb d_S_pageForLeaf_86 rfl (lv_at hl 0 rfl) ?_
            exact W.iret (v := r38) hx hb hr (fun t ht hW => ⟨⟨r38, (fun i => [u38.1 0, u38.1 1, live, row].getD i (fun _ => 0), fun i => [u38.2.1 0, u38.2.1 1, u38.2.1 2, ser, u38.2.1 3].getD i 0, fun i => [].getD i 0), rfl, ⟨hro38.po c76, hpw, hlv, hcu, hwo⟩, ⟨by rw [ht]; exact hP, va_K.moved hW.alike hK, hD⟩⟩, hS.F ht⟩) hS.2.2 d_S_pageForLeaf_87
          ·
            refine lv_aload_n hx hb d_S_pageForLeaf_79 rfl (lv_at hl 3 rfl) ?_
            refine vp_callSi (va_runV (C := R_S) (As := []) (rest := []) ⟨hx, hb, hml, hown, hts⟩ (c_S_freePageOfCursor l dC dI ad cd (u38.1 0) (u38.1 1) fl (u38.2.1 0) (u38.2.1 1) lw rot vb rec tk live row (u38.2.1 2) ser dur (u38.2.1 3) bts us act rd rs  (by first | exact hcu | exact PG.of (by assumption)) (by first | omega | rfl | assumption | decide)) (cwV 0 hts (g_V t_391 t_393 s_8 t_2 t_394) rfl rfl rfl (by decide +kernel) ⟨by decide, by decide⟩) (xR_v hP hK hN 1 rfl rfl) rfl rfl hl.1 rfl (lv_room (Nat.le_of_ble_eq_true rfl)) d_S_pageForLeaf_80 ⟨Nat.le_refl _, Nat.le_refl _⟩).run (fun r80 q80 => ?_)
            have hk80 := q80
            refine lv_goto (tgt := 87) hx hb d_S_pageForLeaf_83 (by decide) ?_
            exact W.iret (v := r80) hx hb hr (fun t ht hW => ⟨⟨r80, (fun i => [u38.1 0, u38.1 1, live, row].getD i (fun _ => 0), fun i => [u38.2.1 0, u38.2.1 1, u38.2.1 2, ser, u38.2.1 3].getD i 0, fun i => [].getD i 0), rfl, ⟨hk80.po, hpw, hlv, hcu, hwo⟩, ⟨by rw [ht]; exact hP, va_K.moved hW.alike hK, hD⟩⟩, hS.F ht⟩) hS.2.2 d_S_pageForLeaf_87
      ·
        exact absurd c16 (by decide)
    ·
      refine lv_istore_n hx hb d_S_pageForLeaf_13 rfl hl (by decide) rfl (fun ls hl => ?_)
      have hl : lv_has ls 4 [(1, .int (nI p10)), (0, .ref (ad 1))] := hl
      refine lv_iload_n hx hb d_S_pageForLeaf_14 rfl (lv_at hl 0 rfl) ?_
      refine lv_iconst (v := (-1)) hx hb d_S_pageForLeaf_15 (by decide) ?_
      refine lv_icmp_eq (tgt := 21) hx hb d_S_pageForLeaf_16 (by decide) (fun c16 => ?_) (fun c16 => ?_)
      ·
        exact absurd c16 (nm_ne (by omega) (by decide))
      ·
        refine lv_iload_n hx hb d_S_pageForLeaf_19 rfl (lv_at hl 0 rfl) ?_
        exact W.iret (v := nI p10) hx hb hr (fun t ht hW => ⟨⟨nI p10, (fun i => [w, wr, live, row].getD i (fun _ => 0), fun i => [pw, sc, cur, ser, wo].getD i 0, fun i => [].getD i 0), rfl, ⟨Or.inr (Or.inr ⟨_, (by assumption), rfl⟩), hpw, hlv, hcu, hwo⟩, ⟨by rw [ht]; exact hP, va_K.moved hW.alike hK, hD⟩⟩, hS.F ht⟩) hS.2.2 d_S_pageForLeaf_20
  ·
    refine lv_iconst (v := (-1)) hx hb d_S_pageForLeaf_7 (by decide) ?_
    exact W.iret (v := (-1)) hx hb hr (fun t ht hW => ⟨⟨(-1), (fun i => [w, wr, live, row].getD i (fun _ => 0), fun i => [pw, sc, cur, ser, wo].getD i 0, fun i => [].getD i 0), rfl, ⟨Or.inl rfl, hpw, hlv, hcu, hwo⟩, ⟨by rw [ht]; exact hP, va_K.moved hW.alike hK, hD⟩⟩, hS.F ht⟩) hS.2.2 d_S_pageForLeaf_8
set_option maxHeartbeats 4000000 in
set_option maxRecDepth 100000 in
theorem c_S_writeLastLeaf (l : Launch) (dC : Nat → ClassId) (dI : Nat → Nat → Nat) (ad cd : Nat → Nat) (sz : Nat) (w wr fl : Nat → Int32) (pw sc : Int32) (lw rot vb : Nat → Int32) (rec tk : Int32) (live row : Nat → Int32) (cur ser dur wo : Int32) (bts : Nat → Int32) (us : Int32) (act : Nat → Int32) (rd rs : Int32) (rn : Nat) (pa : Nat) (hr48 : rn ≤ 48) (hp : pa < 32) (hpw : B01 pw) (hlv : ∀ i, i < 16 → PG 32 (live i)) : Met l y_S_writeLastLeaf w_S_writeLastLeaf ({ frames := 2, cells := 0, slots := 0, locals := 44 }) (xP (dC, dI) vwCl (xt cd) (xw ad cd w wr fl pw sc lw rot vb (nI rn) tk live row cur ser dur wo bts us act rd rs) sz [.ref (ad 1), .ref (ad 3), .int (nI pa)]) (va_Qi (fun r (u : (Nat → Nat → Int32) × (Nat → Int32) × (Nat → Nat)) => RO r ∧ B01 (u.2.1 0) ∧ ∀ i, i < 16 → PG 32 ((u.1 1) i)) (fun (u : (Nat → Nat → Int32) × (Nat → Int32) × (Nat → Nat)) (t : State) => xB (dC, dI) vwCl (xt cd) (xA 15 ad sz) (xw ad cd (u.1 0) wr fl (u.2.1 0) (u.2.1 1) lw rot vb (nI rn) tk (u.1 1) (u.1 2) cur (u.2.1 2) (u.2.1 3) wo bts us act rd rs) t) (xA 15 ad sz)) 0 0 (xA 15 ad sz) := by
  refine Met.ofW (cc := b_S_writeLastLeaf) (maxL := 6) (ret := (some (.int))) (by decide) rfl ?_
  intro P e s m args below meth c0 s₁ B hml hv
  obtain ⟨rfl, hsz, hP, hK, hD0, hN⟩ := hv
  have hx := B.exec
  have hb := B.bytes
  have hr := B.returns
  have hts := atoms_spec (ws := w_S_writeLastLeaf) B.pre
  have hown : s.vm.findClass R_S = some m.cls := findClass_of_methodNamed B.named
  have hlocks := B.notSynchronized
  subst hsz
  have hD := xw_D (sz := s.heap.size) hD0
  have hS : va_S (xA 15 ad s.heap.size) s.heap s.heap [] := va_S.rf
  have hA : ∀ q : Nat, s.heap.size ≤ q → (xA 15 ad s.heap.size) q := fun q h => Or.inr h
  have hl := lv_entry ([.ref (ad 1), .ref (ad 3), .int (nI pa)]) (n := 6) (Nat.le_of_ble_eq_true rfl)
  rw [lg_entry_eq]
  generalize (lg_sl ([.ref (ad 1), .ref (ad 3), .int (nI pa)]) ++ List.replicate (6 - (lg_sl ([.ref (ad 1), .ref (ad 3), .int (nI pa)])).length) Slot.unset).toArray = ls at hl ⊢
  have hl : lv_has ls 6 [(0, .ref (ad 1)), (1, .ref (ad 3)), (2, .int (nI pa))] := hl
  rcases Nat.eq_zero_or_pos rn with hz | hz
  ·
    subst hz
    refine lv_aload_n hx hb d_S_writeLastLeaf_0 rfl (lv_at hl 1 rfl) ?_
    refine vp_callSi (va_runV (C := R_G) (As := []) (rest := []) ⟨hx, hb, hml, hown, hts⟩ (c_G_recordCount l dC dI ad cd w wr fl pw sc lw rot vb (nI 0) tk live row cur ser dur wo bts us act rd rs 0 ) (cwV 0 hts (g_V t_209 t_210 t_211 t_4 t_212) rfl rfl rfl (by decide +kernel) ⟨by decide, by decide⟩) (xR_v hP hK hN 3 rfl rfl) rfl rfl hl.1 rfl (lv_room (Nat.le_of_ble_eq_true rfl)) d_S_writeLastLeaf_1 ⟨Nat.le_refl _, Nat.le_refl _⟩).run (fun r1 q1 => ?_)
    have q1 := q1.symm
    subst q1
    refine lv_iconst (v := nI 1) hx hb d_S_writeLastLeaf_4 (by decide) ?_
    refine lv_isub hx hb d_S_writeLastLeaf_5 ?_
    refine lv_iconst (v := nI 3) hx hb d_S_writeLastLeaf_6 (by decide) ?_
    refine lv_idiv hx hb d_S_writeLastLeaf_7 (by decide) ?_
    refine tp_i (y := nI 0) (by decide) ?_
    refine lv_istore_n hx hb d_S_writeLastLeaf_8 rfl hl (by decide) rfl (fun ls hl => ?_)
    have hl : lv_has ls 6 [(3, .int (nI 0)), (0, .ref (ad 1)), (1, .ref (ad 3)), (2, .int (nI pa))] := hl
    refine lv_aload_n hx hb d_S_writeLastLeaf_9 rfl (lv_at hl 2 rfl) ?_
    refine vp_callSi (va_runV (C := R_G) (As := []) (rest := []) ⟨hx, hb, hml, hown, hts⟩ (c_G_recordCount l dC dI ad cd w wr fl pw sc lw rot vb (nI 0) tk live row cur ser dur wo bts us act rd rs 0 ) (cwV 0 hts (g_V t_209 t_210 t_211 t_4 t_212) rfl rfl rfl (by decide +kernel) ⟨by decide, by decide⟩) (xR_v hP hK hN 3 rfl rfl) rfl rfl hl.1 rfl (lv_room (Nat.le_of_ble_eq_true rfl)) d_S_writeLastLeaf_10 ⟨Nat.le_refl _, Nat.le_refl _⟩).run (fun r10 q10 => ?_)
    have q10 := q10.symm
    subst q10
    refine lv_iload_n hx hb d_S_writeLastLeaf_13 rfl (lv_at hl 0 rfl) ?_
    refine lv_iconst (v := nI 3) hx hb d_S_writeLastLeaf_14 (by decide) ?_
    refine lv_imul hx hb d_S_writeLastLeaf_15 ?_
    refine tp_i (y := nI (0 * 3)) (pk_mul _ _) ?_
    refine lv_isub hx hb d_S_writeLastLeaf_16 ?_
    refine tp_i (y := nI (0 - (0 * 3))) (pk_sub (by omega)) ?_
    refine lv_istore hx hb d_S_writeLastLeaf_17 hl (by decide) rfl (fun ls hl => ?_)
    have hl : lv_has ls 6 [(4, .int (nI (0 - (0 * 3)))), (3, .int (nI 0)), (0, .ref (ad 1)), (1, .ref (ad 3)), (2, .int (nI pa))] := hl
    refine lv_aload_n hx hb d_S_writeLastLeaf_19 rfl (lv_at hl 2 rfl) ?_
    refine va_get (D := (dC, dI)) (ci := 3) (v := .ref (ad 7)) (C := R_S) (T := F_S) (N := 7) hx hb hts (fun w h => List.mem_cons_of_mem _ (in_S w h)) hown hK hP 1 rfl rfl 2 (by decide) (hts (.fieldLink R_S 22 R_S "row" "[I") (List.mem_cons_of_mem _ t_54)) (fun _ h9 => h9) rfl d_S_writeLastLeaf_20 ?_
    refine lv_iconst (v := nI 0) hx hb d_S_writeLastLeaf_23 (by decide) ?_
    refine lv_iconst (v := nI 4) hx hb d_S_writeLastLeaf_24 (by decide) ?_
    refine lv_iload_n hx hb d_S_writeLastLeaf_25 rfl (lv_at hl 1 rfl) ?_
    refine lv_imul hx hb d_S_writeLastLeaf_26 ?_
    refine tp_i (y := nI (4 * 0)) (pk_mul _ _) ?_
    refine lv_iload hx hb d_S_writeLastLeaf_27 (lv_at hl 0 rfl) ?_
    refine lv_iadd hx hb d_S_writeLastLeaf_29 ?_
    refine tp_i (y := nI ((4 * 0) + (0 - (0 * 3)))) (nI_add _ _) ?_
    refine va_iast hx hb hK hP hD hS 7 2 rfl rfl (vp_in_nI (by omega) (by decide)) d_S_writeLastLeaf_30 (fun H locs hP hD hS => ?_)
    rw [nI_clamp (by omega)] at hP hD
    have hP : va_P (dC, dI) vwCl (xw ad cd w wr fl pw sc lw rot vb (nI 0) tk live (upd row 0 (nI ((4 * 0) + (0 - (0 * 3))))) cur ser dur wo bts us act rd rs) H := hP
    have hD : va_D (xA 15 ad s.heap.size) (xw ad cd w wr fl pw sc lw rot vb (nI 0) tk live (upd row 0 (nI ((4 * 0) + (0 - (0 * 3))))) cur ser dur wo bts us act rd rs) := hD
    refine lv_iconst (v := nI 2) hx hb d_S_writeLastLeaf_31 (by decide) ?_
    refine lv_istore hx hb d_S_writeLastLeaf_32 hl (by decide) rfl (fun ls hl => ?_)
    have hl : lv_has ls 6 [(5, .int (nI 2)), (4, .int (nI (0 - (0 * 3)))), (3, .int (nI 0)), (0, .ref (ad 1)), (1, .ref (ad 3)), (2, .int (nI pa))] := hl
    have lp34 : ∀ (n : Nat) (k : Nat) (rv : Nat → Int32) (H : Heap) (locs : List Loc) (ls : Array Slot), (14 - k) < n → (k ≤ 14) → (2 ≤ k) → lv_has ls 6 [(0, .ref (ad 1)), (1, .ref (ad 3)), (2, .int (nI pa)), (3, .int (nI 0)), (4, .int (nI (0 - (0 * 3)))), (5, .int (nI k))] → va_P (dC, dI) vwCl (xw ad cd w wr fl pw sc lw rot vb (nI 0) tk live rv cur ser dur wo bts us act rd rs) H → va_D (xA 15 ad s.heap.size) (xw ad cd w wr fl pw sc lw rot vb (nI 0) tk live rv cur ser dur wo bts us act rd rs) → va_S (xA 15 ad s.heap.size) s.heap H locs → W P l e (headSpec w_S_writeLastLeaf ({ frames := 2, cells := 0, slots := 0, locals := 44 })).room s m (([.ref (ad 1), .ref (ad 3), .int (nI pa)] : List Value).toArray) below meth c0 H locs 0 0 (MQ below (va_Qi (fun r (u : (Nat → Nat → Int32) × (Nat → Int32) × (Nat → Nat)) => RO r ∧ B01 (u.2.1 0) ∧ ∀ i, i < 16 → PG 32 ((u.1 1) i)) (fun (u : (Nat → Nat → Int32) × (Nat → Int32) × (Nat → Nat)) (t : State) => xB (dC, dI) vwCl (xt cd) (xA 15 ad s.heap.size) (xw ad cd (u.1 0) wr fl (u.2.1 0) (u.2.1 1) lw rot vb (nI 0) tk (u.1 1) (u.1 2) cur (u.2.1 2) (u.2.1 3) wo bts us act rd rs) t) (xA 15 ad s.heap.size)) (([.ref (ad 1), .ref (ad 3), .int (nI pa)] : List Value).toArray) s 0 0 (xA 15 ad s.heap.size)) (F0 m 34 ls []) := by
      intro n
      induction n with
      | zero => intro k rv H locs ls hm; intros; omega
      | succ n ih34 =>
        intro k rv H locs ls hm hk hk2 hl hP hD hS
        refine lv_iload hx hb d_S_writeLastLeaf_34 (lv_at hl 5 rfl) ?_
        refine lv_bipush (v := nI 14) hx hb d_S_writeLastLeaf_36 (by decide) ?_
        refine lv_icmp_ge (tgt := 55) hx hb d_S_writeLastLeaf_38 (by decide) (fun c38 => ?_) (fun c38 => ?_)
        ·
          have c38 := cd_ge_t (by omega) (by omega) c38
          refine lv_aload_n hx hb d_S_writeLastLeaf_55 rfl (lv_at hl 1 rfl) ?_
          refine lv_iload_n hx hb d_S_writeLastLeaf_56 rfl (lv_at hl 3 rfl) ?_
          refine lv_iconst (v := nI 3) hx hb d_S_writeLastLeaf_57 (by decide) ?_
          refine lv_imul hx hb d_S_writeLastLeaf_58 ?_
          refine tp_i (y := nI (0 * 3)) (pk_mul _ _) ?_
          refine lv_iload hx hb d_S_writeLastLeaf_59 (lv_at hl 4 rfl) ?_
          refine lv_aload_n hx hb d_S_writeLastLeaf_61 rfl (lv_at hl 0 rfl) ?_
          refine va_get (D := (dC, dI)) (ci := 3) (v := .ref (ad 7)) (C := R_S) (T := F_S) (N := 7) hx hb hts (fun w h => List.mem_cons_of_mem _ (in_S w h)) hown hK hP 1 rfl rfl 2 (by decide) (hts (.fieldLink R_S 22 R_S "row" "[I") (List.mem_cons_of_mem _ t_54)) (fun _ h9 => h9) rfl d_S_writeLastLeaf_62 ?_
          refine lv_iconst (v := nI 2) hx hb d_S_writeLastLeaf_65 (by decide) ?_
          have hSz := hS.1
          refine va_callv (va_runV (C := R_G) (As := [.int (nI (0 * 3)), .int (nI (0 - (0 * 3))), .ref (ad 7), .int (nI 2)]) (rest := []) ⟨hx, hb, hml, hown, hts⟩ (c_G_copyRecords l dC dI ad cd H.size w wr fl pw sc lw rot vb (nI 0) tk live rv cur ser dur wo bts us act rd rs (0 * 3) (0 - (0 * 3)) 2 (by first | omega | rfl | assumption | decide) (by first | omega | rfl | assumption | decide)) (cwV 4 hts (g_V t_462 t_463 t_464 t_4 t_465) rfl rfl rfl (by decide +kernel) ⟨by decide, by decide⟩) (xP_v hP hK hD hN 3 rfl rfl) rfl rfl hl.1 rfl (lv_room (Nat.le_of_ble_eq_true rfl)) d_S_writeLastLeaf_66 ⟨Nat.le_refl _, Nat.le_refl _⟩) hS (fun q _ h => xA_up hS.1 q h) (fun q h => xA_up hS.1 q h) (fun u66 t H1 locs1 ht hvm q66 hB hz1 hk1 hS => ?_)
          obtain ⟨hP1, hK1, hD1⟩ := hB
          rw [ht] at hP1
          have hD : va_D (xA 15 ad s.heap.size) (xw ad cd w wr fl pw sc lw rot vb (nI 0) tk live (u66.1 0) cur ser dur wo bts us act rd rs) := hD1.weaken (fun _ q _ h => xA_up hSz _ h)
          have hP : va_P (dC, dI) vwCl (xw ad cd w wr fl pw sc lw rot vb (nI 0) tk live (u66.1 0) cur ser dur wo bts us act rd rs) H1 := hP1
          generalize H1 = H at hP hS ⊢
          generalize locs1 = locs at hS ⊢
          have hk66 := q66
          refine lv_aload_n hx hb d_S_writeLastLeaf_69 rfl (lv_at hl 0 rfl) ?_
          have hSz := hS.1
          refine va_callv (va_runV (C := R_S) (As := []) (rest := []) ⟨hx, hb, hml, hown, hts⟩ (c_S_sealRow l dC dI ad cd H.size w wr fl pw sc lw rot vb (nI 0) tk live (u66.1 0) cur ser dur wo bts us act rd rs  ) (cwV 0 hts (g_V t_448 t_450 s_16 t_2 t_451) rfl rfl rfl (by decide +kernel) ⟨by decide, by decide⟩) (xP_v hP hK hD hN 1 rfl rfl) rfl rfl hl.1 rfl (lv_room (Nat.le_of_ble_eq_true rfl)) d_S_writeLastLeaf_70 ⟨Nat.le_refl _, Nat.le_refl _⟩) hS (fun q _ h => xA_up hS.1 q h) (fun q h => xA_up hS.1 q h) (fun u70 t H1 locs1 ht hvm q70 hB hz1 hk1 hS => ?_)
          obtain ⟨hP1, hK1, hD1⟩ := hB
          rw [ht] at hP1
          have hD : va_D (xA 15 ad s.heap.size) (xw ad cd w wr fl pw sc lw rot vb (nI 0) tk live (u70.1 0) cur (u70.2.1 0) dur wo bts us act rd rs) := hD1.weaken (fun _ q _ h => xA_up hSz _ h)
          have hP : va_P (dC, dI) vwCl (xw ad cd w wr fl pw sc lw rot vb (nI 0) tk live (u70.1 0) cur (u70.2.1 0) dur wo bts us act rd rs) H1 := hP1
          generalize H1 = H at hP hS ⊢
          generalize locs1 = locs at hS ⊢
          have hk70 := q70
          refine lv_aload_n hx hb d_S_writeLastLeaf_73 rfl (lv_at hl 0 rfl) ?_
          refine va_get (D := (dC, dI)) (ci := 3) (v := .ref (ad 2)) (C := R_S) (T := F_S) (N := 7) hx hb hts (fun w h => List.mem_cons_of_mem _ (in_S w h)) hown hK hP 1 rfl rfl 0 (by decide) (hts (.fieldLink R_S 12 R_S "chip" "LWeighRecorder$Chip;") (List.mem_cons_of_mem _ t_52)) (fun _ h9 => h9) rfl d_S_writeLastLeaf_74 ?_
          refine lv_iload_n hx hb d_S_writeLastLeaf_77 rfl (lv_at hl 2 rfl) ?_
          refine lv_aload_n hx hb d_S_writeLastLeaf_78 rfl (lv_at hl 0 rfl) ?_
          refine va_get (D := (dC, dI)) (ci := 3) (v := .ref (ad 7)) (C := R_S) (T := F_S) (N := 7) hx hb hts (fun w h => List.mem_cons_of_mem _ (in_S w h)) hown hK hP 1 rfl rfl 2 (by decide) (hts (.fieldLink R_S 22 R_S "row" "[I") (List.mem_cons_of_mem _ t_54)) (fun _ h9 => h9) rfl d_S_writeLastLeaf_79 ?_
          have hSz := hS.1
          refine va_calli (va_runV (C := R_C) (As := [.int (nI pa), .ref (ad 7)]) (rest := []) ⟨hx, hb, hml, hown, hts⟩ (c_C_writePage l dC dI ad cd H.size w wr fl pw sc lw rot vb (nI 0) tk live (u70.1 0) cur (u70.2.1 0) dur wo bts us act rd rs pa (by first | omega | rfl | assumption | decide) (by first | omega | rfl | assumption | decide)) (cwV 2 hts (g_V t_454 t_455 t_456 t_3 t_457) rfl rfl rfl (by decide +kernel) ⟨by decide, by decide⟩) (xP_v hP hK hD hN 2 rfl rfl) rfl rfl hl.1 rfl (lv_room (Nat.le_of_ble_eq_true rfl)) d_S_writeLastLeaf_82 ⟨Nat.le_refl _, Nat.le_refl _⟩) hS (fun q _ h => xA_up hS.1 q h) (fun q h => xA_up hS.1 q h) (fun r82 u82 t H1 locs1 ht hvm q82 hB hz1 hk1 hS => ?_)
          obtain ⟨hP1, hK1, hD1⟩ := hB
          rw [ht] at hP1
          have hD : va_D (xA 15 ad s.heap.size) (xw ad cd (u82.1 0) wr fl (u82.2.1 0) (u82.2.1 1) lw rot vb (nI 0) tk live (u70.1 0) cur (u70.2.1 0) dur wo bts us act rd rs) := hD1.weaken (fun _ q _ h => xA_up hSz _ h)
          have hP : va_P (dC, dI) vwCl (xw ad cd (u82.1 0) wr fl (u82.2.1 0) (u82.2.1 1) lw rot vb (nI 0) tk live (u70.1 0) cur (u70.2.1 0) dur wo bts us act rd rs) H1 := hP1
          generalize H1 = H at hP hS ⊢
          generalize locs1 = locs at hS ⊢
          obtain ⟨hr82, hpw⟩ := q82
          refine lv_if_ne (tgt := 91) hx hb d_S_writeLastLeaf_85 (by decide) (fun c85 => ?_) (fun c85 => ?_)
          ·
            refine lv_aload_n hx hb d_S_writeLastLeaf_91 rfl (lv_at hl 0 rfl) ?_
            refine va_get (D := (dC, dI)) (ci := 3) (v := .ref (ad 6)) (C := R_S) (T := F_S) (N := 7) hx hb hts (fun w h => List.mem_cons_of_mem _ (in_S w h)) hown hK hP 1 rfl rfl 1 (by decide) (hts (.fieldLink R_S 18 R_S "livePages" "[I") (List.mem_cons_of_mem _ t_53)) (fun _ h9 => h9) rfl d_S_writeLastLeaf_92 ?_
            refine lv_iload_n hx hb d_S_writeLastLeaf_95 rfl (lv_at hl 3 rfl) ?_
            refine lv_iload_n hx hb d_S_writeLastLeaf_96 rfl (lv_at hl 2 rfl) ?_
            refine va_iast hx hb hK hP hD hS 6 1 rfl rfl (vp_in_nI (by omega) (by decide)) d_S_writeLastLeaf_97 (fun H locs hP hD hS => ?_)
            rw [nI_clamp (by omega)] at hP hD
            have hP : va_P (dC, dI) vwCl (xw ad cd (u82.1 0) wr fl (u82.2.1 0) (u82.2.1 1) lw rot vb (nI 0) tk (upd live 0 (nI pa)) (u70.1 0) cur (u70.2.1 0) dur wo bts us act rd rs) H := hP
            have hD : va_D (xA 15 ad s.heap.size) (xw ad cd (u82.1 0) wr fl (u82.2.1 0) (u82.2.1 1) lw rot vb (nI 0) tk (upd live 0 (nI pa)) (u70.1 0) cur (u70.2.1 0) dur wo bts us act rd rs) := hD
            refine lv_aload_n hx hb d_S_writeLastLeaf_98 rfl (lv_at hl 0 rfl) ?_
            refine lv_aload_n hx hb d_S_writeLastLeaf_99 rfl (lv_at hl 1 rfl) ?_
            refine vp_callSi (va_runV (C := R_G) (As := []) (rest := [.ref (ad 1)]) ⟨hx, hb, hml, hown, hts⟩ (c_G_recordCount l dC dI ad cd (u82.1 0) wr fl (u82.2.1 0) (u82.2.1 1) lw rot vb (nI 0) tk (upd live 0 (nI pa)) (u70.1 0) cur (u70.2.1 0) dur wo bts us act rd rs 0 ) (cwV 0 hts (g_V t_209 t_210 t_211 t_4 t_212) rfl rfl rfl (by decide +kernel) ⟨by decide, by decide⟩) (xR_v hP hK hN 3 rfl rfl) rfl rfl hl.1 rfl (lv_room (Nat.le_of_ble_eq_true rfl)) d_S_writeLastLeaf_100 ⟨Nat.le_refl _, Nat.le_refl _⟩).run (fun r100 q100 => ?_)
            have q100 := q100.symm
            subst q100
            refine va_put (D := (dC, dI)) (ci := 3) (v := .int (nI 0)) (ty := .int) (C := R_S) (T := F_S) (N := 7) hx hb hts (fun w h => List.mem_cons_of_mem _ (in_S w h)) t_S ok_S nm_S hown hK hP hD hS 1 rfl rfl 5 (by decide) (hts (.fieldLink R_S 32 R_S "durable" "I") (List.mem_cons_of_mem _ t_57)) (fun _ h9 => h9) rfl (by decide +kernel) rfl rfl (Nat.le_of_ble_eq_true rfl) d_S_writeLastLeaf_103 (fun H locs hP hD hS => ?_)
            have hP : va_P (dC, dI) vwCl (xw ad cd (u82.1 0) wr fl (u82.2.1 0) (u82.2.1 1) lw rot vb (nI 0) tk (upd live 0 (nI pa)) (u70.1 0) cur (u70.2.1 0) (nI 0) wo bts us act rd rs) H := hP
            have hD : va_D (xA 15 ad s.heap.size) (xw ad cd (u82.1 0) wr fl (u82.2.1 0) (u82.2.1 1) lw rot vb (nI 0) tk (upd live 0 (nI pa)) (u70.1 0) cur (u70.2.1 0) (nI 0) wo bts us act rd rs) := hD
            refine lv_iconst (v := nI 1) hx hb d_S_writeLastLeaf_106 (by decide) ?_
            exact W.iret (v := nI 1) hx hb hr (fun t ht hW => ⟨⟨nI 1, (fun i => [u82.1 0, upd live 0 (nI pa), u70.1 0].getD i (fun _ => 0), fun i => [u82.2.1 0, u82.2.1 1, u70.2.1 0, nI 0].getD i 0, fun i => [].getD i 0), rfl, ⟨Or.inl rfl, hpw, PG_upd hlv (PG.of (by omega))⟩, ⟨by rw [ht]; exact hP, va_K.moved hW.alike hK, hD⟩⟩, hS.F ht⟩) hS.2.2 d_S_writeLastLeaf_107
          ·
            refine lv_bipush (v := (-2)) hx hb d_S_writeLastLeaf_88 (by decide) ?_
            exact W.iret (v := (-2)) hx hb hr (fun t ht hW => ⟨⟨(-2), (fun i => [u82.1 0, live, u70.1 0].getD i (fun _ => 0), fun i => [u82.2.1 0, u82.2.1 1, u70.2.1 0, dur].getD i 0, fun i => [].getD i 0), rfl, ⟨Or.inr (Or.inr rfl), hpw, hlv⟩, ⟨by rw [ht]; exact hP, va_K.moved hW.alike hK, hD⟩⟩, hS.F ht⟩) hS.2.2 d_S_writeLastLeaf_90
        ·
          have c38 := cd_ge_f (by omega) (by omega) c38
          refine lv_aload_n hx hb d_S_writeLastLeaf_41 rfl (lv_at hl 0 rfl) ?_
          refine va_get (D := (dC, dI)) (ci := 3) (v := .ref (ad 7)) (C := R_S) (T := F_S) (N := 7) hx hb hts (fun w h => List.mem_cons_of_mem _ (in_S w h)) hown hK hP 1 rfl rfl 2 (by decide) (hts (.fieldLink R_S 22 R_S "row" "[I") (List.mem_cons_of_mem _ t_54)) (fun _ h9 => h9) rfl d_S_writeLastLeaf_42 ?_
          refine lv_iload hx hb d_S_writeLastLeaf_45 (lv_at hl 5 rfl) ?_
          refine lv_iconst (v := nI 0) hx hb d_S_writeLastLeaf_47 (by decide) ?_
          refine va_iast hx hb hK hP hD hS 7 2 rfl rfl (vp_in_nI (by omega) (by decide)) d_S_writeLastLeaf_48 (fun H locs hP hD hS => ?_)
          rw [nI_clamp (by omega)] at hP hD
          have hP : va_P (dC, dI) vwCl (xw ad cd w wr fl pw sc lw rot vb (nI 0) tk live (upd rv k (nI 0)) cur ser dur wo bts us act rd rs) H := hP
          have hD : va_D (xA 15 ad s.heap.size) (xw ad cd w wr fl pw sc lw rot vb (nI 0) tk live (upd rv k (nI 0)) cur ser dur wo bts us act rd rs) := hD
          refine lv_iinc (k := 5) (v := nI (k + 1)) hx hb d_S_writeLastLeaf_49 hl rfl (nI_1 _) (by decide) rfl (fun ls hl => ?_)
          have hl : lv_has ls 6 [(5, .int (nI (k + 1))), (0, .ref (ad 1)), (1, .ref (ad 3)), (2, .int (nI pa)), (3, .int (nI 0)), (4, .int (nI (0 - (0 * 3))))] := hl
          refine lv_goto (tgt := 34) hx hb d_S_writeLastLeaf_52 (by decide) ?_
          exact ih34 (k + 1) (upd rv k (nI 0)) H locs ls (by omega) (by omega) (by omega) (lv_sub hl [1, 2, 3, 4, 5, 0] rfl) hP hD hS
    exact lp34 _ 2 (upd row 0 (nI ((4 * 0) + (0 - (0 * 3))))) H locs ls (Nat.lt_succ_self _) (by omega) (by omega) (lv_sub hl [3, 4, 5, 2, 1, 0] rfl) hP hD hS
  ·
    refine lv_aload_n hx hb d_S_writeLastLeaf_0 rfl (lv_at hl 1 rfl) ?_
    refine vp_callSi (va_runV (C := R_G) (As := []) (rest := []) ⟨hx, hb, hml, hown, hts⟩ (c_G_recordCount l dC dI ad cd w wr fl pw sc lw rot vb (nI rn) tk live row cur ser dur wo bts us act rd rs rn ) (cwV 0 hts (g_V t_209 t_210 t_211 t_4 t_212) rfl rfl rfl (by decide +kernel) ⟨by decide, by decide⟩) (xR_v hP hK hN 3 rfl rfl) rfl rfl hl.1 rfl (lv_room (Nat.le_of_ble_eq_true rfl)) d_S_writeLastLeaf_1 ⟨Nat.le_refl _, Nat.le_refl _⟩).run (fun r1 q1 => ?_)
    have q1 := q1.symm
    subst q1
    refine lv_iconst (v := nI 1) hx hb d_S_writeLastLeaf_4 (by decide) ?_
    refine lv_isub hx hb d_S_writeLastLeaf_5 ?_
    refine tp_i (y := nI (rn - 1)) (pk_sub (by omega)) ?_
    refine lv_iconst (v := nI 3) hx hb d_S_writeLastLeaf_6 (by decide) ?_
    refine lv_idiv hx hb d_S_writeLastLeaf_7 (by decide) ?_
    refine tp_i (y := nI ((rn - 1) / 3)) (pk_div (by omega) (by omega) (by omega)) ?_
    refine lv_istore_n hx hb d_S_writeLastLeaf_8 rfl hl (by decide) rfl (fun ls hl => ?_)
    have hl : lv_has ls 6 [(3, .int (nI ((rn - 1) / 3))), (0, .ref (ad 1)), (1, .ref (ad 3)), (2, .int (nI pa))] := hl
    refine lv_aload_n hx hb d_S_writeLastLeaf_9 rfl (lv_at hl 2 rfl) ?_
    refine vp_callSi (va_runV (C := R_G) (As := []) (rest := []) ⟨hx, hb, hml, hown, hts⟩ (c_G_recordCount l dC dI ad cd w wr fl pw sc lw rot vb (nI rn) tk live row cur ser dur wo bts us act rd rs rn ) (cwV 0 hts (g_V t_209 t_210 t_211 t_4 t_212) rfl rfl rfl (by decide +kernel) ⟨by decide, by decide⟩) (xR_v hP hK hN 3 rfl rfl) rfl rfl hl.1 rfl (lv_room (Nat.le_of_ble_eq_true rfl)) d_S_writeLastLeaf_10 ⟨Nat.le_refl _, Nat.le_refl _⟩).run (fun r10 q10 => ?_)
    have q10 := q10.symm
    subst q10
    refine lv_iload_n hx hb d_S_writeLastLeaf_13 rfl (lv_at hl 0 rfl) ?_
    refine lv_iconst (v := nI 3) hx hb d_S_writeLastLeaf_14 (by decide) ?_
    refine lv_imul hx hb d_S_writeLastLeaf_15 ?_
    refine tp_i (y := nI (((rn - 1) / 3) * 3)) (pk_mul _ _) ?_
    refine lv_isub hx hb d_S_writeLastLeaf_16 ?_
    refine tp_i (y := nI (rn - (((rn - 1) / 3) * 3))) (pk_sub (by omega)) ?_
    refine lv_istore hx hb d_S_writeLastLeaf_17 hl (by decide) rfl (fun ls hl => ?_)
    have hl : lv_has ls 6 [(4, .int (nI (rn - (((rn - 1) / 3) * 3)))), (3, .int (nI ((rn - 1) / 3))), (0, .ref (ad 1)), (1, .ref (ad 3)), (2, .int (nI pa))] := hl
    refine lv_aload_n hx hb d_S_writeLastLeaf_19 rfl (lv_at hl 2 rfl) ?_
    refine va_get (D := (dC, dI)) (ci := 3) (v := .ref (ad 7)) (C := R_S) (T := F_S) (N := 7) hx hb hts (fun w h => List.mem_cons_of_mem _ (in_S w h)) hown hK hP 1 rfl rfl 2 (by decide) (hts (.fieldLink R_S 22 R_S "row" "[I") (List.mem_cons_of_mem _ t_54)) (fun _ h9 => h9) rfl d_S_writeLastLeaf_20 ?_
    refine lv_iconst (v := nI 0) hx hb d_S_writeLastLeaf_23 (by decide) ?_
    refine lv_iconst (v := nI 4) hx hb d_S_writeLastLeaf_24 (by decide) ?_
    refine lv_iload_n hx hb d_S_writeLastLeaf_25 rfl (lv_at hl 1 rfl) ?_
    refine lv_imul hx hb d_S_writeLastLeaf_26 ?_
    refine tp_i (y := nI (4 * ((rn - 1) / 3))) (pk_mul _ _) ?_
    refine lv_iload hx hb d_S_writeLastLeaf_27 (lv_at hl 0 rfl) ?_
    refine lv_iadd hx hb d_S_writeLastLeaf_29 ?_
    refine tp_i (y := nI ((4 * ((rn - 1) / 3)) + (rn - (((rn - 1) / 3) * 3)))) (nI_add _ _) ?_
    refine va_iast hx hb hK hP hD hS 7 2 rfl rfl (vp_in_nI (by omega) (by decide)) d_S_writeLastLeaf_30 (fun H locs hP hD hS => ?_)
    rw [nI_clamp (by omega)] at hP hD
    have hP : va_P (dC, dI) vwCl (xw ad cd w wr fl pw sc lw rot vb (nI rn) tk live (upd row 0 (nI ((4 * ((rn - 1) / 3)) + (rn - (((rn - 1) / 3) * 3))))) cur ser dur wo bts us act rd rs) H := hP
    have hD : va_D (xA 15 ad s.heap.size) (xw ad cd w wr fl pw sc lw rot vb (nI rn) tk live (upd row 0 (nI ((4 * ((rn - 1) / 3)) + (rn - (((rn - 1) / 3) * 3))))) cur ser dur wo bts us act rd rs) := hD
    refine lv_iconst (v := nI 2) hx hb d_S_writeLastLeaf_31 (by decide) ?_
    refine lv_istore hx hb d_S_writeLastLeaf_32 hl (by decide) rfl (fun ls hl => ?_)
    have hl : lv_has ls 6 [(5, .int (nI 2)), (4, .int (nI (rn - (((rn - 1) / 3) * 3)))), (3, .int (nI ((rn - 1) / 3))), (0, .ref (ad 1)), (1, .ref (ad 3)), (2, .int (nI pa))] := hl
    have lp34 : ∀ (n : Nat) (k : Nat) (rv : Nat → Int32) (H : Heap) (locs : List Loc) (ls : Array Slot), (14 - k) < n → (k ≤ 14) → (2 ≤ k) → lv_has ls 6 [(0, .ref (ad 1)), (1, .ref (ad 3)), (2, .int (nI pa)), (3, .int (nI ((rn - 1) / 3))), (4, .int (nI (rn - (((rn - 1) / 3) * 3)))), (5, .int (nI k))] → va_P (dC, dI) vwCl (xw ad cd w wr fl pw sc lw rot vb (nI rn) tk live rv cur ser dur wo bts us act rd rs) H → va_D (xA 15 ad s.heap.size) (xw ad cd w wr fl pw sc lw rot vb (nI rn) tk live rv cur ser dur wo bts us act rd rs) → va_S (xA 15 ad s.heap.size) s.heap H locs → W P l e (headSpec w_S_writeLastLeaf ({ frames := 2, cells := 0, slots := 0, locals := 44 })).room s m (([.ref (ad 1), .ref (ad 3), .int (nI pa)] : List Value).toArray) below meth c0 H locs 0 0 (MQ below (va_Qi (fun r (u : (Nat → Nat → Int32) × (Nat → Int32) × (Nat → Nat)) => RO r ∧ B01 (u.2.1 0) ∧ ∀ i, i < 16 → PG 32 ((u.1 1) i)) (fun (u : (Nat → Nat → Int32) × (Nat → Int32) × (Nat → Nat)) (t : State) => xB (dC, dI) vwCl (xt cd) (xA 15 ad s.heap.size) (xw ad cd (u.1 0) wr fl (u.2.1 0) (u.2.1 1) lw rot vb (nI rn) tk (u.1 1) (u.1 2) cur (u.2.1 2) (u.2.1 3) wo bts us act rd rs) t) (xA 15 ad s.heap.size)) (([.ref (ad 1), .ref (ad 3), .int (nI pa)] : List Value).toArray) s 0 0 (xA 15 ad s.heap.size)) (F0 m 34 ls []) := by
      intro n
      induction n with
      | zero => intro k rv H locs ls hm; intros; omega
      | succ n ih34 =>
        intro k rv H locs ls hm hk hk2 hl hP hD hS
        refine lv_iload hx hb d_S_writeLastLeaf_34 (lv_at hl 5 rfl) ?_
        refine lv_bipush (v := nI 14) hx hb d_S_writeLastLeaf_36 (by decide) ?_
        refine lv_icmp_ge (tgt := 55) hx hb d_S_writeLastLeaf_38 (by decide) (fun c38 => ?_) (fun c38 => ?_)
        ·
          have c38 := cd_ge_t (by omega) (by omega) c38
          refine lv_aload_n hx hb d_S_writeLastLeaf_55 rfl (lv_at hl 1 rfl) ?_
          refine lv_iload_n hx hb d_S_writeLastLeaf_56 rfl (lv_at hl 3 rfl) ?_
          refine lv_iconst (v := nI 3) hx hb d_S_writeLastLeaf_57 (by decide) ?_
          refine lv_imul hx hb d_S_writeLastLeaf_58 ?_
          refine tp_i (y := nI (((rn - 1) / 3) * 3)) (pk_mul _ _) ?_
          refine lv_iload hx hb d_S_writeLastLeaf_59 (lv_at hl 4 rfl) ?_
          refine lv_aload_n hx hb d_S_writeLastLeaf_61 rfl (lv_at hl 0 rfl) ?_
          refine va_get (D := (dC, dI)) (ci := 3) (v := .ref (ad 7)) (C := R_S) (T := F_S) (N := 7) hx hb hts (fun w h => List.mem_cons_of_mem _ (in_S w h)) hown hK hP 1 rfl rfl 2 (by decide) (hts (.fieldLink R_S 22 R_S "row" "[I") (List.mem_cons_of_mem _ t_54)) (fun _ h9 => h9) rfl d_S_writeLastLeaf_62 ?_
          refine lv_iconst (v := nI 2) hx hb d_S_writeLastLeaf_65 (by decide) ?_
          have hSz := hS.1
          refine va_callv (va_runV (C := R_G) (As := [.int (nI (((rn - 1) / 3) * 3)), .int (nI (rn - (((rn - 1) / 3) * 3))), .ref (ad 7), .int (nI 2)]) (rest := []) ⟨hx, hb, hml, hown, hts⟩ (c_G_copyRecords l dC dI ad cd H.size w wr fl pw sc lw rot vb (nI rn) tk live rv cur ser dur wo bts us act rd rs (((rn - 1) / 3) * 3) (rn - (((rn - 1) / 3) * 3)) 2 (by first | omega | rfl | assumption | decide) (by first | omega | rfl | assumption | decide)) (cwV 4 hts (g_V t_462 t_463 t_464 t_4 t_465) rfl rfl rfl (by decide +kernel) ⟨by decide, by decide⟩) (xP_v hP hK hD hN 3 rfl rfl) rfl rfl hl.1 rfl (lv_room (Nat.le_of_ble_eq_true rfl)) d_S_writeLastLeaf_66 ⟨Nat.le_refl _, Nat.le_refl _⟩) hS (fun q _ h => xA_up hS.1 q h) (fun q h => xA_up hS.1 q h) (fun u66 t H1 locs1 ht hvm q66 hB hz1 hk1 hS => ?_)
          obtain ⟨hP1, hK1, hD1⟩ := hB
          rw [ht] at hP1
          have hD : va_D (xA 15 ad s.heap.size) (xw ad cd w wr fl pw sc lw rot vb (nI rn) tk live (u66.1 0) cur ser dur wo bts us act rd rs) := hD1.weaken (fun _ q _ h => xA_up hSz _ h)
          have hP : va_P (dC, dI) vwCl (xw ad cd w wr fl pw sc lw rot vb (nI rn) tk live (u66.1 0) cur ser dur wo bts us act rd rs) H1 := hP1
          generalize H1 = H at hP hS ⊢
          generalize locs1 = locs at hS ⊢
          have hk66 := q66
          refine lv_aload_n hx hb d_S_writeLastLeaf_69 rfl (lv_at hl 0 rfl) ?_
          have hSz := hS.1
          refine va_callv (va_runV (C := R_S) (As := []) (rest := []) ⟨hx, hb, hml, hown, hts⟩ (c_S_sealRow l dC dI ad cd H.size w wr fl pw sc lw rot vb (nI rn) tk live (u66.1 0) cur ser dur wo bts us act rd rs  ) (cwV 0 hts (g_V t_448 t_450 s_16 t_2 t_451) rfl rfl rfl (by decide +kernel) ⟨by decide, by decide⟩) (xP_v hP hK hD hN 1 rfl rfl) rfl rfl hl.1 rfl (lv_room (Nat.le_of_ble_eq_true rfl)) d_S_writeLastLeaf_70 ⟨Nat.le_refl _, Nat.le_refl _⟩) hS (fun q _ h => xA_up hS.1 q h) (fun q h => xA_up hS.1 q h) (fun u70 t H1 locs1 ht hvm q70 hB hz1 hk1 hS => ?_)
          obtain ⟨hP1, hK1, hD1⟩ := hB
          rw [ht] at hP1
          have hD : va_D (xA 15 ad s.heap.size) (xw ad cd w wr fl pw sc lw rot vb (nI rn) tk live (u70.1 0) cur (u70.2.1 0) dur wo bts us act rd rs) := hD1.weaken (fun _ q _ h => xA_up hSz _ h)
          have hP : va_P (dC, dI) vwCl (xw ad cd w wr fl pw sc lw rot vb (nI rn) tk live (u70.1 0) cur (u70.2.1 0) dur wo bts us act rd rs) H1 := hP1
          generalize H1 = H at hP hS ⊢
          generalize locs1 = locs at hS ⊢
          have hk70 := q70
          refine lv_aload_n hx hb d_S_writeLastLeaf_73 rfl (lv_at hl 0 rfl) ?_
          refine va_get (D := (dC, dI)) (ci := 3) (v := .ref (ad 2)) (C := R_S) (T := F_S) (N := 7) hx hb hts (fun w h => List.mem_cons_of_mem _ (in_S w h)) hown hK hP 1 rfl rfl 0 (by decide) (hts (.fieldLink R_S 12 R_S "chip" "LWeighRecorder$Chip;") (List.mem_cons_of_mem _ t_52)) (fun _ h9 => h9) rfl d_S_writeLastLeaf_74 ?_
          refine lv_iload_n hx hb d_S_writeLastLeaf_77 rfl (lv_at hl 2 rfl) ?_
          refine lv_aload_n hx hb d_S_writeLastLeaf_78 rfl (lv_at hl 0 rfl) ?_
          refine va_get (D := (dC, dI)) (ci := 3) (v := .ref (ad 7)) (C := R_S) (T := F_S) (N := 7) hx hb hts (fun w h => List.mem_cons_of_mem _ (in_S w h)) hown hK hP 1 rfl rfl 2 (by decide) (hts (.fieldLink R_S 22 R_S "row" "[I") (List.mem_cons_of_mem _ t_54)) (fun _ h9 => h9) rfl d_S_writeLastLeaf_79 ?_
          have hSz := hS.1
          refine va_calli (va_runV (C := R_C) (As := [.int (nI pa), .ref (ad 7)]) (rest := []) ⟨hx, hb, hml, hown, hts⟩ (c_C_writePage l dC dI ad cd H.size w wr fl pw sc lw rot vb (nI rn) tk live (u70.1 0) cur (u70.2.1 0) dur wo bts us act rd rs pa (by first | omega | rfl | assumption | decide) (by first | omega | rfl | assumption | decide)) (cwV 2 hts (g_V t_454 t_455 t_456 t_3 t_457) rfl rfl rfl (by decide +kernel) ⟨by decide, by decide⟩) (xP_v hP hK hD hN 2 rfl rfl) rfl rfl hl.1 rfl (lv_room (Nat.le_of_ble_eq_true rfl)) d_S_writeLastLeaf_82 ⟨Nat.le_refl _, Nat.le_refl _⟩) hS (fun q _ h => xA_up hS.1 q h) (fun q h => xA_up hS.1 q h) (fun r82 u82 t H1 locs1 ht hvm q82 hB hz1 hk1 hS => ?_)
          obtain ⟨hP1, hK1, hD1⟩ := hB
          rw [ht] at hP1
          have hD : va_D (xA 15 ad s.heap.size) (xw ad cd (u82.1 0) wr fl (u82.2.1 0) (u82.2.1 1) lw rot vb (nI rn) tk live (u70.1 0) cur (u70.2.1 0) dur wo bts us act rd rs) := hD1.weaken (fun _ q _ h => xA_up hSz _ h)
          have hP : va_P (dC, dI) vwCl (xw ad cd (u82.1 0) wr fl (u82.2.1 0) (u82.2.1 1) lw rot vb (nI rn) tk live (u70.1 0) cur (u70.2.1 0) dur wo bts us act rd rs) H1 := hP1
          generalize H1 = H at hP hS ⊢
          generalize locs1 = locs at hS ⊢
          obtain ⟨hr82, hpw⟩ := q82
          refine lv_if_ne (tgt := 91) hx hb d_S_writeLastLeaf_85 (by decide) (fun c85 => ?_) (fun c85 => ?_)
          ·
            refine lv_aload_n hx hb d_S_writeLastLeaf_91 rfl (lv_at hl 0 rfl) ?_
            refine va_get (D := (dC, dI)) (ci := 3) (v := .ref (ad 6)) (C := R_S) (T := F_S) (N := 7) hx hb hts (fun w h => List.mem_cons_of_mem _ (in_S w h)) hown hK hP 1 rfl rfl 1 (by decide) (hts (.fieldLink R_S 18 R_S "livePages" "[I") (List.mem_cons_of_mem _ t_53)) (fun _ h9 => h9) rfl d_S_writeLastLeaf_92 ?_
            refine lv_iload_n hx hb d_S_writeLastLeaf_95 rfl (lv_at hl 3 rfl) ?_
            refine lv_iload_n hx hb d_S_writeLastLeaf_96 rfl (lv_at hl 2 rfl) ?_
            refine va_iast hx hb hK hP hD hS 6 1 rfl rfl (vp_in_nI (by omega) (by decide)) d_S_writeLastLeaf_97 (fun H locs hP hD hS => ?_)
            rw [nI_clamp (by omega)] at hP hD
            have hP : va_P (dC, dI) vwCl (xw ad cd (u82.1 0) wr fl (u82.2.1 0) (u82.2.1 1) lw rot vb (nI rn) tk (upd live ((rn - 1) / 3) (nI pa)) (u70.1 0) cur (u70.2.1 0) dur wo bts us act rd rs) H := hP
            have hD : va_D (xA 15 ad s.heap.size) (xw ad cd (u82.1 0) wr fl (u82.2.1 0) (u82.2.1 1) lw rot vb (nI rn) tk (upd live ((rn - 1) / 3) (nI pa)) (u70.1 0) cur (u70.2.1 0) dur wo bts us act rd rs) := hD
            refine lv_aload_n hx hb d_S_writeLastLeaf_98 rfl (lv_at hl 0 rfl) ?_
            refine lv_aload_n hx hb d_S_writeLastLeaf_99 rfl (lv_at hl 1 rfl) ?_
            refine vp_callSi (va_runV (C := R_G) (As := []) (rest := [.ref (ad 1)]) ⟨hx, hb, hml, hown, hts⟩ (c_G_recordCount l dC dI ad cd (u82.1 0) wr fl (u82.2.1 0) (u82.2.1 1) lw rot vb (nI rn) tk (upd live ((rn - 1) / 3) (nI pa)) (u70.1 0) cur (u70.2.1 0) dur wo bts us act rd rs rn ) (cwV 0 hts (g_V t_209 t_210 t_211 t_4 t_212) rfl rfl rfl (by decide +kernel) ⟨by decide, by decide⟩) (xR_v hP hK hN 3 rfl rfl) rfl rfl hl.1 rfl (lv_room (Nat.le_of_ble_eq_true rfl)) d_S_writeLastLeaf_100 ⟨Nat.le_refl _, Nat.le_refl _⟩).run (fun r100 q100 => ?_)
            have q100 := q100.symm
            subst q100
            refine va_put (D := (dC, dI)) (ci := 3) (v := .int (nI rn)) (ty := .int) (C := R_S) (T := F_S) (N := 7) hx hb hts (fun w h => List.mem_cons_of_mem _ (in_S w h)) t_S ok_S nm_S hown hK hP hD hS 1 rfl rfl 5 (by decide) (hts (.fieldLink R_S 32 R_S "durable" "I") (List.mem_cons_of_mem _ t_57)) (fun _ h9 => h9) rfl (by decide +kernel) rfl rfl (Nat.le_of_ble_eq_true rfl) d_S_writeLastLeaf_103 (fun H locs hP hD hS => ?_)
            have hP : va_P (dC, dI) vwCl (xw ad cd (u82.1 0) wr fl (u82.2.1 0) (u82.2.1 1) lw rot vb (nI rn) tk (upd live ((rn - 1) / 3) (nI pa)) (u70.1 0) cur (u70.2.1 0) (nI rn) wo bts us act rd rs) H := hP
            have hD : va_D (xA 15 ad s.heap.size) (xw ad cd (u82.1 0) wr fl (u82.2.1 0) (u82.2.1 1) lw rot vb (nI rn) tk (upd live ((rn - 1) / 3) (nI pa)) (u70.1 0) cur (u70.2.1 0) (nI rn) wo bts us act rd rs) := hD
            refine lv_iconst (v := nI 1) hx hb d_S_writeLastLeaf_106 (by decide) ?_
            exact W.iret (v := nI 1) hx hb hr (fun t ht hW => ⟨⟨nI 1, (fun i => [u82.1 0, upd live ((rn - 1) / 3) (nI pa), u70.1 0].getD i (fun _ => 0), fun i => [u82.2.1 0, u82.2.1 1, u70.2.1 0, nI rn].getD i 0, fun i => [].getD i 0), rfl, ⟨Or.inl rfl, hpw, PG_upd hlv (PG.of (by omega))⟩, ⟨by rw [ht]; exact hP, va_K.moved hW.alike hK, hD⟩⟩, hS.F ht⟩) hS.2.2 d_S_writeLastLeaf_107
          ·
            refine lv_bipush (v := (-2)) hx hb d_S_writeLastLeaf_88 (by decide) ?_
            exact W.iret (v := (-2)) hx hb hr (fun t ht hW => ⟨⟨(-2), (fun i => [u82.1 0, live, u70.1 0].getD i (fun _ => 0), fun i => [u82.2.1 0, u82.2.1 1, u70.2.1 0, dur].getD i 0, fun i => [].getD i 0), rfl, ⟨Or.inr (Or.inr rfl), hpw, hlv⟩, ⟨by rw [ht]; exact hP, va_K.moved hW.alike hK, hD⟩⟩, hS.F ht⟩) hS.2.2 d_S_writeLastLeaf_90
        ·
          have c38 := cd_ge_f (by omega) (by omega) c38
          refine lv_aload_n hx hb d_S_writeLastLeaf_41 rfl (lv_at hl 0 rfl) ?_
          refine va_get (D := (dC, dI)) (ci := 3) (v := .ref (ad 7)) (C := R_S) (T := F_S) (N := 7) hx hb hts (fun w h => List.mem_cons_of_mem _ (in_S w h)) hown hK hP 1 rfl rfl 2 (by decide) (hts (.fieldLink R_S 22 R_S "row" "[I") (List.mem_cons_of_mem _ t_54)) (fun _ h9 => h9) rfl d_S_writeLastLeaf_42 ?_
          refine lv_iload hx hb d_S_writeLastLeaf_45 (lv_at hl 5 rfl) ?_
          refine lv_iconst (v := nI 0) hx hb d_S_writeLastLeaf_47 (by decide) ?_
          refine va_iast hx hb hK hP hD hS 7 2 rfl rfl (vp_in_nI (by omega) (by decide)) d_S_writeLastLeaf_48 (fun H locs hP hD hS => ?_)
          rw [nI_clamp (by omega)] at hP hD
          have hP : va_P (dC, dI) vwCl (xw ad cd w wr fl pw sc lw rot vb (nI rn) tk live (upd rv k (nI 0)) cur ser dur wo bts us act rd rs) H := hP
          have hD : va_D (xA 15 ad s.heap.size) (xw ad cd w wr fl pw sc lw rot vb (nI rn) tk live (upd rv k (nI 0)) cur ser dur wo bts us act rd rs) := hD
          refine lv_iinc (k := 5) (v := nI (k + 1)) hx hb d_S_writeLastLeaf_49 hl rfl (nI_1 _) (by decide) rfl (fun ls hl => ?_)
          have hl : lv_has ls 6 [(5, .int (nI (k + 1))), (0, .ref (ad 1)), (1, .ref (ad 3)), (2, .int (nI pa)), (3, .int (nI ((rn - 1) / 3))), (4, .int (nI (rn - (((rn - 1) / 3) * 3))))] := hl
          refine lv_goto (tgt := 34) hx hb d_S_writeLastLeaf_52 (by decide) ?_
          exact ih34 (k + 1) (upd rv k (nI 0)) H locs ls (by omega) (by omega) (by omega) (lv_sub hl [1, 2, 3, 4, 5, 0] rfl) hP hD hS
    exact lp34 _ 2 (upd row 0 (nI ((4 * ((rn - 1) / 3)) + (rn - (((rn - 1) / 3) * 3))))) H locs ls (Nat.lt_succ_self _) (by omega) (by omega) (lv_sub hl [3, 4, 5, 2, 1, 0] rfl) hP hD hS
