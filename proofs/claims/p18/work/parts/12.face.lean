set_option maxHeartbeats 4000000 in
set_option maxRecDepth 100000 in
theorem c_R_isProduct (l : Launch) (dC : Nat → ClassId) (dI : Nat → Nat → Nat)  (v : Int32) : Met l y_R_isProduct w_R_isProduct ({ frames := 1, cells := 0, slots := 0, locals := 22 }) (xR (dC, dI) vwCl [] [] [.int v]) (vp_Si (fun r => (r = nI 1 ∧ (nI 0 ≤ v ∧ v ≤ nI 39)) ∨ (r = nI 0 ∧ ¬ (nI 0 ≤ v ∧ v ≤ nI 39)))) 0 0 (fun _ => False) := by
  refine Met.ofW (cc := b_R_isProduct) (maxL := 1) (ret := (some (.boolean))) (by decide) rfl ?_
  intro P e s m args below meth c0 s₁ B hml hv
  obtain ⟨rfl, hP, hK, hN⟩ := hv
  have hx := B.exec
  have hb := B.bytes
  have hr := B.returns
  have hts := atoms_spec (ws := w_R_isProduct) B.pre
  have hown : s.vm.findClass R_R = some m.cls := findClass_of_methodNamed B.named
  have hlocks := B.notSynchronized
  have hl := lv_entry ([.int v]) (n := 1) (Nat.le_of_ble_eq_true rfl)
  rw [lg_entry_eq]
  generalize (lg_sl ([.int v]) ++ List.replicate (1 - (lg_sl ([.int v])).length) Slot.unset).toArray = ls at hl ⊢
  have hl : lv_has ls 1 [(0, .int v)] := hl
  refine lv_iload_n hx hb d_R_isProduct_0 rfl (lv_at hl 0 rfl) ?_
  refine lv_iconst (v := nI 0) hx hb d_R_isProduct_1 (by decide) ?_
  refine lv_bipush (v := nI 39) hx hb d_R_isProduct_2 (by decide) ?_
  refine vp_callSi (va_runS (As := [.int v, .int (nI 0), .int (nI 39)]) (rest := []) ⟨hx, hb, hml, hown, hts⟩ (c_R_isWithin l dC dI v (nI 0) (nI 39) ) (cwS 3 hts (g_S t_271 t_207 t_1 t_208) rfl rfl rfl (by decide +kernel) ⟨by decide, by decide⟩) (xR_s (va_P.sub hP [] rfl) (hK.sub [] rfl) hN) rfl rfl hl.1 rfl (lv_room (Nat.le_of_ble_eq_true rfl)) d_R_isProduct_4 ⟨Nat.le_refl _, Nat.le_refl _⟩).run (fun r4 q4 => ?_)
  exact W.zret (v := r4) hx hb hr (by rcases q4 with ⟨h, -⟩ | ⟨h, -⟩ <;> rw [h] <;> rfl) (fun t ht hW => ⟨r4, rfl, q4, ht⟩) (fun q hq => by cases hq) d_R_isProduct_7
set_option maxHeartbeats 4000000 in
set_option maxRecDepth 100000 in
theorem c_R_isPlace (l : Launch) (dC : Nat → ClassId) (dI : Nat → Nat → Nat)  (v k : Int32) : Met l y_R_isPlace w_R_isPlace ({ frames := 1, cells := 0, slots := 0, locals := 22 }) (xR (dC, dI) vwCl [] [] [.int v, .int k]) (vp_Si (fun r => (r = nI 1 ∧ ((nI 0 ≤ v ∧ v ≤ nI 31) ∧ (nI 0 ≤ k ∧ k ≤ nI 15))) ∨ (r = nI 0 ∧ ¬ ((nI 0 ≤ v ∧ v ≤ nI 31) ∧ (nI 0 ≤ k ∧ k ≤ nI 15))))) 0 0 (fun _ => False) := by
  refine Met.ofW (cc := b_R_isPlace) (maxL := 2) (ret := (some (.boolean))) (by decide) rfl ?_
  intro P e s m args below meth c0 s₁ B hml hv
  obtain ⟨rfl, hP, hK, hN⟩ := hv
  have hx := B.exec
  have hb := B.bytes
  have hr := B.returns
  have hts := atoms_spec (ws := w_R_isPlace) B.pre
  have hown : s.vm.findClass R_R = some m.cls := findClass_of_methodNamed B.named
  have hlocks := B.notSynchronized
  have hl := lv_entry ([.int v, .int k]) (n := 2) (Nat.le_of_ble_eq_true rfl)
  rw [lg_entry_eq]
  generalize (lg_sl ([.int v, .int k]) ++ List.replicate (2 - (lg_sl ([.int v, .int k])).length) Slot.unset).toArray = ls at hl ⊢
  have hl : lv_has ls 2 [(0, .int v), (1, .int k)] := hl
  refine lv_iload_n hx hb d_R_isPlace_0 rfl (lv_at hl 0 rfl) ?_
  refine lv_iconst (v := nI 0) hx hb d_R_isPlace_1 (by decide) ?_
  refine lv_bipush (v := nI 31) hx hb d_R_isPlace_2 (by decide) ?_
  refine vp_callSi (va_runS (As := [.int v, .int (nI 0), .int (nI 31)]) (rest := []) ⟨hx, hb, hml, hown, hts⟩ (c_R_isWithin l dC dI v (nI 0) (nI 31) ) (cwS 3 hts (g_S t_271 t_207 t_1 t_208) rfl rfl rfl (by decide +kernel) ⟨by decide, by decide⟩) (xR_s (va_P.sub hP [] rfl) (hK.sub [] rfl) hN) rfl rfl hl.1 rfl (lv_room (Nat.le_of_ble_eq_true rfl)) d_R_isPlace_4 ⟨Nat.le_refl _, Nat.le_refl _⟩).run (fun r4 q4 => ?_)
  rcases q4 with ⟨rfl, hin4⟩ | ⟨rfl, hin4⟩
  ·
    refine lv_if_eq (tgt := 24) hx hb d_R_isPlace_7 (by decide) (fun c7 => ?_) (fun c7 => ?_)
    ·
      exact absurd c7 (by decide)
    ·
      refine lv_iload_n hx hb d_R_isPlace_10 rfl (lv_at hl 1 rfl) ?_
      refine lv_iconst (v := nI 0) hx hb d_R_isPlace_11 (by decide) ?_
      refine lv_bipush (v := nI 15) hx hb d_R_isPlace_12 (by decide) ?_
      refine vp_callSi (va_runS (As := [.int k, .int (nI 0), .int (nI 15)]) (rest := []) ⟨hx, hb, hml, hown, hts⟩ (c_R_isWithin l dC dI k (nI 0) (nI 15) ) (cwS 3 hts (g_S t_271 t_207 t_1 t_208) rfl rfl rfl (by decide +kernel) ⟨by decide, by decide⟩) (xR_s (va_P.sub hP [] rfl) (hK.sub [] rfl) hN) rfl rfl hl.1 rfl (lv_room (Nat.le_of_ble_eq_true rfl)) d_R_isPlace_14 ⟨Nat.le_refl _, Nat.le_refl _⟩).run (fun r14 q14 => ?_)
      rcases q14 with ⟨rfl, hin14⟩ | ⟨rfl, hin14⟩
      ·
        refine lv_if_eq (tgt := 24) hx hb d_R_isPlace_17 (by decide) (fun c17 => ?_) (fun c17 => ?_)
        ·
          exact absurd c17 (by decide)
        ·
          refine lv_iconst (v := nI 1) hx hb d_R_isPlace_20 (by decide) ?_
          refine lv_goto (tgt := 25) hx hb d_R_isPlace_21 (by decide) ?_
          exact W.zret (v := nI 1) hx hb hr (by first | rfl | decide | assumption) (fun t ht hW => ⟨nI 1, rfl, by first | exact Or.inl ⟨rfl, hin4, hin14⟩ | exact Or.inr ⟨rfl, fun z => hin14 z.2⟩ | exact Or.inr ⟨rfl, fun z => hin4 z.1⟩, ht⟩) (fun q hq => by cases hq) d_R_isPlace_25
      ·
        refine lv_if_eq (tgt := 24) hx hb d_R_isPlace_17 (by decide) (fun c17 => ?_) (fun c17 => ?_)
        ·
          refine lv_iconst (v := nI 0) hx hb d_R_isPlace_24 (by decide) ?_
          exact W.zret (v := nI 0) hx hb hr (by first | rfl | decide | assumption) (fun t ht hW => ⟨nI 0, rfl, by first | exact Or.inl ⟨rfl, hin4, hin14⟩ | exact Or.inr ⟨rfl, fun z => hin14 z.2⟩ | exact Or.inr ⟨rfl, fun z => hin4 z.1⟩, ht⟩) (fun q hq => by cases hq) d_R_isPlace_25
        ·
          exact absurd c17 (by decide)
  ·
    refine lv_if_eq (tgt := 24) hx hb d_R_isPlace_7 (by decide) (fun c7 => ?_) (fun c7 => ?_)
    ·
      refine lv_iconst (v := nI 0) hx hb d_R_isPlace_24 (by decide) ?_
      exact W.zret (v := nI 0) hx hb hr (by first | rfl | decide | assumption) (fun t ht hW => ⟨nI 0, rfl, by first | exact Or.inl ⟨rfl, hin4, hin14⟩ | exact Or.inr ⟨rfl, fun z => hin14 z.2⟩ | exact Or.inr ⟨rfl, fun z => hin4 z.1⟩, ht⟩) (fun q hq => by cases hq) d_R_isPlace_25
    ·
      exact absurd c7 (by decide)
set_option maxHeartbeats 4000000 in
set_option maxRecDepth 100000 in
theorem c_R_forgetReadings (l : Launch) (dC : Nat → ClassId) (dI : Nat → Nat → Nat) (ad cd : Nat → Nat) (sz : Nat) (w wr fl : Nat → Int32) (pw sc : Int32) (lw rot vb : Nat → Int32) (rec tk : Int32) (live row : Nat → Int32) (cur ser dur wo : Int32) (bts : Nat → Int32) (us : Int32) (act : Nat → Int32) (rd rs : Int32)  : Met l y_R_forgetReadings w_R_forgetReadings ({ frames := 0, cells := 0, slots := 0, locals := 0 }) (xP (dC, dI) vwCl (xt cd) (xw ad cd w wr fl pw sc lw rot vb rec tk live row cur ser dur wo bts us act rd rs) sz [.ref (ad 0)]) (va_Qv (fun (u : (Nat → Nat → Int32) × (Nat → Int32) × (Nat → Nat)) => True) (fun (u : (Nat → Nat → Int32) × (Nat → Int32) × (Nat → Nat)) (t : State) => xB (dC, dI) vwCl (xt cd) (xA 15 ad sz) (xw ad cd w wr fl pw sc lw rot vb rec tk live row cur ser dur wo bts us act (u.2.1 0) (u.2.1 1)) t) (xA 15 ad sz)) 0 0 (xA 15 ad sz) := by
  refine Met.ofW (cc := b_R_forgetReadings) (maxL := 1) (ret := none) (by decide) rfl ?_
  intro P e s m args below meth c0 s₁ B hml hv
  obtain ⟨rfl, hsz, hP, hK, hD0, hN⟩ := hv
  have hx := B.exec
  have hb := B.bytes
  have hr := B.returns
  have hts := atoms_spec (ws := w_R_forgetReadings) B.pre
  have hown : s.vm.findClass R_R = some m.cls := findClass_of_methodNamed B.named
  have hlocks := B.notSynchronized
  subst hsz
  have hD := xw_D (sz := s.heap.size) hD0
  have hS : va_S (xA 15 ad s.heap.size) s.heap s.heap [] := va_S.rf
  have hA : ∀ q : Nat, s.heap.size ≤ q → (xA 15 ad s.heap.size) q := fun q h => Or.inr h
  have hl := lv_entry ([.ref (ad 0)]) (n := 1) (Nat.le_of_ble_eq_true rfl)
  rw [lg_entry_eq]
  generalize (lg_sl ([.ref (ad 0)]) ++ List.replicate (1 - (lg_sl ([.ref (ad 0)])).length) Slot.unset).toArray = ls at hl ⊢
  have hl : lv_has ls 1 [(0, .ref (ad 0))] := hl
  refine lv_aload_n hx hb d_R_forgetReadings_0 rfl (lv_at hl 0 rfl) ?_
  refine lv_iconst (v := nI 0) hx hb d_R_forgetReadings_1 (by decide) ?_
  refine va_put (D := (dC, dI)) (ci := 4) (v := .int (nI 0)) (ty := .int) (C := R_R) (T := F_R) (N := 7) hx hb hts (fun w h => List.mem_cons_of_mem _ (in_R w h)) t_R ok_R nm_R hown hK hP hD hS 0 rfl rfl 5 (by decide) (hts (.fieldLink R_R 41 R_R "readings" "I") (List.mem_cons_of_mem _ t_119)) (fun _ h9 => h9) rfl (by decide +kernel) rfl rfl (Nat.le_of_ble_eq_true rfl) d_R_forgetReadings_2 (fun H locs hP hD hS => ?_)
  have hP : va_P (dC, dI) vwCl (xw ad cd w wr fl pw sc lw rot vb rec tk live row cur ser dur wo bts us act (nI 0) rs) H := hP
  have hD : va_D (xA 15 ad s.heap.size) (xw ad cd w wr fl pw sc lw rot vb rec tk live row cur ser dur wo bts us act (nI 0) rs) := hD
  refine lv_aload_n hx hb d_R_forgetReadings_5 rfl (lv_at hl 0 rfl) ?_
  refine lv_iconst (v := nI 0) hx hb d_R_forgetReadings_6 (by decide) ?_
  refine va_put (D := (dC, dI)) (ci := 4) (v := .int (nI 0)) (ty := .int) (C := R_R) (T := F_R) (N := 7) hx hb hts (fun w h => List.mem_cons_of_mem _ (in_R w h)) t_R ok_R nm_R hown hK hP hD hS 0 rfl rfl 6 (by decide) (hts (.fieldLink R_R 45 R_R "readSteps" "I") (List.mem_cons_of_mem _ t_120)) (fun _ h9 => h9) rfl (by decide +kernel) rfl rfl (Nat.le_of_ble_eq_true rfl) d_R_forgetReadings_7 (fun H locs hP hD hS => ?_)
  have hP : va_P (dC, dI) vwCl (xw ad cd w wr fl pw sc lw rot vb rec tk live row cur ser dur wo bts us act (nI 0) (nI 0)) H := hP
  have hD : va_D (xA 15 ad s.heap.size) (xw ad cd w wr fl pw sc lw rot vb rec tk live row cur ser dur wo bts us act (nI 0) (nI 0)) := hD
  exact W.vret hx hb hr (fun t ht hW => ⟨⟨(fun i => [].getD i (fun _ => 0), fun i => [nI 0, nI 0].getD i 0, fun i => [].getD i 0), rfl, by first | rfl | trivial | omega, ⟨by rw [ht]; exact hP, va_K.moved hW.alike hK, hD⟩⟩, hS.F ht⟩) hS.2.2 d_R_forgetReadings_10
set_option maxHeartbeats 4000000 in
set_option maxRecDepth 100000 in
theorem c_R_append (l : Launch) (dC : Nat → ClassId) (dI : Nat → Nat → Nat) (ad cd : Nat → Nat) (sz : Nat) (w wr fl : Nat → Int32) (pw sc : Int32) (lw rot vb : Nat → Int32) (rec tk : Int32) (live row : Nat → Int32) (cur ser dur wo : Int32) (bts : Nat → Int32) (us : Int32) (act : Nat → Int32) (rd rs : Int32) (rn : Nat) (tn : Nat) (fi : Int32) (se : Int32) (thi : Int32) (hpw : B01 pw) (hfl : ∀ i, i < 8 → B01 (fl i)) (hrt : tn ≤ rn) (hr48 : rn ≤ 48) (hrot : ∀ i, i < 48 → IX 48 (rot i)) (hlv : ∀ i, i < 16 → PG 32 (live i)) (hcu : PG 8 cur) (hwo : B01 wo) : Met l y_R_append w_R_append ({ frames := 5, cells := 0, slots := 0, locals := 113 }) (xP (dC, dI) vwCl (xt cd) (xw ad cd w wr fl pw sc lw rot vb (nI rn) (nI tn) live row cur ser dur wo bts us act rd rs) sz [.ref (ad 0), .int fi, .int se, .int thi]) (va_Qi (fun r (u : (Nat → Nat → Int32) × (Nat → Int32) × (Nat → Nat)) => B01 (u.2.1 0) ∧ (u.2.2 1) ≤ (u.2.2 0) ∧ (u.2.2 0) ≤ 48 ∧ (∀ i, i < 48 → IX 48 ((u.1 3) i)) ∧ (∀ i, i < 16 → PG 32 ((u.1 5) i)) ∧ PG 8 (u.2.1 2) ∧ B01 (u.2.1 5)) (fun (u : (Nat → Nat → Int32) × (Nat → Int32) × (Nat → Nat)) (t : State) => xB (dC, dI) vwCl (xt cd) (xA 15 ad sz) (xw ad cd (u.1 0) (u.1 1) fl (u.2.1 0) (u.2.1 1) (u.1 2) (u.1 3) (u.1 4) (nI (u.2.2 0)) (nI (u.2.2 1)) (u.1 5) (u.1 6) (u.2.1 2) (u.2.1 3) (u.2.1 4) (u.2.1 5) bts us act rd rs) t) (xA 15 ad sz)) 0 0 (xA 15 ad sz) := by
  refine Met.ofW (cc := b_R_append) (maxL := 5) (ret := (some (.int))) (by decide) rfl ?_
  intro P e s m args below meth c0 s₁ B hml hv
  obtain ⟨rfl, hsz, hP, hK, hD0, hN⟩ := hv
  have hx := B.exec
  have hb := B.bytes
  have hr := B.returns
  have hts := atoms_spec (ws := w_R_append) B.pre
  have hown : s.vm.findClass R_R = some m.cls := findClass_of_methodNamed B.named
  have hlocks := B.notSynchronized
  subst hsz
  have hD := xw_D (sz := s.heap.size) hD0
  have hS : va_S (xA 15 ad s.heap.size) s.heap s.heap [] := va_S.rf
  have hA : ∀ q : Nat, s.heap.size ≤ q → (xA 15 ad s.heap.size) q := fun q h => Or.inr h
  have hl := lv_entry ([.ref (ad 0), .int fi, .int se, .int thi]) (n := 5) (Nat.le_of_ble_eq_true rfl)
  rw [lg_entry_eq]
  generalize (lg_sl ([.ref (ad 0), .int fi, .int se, .int thi]) ++ List.replicate (5 - (lg_sl ([.ref (ad 0), .int fi, .int se, .int thi])).length) Slot.unset).toArray = ls at hl ⊢
  have hl : lv_has ls 5 [(0, .ref (ad 0)), (1, .int fi), (2, .int se), (3, .int thi)] := hl
  refine lv_aload_n hx hb d_R_append_0 rfl (lv_at hl 0 rfl) ?_
  refine va_get (D := (dC, dI)) (ci := 4) (v := .ref (ad 1)) (C := R_R) (T := F_R) (N := 7) hx hb hts (fun w h => List.mem_cons_of_mem _ (in_R w h)) hown hK hP 0 rfl rfl 0 (by decide) (hts (.fieldLink R_R 12 R_R "store" "LWeighRecorder$Store;") (List.mem_cons_of_mem _ t_114)) (fun _ h9 => h9) rfl d_R_append_1 ?_
  refine vp_callSi (va_runV (C := R_S) (As := []) (rest := []) ⟨hx, hb, hml, hown, hts⟩ (c_S_isWornOut l dC dI ad cd w wr fl pw sc lw rot vb (nI rn) (nI tn) live row cur ser dur wo bts us act rd rs  (by first | omega | rfl | assumption | decide)) (cwV 0 hts (g_V t_373 t_374 t_375 t_2 t_376) rfl rfl rfl (by decide +kernel) ⟨by decide, by decide⟩) (xR_v hP hK hN 1 rfl rfl) rfl rfl hl.1 rfl (lv_room (Nat.le_of_ble_eq_true rfl)) d_R_append_4 ⟨Nat.le_refl _, Nat.le_refl _⟩).run (fun r4 q4 => ?_)
  have hk4 := q4
  refine lv_if_eq (tgt := 12) hx hb d_R_append_7 (by decide) (fun c7 => ?_) (fun c7 => ?_)
  ·
    refine lv_aload_n hx hb d_R_append_12 rfl (lv_at hl 0 rfl) ?_
    refine va_get (D := (dC, dI)) (ci := 4) (v := .ref (ad 3)) (C := R_R) (T := F_R) (N := 7) hx hb hts (fun w h => List.mem_cons_of_mem _ (in_R w h)) hown hK hP 0 rfl rfl 2 (by decide) (hts (.fieldLink R_R 26 R_R "log" "LWeighRecorder$Log;") (List.mem_cons_of_mem _ t_116)) (fun _ h9 => h9) rfl d_R_append_13 ?_
    refine vp_callSi (va_runV (C := R_G) (As := []) (rest := []) ⟨hx, hb, hml, hown, hts⟩ (c_G_nextFillsLeaf l dC dI ad cd w wr fl pw sc lw rot vb (nI rn) (nI tn) live row cur ser dur wo bts us act rd rs rn (by first | omega | rfl | assumption | decide)) (cwV 0 hts (g_V t_377 t_378 t_379 t_4 t_380) rfl rfl rfl (by decide +kernel) ⟨by decide, by decide⟩) (xR_v hP hK hN 3 rfl rfl) rfl rfl hl.1 rfl (lv_room (Nat.le_of_ble_eq_true rfl)) d_R_append_16 ⟨Nat.le_refl _, Nat.le_refl _⟩).run (fun r16 q16 => ?_)
    have hk16 := q16
    refine lv_if_ne (tgt := 34) hx hb d_R_append_19 (by decide) (fun c19 => ?_) (fun c19 => ?_)
    ·
      refine lv_aload_n hx hb d_R_append_34 rfl (lv_at hl 0 rfl) ?_
      refine va_get (D := (dC, dI)) (ci := 4) (v := .ref (ad 1)) (C := R_R) (T := F_R) (N := 7) hx hb hts (fun w h => List.mem_cons_of_mem _ (in_R w h)) hown hK hP 0 rfl rfl 0 (by decide) (hts (.fieldLink R_R 12 R_R "store" "LWeighRecorder$Store;") (List.mem_cons_of_mem _ t_114)) (fun _ h9 => h9) rfl d_R_append_35 ?_
      have hSz := hS.1
      refine va_calli (va_runV (C := R_S) (As := []) (rest := []) ⟨hx, hb, hml, hown, hts⟩ (c_S_pageForLeaf l dC dI ad cd s.heap.size w wr fl pw sc lw rot vb (nI rn) (nI tn) live row cur ser dur wo bts us act rd rs  (by first | omega | rfl | assumption | decide) (by first | omega | rfl | assumption | decide) (by first | omega | rfl | assumption | decide) (by first | omega | rfl | assumption | decide) (by first | omega | rfl | assumption | decide)) (cwV 0 hts (g_V t_387 t_388 t_389 t_2 t_390) rfl rfl rfl (by decide +kernel) ⟨by decide, by decide⟩) (xP_v hP hK hD hN 1 rfl rfl) rfl rfl hl.1 rfl (lv_room (Nat.le_of_ble_eq_true rfl)) d_R_append_38 ⟨Nat.le_refl _, Nat.le_refl _⟩) hS (fun q _ h => xA_up hS.1 q h) (fun q h => xA_up hS.1 q h) (fun r38 u38 t H1 locs1 ht hvm q38 hB hz1 hk1 hS => ?_)
      obtain ⟨hP1, hK1, hD1⟩ := hB
      rw [ht] at hP1
      have hD : va_D (xA 15 ad s.heap.size) (xw ad cd (u38.1 0) (u38.1 1) fl (u38.2.1 0) (u38.2.1 1) lw rot vb (nI rn) (nI tn) (u38.1 2) (u38.1 3) (u38.2.1 2) (u38.2.1 3) dur (u38.2.1 4) bts us act rd rs) := hD1.weaken (fun _ q _ h => xA_up hSz _ h)
      have hP : va_P (dC, dI) vwCl (xw ad cd (u38.1 0) (u38.1 1) fl (u38.2.1 0) (u38.2.1 1) lw rot vb (nI rn) (nI tn) (u38.1 2) (u38.1 3) (u38.2.1 2) (u38.2.1 3) dur (u38.2.1 4) bts us act rd rs) H1 := hP1
      generalize H1 = H at hP hS ⊢
      generalize locs1 = locs at hS ⊢
      rcases q38 with ⟨rfl | rfl | ⟨p38, hp38, rfl⟩, hpw, hlv, hcu, hwo⟩
      ·
        refine lv_istore hx hb d_R_append_41 hl (by decide) rfl (fun ls hl => ?_)
        have hl : lv_has ls 5 [(4, .int (-1)), (0, .ref (ad 0)), (1, .int fi), (2, .int se), (3, .int thi)] := hl
        refine lv_iload hx hb d_R_append_43 (lv_at hl 0 rfl) ?_
        refine lv_if_ge (tgt := 51) hx hb d_R_append_45 (by decide) (fun c45 => ?_) (fun c45 => ?_)
        ·
          exact absurd c45 (by decide)
        ·
          refine lv_iload hx hb d_R_append_48 (lv_at hl 0 rfl) ?_
          exact W.iret (v := (-1)) hx hb hr (fun t ht hW => ⟨⟨(-1), (fun i => [u38.1 0, u38.1 1, lw, rot, vb, u38.1 2, u38.1 3].getD i (fun _ => 0), fun i => [u38.2.1 0, u38.2.1 1, u38.2.1 2, u38.2.1 3, dur, u38.2.1 4].getD i 0, fun i => [rn, tn].getD i 0), rfl, ⟨by first | exact hpw | exact B01.n0 | exact B01.n1, by first | exact hrt | omega, by first | exact hr48 | omega, hrot, hlv, by first | exact hcu | exact PG.m1, hwo⟩, ⟨by rw [ht]; exact hP, va_K.moved hW.alike hK, hD⟩⟩, hS.F ht⟩) hS.2.2 d_R_append_50
      ·
        refine lv_istore hx hb d_R_append_41 hl (by decide) rfl (fun ls hl => ?_)
        have hl : lv_has ls 5 [(4, .int (-2)), (0, .ref (ad 0)), (1, .int fi), (2, .int se), (3, .int thi)] := hl
        refine lv_iload hx hb d_R_append_43 (lv_at hl 0 rfl) ?_
        refine lv_if_ge (tgt := 51) hx hb d_R_append_45 (by decide) (fun c45 => ?_) (fun c45 => ?_)
        ·
          exact absurd c45 (by decide)
        ·
          refine lv_iload hx hb d_R_append_48 (lv_at hl 0 rfl) ?_
          exact W.iret (v := (-2)) hx hb hr (fun t ht hW => ⟨⟨(-2), (fun i => [u38.1 0, u38.1 1, lw, rot, vb, u38.1 2, u38.1 3].getD i (fun _ => 0), fun i => [u38.2.1 0, u38.2.1 1, u38.2.1 2, u38.2.1 3, dur, u38.2.1 4].getD i 0, fun i => [rn, tn].getD i 0), rfl, ⟨by first | exact hpw | exact B01.n0 | exact B01.n1, by first | exact hrt | omega, by first | exact hr48 | omega, hrot, hlv, by first | exact hcu | exact PG.m1, hwo⟩, ⟨by rw [ht]; exact hP, va_K.moved hW.alike hK, hD⟩⟩, hS.F ht⟩) hS.2.2 d_R_append_50
      ·
        refine lv_istore hx hb d_R_append_41 hl (by decide) rfl (fun ls hl => ?_)
        have hl : lv_has ls 5 [(4, .int (nI p38)), (0, .ref (ad 0)), (1, .int fi), (2, .int se), (3, .int thi)] := hl
        refine lv_iload hx hb d_R_append_43 (lv_at hl 0 rfl) ?_
        refine lv_if_ge (tgt := 51) hx hb d_R_append_45 (by decide) (fun c45 => ?_) (fun c45 => ?_)
        ·
          have c45 := cz_ge_t (by omega) c45
          refine lv_aload_n hx hb d_R_append_51 rfl (lv_at hl 1 rfl) ?_
          refine va_get (D := (dC, dI)) (ci := 4) (v := .ref (ad 3)) (C := R_R) (T := F_R) (N := 7) hx hb hts (fun w h => List.mem_cons_of_mem _ (in_R w h)) hown hK hP 0 rfl rfl 2 (by decide) (hts (.fieldLink R_R 26 R_R "log" "LWeighRecorder$Log;") (List.mem_cons_of_mem _ t_116)) (fun _ h9 => h9) rfl d_R_append_52 ?_
          refine lv_iload_n hx hb d_R_append_55 rfl (lv_at hl 2 rfl) ?_
          refine lv_iload_n hx hb d_R_append_56 rfl (lv_at hl 3 rfl) ?_
          refine lv_iload_n hx hb d_R_append_57 rfl (lv_at hl 4 rfl) ?_
          have hSz := hS.1
          refine va_callv (va_runV (C := R_G) (As := [.int fi, .int se, .int thi]) (rest := []) ⟨hx, hb, hml, hown, hts⟩ (c_G_add l dC dI ad cd H.size (u38.1 0) (u38.1 1) fl (u38.2.1 0) (u38.2.1 1) lw rot vb (nI rn) (nI tn) (u38.1 2) (u38.1 3) (u38.2.1 2) (u38.2.1 3) dur (u38.2.1 4) bts us act rd rs rn tn fi se thi (by first | omega | rfl | assumption | decide) (by first | omega | rfl | assumption | decide) (by first | omega | rfl | assumption | decide)) (cwV 3 hts (g_V t_381 t_382 t_383 t_4 t_384) rfl rfl rfl (by decide +kernel) ⟨by decide, by decide⟩) (xP_v hP hK hD hN 3 rfl rfl) rfl rfl hl.1 rfl (lv_room (Nat.le_of_ble_eq_true rfl)) d_R_append_58 ⟨Nat.le_refl _, Nat.le_refl _⟩) hS (fun q _ h => xA_up hS.1 q h) (fun q h => xA_up hS.1 q h) (fun u58 t H1 locs1 ht hvm q58 hB hz1 hk1 hS => ?_)
          obtain ⟨hP1, hK1, hD1⟩ := hB
          rw [ht] at hP1
          have hD : va_D (xA 15 ad s.heap.size) (xw ad cd (u38.1 0) (u38.1 1) fl (u38.2.1 0) (u38.2.1 1) (u58.1 0) (u58.1 1) (u58.1 2) (nI (u58.2.2 0)) (nI (u58.2.2 1)) (u38.1 2) (u38.1 3) (u38.2.1 2) (u38.2.1 3) dur (u38.2.1 4) bts us act rd rs) := hD1.weaken (fun _ q _ h => xA_up hSz _ h)
          have hP : va_P (dC, dI) vwCl (xw ad cd (u38.1 0) (u38.1 1) fl (u38.2.1 0) (u38.2.1 1) (u58.1 0) (u58.1 1) (u58.1 2) (nI (u58.2.2 0)) (nI (u58.2.2 1)) (u38.1 2) (u38.1 3) (u38.2.1 2) (u38.2.1 3) dur (u38.2.1 4) bts us act rd rs) H1 := hP1
          generalize H1 = H at hP hS ⊢
          generalize locs1 = locs at hS ⊢
          obtain ⟨hrt, hr48, hrot⟩ := q58
          refine lv_aload_n hx hb d_R_append_61 rfl (lv_at hl 1 rfl) ?_
          refine va_get (D := (dC, dI)) (ci := 4) (v := .ref (ad 1)) (C := R_R) (T := F_R) (N := 7) hx hb hts (fun w h => List.mem_cons_of_mem _ (in_R w h)) hown hK hP 0 rfl rfl 0 (by decide) (hts (.fieldLink R_R 12 R_R "store" "LWeighRecorder$Store;") (List.mem_cons_of_mem _ t_114)) (fun _ h9 => h9) rfl d_R_append_62 ?_
          refine lv_aload_n hx hb d_R_append_65 rfl (lv_at hl 1 rfl) ?_
          refine va_get (D := (dC, dI)) (ci := 4) (v := .ref (ad 3)) (C := R_R) (T := F_R) (N := 7) hx hb hts (fun w h => List.mem_cons_of_mem _ (in_R w h)) hown hK hP 0 rfl rfl 2 (by decide) (hts (.fieldLink R_R 26 R_R "log" "LWeighRecorder$Log;") (List.mem_cons_of_mem _ t_116)) (fun _ h9 => h9) rfl d_R_append_66 ?_
          refine lv_iload hx hb d_R_append_69 (lv_at hl 0 rfl) ?_
          have hSz := hS.1
          refine va_calli (va_runV (C := R_S) (As := [.ref (ad 3), .int (nI p38)]) (rest := []) ⟨hx, hb, hml, hown, hts⟩ (c_S_writeLastLeaf l dC dI ad cd H.size (u38.1 0) (u38.1 1) fl (u38.2.1 0) (u38.2.1 1) (u58.1 0) (u58.1 1) (u58.1 2) (nI (u58.2.2 0)) (nI (u58.2.2 1)) (u38.1 2) (u38.1 3) (u38.2.1 2) (u38.2.1 3) dur (u38.2.1 4) bts us act rd rs (u58.2.2 0) p38 (by first | omega | rfl | assumption | decide) (by first | omega | rfl | assumption | decide) (by first | omega | rfl | assumption | decide) (by first | omega | rfl | assumption | decide)) (cwV 2 hts (g_V t_458 t_459 t_460 t_2 t_461) rfl rfl rfl (by decide +kernel) ⟨by decide, by decide⟩) (xP_v hP hK hD hN 1 rfl rfl) rfl rfl hl.1 rfl (lv_room (Nat.le_of_ble_eq_true rfl)) d_R_append_71 ⟨Nat.le_refl _, Nat.le_refl _⟩) hS (fun q _ h => xA_up hS.1 q h) (fun q h => xA_up hS.1 q h) (fun r71 u71 t H1 locs1 ht hvm q71 hB hz1 hk1 hS => ?_)
          obtain ⟨hP1, hK1, hD1⟩ := hB
          rw [ht] at hP1
          have hD : va_D (xA 15 ad s.heap.size) (xw ad cd (u71.1 0) (u38.1 1) fl (u71.2.1 0) (u71.2.1 1) (u58.1 0) (u58.1 1) (u58.1 2) (nI (u58.2.2 0)) (nI (u58.2.2 1)) (u71.1 1) (u71.1 2) (u38.2.1 2) (u71.2.1 2) (u71.2.1 3) (u38.2.1 4) bts us act rd rs) := hD1.weaken (fun _ q _ h => xA_up hSz _ h)
          have hP : va_P (dC, dI) vwCl (xw ad cd (u71.1 0) (u38.1 1) fl (u71.2.1 0) (u71.2.1 1) (u58.1 0) (u58.1 1) (u58.1 2) (nI (u58.2.2 0)) (nI (u58.2.2 1)) (u71.1 1) (u71.1 2) (u38.2.1 2) (u71.2.1 2) (u71.2.1 3) (u38.2.1 4) bts us act rd rs) H1 := hP1
          generalize H1 = H at hP hS ⊢
          generalize locs1 = locs at hS ⊢
          obtain ⟨hro71, hpw, hlv⟩ := q71
          exact W.iret (v := r71) hx hb hr (fun t ht hW => ⟨⟨r71, (fun i => [u71.1 0, u38.1 1, u58.1 0, u58.1 1, u58.1 2, u71.1 1, u71.1 2].getD i (fun _ => 0), fun i => [u71.2.1 0, u71.2.1 1, u38.2.1 2, u71.2.1 2, u71.2.1 3, u38.2.1 4].getD i 0, fun i => [u58.2.2 0, u58.2.2 1].getD i 0), rfl, ⟨by first | exact hpw | exact B01.n0 | exact B01.n1, by first | exact hrt | omega, by first | exact hr48 | omega, hrot, hlv, by first | exact hcu | exact PG.m1, hwo⟩, ⟨by rw [ht]; exact hP, va_K.moved hW.alike hK, hD⟩⟩, hS.F ht⟩) hS.2.2 d_R_append_74
        ·
          exact (cz_ge_f (by omega) c45).elim
    ·
      refine lv_aload_n hx hb d_R_append_22 rfl (lv_at hl 0 rfl) ?_
      refine va_get (D := (dC, dI)) (ci := 4) (v := .ref (ad 3)) (C := R_R) (T := F_R) (N := 7) hx hb hts (fun w h => List.mem_cons_of_mem _ (in_R w h)) hown hK hP 0 rfl rfl 2 (by decide) (hts (.fieldLink R_R 26 R_R "log" "LWeighRecorder$Log;") (List.mem_cons_of_mem _ t_116)) (fun _ h9 => h9) rfl d_R_append_23 ?_
      refine lv_iload_n hx hb d_R_append_26 rfl (lv_at hl 1 rfl) ?_
      refine lv_iload_n hx hb d_R_append_27 rfl (lv_at hl 2 rfl) ?_
      refine lv_iload_n hx hb d_R_append_28 rfl (lv_at hl 3 rfl) ?_
      have hSz := hS.1
      refine va_callv (va_runV (C := R_G) (As := [.int fi, .int se, .int thi]) (rest := []) ⟨hx, hb, hml, hown, hts⟩ (c_G_add l dC dI ad cd s.heap.size w wr fl pw sc lw rot vb (nI rn) (nI tn) live row cur ser dur wo bts us act rd rs rn tn fi se thi (by first | omega | rfl | assumption | decide) (by first | omega | rfl | assumption | decide) (by first | omega | rfl | assumption | decide)) (cwV 3 hts (g_V t_381 t_382 t_383 t_4 t_384) rfl rfl rfl (by decide +kernel) ⟨by decide, by decide⟩) (xP_v hP hK hD hN 3 rfl rfl) rfl rfl hl.1 rfl (lv_room (Nat.le_of_ble_eq_true rfl)) d_R_append_29 ⟨Nat.le_refl _, Nat.le_refl _⟩) hS (fun q _ h => xA_up hS.1 q h) (fun q h => xA_up hS.1 q h) (fun u29 t H1 locs1 ht hvm q29 hB hz1 hk1 hS => ?_)
      obtain ⟨hP1, hK1, hD1⟩ := hB
      rw [ht] at hP1
      have hD : va_D (xA 15 ad s.heap.size) (xw ad cd w wr fl pw sc (u29.1 0) (u29.1 1) (u29.1 2) (nI (u29.2.2 0)) (nI (u29.2.2 1)) live row cur ser dur wo bts us act rd rs) := hD1.weaken (fun _ q _ h => xA_up hSz _ h)
      have hP : va_P (dC, dI) vwCl (xw ad cd w wr fl pw sc (u29.1 0) (u29.1 1) (u29.1 2) (nI (u29.2.2 0)) (nI (u29.2.2 1)) live row cur ser dur wo bts us act rd rs) H1 := hP1
      generalize H1 = H at hP hS ⊢
      generalize locs1 = locs at hS ⊢
      obtain ⟨hrt, hr48, hrot⟩ := q29
      refine lv_iconst (v := nI 1) hx hb d_R_append_32 (by decide) ?_
      exact W.iret (v := nI 1) hx hb hr (fun t ht hW => ⟨⟨nI 1, (fun i => [w, wr, u29.1 0, u29.1 1, u29.1 2, live, row].getD i (fun _ => 0), fun i => [pw, sc, cur, ser, dur, wo].getD i 0, fun i => [u29.2.2 0, u29.2.2 1].getD i 0), rfl, ⟨by first | exact hpw | exact B01.n0 | exact B01.n1, by first | exact hrt | omega, by first | exact hr48 | omega, hrot, hlv, by first | exact hcu | exact PG.m1, hwo⟩, ⟨by rw [ht]; exact hP, va_K.moved hW.alike hK, hD⟩⟩, hS.F ht⟩) hS.2.2 d_R_append_33
  ·
    refine lv_iconst (v := (-1)) hx hb d_R_append_10 (by decide) ?_
    exact W.iret (v := (-1)) hx hb hr (fun t ht hW => ⟨⟨(-1), (fun i => [w, wr, lw, rot, vb, live, row].getD i (fun _ => 0), fun i => [pw, sc, cur, ser, dur, wo].getD i 0, fun i => [rn, tn].getD i 0), rfl, ⟨by first | exact hpw | exact B01.n0 | exact B01.n1, by first | exact hrt | omega, by first | exact hr48 | omega, hrot, hlv, by first | exact hcu | exact PG.m1, hwo⟩, ⟨by rw [ht]; exact hP, va_K.moved hW.alike hK, hD⟩⟩, hS.F ht⟩) hS.2.2 d_R_append_11
set_option maxHeartbeats 4000000 in
set_option maxRecDepth 100000 in
theorem c_R_axle_ok (l : Launch) (dC : Nat → ClassId) (dI : Nat → Nat → Nat) (ad cd : Nat → Nat) (sz : Nat) (w wr fl : Nat → Int32) (pw sc : Int32) (lw rot vb : Nat → Int32) (rec tk : Int32) (live row : Nat → Int32) (cur ser dur wo : Int32) (bts : Nat → Int32) (us : Int32) (act : Nat → Int32) (rd rs : Int32) (st : Int32) (hok : (nI 1 ≤ st ∧ st ≤ nI 1200)) (h9 : ¬ nI 9 ≤ rd) : Met l y_R_axle w_R_axle ({ frames := 1, cells := 0, slots := 0, locals := 22 }) (xP (dC, dI) vwCl (xt cd) (xw ad cd w wr fl (nI 1) sc lw rot vb rec tk live row cur ser dur wo bts us act rd rs) sz [.ref (ad 0), .int st]) (va_Qi (fun r (u : (Nat → Nat → Int32) × (Nat → Int32) × (Nat → Nat)) => True) (fun (u : (Nat → Nat → Int32) × (Nat → Int32) × (Nat → Nat)) (t : State) => xB (dC, dI) vwCl (xt cd) (xA 15 ad sz) (xw ad cd w wr fl (nI 1) sc lw rot vb rec tk live row cur ser dur wo bts us act (u.2.1 0) (u.2.1 1)) t) (xA 15 ad sz)) 0 0 (xA 15 ad sz) := by
  refine Met.ofW (cc := b_R_axle) (maxL := 2) (ret := (some (.int))) (by decide) rfl ?_
  intro P e s m args below meth c0 s₁ B hml hv
  obtain ⟨rfl, hsz, hP, hK, hD0, hN⟩ := hv
  have hx := B.exec
  have hb := B.bytes
  have hr := B.returns
  have hts := atoms_spec (ws := w_R_axle) B.pre
  have hown : s.vm.findClass R_R = some m.cls := findClass_of_methodNamed B.named
  have hlocks := B.notSynchronized
  subst hsz
  have hD := xw_D (sz := s.heap.size) hD0
  have hS : va_S (xA 15 ad s.heap.size) s.heap s.heap [] := va_S.rf
  have hA : ∀ q : Nat, s.heap.size ≤ q → (xA 15 ad s.heap.size) q := fun q h => Or.inr h
  have hl := lv_entry ([.ref (ad 0), .int st]) (n := 2) (Nat.le_of_ble_eq_true rfl)
  rw [lg_entry_eq]
  generalize (lg_sl ([.ref (ad 0), .int st]) ++ List.replicate (2 - (lg_sl ([.ref (ad 0), .int st])).length) Slot.unset).toArray = ls at hl ⊢
  have hl : lv_has ls 2 [(0, .ref (ad 0)), (1, .int st)] := hl
  refine lv_iload_n hx hb d_R_axle_0 rfl (lv_at hl 1 rfl) ?_
  refine lv_iconst (v := nI 1) hx hb d_R_axle_1 (by decide) ?_
  refine lv_sipush (v := nI 1200) hx hb d_R_axle_2 (by decide) ?_
  refine vp_callSi (va_runS (As := [.int st, .int (nI 1), .int (nI 1200)]) (rest := []) ⟨hx, hb, hml, hown, hts⟩ (c_R_isWithin l dC dI st (nI 1) (nI 1200) ) (cwS 3 hts (g_S t_271 t_207 t_1 t_208) rfl rfl rfl (by decide +kernel) ⟨by decide, by decide⟩) (xR_s (va_P.sub hP [] rfl) (hK.sub [] rfl) hN) rfl rfl hl.1 rfl (lv_room (Nat.le_of_ble_eq_true rfl)) d_R_axle_5 ⟨Nat.le_refl _, Nat.le_refl _⟩).run (fun r5 q5 => ?_)
  obtain ⟨rfl, -⟩ := q5.resolve_right (fun z => z.2 (hok))
  refine va_csv (va_runS (As := [.int (nI 1)]) (rest := []) ⟨hx, hb, hml, hown, hts⟩ (c_R_requireArgument_1 l dC dI  ) (cwS 1 hts (g_S t_272 t_273 t_1 t_274) rfl rfl rfl (by decide +kernel) ⟨by decide, by decide⟩) (xR_s (va_P.sub hP [] rfl) (hK.sub [] rfl) hN) rfl rfl hl.1 rfl (lv_room (Nat.le_of_ble_eq_true rfl)) d_R_axle_8 ⟨Nat.le_refl _, Nat.le_refl _⟩).run (fun q8 => ?_)
  refine lv_aload_n hx hb d_R_axle_11 rfl (lv_at hl 0 rfl) ?_
  refine va_get (D := (dC, dI)) (ci := 4) (v := .ref (ad 2)) (C := R_R) (T := F_R) (N := 7) hx hb hts (fun w h => List.mem_cons_of_mem _ (in_R w h)) hown hK hP 0 rfl rfl 1 (by decide) (hts (.fieldLink R_R 20 R_R "chip" "LWeighRecorder$Chip;") (List.mem_cons_of_mem _ t_115)) (fun _ h9 => h9) rfl d_R_axle_12 ?_
  refine vp_callSi (va_runV (C := R_C) (As := []) (rest := []) ⟨hx, hb, hml, hown, hts⟩ (c_C_isPowered l dC dI ad cd w wr fl (nI 1) sc lw rot vb rec tk live row cur ser dur wo bts us act rd rs  (B01.n1)) (cwV 0 hts (g_V t_225 t_226 t_227 t_3 t_228) rfl rfl rfl (by decide +kernel) ⟨by decide, by decide⟩) (xR_v hP hK hN 2 rfl rfl) rfl rfl hl.1 rfl (lv_room (Nat.le_of_ble_eq_true rfl)) d_R_axle_15 ⟨Nat.le_refl _, Nat.le_refl _⟩).run (fun r15 q15 => ?_)
  have q15 := q15.symm
  subst q15
  refine lv_if_eq (tgt := 34) hx hb d_R_axle_18 (by decide) (fun c18 => ?_) (fun c18 => ?_)
  ·
    exact absurd c18 (by decide)
  ·
    refine lv_aload_n hx hb d_R_axle_21 rfl (lv_at hl 0 rfl) ?_
    refine va_get (D := (dC, dI)) (ci := 4) (v := .int rd) (C := R_R) (T := F_R) (N := 7) hx hb hts (fun w h => List.mem_cons_of_mem _ (in_R w h)) hown hK hP 0 rfl rfl 5 (by decide) (hts (.fieldLink R_R 41 R_R "readings" "I") (List.mem_cons_of_mem _ t_119)) (fun _ h9 => h9) rfl d_R_axle_22 ?_
    refine lv_bipush (v := nI 9) hx hb d_R_axle_25 (by decide) ?_
    refine lv_icmp_ge (tgt := 34) hx hb d_R_axle_27 (by decide) (fun c27 => ?_) (fun c27 => ?_)
    ·
      exact absurd c27 h9
    ·
      refine lv_iconst (v := nI 1) hx hb d_R_axle_30 (by decide) ?_
      refine lv_goto (tgt := 35) hx hb d_R_axle_31 (by decide) ?_
      refine va_csv (va_runS (As := [.int (nI 1)]) (rest := []) ⟨hx, hb, hml, hown, hts⟩ (c_R_requireState_1 l dC dI  ) (cwS 1 hts (g_S t_338 t_339 t_1 t_340) rfl rfl rfl (by decide +kernel) ⟨by decide, by decide⟩) (xR_s (va_P.sub hP [] rfl) (hK.sub [] rfl) hN) rfl rfl hl.1 rfl (lv_room (Nat.le_of_ble_eq_true rfl)) d_R_axle_35 ⟨Nat.le_refl _, Nat.le_refl _⟩).run (fun q35 => ?_)
      refine lv_aload_n hx hb d_R_axle_38 rfl (lv_at hl 0 rfl) ?_
      refine lv_dup hx hb d_R_axle_39 rfl ?_
      refine va_get (D := (dC, dI)) (ci := 4) (v := .int rd) (C := R_R) (T := F_R) (N := 7) hx hb hts (fun w h => List.mem_cons_of_mem _ (in_R w h)) hown hK hP 0 rfl rfl 5 (by decide) (hts (.fieldLink R_R 41 R_R "readings" "I") (List.mem_cons_of_mem _ t_119)) (fun _ h9 => h9) rfl d_R_axle_40 ?_
      refine lv_iconst (v := nI 1) hx hb d_R_axle_43 (by decide) ?_
      refine lv_iadd hx hb d_R_axle_44 ?_
      refine va_put (D := (dC, dI)) (ci := 4) (v := .int (rd + (nI 1))) (ty := .int) (C := R_R) (T := F_R) (N := 7) hx hb hts (fun w h => List.mem_cons_of_mem _ (in_R w h)) t_R ok_R nm_R hown hK hP hD hS 0 rfl rfl 5 (by decide) (hts (.fieldLink R_R 41 R_R "readings" "I") (List.mem_cons_of_mem _ t_119)) (fun _ h9 => h9) rfl (by decide +kernel) rfl rfl (Nat.le_of_ble_eq_true rfl) d_R_axle_45 (fun H locs hP hD hS => ?_)
      have hP : va_P (dC, dI) vwCl (xw ad cd w wr fl (nI 1) sc lw rot vb rec tk live row cur ser dur wo bts us act (rd + (nI 1)) rs) H := hP
      have hD : va_D (xA 15 ad s.heap.size) (xw ad cd w wr fl (nI 1) sc lw rot vb rec tk live row cur ser dur wo bts us act (rd + (nI 1)) rs) := hD
      refine lv_aload_n hx hb d_R_axle_48 rfl (lv_at hl 0 rfl) ?_
      refine lv_dup hx hb d_R_axle_49 rfl ?_
      refine va_get (D := (dC, dI)) (ci := 4) (v := .int rs) (C := R_R) (T := F_R) (N := 7) hx hb hts (fun w h => List.mem_cons_of_mem _ (in_R w h)) hown hK hP 0 rfl rfl 6 (by decide) (hts (.fieldLink R_R 45 R_R "readSteps" "I") (List.mem_cons_of_mem _ t_120)) (fun _ h9 => h9) rfl d_R_axle_50 ?_
      refine lv_iload_n hx hb d_R_axle_53 rfl (lv_at hl 1 rfl) ?_
      refine lv_iadd hx hb d_R_axle_54 ?_
      refine va_put (D := (dC, dI)) (ci := 4) (v := .int (rs + st)) (ty := .int) (C := R_R) (T := F_R) (N := 7) hx hb hts (fun w h => List.mem_cons_of_mem _ (in_R w h)) t_R ok_R nm_R hown hK hP hD hS 0 rfl rfl 6 (by decide) (hts (.fieldLink R_R 45 R_R "readSteps" "I") (List.mem_cons_of_mem _ t_120)) (fun _ h9 => h9) rfl (by decide +kernel) rfl rfl (Nat.le_of_ble_eq_true rfl) d_R_axle_55 (fun H locs hP hD hS => ?_)
      have hP : va_P (dC, dI) vwCl (xw ad cd w wr fl (nI 1) sc lw rot vb rec tk live row cur ser dur wo bts us act (rd + (nI 1)) (rs + st)) H := hP
      have hD : va_D (xA 15 ad s.heap.size) (xw ad cd w wr fl (nI 1) sc lw rot vb rec tk live row cur ser dur wo bts us act (rd + (nI 1)) (rs + st)) := hD
      refine lv_aload_n hx hb d_R_axle_58 rfl (lv_at hl 0 rfl) ?_
      refine va_get (D := (dC, dI)) (ci := 4) (v := .int (rd + (nI 1))) (C := R_R) (T := F_R) (N := 7) hx hb hts (fun w h => List.mem_cons_of_mem _ (in_R w h)) hown hK hP 0 rfl rfl 5 (by decide) (hts (.fieldLink R_R 41 R_R "readings" "I") (List.mem_cons_of_mem _ t_119)) (fun _ h9 => h9) rfl d_R_axle_59 ?_
      exact W.iret (v := rd + (nI 1)) hx hb hr (fun t ht hW => ⟨⟨rd + (nI 1), (fun i => [].getD i (fun _ => 0), fun i => [rd + (nI 1), rs + st].getD i 0, fun i => [].getD i 0), rfl, trivial, ⟨by rw [ht]; exact hP, va_K.moved hW.alike hK, hD⟩⟩, hS.F ht⟩) hS.2.2 d_R_axle_62
set_option maxHeartbeats 4000000 in
set_option maxRecDepth 100000 in
theorem c_R_close_ok (l : Launch) (dC : Nat → ClassId) (dI : Nat → Nat → Nat) (ad cd : Nat → Nat) (sz : Nat) (w wr fl : Nat → Int32) (pw sc : Int32) (lw rot vb : Nat → Int32) (rec tk : Int32) (live row : Nat → Int32) (cur ser dur wo : Int32) (bts : Nat → Int32) (us : Int32) (act : Nat → Int32) (rd rs : Int32) (rn : Nat) (tn : Nat) (plate : Int32) (tare : Int32) (product : Int32) (clock : Int32) (hok : ((nI 0 ≤ tare ∧ tare ≤ nI 216000) ∧ (nI 0 ≤ product ∧ product ≤ nI 39) ∧ (nI 0 ≤ clock ∧ clock ≤ nI 67108863))) (hfl : ∀ i, i < 8 → B01 (fl i)) (hrt : tn ≤ rn) (hr48 : rn ≤ 48) (hrot : ∀ i, i < 48 → IX 48 (rot i)) (hlv : ∀ i, i < 16 → PG 32 (live i)) (hcu : PG 8 cur) (hwo : B01 wo) : Met l y_R_close w_R_close ({ frames := 6, cells := 0, slots := 0, locals := 137 }) (xP (dC, dI) vwCl (xt cd) (xw ad cd w wr fl (nI 1) sc lw rot vb (nI rn) (nI tn) live row cur ser dur wo bts us act rd rs) sz [.ref (ad 0), .int plate, .int tare, .int product, .int clock]) (va_Qi (fun r (u : (Nat → Nat → Int32) × (Nat → Int32) × (Nat → Nat)) => B01 (u.2.1 0) ∧ (u.2.2 1) ≤ (u.2.2 0) ∧ (u.2.2 0) ≤ 48 ∧ (∀ i, i < 48 → IX 48 ((u.1 3) i)) ∧ (∀ i, i < 16 → PG 32 ((u.1 5) i)) ∧ PG 8 (u.2.1 2) ∧ B01 (u.2.1 5)) (fun (u : (Nat → Nat → Int32) × (Nat → Int32) × (Nat → Nat)) (t : State) => xB (dC, dI) vwCl (xt cd) (xA 15 ad sz) (xw ad cd (u.1 0) (u.1 1) fl (u.2.1 0) (u.2.1 1) (u.1 2) (u.1 3) (u.1 4) (nI (u.2.2 0)) (nI (u.2.2 1)) (u.1 5) (u.1 6) (u.2.1 2) (u.2.1 3) (u.2.1 4) (u.2.1 5) bts us act (u.2.1 6) (u.2.1 7)) t) (xA 15 ad sz)) 0 0 (xA 15 ad sz) := by
  refine Met.ofW (cc := b_R_close) (maxL := 6) (ret := (some (.int))) (by decide) rfl ?_
  intro P e s m args below meth c0 s₁ B hml hv
  obtain ⟨rfl, hsz, hP, hK, hD0, hN⟩ := hv
  have hx := B.exec
  have hb := B.bytes
  have hr := B.returns
  have hts := atoms_spec (ws := w_R_close) B.pre
  have hown : s.vm.findClass R_R = some m.cls := findClass_of_methodNamed B.named
  have hlocks := B.notSynchronized
  subst hsz
  have hD := xw_D (sz := s.heap.size) hD0
  have hS : va_S (xA 15 ad s.heap.size) s.heap s.heap [] := va_S.rf
  have hA : ∀ q : Nat, s.heap.size ≤ q → (xA 15 ad s.heap.size) q := fun q h => Or.inr h
  have hl := lv_entry ([.ref (ad 0), .int plate, .int tare, .int product, .int clock]) (n := 6) (Nat.le_of_ble_eq_true rfl)
  rw [lg_entry_eq]
  generalize (lg_sl ([.ref (ad 0), .int plate, .int tare, .int product, .int clock]) ++ List.replicate (6 - (lg_sl ([.ref (ad 0), .int plate, .int tare, .int product, .int clock])).length) Slot.unset).toArray = ls at hl ⊢
  have hl : lv_has ls 6 [(0, .ref (ad 0)), (1, .int plate), (2, .int tare), (3, .int product), (4, .int clock)] := hl
  refine lv_iload_n hx hb d_R_close_0 rfl (lv_at hl 2 rfl) ?_
  refine lv_iconst (v := nI 0) hx hb d_R_close_1 (by decide) ?_
  refine lv_ldc (v := nI 216000) hx hb hown (hts (.constant R_R 65 216000) (List.mem_cons_of_mem _ t_363)) d_R_close_2 ?_
  refine vp_callSi (va_runS (As := [.int tare, .int (nI 0), .int (nI 216000)]) (rest := []) ⟨hx, hb, hml, hown, hts⟩ (c_R_isWithin l dC dI tare (nI 0) (nI 216000) ) (cwS 3 hts (g_S t_271 t_207 t_1 t_208) rfl rfl rfl (by decide +kernel) ⟨by decide, by decide⟩) (xR_s (va_P.sub hP [] rfl) (hK.sub [] rfl) hN) rfl rfl hl.1 rfl (lv_room (Nat.le_of_ble_eq_true rfl)) d_R_close_4 ⟨Nat.le_refl _, Nat.le_refl _⟩).run (fun r4 q4 => ?_)
  obtain ⟨rfl, -⟩ := q4.resolve_right (fun z => z.2 (hok.1))
  refine va_csv (va_runS (As := [.int (nI 1)]) (rest := []) ⟨hx, hb, hml, hown, hts⟩ (c_R_requireArgument_1 l dC dI  ) (cwS 1 hts (g_S t_272 t_273 t_1 t_274) rfl rfl rfl (by decide +kernel) ⟨by decide, by decide⟩) (xR_s (va_P.sub hP [] rfl) (hK.sub [] rfl) hN) rfl rfl hl.1 rfl (lv_room (Nat.le_of_ble_eq_true rfl)) d_R_close_7 ⟨Nat.le_refl _, Nat.le_refl _⟩).run (fun q7 => ?_)
  refine lv_iload_n hx hb d_R_close_10 rfl (lv_at hl 3 rfl) ?_
  refine vp_callSi (va_runS (As := [.int product]) (rest := []) ⟨hx, hb, hml, hown, hts⟩ (c_R_isProduct l dC dI product ) (cwS 1 hts (g_S t_364 t_365 t_1 t_366) rfl rfl rfl (by decide +kernel) ⟨by decide, by decide⟩) (xR_s (va_P.sub hP [] rfl) (hK.sub [] rfl) hN) rfl rfl hl.1 rfl (lv_room (Nat.le_of_ble_eq_true rfl)) d_R_close_11 ⟨Nat.le_refl _, Nat.le_refl _⟩).run (fun r11 q11 => ?_)
  obtain ⟨rfl, -⟩ := q11.resolve_right (fun z => z.2 (hok.2.1))
  refine va_csv (va_runS (As := [.int (nI 1)]) (rest := []) ⟨hx, hb, hml, hown, hts⟩ (c_R_requireArgument_1 l dC dI  ) (cwS 1 hts (g_S t_272 t_273 t_1 t_274) rfl rfl rfl (by decide +kernel) ⟨by decide, by decide⟩) (xR_s (va_P.sub hP [] rfl) (hK.sub [] rfl) hN) rfl rfl hl.1 rfl (lv_room (Nat.le_of_ble_eq_true rfl)) d_R_close_14 ⟨Nat.le_refl _, Nat.le_refl _⟩).run (fun q14 => ?_)
  refine lv_iload hx hb d_R_close_17 (lv_at hl 4 rfl) ?_
  refine lv_iconst (v := nI 0) hx hb d_R_close_19 (by decide) ?_
  refine lv_ldc (v := nI 67108863) hx hb hown (hts (.constant R_R 70 67108863) (List.mem_cons_of_mem _ t_367)) d_R_close_20 ?_
  refine vp_callSi (va_runS (As := [.int clock, .int (nI 0), .int (nI 67108863)]) (rest := []) ⟨hx, hb, hml, hown, hts⟩ (c_R_isWithin l dC dI clock (nI 0) (nI 67108863) ) (cwS 3 hts (g_S t_271 t_207 t_1 t_208) rfl rfl rfl (by decide +kernel) ⟨by decide, by decide⟩) (xR_s (va_P.sub hP [] rfl) (hK.sub [] rfl) hN) rfl rfl hl.1 rfl (lv_room (Nat.le_of_ble_eq_true rfl)) d_R_close_22 ⟨Nat.le_refl _, Nat.le_refl _⟩).run (fun r22 q22 => ?_)
  obtain ⟨rfl, -⟩ := q22.resolve_right (fun z => z.2 (hok.2.2))
  refine va_csv (va_runS (As := [.int (nI 1)]) (rest := []) ⟨hx, hb, hml, hown, hts⟩ (c_R_requireArgument_1 l dC dI  ) (cwS 1 hts (g_S t_272 t_273 t_1 t_274) rfl rfl rfl (by decide +kernel) ⟨by decide, by decide⟩) (xR_s (va_P.sub hP [] rfl) (hK.sub [] rfl) hN) rfl rfl hl.1 rfl (lv_room (Nat.le_of_ble_eq_true rfl)) d_R_close_25 ⟨Nat.le_refl _, Nat.le_refl _⟩).run (fun q25 => ?_)
  obtain ⟨j, hj, rfl⟩ := in_nt (n := 39) hok.2.1
  refine lv_aload_n hx hb d_R_close_28 rfl (lv_at hl 0 rfl) ?_
  refine va_get (D := (dC, dI)) (ci := 4) (v := .ref (ad 2)) (C := R_R) (T := F_R) (N := 7) hx hb hts (fun w h => List.mem_cons_of_mem _ (in_R w h)) hown hK hP 0 rfl rfl 1 (by decide) (hts (.fieldLink R_R 20 R_R "chip" "LWeighRecorder$Chip;") (List.mem_cons_of_mem _ t_115)) (fun _ h9 => h9) rfl d_R_close_29 ?_
  refine vp_callSi (va_runV (C := R_C) (As := []) (rest := []) ⟨hx, hb, hml, hown, hts⟩ (c_C_isPowered l dC dI ad cd w wr fl (nI 1) sc lw rot vb (nI rn) (nI tn) live row cur ser dur wo bts us act rd rs  (by first | exact B01.n1 | assumption)) (cwV 0 hts (g_V t_225 t_226 t_227 t_3 t_228) rfl rfl rfl (by decide +kernel) ⟨by decide, by decide⟩) (xR_v hP hK hN 2 rfl rfl) rfl rfl hl.1 rfl (lv_room (Nat.le_of_ble_eq_true rfl)) d_R_close_32 ⟨Nat.le_refl _, Nat.le_refl _⟩).run (fun r32 q32 => ?_)
  have q32 := q32.symm
  subst q32
  refine va_csv (va_runS (As := [.int (nI 1)]) (rest := []) ⟨hx, hb, hml, hown, hts⟩ (c_R_requireState_1 l dC dI  ) (cwS 1 hts (g_S t_338 t_339 t_1 t_340) rfl rfl rfl (by decide +kernel) ⟨by decide, by decide⟩) (xR_s (va_P.sub hP [] rfl) (hK.sub [] rfl) hN) rfl rfl hl.1 rfl (lv_room (Nat.le_of_ble_eq_true rfl)) d_R_close_35 ⟨Nat.le_refl _, Nat.le_refl _⟩).run (fun q35 => ?_)
  refine lv_aload_n hx hb d_R_close_38 rfl (lv_at hl 0 rfl) ?_
  refine va_get (D := (dC, dI)) (ci := 4) (v := .int rd) (C := R_R) (T := F_R) (N := 7) hx hb hts (fun w h => List.mem_cons_of_mem _ (in_R w h)) hown hK hP 0 rfl rfl 5 (by decide) (hts (.fieldLink R_R 41 R_R "readings" "I") (List.mem_cons_of_mem _ t_119)) (fun _ h9 => h9) rfl d_R_close_39 ?_
  refine lv_if_eq (tgt := 75) hx hb d_R_close_42 (by decide) (fun c42 => ?_) (fun c42 => ?_)
  ·
    refine lv_iconst (v := nI 0) hx hb d_R_close_75 (by decide) ?_
    exact W.iret (v := nI 0) hx hb hr (fun t ht hW => ⟨⟨nI 0, (fun i => [w, wr, lw, rot, vb, live, row].getD i (fun _ => 0), fun i => [nI 1, sc, cur, ser, dur, wo, rd, rs].getD i 0, fun i => [rn, tn].getD i 0), rfl, ⟨by first | exact hpw | exact B01.n0 | exact B01.n1, by first | exact hrt | omega, by first | exact hr48 | omega, hrot, hlv, by first | exact hcu | exact PG.m1, hwo⟩, ⟨by rw [ht]; exact hP, va_K.moved hW.alike hK, hD⟩⟩, hS.F ht⟩) hS.2.2 d_R_close_76
  ·
    refine lv_aload_n hx hb d_R_close_45 rfl (lv_at hl 0 rfl) ?_
    refine va_get (D := (dC, dI)) (ci := 4) (v := .ref (ad 5)) (C := R_R) (T := F_R) (N := 7) hx hb hts (fun w h => List.mem_cons_of_mem _ (in_R w h)) hown hK hP 0 rfl rfl 4 (by decide) (hts (.fieldLink R_R 37 R_R "active" "[Z") (List.mem_cons_of_mem _ t_118)) (fun _ h9 => h9) rfl d_R_close_46 ?_
    refine lv_iload_n hx hb d_R_close_49 rfl (lv_at hl 3 rfl) ?_
    refine va_zald hx hb hK hP 5 0 rfl rfl (vp_in_nI (by omega) (by decide)) d_R_close_50 ?_
    refine tp_i (y := act j) (by rw [nI_clamp (by omega)]) ?_
    refine lv_if_eq (tgt := 75) hx hb d_R_close_51 (by decide) (fun c51 => ?_) (fun c51 => ?_)
    ·
      refine lv_iconst (v := nI 0) hx hb d_R_close_75 (by decide) ?_
      exact W.iret (v := nI 0) hx hb hr (fun t ht hW => ⟨⟨nI 0, (fun i => [w, wr, lw, rot, vb, live, row].getD i (fun _ => 0), fun i => [nI 1, sc, cur, ser, dur, wo, rd, rs].getD i 0, fun i => [rn, tn].getD i 0), rfl, ⟨by first | exact hpw | exact B01.n0 | exact B01.n1, by first | exact hrt | omega, by first | exact hr48 | omega, hrot, hlv, by first | exact hcu | exact PG.m1, hwo⟩, ⟨by rw [ht]; exact hP, va_K.moved hW.alike hK, hD⟩⟩, hS.F ht⟩) hS.2.2 d_R_close_76
    ·
      refine lv_iload_n hx hb d_R_close_54 rfl (lv_at hl 2 rfl) ?_
      refine lv_aload_n hx hb d_R_close_55 rfl (lv_at hl 0 rfl) ?_
      refine va_get (D := (dC, dI)) (ci := 4) (v := .int rs) (C := R_R) (T := F_R) (N := 7) hx hb hts (fun w h => List.mem_cons_of_mem _ (in_R w h)) hown hK hP 0 rfl rfl 6 (by decide) (hts (.fieldLink R_R 45 R_R "readSteps" "I") (List.mem_cons_of_mem _ t_120)) (fun _ h9 => h9) rfl d_R_close_56 ?_
      refine lv_bipush (v := nI 20) hx hb d_R_close_59 (by decide) ?_
      refine lv_imul hx hb d_R_close_61 ?_
      refine lv_icmp_gt (tgt := 75) hx hb d_R_close_62 (by decide) (fun c62 => ?_) (fun c62 => ?_)
      ·
        refine lv_iconst (v := nI 0) hx hb d_R_close_75 (by decide) ?_
        exact W.iret (v := nI 0) hx hb hr (fun t ht hW => ⟨⟨nI 0, (fun i => [w, wr, lw, rot, vb, live, row].getD i (fun _ => 0), fun i => [nI 1, sc, cur, ser, dur, wo, rd, rs].getD i 0, fun i => [rn, tn].getD i 0), rfl, ⟨by first | exact hpw | exact B01.n0 | exact B01.n1, by first | exact hrt | omega, by first | exact hr48 | omega, hrot, hlv, by first | exact hcu | exact PG.m1, hwo⟩, ⟨by rw [ht]; exact hP, va_K.moved hW.alike hK, hD⟩⟩, hS.F ht⟩) hS.2.2 d_R_close_76
      ·
        refine lv_aload_n hx hb d_R_close_65 rfl (lv_at hl 0 rfl) ?_
        refine va_get (D := (dC, dI)) (ci := 4) (v := .ref (ad 3)) (C := R_R) (T := F_R) (N := 7) hx hb hts (fun w h => List.mem_cons_of_mem _ (in_R w h)) hown hK hP 0 rfl rfl 2 (by decide) (hts (.fieldLink R_R 26 R_R "log" "LWeighRecorder$Log;") (List.mem_cons_of_mem _ t_116)) (fun _ h9 => h9) rfl d_R_close_66 ?_
        refine vp_callSi (va_runV (C := R_G) (As := []) (rest := []) ⟨hx, hb, hml, hown, hts⟩ (c_G_isFull l dC dI ad cd w wr fl (nI 1) sc lw rot vb (nI rn) (nI tn) live row cur ser dur wo bts us act rd rs rn (by first | omega | rfl | assumption | decide)) (cwV 0 hts (g_V t_368 t_191 t_192 t_4 t_193) rfl rfl rfl (by decide +kernel) ⟨by decide, by decide⟩) (xR_v hP hK hN 3 rfl rfl) rfl rfl hl.1 rfl (lv_room (Nat.le_of_ble_eq_true rfl)) d_R_close_69 ⟨Nat.le_refl _, Nat.le_refl _⟩).run (fun r69 q69 => ?_)
        rcases q69 with ⟨rfl, hfu69⟩ | ⟨rfl, hfu69⟩
        ·
          refine lv_if_eq (tgt := 77) hx hb d_R_close_72 (by decide) (fun c72 => ?_) (fun c72 => ?_)
          ·
            exact absurd c72 (by decide)
          ·
            refine lv_iconst (v := nI 0) hx hb d_R_close_75 (by decide) ?_
            exact W.iret (v := nI 0) hx hb hr (fun t ht hW => ⟨⟨nI 0, (fun i => [w, wr, lw, rot, vb, live, row].getD i (fun _ => 0), fun i => [nI 1, sc, cur, ser, dur, wo, rd, rs].getD i 0, fun i => [rn, tn].getD i 0), rfl, ⟨by first | exact hpw | exact B01.n0 | exact B01.n1, by first | exact hrt | omega, by first | exact hr48 | omega, hrot, hlv, by first | exact hcu | exact PG.m1, hwo⟩, ⟨by rw [ht]; exact hP, va_K.moved hW.alike hK, hD⟩⟩, hS.F ht⟩) hS.2.2 d_R_close_76
        ·
          refine lv_if_eq (tgt := 77) hx hb d_R_close_72 (by decide) (fun c72 => ?_) (fun c72 => ?_)
          ·
            refine lv_aload_n hx hb d_R_close_77 rfl (lv_at hl 0 rfl) ?_
            refine lv_iload_n hx hb d_R_close_78 rfl (lv_at hl 1 rfl) ?_
            refine lv_aload_n hx hb d_R_close_79 rfl (lv_at hl 0 rfl) ?_
            refine va_get (D := (dC, dI)) (ci := 4) (v := .int rs) (C := R_R) (T := F_R) (N := 7) hx hb hts (fun w h => List.mem_cons_of_mem _ (in_R w h)) hown hK hP 0 rfl rfl 6 (by decide) (hts (.fieldLink R_R 45 R_R "readSteps" "I") (List.mem_cons_of_mem _ t_120)) (fun _ h9 => h9) rfl d_R_close_80 ?_
            refine lv_bipush (v := nI 18) hx hb d_R_close_83 (by decide) ?_
            refine lv_ishl hx hb d_R_close_85 ?_
            refine lv_iload_n hx hb d_R_close_86 rfl (lv_at hl 2 rfl) ?_
            refine lv_ior hx hb d_R_close_87 ?_
            refine lv_iload_n hx hb d_R_close_88 rfl (lv_at hl 3 rfl) ?_
            refine lv_bipush (v := nI 26) hx hb d_R_close_89 (by decide) ?_
            refine lv_ishl hx hb d_R_close_91 ?_
            refine lv_iload hx hb d_R_close_92 (lv_at hl 4 rfl) ?_
            refine lv_ior hx hb d_R_close_94 ?_
            have hSz := hS.1
            refine va_calli (va_runV (C := R_R) (As := [.int plate, .int ((rs <<< ((nI 18) &&& 31)) ||| tare), .int (((nI j) <<< ((nI 26) &&& 31)) ||| clock)]) (rest := []) ⟨hx, hb, hml, hown, hts⟩ (c_R_append l dC dI ad cd s.heap.size w wr fl (nI 1) sc lw rot vb (nI rn) (nI tn) live row cur ser dur wo bts us act rd rs rn tn plate ((rs <<< ((nI 18) &&& 31)) ||| tare) (((nI j) <<< ((nI 26) &&& 31)) ||| clock) (by first | exact B01.n1 | assumption) (by first | omega | rfl | assumption | decide) (by first | omega | rfl | assumption | decide) (by first | omega | rfl | assumption | decide) (by first | omega | rfl | assumption | decide) (by first | omega | rfl | assumption | decide) (by first | omega | rfl | assumption | decide) (by first | omega | rfl | assumption | decide)) (cwV 3 hts (g_V t_369 t_371 s_7 t_1 t_372) rfl rfl rfl (by decide +kernel) ⟨by decide, by decide⟩) (xP_v hP hK hD hN 0 rfl rfl) rfl rfl hl.1 rfl (lv_room (Nat.le_of_ble_eq_true rfl)) d_R_close_95 ⟨Nat.le_refl _, Nat.le_refl _⟩) hS (fun q _ h => xA_up hS.1 q h) (fun q h => xA_up hS.1 q h) (fun r95 u95 t H1 locs1 ht hvm q95 hB hz1 hk1 hS => ?_)
            obtain ⟨hP1, hK1, hD1⟩ := hB
            rw [ht] at hP1
            have hD : va_D (xA 15 ad s.heap.size) (xw ad cd (u95.1 0) (u95.1 1) fl (u95.2.1 0) (u95.2.1 1) (u95.1 2) (u95.1 3) (u95.1 4) (nI (u95.2.2 0)) (nI (u95.2.2 1)) (u95.1 5) (u95.1 6) (u95.2.1 2) (u95.2.1 3) (u95.2.1 4) (u95.2.1 5) bts us act rd rs) := hD1.weaken (fun _ q _ h => xA_up hSz _ h)
            have hP : va_P (dC, dI) vwCl (xw ad cd (u95.1 0) (u95.1 1) fl (u95.2.1 0) (u95.2.1 1) (u95.1 2) (u95.1 3) (u95.1 4) (nI (u95.2.2 0)) (nI (u95.2.2 1)) (u95.1 5) (u95.1 6) (u95.2.1 2) (u95.2.1 3) (u95.2.1 4) (u95.2.1 5) bts us act rd rs) H1 := hP1
            generalize H1 = H at hP hS ⊢
            generalize locs1 = locs at hS ⊢
            obtain ⟨hpw, hrt, hr48, hrot, hlv, hcu, hwo⟩ := q95
            refine lv_istore hx hb d_R_close_98 hl (by decide) rfl (fun ls hl => ?_)
            have hl : lv_has ls 6 [(5, .int r95), (0, .ref (ad 0)), (1, .int plate), (2, .int tare), (3, .int (nI j)), (4, .int clock)] := hl
            refine lv_iload hx hb d_R_close_100 (lv_at hl 0 rfl) ?_
            refine lv_iconst (v := nI 1) hx hb d_R_close_102 (by decide) ?_
            refine lv_icmp_eq (tgt := 109) hx hb d_R_close_103 (by decide) (fun c103 => ?_) (fun c103 => ?_)
            ·
              refine lv_aload_n hx hb d_R_close_109 rfl (lv_at hl 1 rfl) ?_
              have hSz := hS.1
              refine va_callv (va_runV (C := R_R) (As := []) (rest := []) ⟨hx, hb, hml, hown, hts⟩ (c_R_forgetReadings l dC dI ad cd H.size (u95.1 0) (u95.1 1) fl (u95.2.1 0) (u95.2.1 1) (u95.1 2) (u95.1 3) (u95.1 4) (nI (u95.2.2 0)) (nI (u95.2.2 1)) (u95.1 5) (u95.1 6) (u95.2.1 2) (u95.2.1 3) (u95.2.1 4) (u95.2.1 5) bts us act rd rs  ) (cwV 0 hts (g_V t_148 t_150 s_0 t_1 t_151) rfl rfl rfl (by decide +kernel) ⟨by decide, by decide⟩) (xP_v hP hK hD hN 0 rfl rfl) rfl rfl hl.1 rfl (lv_room (Nat.le_of_ble_eq_true rfl)) d_R_close_110 ⟨Nat.le_refl _, Nat.le_refl _⟩) hS (fun q _ h => xA_up hS.1 q h) (fun q h => xA_up hS.1 q h) (fun u110 t H1 locs1 ht hvm q110 hB hz1 hk1 hS => ?_)
              obtain ⟨hP1, hK1, hD1⟩ := hB
              rw [ht] at hP1
              have hD : va_D (xA 15 ad s.heap.size) (xw ad cd (u95.1 0) (u95.1 1) fl (u95.2.1 0) (u95.2.1 1) (u95.1 2) (u95.1 3) (u95.1 4) (nI (u95.2.2 0)) (nI (u95.2.2 1)) (u95.1 5) (u95.1 6) (u95.2.1 2) (u95.2.1 3) (u95.2.1 4) (u95.2.1 5) bts us act (u110.2.1 0) (u110.2.1 1)) := hD1.weaken (fun _ q _ h => xA_up hSz _ h)
              have hP : va_P (dC, dI) vwCl (xw ad cd (u95.1 0) (u95.1 1) fl (u95.2.1 0) (u95.2.1 1) (u95.1 2) (u95.1 3) (u95.1 4) (nI (u95.2.2 0)) (nI (u95.2.2 1)) (u95.1 5) (u95.1 6) (u95.2.1 2) (u95.2.1 3) (u95.2.1 4) (u95.2.1 5) bts us act (u110.2.1 0) (u110.2.1 1)) H1 := hP1
              generalize H1 = H at hP hS ⊢
              generalize locs1 = locs at hS ⊢
              have hk110 := q110
              refine lv_aload_n hx hb d_R_close_113 rfl (lv_at hl 1 rfl) ?_
              refine va_get (D := (dC, dI)) (ci := 4) (v := .ref (ad 3)) (C := R_R) (T := F_R) (N := 7) hx hb hts (fun w h => List.mem_cons_of_mem _ (in_R w h)) hown hK hP 0 rfl rfl 2 (by decide) (hts (.fieldLink R_R 26 R_R "log" "LWeighRecorder$Log;") (List.mem_cons_of_mem _ t_116)) (fun _ h9 => h9) rfl d_R_close_114 ?_
              refine vp_callSi (va_runV (C := R_G) (As := []) (rest := []) ⟨hx, hb, hml, hown, hts⟩ (c_G_ticketCount l dC dI ad cd (u95.1 0) (u95.1 1) fl (u95.2.1 0) (u95.2.1 1) (u95.1 2) (u95.1 3) (u95.1 4) (nI (u95.2.2 0)) (nI (u95.2.2 1)) (u95.1 5) (u95.1 6) (u95.2.1 2) (u95.2.1 3) (u95.2.1 4) (u95.2.1 5) bts us act (u110.2.1 0) (u110.2.1 1) (u95.2.2 1) ) (cwV 0 hts (g_V t_217 t_218 t_219 t_4 t_220) rfl rfl rfl (by decide +kernel) ⟨by decide, by decide⟩) (xR_v hP hK hN 3 rfl rfl) rfl rfl hl.1 rfl (lv_room (Nat.le_of_ble_eq_true rfl)) d_R_close_117 ⟨Nat.le_refl _, Nat.le_refl _⟩).run (fun r117 q117 => ?_)
              have q117 := q117.symm
              subst q117
              exact W.iret (v := nI (u95.2.2 1)) hx hb hr (fun t ht hW => ⟨⟨nI (u95.2.2 1), (fun i => [u95.1 0, u95.1 1, u95.1 2, u95.1 3, u95.1 4, u95.1 5, u95.1 6].getD i (fun _ => 0), fun i => [u95.2.1 0, u95.2.1 1, u95.2.1 2, u95.2.1 3, u95.2.1 4, u95.2.1 5, u110.2.1 0, u110.2.1 1].getD i 0, fun i => [u95.2.2 0, u95.2.2 1].getD i 0), rfl, ⟨by first | exact hpw | exact B01.n0 | exact B01.n1, by first | exact hrt | omega, by first | exact hr48 | omega, hrot, hlv, by first | exact hcu | exact PG.m1, hwo⟩, ⟨by rw [ht]; exact hP, va_K.moved hW.alike hK, hD⟩⟩, hS.F ht⟩) hS.2.2 d_R_close_120
            ·
              refine lv_iload hx hb d_R_close_106 (lv_at hl 0 rfl) ?_
              exact W.iret (v := r95) hx hb hr (fun t ht hW => ⟨⟨r95, (fun i => [u95.1 0, u95.1 1, u95.1 2, u95.1 3, u95.1 4, u95.1 5, u95.1 6].getD i (fun _ => 0), fun i => [u95.2.1 0, u95.2.1 1, u95.2.1 2, u95.2.1 3, u95.2.1 4, u95.2.1 5, rd, rs].getD i 0, fun i => [u95.2.2 0, u95.2.2 1].getD i 0), rfl, ⟨by first | exact hpw | exact B01.n0 | exact B01.n1, by first | exact hrt | omega, by first | exact hr48 | omega, hrot, hlv, by first | exact hcu | exact PG.m1, hwo⟩, ⟨by rw [ht]; exact hP, va_K.moved hW.alike hK, hD⟩⟩, hS.F ht⟩) hS.2.2 d_R_close_108
          ·
            exact absurd c72 (by decide)
set_option maxHeartbeats 4000000 in
set_option maxRecDepth 100000 in
theorem c_R_annul_ok (l : Launch) (dC : Nat → ClassId) (dI : Nat → Nat → Nat) (ad cd : Nat → Nat) (sz : Nat) (w wr fl : Nat → Int32) (pw sc : Int32) (lw rot vb : Nat → Int32) (rec tk : Int32) (live row : Nat → Int32) (cur ser dur wo : Int32) (bts : Nat → Int32) (us : Int32) (act : Nat → Int32) (rd rs : Int32) (rn : Nat) (tn : Nat) (tno : Int32) (rea : Int32) (hok : (nI 0 ≤ rea ∧ rea ≤ nI 3)) (hfl : ∀ i, i < 8 → B01 (fl i)) (hrt : tn ≤ rn) (hr48 : rn ≤ 48) (hrot : ∀ i, i < 48 → IX 48 (rot i)) (hlv : ∀ i, i < 16 → PG 32 (live i)) (hcu : PG 8 cur) (hwo : B01 wo) : Met l y_R_annul w_R_annul ({ frames := 6, cells := 0, slots := 0, locals := 137 }) (xP (dC, dI) vwCl (xt cd) (xw ad cd w wr fl (nI 1) sc lw rot vb (nI rn) (nI tn) live row cur ser dur wo bts us act rd rs) sz [.ref (ad 0), .int tno, .int rea]) (va_Qi (fun r (u : (Nat → Nat → Int32) × (Nat → Int32) × (Nat → Nat)) => B01 (u.2.1 0) ∧ (u.2.2 1) ≤ (u.2.2 0) ∧ (u.2.2 0) ≤ 48 ∧ (∀ i, i < 48 → IX 48 ((u.1 3) i)) ∧ (∀ i, i < 16 → PG 32 ((u.1 5) i)) ∧ PG 8 (u.2.1 2) ∧ B01 (u.2.1 5)) (fun (u : (Nat → Nat → Int32) × (Nat → Int32) × (Nat → Nat)) (t : State) => xB (dC, dI) vwCl (xt cd) (xA 15 ad sz) (xw ad cd (u.1 0) (u.1 1) fl (u.2.1 0) (u.2.1 1) (u.1 2) (u.1 3) (u.1 4) (nI (u.2.2 0)) (nI (u.2.2 1)) (u.1 5) (u.1 6) (u.2.1 2) (u.2.1 3) (u.2.1 4) (u.2.1 5) bts us act rd rs) t) (xA 15 ad sz)) 0 0 (xA 15 ad sz) := by
  refine Met.ofW (cc := b_R_annul) (maxL := 3) (ret := (some (.int))) (by decide) rfl ?_
  intro P e s m args below meth c0 s₁ B hml hv
  obtain ⟨rfl, hsz, hP, hK, hD0, hN⟩ := hv
  have hx := B.exec
  have hb := B.bytes
  have hr := B.returns
  have hts := atoms_spec (ws := w_R_annul) B.pre
  have hown : s.vm.findClass R_R = some m.cls := findClass_of_methodNamed B.named
  have hlocks := B.notSynchronized
  subst hsz
  have hD := xw_D (sz := s.heap.size) hD0
  have hS : va_S (xA 15 ad s.heap.size) s.heap s.heap [] := va_S.rf
  have hA : ∀ q : Nat, s.heap.size ≤ q → (xA 15 ad s.heap.size) q := fun q h => Or.inr h
  have hl := lv_entry ([.ref (ad 0), .int tno, .int rea]) (n := 3) (Nat.le_of_ble_eq_true rfl)
  rw [lg_entry_eq]
  generalize (lg_sl ([.ref (ad 0), .int tno, .int rea]) ++ List.replicate (3 - (lg_sl ([.ref (ad 0), .int tno, .int rea])).length) Slot.unset).toArray = ls at hl ⊢
  have hl : lv_has ls 3 [(0, .ref (ad 0)), (1, .int tno), (2, .int rea)] := hl
  refine lv_iload_n hx hb d_R_annul_0 rfl (lv_at hl 2 rfl) ?_
  refine lv_iconst (v := nI 0) hx hb d_R_annul_1 (by decide) ?_
  refine lv_iconst (v := nI 3) hx hb d_R_annul_2 (by decide) ?_
  refine vp_callSi (va_runS (As := [.int rea, .int (nI 0), .int (nI 3)]) (rest := []) ⟨hx, hb, hml, hown, hts⟩ (c_R_isWithin l dC dI rea (nI 0) (nI 3) ) (cwS 3 hts (g_S t_271 t_207 t_1 t_208) rfl rfl rfl (by decide +kernel) ⟨by decide, by decide⟩) (xR_s (va_P.sub hP [] rfl) (hK.sub [] rfl) hN) rfl rfl hl.1 rfl (lv_room (Nat.le_of_ble_eq_true rfl)) d_R_annul_3 ⟨Nat.le_refl _, Nat.le_refl _⟩).run (fun r3 q3 => ?_)
  obtain ⟨rfl, -⟩ := q3.resolve_right (fun z => z.2 (hok))
  refine va_csv (va_runS (As := [.int (nI 1)]) (rest := []) ⟨hx, hb, hml, hown, hts⟩ (c_R_requireArgument_1 l dC dI  ) (cwS 1 hts (g_S t_272 t_273 t_1 t_274) rfl rfl rfl (by decide +kernel) ⟨by decide, by decide⟩) (xR_s (va_P.sub hP [] rfl) (hK.sub [] rfl) hN) rfl rfl hl.1 rfl (lv_room (Nat.le_of_ble_eq_true rfl)) d_R_annul_6 ⟨Nat.le_refl _, Nat.le_refl _⟩).run (fun q6 => ?_)
  refine lv_aload_n hx hb d_R_annul_9 rfl (lv_at hl 0 rfl) ?_
  refine va_get (D := (dC, dI)) (ci := 4) (v := .ref (ad 2)) (C := R_R) (T := F_R) (N := 7) hx hb hts (fun w h => List.mem_cons_of_mem _ (in_R w h)) hown hK hP 0 rfl rfl 1 (by decide) (hts (.fieldLink R_R 20 R_R "chip" "LWeighRecorder$Chip;") (List.mem_cons_of_mem _ t_115)) (fun _ h9 => h9) rfl d_R_annul_10 ?_
  refine vp_callSi (va_runV (C := R_C) (As := []) (rest := []) ⟨hx, hb, hml, hown, hts⟩ (c_C_isPowered l dC dI ad cd w wr fl (nI 1) sc lw rot vb (nI rn) (nI tn) live row cur ser dur wo bts us act rd rs  (by first | exact B01.n1 | assumption)) (cwV 0 hts (g_V t_225 t_226 t_227 t_3 t_228) rfl rfl rfl (by decide +kernel) ⟨by decide, by decide⟩) (xR_v hP hK hN 2 rfl rfl) rfl rfl hl.1 rfl (lv_room (Nat.le_of_ble_eq_true rfl)) d_R_annul_13 ⟨Nat.le_refl _, Nat.le_refl _⟩).run (fun r13 q13 => ?_)
  have q13 := q13.symm
  subst q13
  refine va_csv (va_runS (As := [.int (nI 1)]) (rest := []) ⟨hx, hb, hml, hown, hts⟩ (c_R_requireState_1 l dC dI  ) (cwS 1 hts (g_S t_338 t_339 t_1 t_340) rfl rfl rfl (by decide +kernel) ⟨by decide, by decide⟩) (xR_s (va_P.sub hP [] rfl) (hK.sub [] rfl) hN) rfl rfl hl.1 rfl (lv_room (Nat.le_of_ble_eq_true rfl)) d_R_annul_16 ⟨Nat.le_refl _, Nat.le_refl _⟩).run (fun q16 => ?_)
  refine lv_aload_n hx hb d_R_annul_19 rfl (lv_at hl 0 rfl) ?_
  refine va_get (D := (dC, dI)) (ci := 4) (v := .ref (ad 3)) (C := R_R) (T := F_R) (N := 7) hx hb hts (fun w h => List.mem_cons_of_mem _ (in_R w h)) hown hK hP 0 rfl rfl 2 (by decide) (hts (.fieldLink R_R 26 R_R "log" "LWeighRecorder$Log;") (List.mem_cons_of_mem _ t_116)) (fun _ h9 => h9) rfl d_R_annul_20 ?_
  refine lv_iload_n hx hb d_R_annul_23 rfl (lv_at hl 1 rfl) ?_
  refine vp_callSi (va_runV (C := R_G) (As := [.int tno]) (rest := []) ⟨hx, hb, hml, hown, hts⟩ (c_G_hasTicket l dC dI ad cd w wr fl (nI 1) sc lw rot vb (nI rn) (nI tn) live row cur ser dur wo bts us act rd rs tn tno ) (cwV 1 hts (g_V t_473 t_199 t_200 t_4 t_201) rfl rfl rfl (by decide +kernel) ⟨by decide, by decide⟩) (xR_v hP hK hN 3 rfl rfl) rfl rfl hl.1 rfl (lv_room (Nat.le_of_ble_eq_true rfl)) d_R_annul_24 ⟨Nat.le_refl _, Nat.le_refl _⟩).run (fun r24 q24 => ?_)
  rcases q24 with ⟨rfl, ht⟩ | ⟨rfl, ht⟩
  ·
    obtain ⟨j, hj, rfl⟩ := tk_nat ht (by omega)
    refine lv_if_eq (tgt := 51) hx hb d_R_annul_27 (by decide) (fun c27 => ?_) (fun c27 => ?_)
    ·
      exact absurd c27 (by decide)
    ·
      refine lv_aload_n hx hb d_R_annul_30 rfl (lv_at hl 0 rfl) ?_
      refine va_get (D := (dC, dI)) (ci := 4) (v := .ref (ad 3)) (C := R_R) (T := F_R) (N := 7) hx hb hts (fun w h => List.mem_cons_of_mem _ (in_R w h)) hown hK hP 0 rfl rfl 2 (by decide) (hts (.fieldLink R_R 26 R_R "log" "LWeighRecorder$Log;") (List.mem_cons_of_mem _ t_116)) (fun _ h9 => h9) rfl d_R_annul_31 ?_
      refine lv_iload_n hx hb d_R_annul_34 rfl (lv_at hl 1 rfl) ?_
      refine vp_callSi (va_runV (C := R_G) (As := [.int (nI (j + 1))]) (rest := []) ⟨hx, hb, hml, hown, hts⟩ (c_G_isVoided l dC dI ad cd w wr fl (nI 1) sc lw rot vb (nI rn) (nI tn) live row cur ser dur wo bts us act rd rs (j + 1) (by first | omega | rfl | assumption | decide) (by first | omega | rfl | assumption | decide)) (cwV 1 hts (g_V t_474 t_203 t_204 t_4 t_205) rfl rfl rfl (by decide +kernel) ⟨by decide, by decide⟩) (xR_v hP hK hN 3 rfl rfl) rfl rfl hl.1 rfl (lv_room (Nat.le_of_ble_eq_true rfl)) d_R_annul_35 ⟨Nat.le_refl _, Nat.le_refl _⟩).run (fun r35 q35 => ?_)
      have hk35 := q35
      refine lv_if_ne (tgt := 51) hx hb d_R_annul_38 (by decide) (fun c38 => ?_) (fun c38 => ?_)
      ·
        refine lv_iconst (v := nI 0) hx hb d_R_annul_51 (by decide) ?_
        exact W.iret (v := nI 0) hx hb hr (fun t ht hW => ⟨⟨nI 0, (fun i => [w, wr, lw, rot, vb, live, row].getD i (fun _ => 0), fun i => [nI 1, sc, cur, ser, dur, wo].getD i 0, fun i => [rn, tn].getD i 0), rfl, ⟨by first | exact hpw | exact B01.n0 | exact B01.n1, by first | exact hrt | omega, by first | exact hr48 | omega, hrot, hlv, by first | exact hcu | exact PG.m1, hwo⟩, ⟨by rw [ht]; exact hP, va_K.moved hW.alike hK, hD⟩⟩, hS.F ht⟩) hS.2.2 d_R_annul_52
      ·
        refine lv_aload_n hx hb d_R_annul_41 rfl (lv_at hl 0 rfl) ?_
        refine va_get (D := (dC, dI)) (ci := 4) (v := .ref (ad 3)) (C := R_R) (T := F_R) (N := 7) hx hb hts (fun w h => List.mem_cons_of_mem _ (in_R w h)) hown hK hP 0 rfl rfl 2 (by decide) (hts (.fieldLink R_R 26 R_R "log" "LWeighRecorder$Log;") (List.mem_cons_of_mem _ t_116)) (fun _ h9 => h9) rfl d_R_annul_42 ?_
        refine vp_callSi (va_runV (C := R_G) (As := []) (rest := []) ⟨hx, hb, hml, hown, hts⟩ (c_G_isFull l dC dI ad cd w wr fl (nI 1) sc lw rot vb (nI rn) (nI tn) live row cur ser dur wo bts us act rd rs rn (by first | omega | rfl | assumption | decide)) (cwV 0 hts (g_V t_368 t_191 t_192 t_4 t_193) rfl rfl rfl (by decide +kernel) ⟨by decide, by decide⟩) (xR_v hP hK hN 3 rfl rfl) rfl rfl hl.1 rfl (lv_room (Nat.le_of_ble_eq_true rfl)) d_R_annul_45 ⟨Nat.le_refl _, Nat.le_refl _⟩).run (fun r45 q45 => ?_)
        rcases q45 with ⟨rfl, hfu45⟩ | ⟨rfl, hfu45⟩
        ·
          refine lv_if_eq (tgt := 53) hx hb d_R_annul_48 (by decide) (fun c48 => ?_) (fun c48 => ?_)
          ·
            exact absurd c48 (by decide)
          ·
            refine lv_iconst (v := nI 0) hx hb d_R_annul_51 (by decide) ?_
            exact W.iret (v := nI 0) hx hb hr (fun t ht hW => ⟨⟨nI 0, (fun i => [w, wr, lw, rot, vb, live, row].getD i (fun _ => 0), fun i => [nI 1, sc, cur, ser, dur, wo].getD i 0, fun i => [rn, tn].getD i 0), rfl, ⟨by first | exact hpw | exact B01.n0 | exact B01.n1, by first | exact hrt | omega, by first | exact hr48 | omega, hrot, hlv, by first | exact hcu | exact PG.m1, hwo⟩, ⟨by rw [ht]; exact hP, va_K.moved hW.alike hK, hD⟩⟩, hS.F ht⟩) hS.2.2 d_R_annul_52
        ·
          refine lv_if_eq (tgt := 53) hx hb d_R_annul_48 (by decide) (fun c48 => ?_) (fun c48 => ?_)
          ·
            refine lv_aload_n hx hb d_R_annul_53 rfl (lv_at hl 0 rfl) ?_
            refine lv_iload_n hx hb d_R_annul_54 rfl (lv_at hl 1 rfl) ?_
            refine lv_iload_n hx hb d_R_annul_55 rfl (lv_at hl 2 rfl) ?_
            refine lv_ldc (v := (-67108864)) hx hb hown (hts (.constant R_R 91 (-67108864)) (List.mem_cons_of_mem _ t_475)) d_R_annul_56 ?_
            have hSz := hS.1
            refine va_calli (va_runV (C := R_R) (As := [.int (nI (j + 1)), .int rea, .int (-67108864)]) (rest := []) ⟨hx, hb, hml, hown, hts⟩ (c_R_append l dC dI ad cd s.heap.size w wr fl (nI 1) sc lw rot vb (nI rn) (nI tn) live row cur ser dur wo bts us act rd rs rn tn (nI (j + 1)) rea (-67108864) (by first | exact B01.n1 | assumption) (by first | omega | rfl | assumption | decide) (by first | omega | rfl | assumption | decide) (by first | omega | rfl | assumption | decide) (by first | omega | rfl | assumption | decide) (by first | omega | rfl | assumption | decide) (by first | omega | rfl | assumption | decide) (by first | omega | rfl | assumption | decide)) (cwV 3 hts (g_V t_369 t_371 s_7 t_1 t_372) rfl rfl rfl (by decide +kernel) ⟨by decide, by decide⟩) (xP_v hP hK hD hN 0 rfl rfl) rfl rfl hl.1 rfl (lv_room (Nat.le_of_ble_eq_true rfl)) d_R_annul_58 ⟨Nat.le_refl _, Nat.le_refl _⟩) hS (fun q _ h => xA_up hS.1 q h) (fun q h => xA_up hS.1 q h) (fun r58 u58 t H1 locs1 ht hvm q58 hB hz1 hk1 hS => ?_)
            obtain ⟨hP1, hK1, hD1⟩ := hB
            rw [ht] at hP1
            have hD : va_D (xA 15 ad s.heap.size) (xw ad cd (u58.1 0) (u58.1 1) fl (u58.2.1 0) (u58.2.1 1) (u58.1 2) (u58.1 3) (u58.1 4) (nI (u58.2.2 0)) (nI (u58.2.2 1)) (u58.1 5) (u58.1 6) (u58.2.1 2) (u58.2.1 3) (u58.2.1 4) (u58.2.1 5) bts us act rd rs) := hD1.weaken (fun _ q _ h => xA_up hSz _ h)
            have hP : va_P (dC, dI) vwCl (xw ad cd (u58.1 0) (u58.1 1) fl (u58.2.1 0) (u58.2.1 1) (u58.1 2) (u58.1 3) (u58.1 4) (nI (u58.2.2 0)) (nI (u58.2.2 1)) (u58.1 5) (u58.1 6) (u58.2.1 2) (u58.2.1 3) (u58.2.1 4) (u58.2.1 5) bts us act rd rs) H1 := hP1
            generalize H1 = H at hP hS ⊢
            generalize locs1 = locs at hS ⊢
            obtain ⟨hpw, hrt, hr48, hrot, hlv, hcu, hwo⟩ := q58
            exact W.iret (v := r58) hx hb hr (fun t ht hW => ⟨⟨r58, (fun i => [u58.1 0, u58.1 1, u58.1 2, u58.1 3, u58.1 4, u58.1 5, u58.1 6].getD i (fun _ => 0), fun i => [u58.2.1 0, u58.2.1 1, u58.2.1 2, u58.2.1 3, u58.2.1 4, u58.2.1 5].getD i 0, fun i => [u58.2.2 0, u58.2.2 1].getD i 0), rfl, ⟨by first | exact hpw | exact B01.n0 | exact B01.n1, by first | exact hrt | omega, by first | exact hr48 | omega, hrot, hlv, by first | exact hcu | exact PG.m1, hwo⟩, ⟨by rw [ht]; exact hP, va_K.moved hW.alike hK, hD⟩⟩, hS.F ht⟩) hS.2.2 d_R_annul_61
          ·
            exact absurd c48 (by decide)
  ·
    refine lv_if_eq (tgt := 51) hx hb d_R_annul_27 (by decide) (fun c27 => ?_) (fun c27 => ?_)
    ·
      refine lv_iconst (v := nI 0) hx hb d_R_annul_51 (by decide) ?_
      exact W.iret (v := nI 0) hx hb hr (fun t ht hW => ⟨⟨nI 0, (fun i => [w, wr, lw, rot, vb, live, row].getD i (fun _ => 0), fun i => [nI 1, sc, cur, ser, dur, wo].getD i 0, fun i => [rn, tn].getD i 0), rfl, ⟨by first | exact hpw | exact B01.n0 | exact B01.n1, by first | exact hrt | omega, by first | exact hr48 | omega, hrot, hlv, by first | exact hcu | exact PG.m1, hwo⟩, ⟨by rw [ht]; exact hP, va_K.moved hW.alike hK, hD⟩⟩, hS.F ht⟩) hS.2.2 d_R_annul_52
    ·
      exact absurd c27 (by decide)
set_option maxHeartbeats 4000000 in
set_option maxRecDepth 100000 in
theorem c_R_sync_ok (l : Launch) (dC : Nat → ClassId) (dI : Nat → Nat → Nat) (ad cd : Nat → Nat) (sz : Nat) (w wr fl : Nat → Int32) (pw sc : Int32) (lw rot vb : Nat → Int32) (rec tk : Int32) (live row : Nat → Int32) (cur ser dur wo : Int32) (bts : Nat → Int32) (us : Int32) (act : Nat → Int32) (rd rs : Int32) (rn : Nat) (hr48 : rn ≤ 48) (hfl : ∀ i, i < 8 → B01 (fl i)) (hlv : ∀ i, i < 16 → PG 32 (live i)) (hcu : PG 8 cur) (hwo : B01 wo) : Met l y_R_sync w_R_sync ({ frames := 5, cells := 0, slots := 0, locals := 113 }) (xP (dC, dI) vwCl (xt cd) (xw ad cd w wr fl (nI 1) sc lw rot vb (nI rn) tk live row cur ser dur wo bts us act rd rs) sz [.ref (ad 0)]) (va_Qi (fun r (u : (Nat → Nat → Int32) × (Nat → Int32) × (Nat → Nat)) => B01 (u.2.1 0) ∧ (∀ i, i < 16 → PG 32 ((u.1 2) i)) ∧ PG 8 (u.2.1 2) ∧ B01 (u.2.1 5)) (fun (u : (Nat → Nat → Int32) × (Nat → Int32) × (Nat → Nat)) (t : State) => xB (dC, dI) vwCl (xt cd) (xA 15 ad sz) (xw ad cd (u.1 0) (u.1 1) fl (u.2.1 0) (u.2.1 1) lw rot vb (nI rn) tk (u.1 2) (u.1 3) (u.2.1 2) (u.2.1 3) (u.2.1 4) (u.2.1 5) bts us act rd rs) t) (xA 15 ad sz)) 0 0 (xA 15 ad sz) := by
  refine Met.ofW (cc := b_R_sync) (maxL := 2) (ret := (some (.int))) (by decide) rfl ?_
  intro P e s m args below meth c0 s₁ B hml hv
  obtain ⟨rfl, hsz, hP, hK, hD0, hN⟩ := hv
  have hx := B.exec
  have hb := B.bytes
  have hr := B.returns
  have hts := atoms_spec (ws := w_R_sync) B.pre
  have hown : s.vm.findClass R_R = some m.cls := findClass_of_methodNamed B.named
  have hlocks := B.notSynchronized
  subst hsz
  have hD := xw_D (sz := s.heap.size) hD0
  have hS : va_S (xA 15 ad s.heap.size) s.heap s.heap [] := va_S.rf
  have hA : ∀ q : Nat, s.heap.size ≤ q → (xA 15 ad s.heap.size) q := fun q h => Or.inr h
  have hl := lv_entry ([.ref (ad 0)]) (n := 2) (Nat.le_of_ble_eq_true rfl)
  rw [lg_entry_eq]
  generalize (lg_sl ([.ref (ad 0)]) ++ List.replicate (2 - (lg_sl ([.ref (ad 0)])).length) Slot.unset).toArray = ls at hl ⊢
  have hl : lv_has ls 2 [(0, .ref (ad 0))] := hl
  refine lv_aload_n hx hb d_R_sync_0 rfl (lv_at hl 0 rfl) ?_
  refine va_get (D := (dC, dI)) (ci := 4) (v := .ref (ad 2)) (C := R_R) (T := F_R) (N := 7) hx hb hts (fun w h => List.mem_cons_of_mem _ (in_R w h)) hown hK hP 0 rfl rfl 1 (by decide) (hts (.fieldLink R_R 20 R_R "chip" "LWeighRecorder$Chip;") (List.mem_cons_of_mem _ t_115)) (fun _ h9 => h9) rfl d_R_sync_1 ?_
  refine vp_callSi (va_runV (C := R_C) (As := []) (rest := []) ⟨hx, hb, hml, hown, hts⟩ (c_C_isPowered l dC dI ad cd w wr fl (nI 1) sc lw rot vb (nI rn) tk live row cur ser dur wo bts us act rd rs  (by first | exact B01.n1 | assumption)) (cwV 0 hts (g_V t_225 t_226 t_227 t_3 t_228) rfl rfl rfl (by decide +kernel) ⟨by decide, by decide⟩) (xR_v hP hK hN 2 rfl rfl) rfl rfl hl.1 rfl (lv_room (Nat.le_of_ble_eq_true rfl)) d_R_sync_4 ⟨Nat.le_refl _, Nat.le_refl _⟩).run (fun r4 q4 => ?_)
  have q4 := q4.symm
  subst q4
  refine va_csv (va_runS (As := [.int (nI 1)]) (rest := []) ⟨hx, hb, hml, hown, hts⟩ (c_R_requireState_1 l dC dI  ) (cwS 1 hts (g_S t_338 t_339 t_1 t_340) rfl rfl rfl (by decide +kernel) ⟨by decide, by decide⟩) (xR_s (va_P.sub hP [] rfl) (hK.sub [] rfl) hN) rfl rfl hl.1 rfl (lv_room (Nat.le_of_ble_eq_true rfl)) d_R_sync_7 ⟨Nat.le_refl _, Nat.le_refl _⟩).run (fun q7 => ?_)
  refine lv_aload_n hx hb d_R_sync_10 rfl (lv_at hl 0 rfl) ?_
  refine va_get (D := (dC, dI)) (ci := 4) (v := .ref (ad 1)) (C := R_R) (T := F_R) (N := 7) hx hb hts (fun w h => List.mem_cons_of_mem _ (in_R w h)) hown hK hP 0 rfl rfl 0 (by decide) (hts (.fieldLink R_R 12 R_R "store" "LWeighRecorder$Store;") (List.mem_cons_of_mem _ t_114)) (fun _ h9 => h9) rfl d_R_sync_11 ?_
  refine vp_callSi (va_runV (C := R_S) (As := []) (rest := []) ⟨hx, hb, hml, hown, hts⟩ (c_S_durableCount l dC dI ad cd w wr fl (nI 1) sc lw rot vb (nI rn) tk live row cur ser dur wo bts us act rd rs  ) (cwV 0 hts (g_V t_230 t_231 t_232 t_2 t_233) rfl rfl rfl (by decide +kernel) ⟨by decide, by decide⟩) (xR_v hP hK hN 1 rfl rfl) rfl rfl hl.1 rfl (lv_room (Nat.le_of_ble_eq_true rfl)) d_R_sync_14 ⟨Nat.le_refl _, Nat.le_refl _⟩).run (fun r14 q14 => ?_)
  have hk14 := q14
  refine lv_aload_n hx hb d_R_sync_17 rfl (lv_at hl 0 rfl) ?_
  refine va_get (D := (dC, dI)) (ci := 4) (v := .ref (ad 3)) (C := R_R) (T := F_R) (N := 7) hx hb hts (fun w h => List.mem_cons_of_mem _ (in_R w h)) hown hK hP 0 rfl rfl 2 (by decide) (hts (.fieldLink R_R 26 R_R "log" "LWeighRecorder$Log;") (List.mem_cons_of_mem _ t_116)) (fun _ h9 => h9) rfl d_R_sync_18 ?_
  refine vp_callSi (va_runV (C := R_G) (As := []) (rest := [.int r14]) ⟨hx, hb, hml, hown, hts⟩ (c_G_recordCount l dC dI ad cd w wr fl (nI 1) sc lw rot vb (nI rn) tk live row cur ser dur wo bts us act rd rs rn ) (cwV 0 hts (g_V t_229 t_210 t_211 t_4 t_212) rfl rfl rfl (by decide +kernel) ⟨by decide, by decide⟩) (xR_v hP hK hN 3 rfl rfl) rfl rfl hl.1 rfl (lv_room (Nat.le_of_ble_eq_true rfl)) d_R_sync_21 ⟨Nat.le_refl _, Nat.le_refl _⟩).run (fun r21 q21 => ?_)
  have q21 := q21.symm
  subst q21
  refine lv_icmp_ne (tgt := 29) hx hb d_R_sync_24 (by decide) (fun c24 => ?_) (fun c24 => ?_)
  ·
    refine lv_aload_n hx hb d_R_sync_29 rfl (lv_at hl 0 rfl) ?_
    refine va_get (D := (dC, dI)) (ci := 4) (v := .ref (ad 1)) (C := R_R) (T := F_R) (N := 7) hx hb hts (fun w h => List.mem_cons_of_mem _ (in_R w h)) hown hK hP 0 rfl rfl 0 (by decide) (hts (.fieldLink R_R 12 R_R "store" "LWeighRecorder$Store;") (List.mem_cons_of_mem _ t_114)) (fun _ h9 => h9) rfl d_R_sync_30 ?_
    have hSz := hS.1
    refine va_calli (va_runV (C := R_S) (As := []) (rest := []) ⟨hx, hb, hml, hown, hts⟩ (c_S_pageForLeaf l dC dI ad cd s.heap.size w wr fl (nI 1) sc lw rot vb (nI rn) tk live row cur ser dur wo bts us act rd rs  (by first | exact B01.n1 | assumption) (by first | omega | rfl | assumption | decide) (by first | omega | rfl | assumption | decide) (by first | omega | rfl | assumption | decide) (by first | omega | rfl | assumption | decide)) (cwV 0 hts (g_V t_387 t_388 t_389 t_2 t_390) rfl rfl rfl (by decide +kernel) ⟨by decide, by decide⟩) (xP_v hP hK hD hN 1 rfl rfl) rfl rfl hl.1 rfl (lv_room (Nat.le_of_ble_eq_true rfl)) d_R_sync_33 ⟨Nat.le_refl _, Nat.le_refl _⟩) hS (fun q _ h => xA_up hS.1 q h) (fun q h => xA_up hS.1 q h) (fun r33 u33 t H1 locs1 ht hvm q33 hB hz1 hk1 hS => ?_)
    obtain ⟨hP1, hK1, hD1⟩ := hB
    rw [ht] at hP1
    have hD : va_D (xA 15 ad s.heap.size) (xw ad cd (u33.1 0) (u33.1 1) fl (u33.2.1 0) (u33.2.1 1) lw rot vb (nI rn) tk (u33.1 2) (u33.1 3) (u33.2.1 2) (u33.2.1 3) dur (u33.2.1 4) bts us act rd rs) := hD1.weaken (fun _ q _ h => xA_up hSz _ h)
    have hP : va_P (dC, dI) vwCl (xw ad cd (u33.1 0) (u33.1 1) fl (u33.2.1 0) (u33.2.1 1) lw rot vb (nI rn) tk (u33.1 2) (u33.1 3) (u33.2.1 2) (u33.2.1 3) dur (u33.2.1 4) bts us act rd rs) H1 := hP1
    generalize H1 = H at hP hS ⊢
    generalize locs1 = locs at hS ⊢
    rcases q33 with ⟨rfl | rfl | ⟨p33, hp33, rfl⟩, hpw, hlv, hcu, hwo⟩
    ·
      refine lv_istore_n hx hb d_R_sync_36 rfl hl (by decide) rfl (fun ls hl => ?_)
      have hl : lv_has ls 2 [(1, .int (-1)), (0, .ref (ad 0))] := hl
      refine lv_iload_n hx hb d_R_sync_37 rfl (lv_at hl 0 rfl) ?_
      refine lv_if_lt (tgt := 56) hx hb d_R_sync_38 (by decide) (fun c38 => ?_) (fun c38 => ?_)
      ·
        refine lv_iload_n hx hb d_R_sync_56 rfl (lv_at hl 0 rfl) ?_
        exact W.iret (v := (-1)) hx hb hr (fun t ht hW => ⟨⟨(-1), (fun i => [u33.1 0, u33.1 1, u33.1 2, u33.1 3].getD i (fun _ => 0), fun i => [u33.2.1 0, u33.2.1 1, u33.2.1 2, u33.2.1 3, dur, u33.2.1 4].getD i 0, fun i => [].getD i 0), rfl, ⟨by first | exact hpw | exact B01.n0 | exact B01.n1, hlv, by first | exact hcu | exact PG.m1, hwo⟩, ⟨by rw [ht]; exact hP, va_K.moved hW.alike hK, hD⟩⟩, hS.F ht⟩) hS.2.2 d_R_sync_57
      ·
        exact absurd c38 (by decide)
    ·
      refine lv_istore_n hx hb d_R_sync_36 rfl hl (by decide) rfl (fun ls hl => ?_)
      have hl : lv_has ls 2 [(1, .int (-2)), (0, .ref (ad 0))] := hl
      refine lv_iload_n hx hb d_R_sync_37 rfl (lv_at hl 0 rfl) ?_
      refine lv_if_lt (tgt := 56) hx hb d_R_sync_38 (by decide) (fun c38 => ?_) (fun c38 => ?_)
      ·
        refine lv_iload_n hx hb d_R_sync_56 rfl (lv_at hl 0 rfl) ?_
        exact W.iret (v := (-2)) hx hb hr (fun t ht hW => ⟨⟨(-2), (fun i => [u33.1 0, u33.1 1, u33.1 2, u33.1 3].getD i (fun _ => 0), fun i => [u33.2.1 0, u33.2.1 1, u33.2.1 2, u33.2.1 3, dur, u33.2.1 4].getD i 0, fun i => [].getD i 0), rfl, ⟨by first | exact hpw | exact B01.n0 | exact B01.n1, hlv, by first | exact hcu | exact PG.m1, hwo⟩, ⟨by rw [ht]; exact hP, va_K.moved hW.alike hK, hD⟩⟩, hS.F ht⟩) hS.2.2 d_R_sync_57
      ·
        exact absurd c38 (by decide)
    ·
      refine lv_istore_n hx hb d_R_sync_36 rfl hl (by decide) rfl (fun ls hl => ?_)
      have hl : lv_has ls 2 [(1, .int (nI p33)), (0, .ref (ad 0))] := hl
      refine lv_iload_n hx hb d_R_sync_37 rfl (lv_at hl 0 rfl) ?_
      refine lv_if_lt (tgt := 56) hx hb d_R_sync_38 (by decide) (fun c38 => ?_) (fun c38 => ?_)
      ·
        exact (cz_lt_t (by omega) c38).elim
      ·
        have c38 := cz_lt_f (by omega) c38
        refine lv_aload_n hx hb d_R_sync_41 rfl (lv_at hl 1 rfl) ?_
        refine va_get (D := (dC, dI)) (ci := 4) (v := .ref (ad 1)) (C := R_R) (T := F_R) (N := 7) hx hb hts (fun w h => List.mem_cons_of_mem _ (in_R w h)) hown hK hP 0 rfl rfl 0 (by decide) (hts (.fieldLink R_R 12 R_R "store" "LWeighRecorder$Store;") (List.mem_cons_of_mem _ t_114)) (fun _ h9 => h9) rfl d_R_sync_42 ?_
        refine lv_aload_n hx hb d_R_sync_45 rfl (lv_at hl 1 rfl) ?_
        refine va_get (D := (dC, dI)) (ci := 4) (v := .ref (ad 3)) (C := R_R) (T := F_R) (N := 7) hx hb hts (fun w h => List.mem_cons_of_mem _ (in_R w h)) hown hK hP 0 rfl rfl 2 (by decide) (hts (.fieldLink R_R 26 R_R "log" "LWeighRecorder$Log;") (List.mem_cons_of_mem _ t_116)) (fun _ h9 => h9) rfl d_R_sync_46 ?_
        refine lv_iload_n hx hb d_R_sync_49 rfl (lv_at hl 0 rfl) ?_
        have hSz := hS.1
        refine va_calli (va_runV (C := R_S) (As := [.ref (ad 3), .int (nI p33)]) (rest := []) ⟨hx, hb, hml, hown, hts⟩ (c_S_writeLastLeaf l dC dI ad cd H.size (u33.1 0) (u33.1 1) fl (u33.2.1 0) (u33.2.1 1) lw rot vb (nI rn) tk (u33.1 2) (u33.1 3) (u33.2.1 2) (u33.2.1 3) dur (u33.2.1 4) bts us act rd rs rn p33 (by first | omega | rfl | assumption | decide) (by first | omega | rfl | assumption | decide) (by first | omega | rfl | assumption | decide) (by first | omega | rfl | assumption | decide)) (cwV 2 hts (g_V t_458 t_459 t_460 t_2 t_461) rfl rfl rfl (by decide +kernel) ⟨by decide, by decide⟩) (xP_v hP hK hD hN 1 rfl rfl) rfl rfl hl.1 rfl (lv_room (Nat.le_of_ble_eq_true rfl)) d_R_sync_50 ⟨Nat.le_refl _, Nat.le_refl _⟩) hS (fun q _ h => xA_up hS.1 q h) (fun q h => xA_up hS.1 q h) (fun r50 u50 t H1 locs1 ht hvm q50 hB hz1 hk1 hS => ?_)
        obtain ⟨hP1, hK1, hD1⟩ := hB
        rw [ht] at hP1
        have hD : va_D (xA 15 ad s.heap.size) (xw ad cd (u50.1 0) (u33.1 1) fl (u50.2.1 0) (u50.2.1 1) lw rot vb (nI rn) tk (u50.1 1) (u50.1 2) (u33.2.1 2) (u50.2.1 2) (u50.2.1 3) (u33.2.1 4) bts us act rd rs) := hD1.weaken (fun _ q _ h => xA_up hSz _ h)
        have hP : va_P (dC, dI) vwCl (xw ad cd (u50.1 0) (u33.1 1) fl (u50.2.1 0) (u50.2.1 1) lw rot vb (nI rn) tk (u50.1 1) (u50.1 2) (u33.2.1 2) (u50.2.1 2) (u50.2.1 3) (u33.2.1 4) bts us act rd rs) H1 := hP1
        generalize H1 = H at hP hS ⊢
        generalize locs1 = locs at hS ⊢
        obtain ⟨hro50, hpw, hlv⟩ := q50
        refine lv_goto (tgt := 57) hx hb d_R_sync_53 (by decide) ?_
        exact W.iret (v := r50) hx hb hr (fun t ht hW => ⟨⟨r50, (fun i => [u50.1 0, u33.1 1, u50.1 1, u50.1 2].getD i (fun _ => 0), fun i => [u50.2.1 0, u50.2.1 1, u33.2.1 2, u50.2.1 2, u50.2.1 3, u33.2.1 4].getD i 0, fun i => [].getD i 0), rfl, ⟨by first | exact hpw | exact B01.n0 | exact B01.n1, hlv, by first | exact hcu | exact PG.m1, hwo⟩, ⟨by rw [ht]; exact hP, va_K.moved hW.alike hK, hD⟩⟩, hS.F ht⟩) hS.2.2 d_R_sync_57
  ·
    refine lv_iconst (v := nI 1) hx hb d_R_sync_27 (by decide) ?_
    exact W.iret (v := nI 1) hx hb hr (fun t ht hW => ⟨⟨nI 1, (fun i => [w, wr, live, row].getD i (fun _ => 0), fun i => [nI 1, sc, cur, ser, dur, wo].getD i 0, fun i => [].getD i 0), rfl, ⟨by first | exact hpw | exact B01.n0 | exact B01.n1, hlv, by first | exact hcu | exact PG.m1, hwo⟩, ⟨by rw [ht]; exact hP, va_K.moved hW.alike hK, hD⟩⟩, hS.F ht⟩) hS.2.2 d_R_sync_28
set_option maxHeartbeats 4000000 in
set_option maxRecDepth 100000 in
theorem c_R_ticket_ok (l : Launch) (dC : Nat → ClassId) (dI : Nat → Nat → Nat) (ad cd : Nat → Nat) (w wr fl : Nat → Int32) (pw sc : Int32) (lw rot vb : Nat → Int32) (rec tk : Int32) (live row : Nat → Int32) (cur ser dur wo : Int32) (bts : Nat → Int32) (us : Int32) (act : Nat → Int32) (rd rs : Int32) (tn : Nat) (tno : Int32) (what : Int32) (hok : ((nI 1 ≤ tno ∧ tno ≤ nI tn) ∧ (nI 0 ≤ what ∧ what ≤ nI 6))) (ht48 : tn ≤ 48) (hrot : ∀ i, i < 48 → IX 48 (rot i)) : Met l y_R_ticket w_R_ticket ({ frames := 3, cells := 0, slots := 0, locals := 64 }) (xR (dC, dI) vwCl (xt cd) (xw ad cd w wr fl (nI 1) sc lw rot vb rec (nI tn) live row cur ser dur wo bts us act rd rs) [.ref (ad 0), .int tno, .int what]) (vp_Si (fun r => True)) 0 0 (fun _ => False) := by
  refine Met.ofW (cc := b_R_ticket) (maxL := 3) (ret := (some (.int))) (by decide) rfl ?_
  intro P e s m args below meth c0 s₁ B hml hv
  obtain ⟨rfl, hP, hK, hN⟩ := hv
  have hx := B.exec
  have hb := B.bytes
  have hr := B.returns
  have hts := atoms_spec (ws := w_R_ticket) B.pre
  have hown : s.vm.findClass R_R = some m.cls := findClass_of_methodNamed B.named
  have hlocks := B.notSynchronized
  have hl := lv_entry ([.ref (ad 0), .int tno, .int what]) (n := 3) (Nat.le_of_ble_eq_true rfl)
  rw [lg_entry_eq]
  generalize (lg_sl ([.ref (ad 0), .int tno, .int what]) ++ List.replicate (3 - (lg_sl ([.ref (ad 0), .int tno, .int what])).length) Slot.unset).toArray = ls at hl ⊢
  have hl : lv_has ls 3 [(0, .ref (ad 0)), (1, .int tno), (2, .int what)] := hl
  refine lv_aload_n hx hb d_R_ticket_0 rfl (lv_at hl 0 rfl) ?_
  refine va_get (D := (dC, dI)) (ci := 4) (v := .ref (ad 2)) (C := R_R) (T := F_R) (N := 7) hx hb hts (fun w h => List.mem_cons_of_mem _ (in_R w h)) hown hK hP 0 rfl rfl 1 (by decide) (hts (.fieldLink R_R 20 R_R "chip" "LWeighRecorder$Chip;") (List.mem_cons_of_mem _ t_115)) (fun _ h9 => h9) rfl d_R_ticket_1 ?_
  refine vp_callSi (va_runV (C := R_C) (As := []) (rest := []) ⟨hx, hb, hml, hown, hts⟩ (c_C_isPowered l dC dI ad cd w wr fl (nI 1) sc lw rot vb rec (nI tn) live row cur ser dur wo bts us act rd rs  (by first | exact B01.n1 | assumption)) (cwV 0 hts (g_V t_225 t_226 t_227 t_3 t_228) rfl rfl rfl (by decide +kernel) ⟨by decide, by decide⟩) (xR_v hP hK hN 2 rfl rfl) rfl rfl hl.1 rfl (lv_room (Nat.le_of_ble_eq_true rfl)) d_R_ticket_4 ⟨Nat.le_refl _, Nat.le_refl _⟩).run (fun r4 q4 => ?_)
  have q4 := q4.symm
  subst q4
  refine va_csv (va_runS (As := [.int (nI 1)]) (rest := []) ⟨hx, hb, hml, hown, hts⟩ (c_R_requireState_1 l dC dI  ) (cwS 1 hts (g_S t_338 t_339 t_1 t_340) rfl rfl rfl (by decide +kernel) ⟨by decide, by decide⟩) (xR_s (va_P.sub hP [] rfl) (hK.sub [] rfl) hN) rfl rfl hl.1 rfl (lv_room (Nat.le_of_ble_eq_true rfl)) d_R_ticket_7 ⟨Nat.le_refl _, Nat.le_refl _⟩).run (fun q7 => ?_)
  refine lv_aload_n hx hb d_R_ticket_10 rfl (lv_at hl 0 rfl) ?_
  refine va_get (D := (dC, dI)) (ci := 4) (v := .ref (ad 3)) (C := R_R) (T := F_R) (N := 7) hx hb hts (fun w h => List.mem_cons_of_mem _ (in_R w h)) hown hK hP 0 rfl rfl 2 (by decide) (hts (.fieldLink R_R 26 R_R "log" "LWeighRecorder$Log;") (List.mem_cons_of_mem _ t_116)) (fun _ h9 => h9) rfl d_R_ticket_11 ?_
  refine lv_iload_n hx hb d_R_ticket_14 rfl (lv_at hl 1 rfl) ?_
  refine vp_callSi (va_runV (C := R_G) (As := [.int tno]) (rest := []) ⟨hx, hb, hml, hown, hts⟩ (c_G_hasTicket l dC dI ad cd w wr fl (nI 1) sc lw rot vb rec (nI tn) live row cur ser dur wo bts us act rd rs tn tno ) (cwV 1 hts (g_V t_473 t_199 t_200 t_4 t_201) rfl rfl rfl (by decide +kernel) ⟨by decide, by decide⟩) (xR_v hP hK hN 3 rfl rfl) rfl rfl hl.1 rfl (lv_room (Nat.le_of_ble_eq_true rfl)) d_R_ticket_15 ⟨Nat.le_refl _, Nat.le_refl _⟩).run (fun r15 q15 => ?_)
  obtain ⟨rfl, -⟩ := q15.resolve_right (fun z => z.2 hok.1)
  obtain ⟨j, hj, rfl⟩ := tk_nat hok.1 (by omega)
  refine lv_if_eq (tgt := 35) hx hb d_R_ticket_18 (by decide) (fun c18 => ?_) (fun c18 => ?_)
  ·
    exact absurd c18 (by decide)
  ·
    refine lv_iload_n hx hb d_R_ticket_21 rfl (lv_at hl 2 rfl) ?_
    refine lv_iconst (v := nI 0) hx hb d_R_ticket_22 (by decide) ?_
    refine lv_bipush (v := nI 6) hx hb d_R_ticket_23 (by decide) ?_
    refine vp_callSi (va_runS (As := [.int what, .int (nI 0), .int (nI 6)]) (rest := []) ⟨hx, hb, hml, hown, hts⟩ (c_R_isWithin l dC dI what (nI 0) (nI 6) ) (cwS 3 hts (g_S t_271 t_207 t_1 t_208) rfl rfl rfl (by decide +kernel) ⟨by decide, by decide⟩) (xR_s (va_P.sub hP [] rfl) (hK.sub [] rfl) hN) rfl rfl hl.1 rfl (lv_room (Nat.le_of_ble_eq_true rfl)) d_R_ticket_25 ⟨Nat.le_refl _, Nat.le_refl _⟩).run (fun r25 q25 => ?_)
    obtain ⟨rfl, -⟩ := q25.resolve_right (fun z => z.2 (hok.2))
    refine lv_if_eq (tgt := 35) hx hb d_R_ticket_28 (by decide) (fun c28 => ?_) (fun c28 => ?_)
    ·
      exact absurd c28 (by decide)
    ·
      refine lv_iconst (v := nI 1) hx hb d_R_ticket_31 (by decide) ?_
      refine lv_goto (tgt := 36) hx hb d_R_ticket_32 (by decide) ?_
      refine va_csv (va_runS (As := [.int (nI 1)]) (rest := []) ⟨hx, hb, hml, hown, hts⟩ (c_R_requireIndex_1 l dC dI  ) (cwS 1 hts (g_S t_491 t_492 t_1 t_493) rfl rfl rfl (by decide +kernel) ⟨by decide, by decide⟩) (xR_s (va_P.sub hP [] rfl) (hK.sub [] rfl) hN) rfl rfl hl.1 rfl (lv_room (Nat.le_of_ble_eq_true rfl)) d_R_ticket_36 ⟨Nat.le_refl _, Nat.le_refl _⟩).run (fun q36 => ?_)
      refine lv_iload_n hx hb d_R_ticket_39 rfl (lv_at hl 2 rfl) ?_
      refine lv_topi (fun sx esx => ?_)
      rcases sw_in sx 5 with hsw | ⟨j, hj, ej⟩
      ·
        refine lv_tableOut (tgt := 134) hx hb d_R_ticket_40 hsw (by decide) ?_
        refine lv_aload_n hx hb d_R_ticket_134 rfl (lv_at hl 0 rfl) ?_
        refine va_get (D := (dC, dI)) (ci := 4) (v := .ref (ad 3)) (C := R_R) (T := F_R) (N := 7) hx hb hts (fun w h => List.mem_cons_of_mem _ (in_R w h)) hown hK hP 0 rfl rfl 2 (by decide) (hts (.fieldLink R_R 26 R_R "log" "LWeighRecorder$Log;") (List.mem_cons_of_mem _ t_116)) (fun _ h9 => h9) rfl d_R_ticket_135 ?_
        refine lv_iload_n hx hb d_R_ticket_138 rfl (lv_at hl 1 rfl) ?_
        refine vp_callSi (va_runV (C := R_G) (As := [.int (nI (j + 1))]) (rest := []) ⟨hx, hb, hml, hown, hts⟩ (c_G_linkOf l dC dI ad cd w wr fl (nI 1) sc lw rot vb rec (nI tn) live row cur ser dur wo bts us act rd rs (j + 1) (by first | omega | rfl | assumption | decide) (by first | omega | rfl | assumption | decide) (by first | omega | rfl | assumption | decide)) (cwV 1 hts (g_V t_543 t_544 t_545 t_4 t_546) rfl rfl rfl (by decide +kernel) ⟨by decide, by decide⟩) (xR_v hP hK hN 3 rfl rfl) rfl rfl hl.1 rfl (lv_room (Nat.le_of_ble_eq_true rfl)) d_R_ticket_139 ⟨Nat.le_refl _, Nat.le_refl _⟩).run (fun r139 q139 => ?_)
        have hk139 := q139
        exact W.iret (v := r139) hx hb hr (fun t ht hW => ⟨r139, rfl, trivial, ht⟩) (fun q hq => by cases hq) d_R_ticket_142
      ·
        rcases (show j = 0 ∨ j = 1 ∨ j = 2 ∨ j = 3 ∨ j = 4 ∨ j = 5 by omega) with rfl | rfl | rfl | rfl | rfl | rfl
        ·
          subst ej
          refine lv_tableIn (off := 40) (tgt := 80) hx hb d_R_ticket_40 (by decide) (by decide) rfl (by decide) ?_
          refine lv_aload_n hx hb d_R_ticket_80 rfl (lv_at hl 0 rfl) ?_
          refine va_get (D := (dC, dI)) (ci := 4) (v := .ref (ad 3)) (C := R_R) (T := F_R) (N := 7) hx hb hts (fun w h => List.mem_cons_of_mem _ (in_R w h)) hown hK hP 0 rfl rfl 2 (by decide) (hts (.fieldLink R_R 26 R_R "log" "LWeighRecorder$Log;") (List.mem_cons_of_mem _ t_116)) (fun _ h9 => h9) rfl d_R_ticket_81 ?_
          refine lv_iload_n hx hb d_R_ticket_84 rfl (lv_at hl 1 rfl) ?_
          refine vp_callSi (va_runV (C := R_G) (As := [.int (nI (j + 1))]) (rest := []) ⟨hx, hb, hml, hown, hts⟩ (c_G_plateOf l dC dI ad cd w wr fl (nI 1) sc lw rot vb rec (nI tn) live row cur ser dur wo bts us act rd rs (j + 1) (by first | omega | rfl | assumption | decide) (by first | omega | rfl | assumption | decide) (by first | omega | rfl | assumption | decide)) (cwV 1 hts (g_V t_509 t_510 t_511 t_4 t_512) rfl rfl rfl (by decide +kernel) ⟨by decide, by decide⟩) (xR_v hP hK hN 3 rfl rfl) rfl rfl hl.1 rfl (lv_room (Nat.le_of_ble_eq_true rfl)) d_R_ticket_85 ⟨Nat.le_refl _, Nat.le_refl _⟩).run (fun r85 q85 => ?_)
          have hk85 := q85
          exact W.iret (v := r85) hx hb hr (fun t ht hW => ⟨r85, rfl, trivial, ht⟩) (fun q hq => by cases hq) d_R_ticket_88
        ·
          subst ej
          refine lv_tableIn (off := 49) (tgt := 89) hx hb d_R_ticket_40 (by decide) (by decide) rfl (by decide) ?_
          refine lv_aload_n hx hb d_R_ticket_89 rfl (lv_at hl 0 rfl) ?_
          refine va_get (D := (dC, dI)) (ci := 4) (v := .ref (ad 3)) (C := R_R) (T := F_R) (N := 7) hx hb hts (fun w h => List.mem_cons_of_mem _ (in_R w h)) hown hK hP 0 rfl rfl 2 (by decide) (hts (.fieldLink R_R 26 R_R "log" "LWeighRecorder$Log;") (List.mem_cons_of_mem _ t_116)) (fun _ h9 => h9) rfl d_R_ticket_90 ?_
          refine lv_iload_n hx hb d_R_ticket_93 rfl (lv_at hl 1 rfl) ?_
          refine vp_callSi (va_runV (C := R_G) (As := [.int (nI (j + 1))]) (rest := []) ⟨hx, hb, hml, hown, hts⟩ (c_G_grossOf l dC dI ad cd w wr fl (nI 1) sc lw rot vb rec (nI tn) live row cur ser dur wo bts us act rd rs (j + 1) (by first | omega | rfl | assumption | decide) (by first | omega | rfl | assumption | decide) (by first | omega | rfl | assumption | decide)) (cwV 1 hts (g_V t_521 t_522 t_523 t_4 t_524) rfl rfl rfl (by decide +kernel) ⟨by decide, by decide⟩) (xR_v hP hK hN 3 rfl rfl) rfl rfl hl.1 rfl (lv_room (Nat.le_of_ble_eq_true rfl)) d_R_ticket_94 ⟨Nat.le_refl _, Nat.le_refl _⟩).run (fun r94 q94 => ?_)
          have hk94 := q94
          exact W.iret (v := r94) hx hb hr (fun t ht hW => ⟨r94, rfl, trivial, ht⟩) (fun q hq => by cases hq) d_R_ticket_97
        ·
          subst ej
          refine lv_tableIn (off := 58) (tgt := 98) hx hb d_R_ticket_40 (by decide) (by decide) rfl (by decide) ?_
          refine lv_aload_n hx hb d_R_ticket_98 rfl (lv_at hl 0 rfl) ?_
          refine va_get (D := (dC, dI)) (ci := 4) (v := .ref (ad 3)) (C := R_R) (T := F_R) (N := 7) hx hb hts (fun w h => List.mem_cons_of_mem _ (in_R w h)) hown hK hP 0 rfl rfl 2 (by decide) (hts (.fieldLink R_R 26 R_R "log" "LWeighRecorder$Log;") (List.mem_cons_of_mem _ t_116)) (fun _ h9 => h9) rfl d_R_ticket_99 ?_
          refine lv_iload_n hx hb d_R_ticket_102 rfl (lv_at hl 1 rfl) ?_
          refine vp_callSi (va_runV (C := R_G) (As := [.int (nI (j + 1))]) (rest := []) ⟨hx, hb, hml, hown, hts⟩ (c_G_tareOf l dC dI ad cd w wr fl (nI 1) sc lw rot vb rec (nI tn) live row cur ser dur wo bts us act rd rs (j + 1) (by first | omega | rfl | assumption | decide) (by first | omega | rfl | assumption | decide) (by first | omega | rfl | assumption | decide)) (cwV 1 hts (g_V t_525 t_526 t_527 t_4 t_528) rfl rfl rfl (by decide +kernel) ⟨by decide, by decide⟩) (xR_v hP hK hN 3 rfl rfl) rfl rfl hl.1 rfl (lv_room (Nat.le_of_ble_eq_true rfl)) d_R_ticket_103 ⟨Nat.le_refl _, Nat.le_refl _⟩).run (fun r103 q103 => ?_)
          have hk103 := q103
          exact W.iret (v := r103) hx hb hr (fun t ht hW => ⟨r103, rfl, trivial, ht⟩) (fun q hq => by cases hq) d_R_ticket_106
        ·
          subst ej
          refine lv_tableIn (off := 67) (tgt := 107) hx hb d_R_ticket_40 (by decide) (by decide) rfl (by decide) ?_
          refine lv_aload_n hx hb d_R_ticket_107 rfl (lv_at hl 0 rfl) ?_
          refine va_get (D := (dC, dI)) (ci := 4) (v := .ref (ad 3)) (C := R_R) (T := F_R) (N := 7) hx hb hts (fun w h => List.mem_cons_of_mem _ (in_R w h)) hown hK hP 0 rfl rfl 2 (by decide) (hts (.fieldLink R_R 26 R_R "log" "LWeighRecorder$Log;") (List.mem_cons_of_mem _ t_116)) (fun _ h9 => h9) rfl d_R_ticket_108 ?_
          refine lv_iload_n hx hb d_R_ticket_111 rfl (lv_at hl 1 rfl) ?_
          refine vp_callSi (va_runV (C := R_G) (As := [.int (nI (j + 1))]) (rest := []) ⟨hx, hb, hml, hown, hts⟩ (c_G_productOf l dC dI ad cd w wr fl (nI 1) sc lw rot vb rec (nI tn) live row cur ser dur wo bts us act rd rs (j + 1) (by first | omega | rfl | assumption | decide) (by first | omega | rfl | assumption | decide) (by first | omega | rfl | assumption | decide)) (cwV 1 hts (g_V t_530 t_531 t_532 t_4 t_533) rfl rfl rfl (by decide +kernel) ⟨by decide, by decide⟩) (xR_v hP hK hN 3 rfl rfl) rfl rfl hl.1 rfl (lv_room (Nat.le_of_ble_eq_true rfl)) d_R_ticket_112 ⟨Nat.le_refl _, Nat.le_refl _⟩).run (fun r112 q112 => ?_)
          have hk112 := q112
          exact W.iret (v := r112) hx hb hr (fun t ht hW => ⟨r112, rfl, trivial, ht⟩) (fun q hq => by cases hq) d_R_ticket_115
        ·
          subst ej
          refine lv_tableIn (off := 76) (tgt := 116) hx hb d_R_ticket_40 (by decide) (by decide) rfl (by decide) ?_
          refine lv_aload_n hx hb d_R_ticket_116 rfl (lv_at hl 0 rfl) ?_
          refine va_get (D := (dC, dI)) (ci := 4) (v := .ref (ad 3)) (C := R_R) (T := F_R) (N := 7) hx hb hts (fun w h => List.mem_cons_of_mem _ (in_R w h)) hown hK hP 0 rfl rfl 2 (by decide) (hts (.fieldLink R_R 26 R_R "log" "LWeighRecorder$Log;") (List.mem_cons_of_mem _ t_116)) (fun _ h9 => h9) rfl d_R_ticket_117 ?_
          refine lv_iload_n hx hb d_R_ticket_120 rfl (lv_at hl 1 rfl) ?_
          refine vp_callSi (va_runV (C := R_G) (As := [.int (nI (j + 1))]) (rest := []) ⟨hx, hb, hml, hown, hts⟩ (c_G_clockOf l dC dI ad cd w wr fl (nI 1) sc lw rot vb rec (nI tn) live row cur ser dur wo bts us act rd rs (j + 1) (by first | omega | rfl | assumption | decide) (by first | omega | rfl | assumption | decide) (by first | omega | rfl | assumption | decide)) (cwV 1 hts (g_V t_534 t_535 t_536 t_4 t_537) rfl rfl rfl (by decide +kernel) ⟨by decide, by decide⟩) (xR_v hP hK hN 3 rfl rfl) rfl rfl hl.1 rfl (lv_room (Nat.le_of_ble_eq_true rfl)) d_R_ticket_121 ⟨Nat.le_refl _, Nat.le_refl _⟩).run (fun r121 q121 => ?_)
          have hk121 := q121
          exact W.iret (v := r121) hx hb hr (fun t ht hW => ⟨r121, rfl, trivial, ht⟩) (fun q hq => by cases hq) d_R_ticket_124
        ·
          subst ej
          refine lv_tableIn (off := 85) (tgt := 125) hx hb d_R_ticket_40 (by decide) (by decide) rfl (by decide) ?_
          refine lv_aload_n hx hb d_R_ticket_125 rfl (lv_at hl 0 rfl) ?_
          refine va_get (D := (dC, dI)) (ci := 4) (v := .ref (ad 3)) (C := R_R) (T := F_R) (N := 7) hx hb hts (fun w h => List.mem_cons_of_mem _ (in_R w h)) hown hK hP 0 rfl rfl 2 (by decide) (hts (.fieldLink R_R 26 R_R "log" "LWeighRecorder$Log;") (List.mem_cons_of_mem _ t_116)) (fun _ h9 => h9) rfl d_R_ticket_126 ?_
          refine lv_iload_n hx hb d_R_ticket_129 rfl (lv_at hl 1 rfl) ?_
          refine vp_callSi (va_runV (C := R_G) (As := [.int (nI (j + 1))]) (rest := []) ⟨hx, hb, hml, hown, hts⟩ (c_G_voidedOf l dC dI ad cd w wr fl (nI 1) sc lw rot vb rec (nI tn) live row cur ser dur wo bts us act rd rs (j + 1) (by first | omega | rfl | assumption | decide) (by first | omega | rfl | assumption | decide)) (cwV 1 hts (g_V t_539 t_540 t_541 t_4 t_542) rfl rfl rfl (by decide +kernel) ⟨by decide, by decide⟩) (xR_v hP hK hN 3 rfl rfl) rfl rfl hl.1 rfl (lv_room (Nat.le_of_ble_eq_true rfl)) d_R_ticket_130 ⟨Nat.le_refl _, Nat.le_refl _⟩).run (fun r130 q130 => ?_)
          have hk130 := q130
          exact W.iret (v := r130) hx hb hr (fun t ht hW => ⟨r130, rfl, trivial, ht⟩) (fun q hq => by cases hq) d_R_ticket_133
set_option maxHeartbeats 4000000 in
set_option maxRecDepth 100000 in
theorem c_R_dayTotal_ok (l : Launch) (dC : Nat → ClassId) (dI : Nat → Nat → Nat) (ad cd : Nat → Nat) (w wr fl : Nat → Int32) (pw sc : Int32) (lw rot vb : Nat → Int32) (rec tk : Int32) (live row : Nat → Int32) (cur ser dur wo : Int32) (bts : Nat → Int32) (us : Int32) (act : Nat → Int32) (rd rs : Int32) (tn : Nat) (da : Int32) (pr : Int32) (ht48 : tn ≤ 48) (hrot : ∀ i, i < 48 → IX 48 (rot i)) : Met l y_R_dayTotal w_R_dayTotal ({ frames := 4, cells := 0, slots := 0, locals := 85 }) (xR (dC, dI) vwCl (xt cd) (xw ad cd w wr fl (nI 1) sc lw rot vb rec (nI tn) live row cur ser dur wo bts us act rd rs) [.ref (ad 0), .int da, .int pr]) (vp_Sl (fun r => True)) 0 0 (fun _ => False) := by
  refine Met.ofW (cc := b_R_dayTotal) (maxL := 7) (ret := (some (.long))) (by decide) rfl ?_
  intro P e s m args below meth c0 s₁ B hml hv
  obtain ⟨rfl, hP, hK, hN⟩ := hv
  have hx := B.exec
  have hb := B.bytes
  have hr := B.returns
  have hts := atoms_spec (ws := w_R_dayTotal) B.pre
  have hown : s.vm.findClass R_R = some m.cls := findClass_of_methodNamed B.named
  have hlocks := B.notSynchronized
  have hl := lv_entry ([.ref (ad 0), .int da, .int pr]) (n := 7) (Nat.le_of_ble_eq_true rfl)
  rw [lg_entry_eq]
  generalize (lg_sl ([.ref (ad 0), .int da, .int pr]) ++ List.replicate (7 - (lg_sl ([.ref (ad 0), .int da, .int pr])).length) Slot.unset).toArray = ls at hl ⊢
  have hl : lv_has ls 7 [(0, .ref (ad 0)), (1, .int da), (2, .int pr)] := hl
  refine lv_aload_n hx hb d_R_dayTotal_0 rfl (lv_at hl 0 rfl) ?_
  refine va_get (D := (dC, dI)) (ci := 4) (v := .ref (ad 2)) (C := R_R) (T := F_R) (N := 7) hx hb hts (fun w h => List.mem_cons_of_mem _ (in_R w h)) hown hK hP 0 rfl rfl 1 (by decide) (hts (.fieldLink R_R 20 R_R "chip" "LWeighRecorder$Chip;") (List.mem_cons_of_mem _ t_115)) (fun _ h9 => h9) rfl d_R_dayTotal_1 ?_
  refine vp_callSi (va_runV (C := R_C) (As := []) (rest := []) ⟨hx, hb, hml, hown, hts⟩ (c_C_isPowered l dC dI ad cd w wr fl (nI 1) sc lw rot vb rec (nI tn) live row cur ser dur wo bts us act rd rs  (by first | exact B01.n1 | assumption)) (cwV 0 hts (g_V t_225 t_226 t_227 t_3 t_228) rfl rfl rfl (by decide +kernel) ⟨by decide, by decide⟩) (xR_v hP hK hN 2 rfl rfl) rfl rfl hl.1 rfl (lv_room (Nat.le_of_ble_eq_true rfl)) d_R_dayTotal_4 ⟨Nat.le_refl _, Nat.le_refl _⟩).run (fun r4 q4 => ?_)
  have q4 := q4.symm
  subst q4
  refine va_csv (va_runS (As := [.int (nI 1)]) (rest := []) ⟨hx, hb, hml, hown, hts⟩ (c_R_requireState_1 l dC dI  ) (cwS 1 hts (g_S t_338 t_339 t_1 t_340) rfl rfl rfl (by decide +kernel) ⟨by decide, by decide⟩) (xR_s (va_P.sub hP [] rfl) (hK.sub [] rfl) hN) rfl rfl hl.1 rfl (lv_room (Nat.le_of_ble_eq_true rfl)) d_R_dayTotal_7 ⟨Nat.le_refl _, Nat.le_refl _⟩).run (fun q7 => ?_)
  refine lv_lconst (v := 0) hx hb d_R_dayTotal_10 (by decide) ?_
  refine lv_lstore_n hx hb d_R_dayTotal_11 rfl hl (by decide) rfl (fun ls hl => ?_)
  have hl : lv_has ls 7 [(3, .long 0), (0, .ref (ad 0)), (1, .int da), (2, .int pr)] := hl
  refine lv_iconst (v := nI 1) hx hb d_R_dayTotal_12 (by decide) ?_
  refine lv_istore hx hb d_R_dayTotal_13 hl (by decide) rfl (fun ls hl => ?_)
  have hl : lv_has ls 7 [(5, .int (nI 1)), (3, .long 0), (0, .ref (ad 0)), (1, .int da), (2, .int pr)] := hl
  have lp15 : ∀ (n : Nat) (k : Nat) (x : Int64) (ls : Array Slot), (tn - k) < n → (k ≤ tn) → lv_has ls 7 [(0, .ref (ad 0)), (1, .int da), (2, .int pr), (3, .long x), (5, .int (nI (k + 1)))] → W P l e (headSpec w_R_dayTotal ({ frames := 4, cells := 0, slots := 0, locals := 85 })).room s m (([.ref (ad 0), .int da, .int pr] : List Value).toArray) below meth c0 s.heap [] 0 0 (MQ below (vp_Sl (fun r => True)) (([.ref (ad 0), .int da, .int pr] : List Value).toArray) s 0 0 (fun _ => False)) (F0 m 15 ls []) := by
    intro n
    induction n with
    | zero => intro k x ls hm; intros; omega
    | succ n ih15 =>
      intro k x ls hm hk hl
      refine lv_iload hx hb d_R_dayTotal_15 (lv_at hl 4 rfl) ?_
      refine lv_aload_n hx hb d_R_dayTotal_17 rfl (lv_at hl 0 rfl) ?_
      refine va_get (D := (dC, dI)) (ci := 4) (v := .ref (ad 3)) (C := R_R) (T := F_R) (N := 7) hx hb hts (fun w h => List.mem_cons_of_mem _ (in_R w h)) hown hK hP 0 rfl rfl 2 (by decide) (hts (.fieldLink R_R 26 R_R "log" "LWeighRecorder$Log;") (List.mem_cons_of_mem _ t_116)) (fun _ h9 => h9) rfl d_R_dayTotal_18 ?_
      refine vp_callSi (va_runV (C := R_G) (As := []) (rest := [.int (nI (k + 1))]) ⟨hx, hb, hml, hown, hts⟩ (c_G_ticketCount l dC dI ad cd w wr fl (nI 1) sc lw rot vb rec (nI tn) live row cur ser dur wo bts us act rd rs tn ) (cwV 0 hts (g_V t_217 t_218 t_219 t_4 t_220) rfl rfl rfl (by decide +kernel) ⟨by decide, by decide⟩) (xR_v hP hK hN 3 rfl rfl) rfl rfl hl.1 rfl (lv_room (Nat.le_of_ble_eq_true rfl)) d_R_dayTotal_21 ⟨Nat.le_refl _, Nat.le_refl _⟩).run (fun r21 q21 => ?_)
      have q21 := q21.symm
      subst q21
      refine lv_icmp_gt (tgt := 100) hx hb d_R_dayTotal_24 (by decide) (fun c24 => ?_) (fun c24 => ?_)
      ·
        have c24 := cd_gt_t (by omega) (by omega) c24
        refine lv_lload_n hx hb d_R_dayTotal_100 rfl (lv_at hl 3 rfl) ?_
        exact W.lret (v := x) hx hb hr (fun t ht hW => ⟨x, rfl, trivial, ht⟩) (fun q hq => by cases hq) d_R_dayTotal_101
      ·
        have c24 := cd_gt_f (by omega) (by omega) c24
        refine lv_aload_n hx hb d_R_dayTotal_27 rfl (lv_at hl 0 rfl) ?_
        refine va_get (D := (dC, dI)) (ci := 4) (v := .ref (ad 3)) (C := R_R) (T := F_R) (N := 7) hx hb hts (fun w h => List.mem_cons_of_mem _ (in_R w h)) hown hK hP 0 rfl rfl 2 (by decide) (hts (.fieldLink R_R 26 R_R "log" "LWeighRecorder$Log;") (List.mem_cons_of_mem _ t_116)) (fun _ h9 => h9) rfl d_R_dayTotal_28 ?_
        refine lv_iload hx hb d_R_dayTotal_31 (lv_at hl 4 rfl) ?_
        refine vp_callSi (va_runV (C := R_G) (As := [.int (nI (k + 1))]) (rest := []) ⟨hx, hb, hml, hown, hts⟩ (c_G_productOf l dC dI ad cd w wr fl (nI 1) sc lw rot vb rec (nI tn) live row cur ser dur wo bts us act rd rs (k + 1) (by first | omega | rfl | assumption | decide) (by first | omega | rfl | assumption | decide) (by first | omega | rfl | assumption | decide)) (cwV 1 hts (g_V t_530 t_531 t_532 t_4 t_533) rfl rfl rfl (by decide +kernel) ⟨by decide, by decide⟩) (xR_v hP hK hN 3 rfl rfl) rfl rfl hl.1 rfl (lv_room (Nat.le_of_ble_eq_true rfl)) d_R_dayTotal_33 ⟨Nat.le_refl _, Nat.le_refl _⟩).run (fun r33 q33 => ?_)
        have hk33 := q33
        refine lv_iload_n hx hb d_R_dayTotal_36 rfl (lv_at hl 2 rfl) ?_
        refine lv_icmp_ne (tgt := 61) hx hb d_R_dayTotal_37 (by decide) (fun c37 => ?_) (fun c37 => ?_)
        ·
          refine lv_iconst (v := nI 0) hx hb d_R_dayTotal_61 (by decide) ?_
          refine lv_istore hx hb d_R_dayTotal_62 hl (by decide) rfl (fun ls hl => ?_)
          have hl : lv_has ls 7 [(6, .int (nI 0)), (0, .ref (ad 0)), (1, .int da), (2, .int pr), (3, .long x), (5, .int (nI (k + 1)))] := hl
          refine lv_iload hx hb d_R_dayTotal_64 (lv_at hl 0 rfl) ?_
          refine lv_if_eq (tgt := 94) hx hb d_R_dayTotal_66 (by decide) (fun c66 => ?_) (fun c66 => ?_)
          ·
            refine lv_iinc (k := 5) (v := nI ((k + 1) + 1)) hx hb d_R_dayTotal_94 hl rfl (nI_1 _) (by decide) rfl (fun ls hl => ?_)
            have hl : lv_has ls 7 [(5, .int (nI ((k + 1) + 1))), (6, .int (nI 0)), (0, .ref (ad 0)), (1, .int da), (2, .int pr), (3, .long x)] := hl
            refine lv_goto (tgt := 15) hx hb d_R_dayTotal_97 (by decide) ?_
            exact ih15 (k + 1) x ls (by omega) (by omega) (lv_sub hl [2, 3, 4, 5, 0] rfl)
          ·
            exact absurd c66 (by decide)
        ·
          refine lv_aload_n hx hb d_R_dayTotal_40 rfl (lv_at hl 0 rfl) ?_
          refine va_get (D := (dC, dI)) (ci := 4) (v := .ref (ad 3)) (C := R_R) (T := F_R) (N := 7) hx hb hts (fun w h => List.mem_cons_of_mem _ (in_R w h)) hown hK hP 0 rfl rfl 2 (by decide) (hts (.fieldLink R_R 26 R_R "log" "LWeighRecorder$Log;") (List.mem_cons_of_mem _ t_116)) (fun _ h9 => h9) rfl d_R_dayTotal_41 ?_
          refine lv_iload hx hb d_R_dayTotal_44 (lv_at hl 4 rfl) ?_
          refine vp_callSi (va_runV (C := R_G) (As := [.int (nI (k + 1))]) (rest := []) ⟨hx, hb, hml, hown, hts⟩ (c_G_clockOf l dC dI ad cd w wr fl (nI 1) sc lw rot vb rec (nI tn) live row cur ser dur wo bts us act rd rs (k + 1) (by first | omega | rfl | assumption | decide) (by first | omega | rfl | assumption | decide) (by first | omega | rfl | assumption | decide)) (cwV 1 hts (g_V t_534 t_535 t_536 t_4 t_537) rfl rfl rfl (by decide +kernel) ⟨by decide, by decide⟩) (xR_v hP hK hN 3 rfl rfl) rfl rfl hl.1 rfl (lv_room (Nat.le_of_ble_eq_true rfl)) d_R_dayTotal_46 ⟨Nat.le_refl _, Nat.le_refl _⟩).run (fun r46 q46 => ?_)
          have hk46 := q46
          refine lv_sipush (v := nI 1440) hx hb d_R_dayTotal_49 (by decide) ?_
          refine lv_idiv hx hb d_R_dayTotal_52 (by decide) ?_
          refine lv_iload_n hx hb d_R_dayTotal_53 rfl (lv_at hl 1 rfl) ?_
          refine lv_icmp_ne (tgt := 61) hx hb d_R_dayTotal_54 (by decide) (fun c54 => ?_) (fun c54 => ?_)
          ·
            refine lv_iconst (v := nI 0) hx hb d_R_dayTotal_61 (by decide) ?_
            refine lv_istore hx hb d_R_dayTotal_62 hl (by decide) rfl (fun ls hl => ?_)
            have hl : lv_has ls 7 [(6, .int (nI 0)), (0, .ref (ad 0)), (1, .int da), (2, .int pr), (3, .long x), (5, .int (nI (k + 1)))] := hl
            refine lv_iload hx hb d_R_dayTotal_64 (lv_at hl 0 rfl) ?_
            refine lv_if_eq (tgt := 94) hx hb d_R_dayTotal_66 (by decide) (fun c66 => ?_) (fun c66 => ?_)
            ·
              refine lv_iinc (k := 5) (v := nI ((k + 1) + 1)) hx hb d_R_dayTotal_94 hl rfl (nI_1 _) (by decide) rfl (fun ls hl => ?_)
              have hl : lv_has ls 7 [(5, .int (nI ((k + 1) + 1))), (6, .int (nI 0)), (0, .ref (ad 0)), (1, .int da), (2, .int pr), (3, .long x)] := hl
              refine lv_goto (tgt := 15) hx hb d_R_dayTotal_97 (by decide) ?_
              exact ih15 (k + 1) x ls (by omega) (by omega) (lv_sub hl [2, 3, 4, 5, 0] rfl)
            ·
              exact absurd c66 (by decide)
          ·
            refine lv_iconst (v := nI 1) hx hb d_R_dayTotal_57 (by decide) ?_
            refine lv_goto (tgt := 62) hx hb d_R_dayTotal_58 (by decide) ?_
            refine lv_istore hx hb d_R_dayTotal_62 hl (by decide) rfl (fun ls hl => ?_)
            have hl : lv_has ls 7 [(6, .int (nI 1)), (0, .ref (ad 0)), (1, .int da), (2, .int pr), (3, .long x), (5, .int (nI (k + 1)))] := hl
            refine lv_iload hx hb d_R_dayTotal_64 (lv_at hl 0 rfl) ?_
            refine lv_if_eq (tgt := 94) hx hb d_R_dayTotal_66 (by decide) (fun c66 => ?_) (fun c66 => ?_)
            ·
              exact absurd c66 (by decide)
            ·
              refine lv_aload_n hx hb d_R_dayTotal_69 rfl (lv_at hl 1 rfl) ?_
              refine va_get (D := (dC, dI)) (ci := 4) (v := .ref (ad 3)) (C := R_R) (T := F_R) (N := 7) hx hb hts (fun w h => List.mem_cons_of_mem _ (in_R w h)) hown hK hP 0 rfl rfl 2 (by decide) (hts (.fieldLink R_R 26 R_R "log" "LWeighRecorder$Log;") (List.mem_cons_of_mem _ t_116)) (fun _ h9 => h9) rfl d_R_dayTotal_70 ?_
              refine lv_iload hx hb d_R_dayTotal_73 (lv_at hl 5 rfl) ?_
              refine vp_callSi (va_runV (C := R_G) (As := [.int (nI (k + 1))]) (rest := []) ⟨hx, hb, hml, hown, hts⟩ (c_G_isVoided l dC dI ad cd w wr fl (nI 1) sc lw rot vb rec (nI tn) live row cur ser dur wo bts us act rd rs (k + 1) (by first | omega | rfl | assumption | decide) (by first | omega | rfl | assumption | decide)) (cwV 1 hts (g_V t_474 t_203 t_204 t_4 t_205) rfl rfl rfl (by decide +kernel) ⟨by decide, by decide⟩) (xR_v hP hK hN 3 rfl rfl) rfl rfl hl.1 rfl (lv_room (Nat.le_of_ble_eq_true rfl)) d_R_dayTotal_75 ⟨Nat.le_refl _, Nat.le_refl _⟩).run (fun r75 q75 => ?_)
              have hk75 := q75
              refine lv_if_ne (tgt := 94) hx hb d_R_dayTotal_78 (by decide) (fun c78 => ?_) (fun c78 => ?_)
              ·
                refine lv_iinc (k := 5) (v := nI ((k + 1) + 1)) hx hb d_R_dayTotal_94 hl rfl (nI_1 _) (by decide) rfl (fun ls hl => ?_)
                have hl : lv_has ls 7 [(5, .int (nI ((k + 1) + 1))), (6, .int (nI 1)), (0, .ref (ad 0)), (1, .int da), (2, .int pr), (3, .long x)] := hl
                refine lv_goto (tgt := 15) hx hb d_R_dayTotal_97 (by decide) ?_
                exact ih15 (k + 1) x ls (by omega) (by omega) (lv_sub hl [2, 3, 4, 5, 0] rfl)
              ·
                refine lv_lload_n hx hb d_R_dayTotal_81 rfl (lv_at hl 4 rfl) ?_
                refine lv_aload_n hx hb d_R_dayTotal_82 rfl (lv_at hl 1 rfl) ?_
                refine va_get (D := (dC, dI)) (ci := 4) (v := .ref (ad 3)) (C := R_R) (T := F_R) (N := 7) hx hb hts (fun w h => List.mem_cons_of_mem _ (in_R w h)) hown hK hP 0 rfl rfl 2 (by decide) (hts (.fieldLink R_R 26 R_R "log" "LWeighRecorder$Log;") (List.mem_cons_of_mem _ t_116)) (fun _ h9 => h9) rfl d_R_dayTotal_83 ?_
                refine lv_iload hx hb d_R_dayTotal_86 (lv_at hl 5 rfl) ?_
                refine vp_callSi (va_runV (C := R_G) (As := [.int (nI (k + 1))]) (rest := [.long x]) ⟨hx, hb, hml, hown, hts⟩ (c_G_netOf l dC dI ad cd w wr fl (nI 1) sc lw rot vb rec (nI tn) live row cur ser dur wo bts us act rd rs (k + 1) (by first | omega | rfl | assumption | decide) (by first | omega | rfl | assumption | decide) (by first | omega | rfl | assumption | decide)) (cwV 1 hts (g_V t_554 t_555 t_556 t_4 t_557) rfl rfl rfl (by decide +kernel) ⟨by decide, by decide⟩) (xR_v hP hK hN 3 rfl rfl) rfl rfl hl.1 rfl (lv_room (Nat.le_of_ble_eq_true rfl)) d_R_dayTotal_88 ⟨Nat.le_refl _, Nat.le_refl _⟩).run (fun r88 q88 => ?_)
                have hk88 := q88
                refine lv_i2l (v := r88.toInt64) hx hb d_R_dayTotal_91 rfl ?_
                refine lv_ladd hx hb d_R_dayTotal_92 ?_
                refine lv_lstore_n hx hb d_R_dayTotal_93 rfl hl (by decide) rfl (fun ls hl => ?_)
                have hl : lv_has ls 7 [(3, .long (x + r88.toInt64)), (6, .int (nI 1)), (0, .ref (ad 0)), (1, .int da), (2, .int pr), (5, .int (nI (k + 1)))] := hl
                refine lv_iinc (k := 5) (v := nI ((k + 1) + 1)) hx hb d_R_dayTotal_94 hl rfl (nI_1 _) (by decide) rfl (fun ls hl => ?_)
                have hl : lv_has ls 7 [(5, .int (nI ((k + 1) + 1))), (3, .long (x + r88.toInt64)), (6, .int (nI 1)), (0, .ref (ad 0)), (1, .int da), (2, .int pr)] := hl
                refine lv_goto (tgt := 15) hx hb d_R_dayTotal_97 (by decide) ?_
                exact ih15 (k + 1) (x + r88.toInt64) ls (by omega) (by omega) (lv_sub hl [3, 4, 5, 1, 0] rfl)
  exact lp15 _ 0 0 ls (Nat.lt_succ_self _) (by omega) (lv_sub hl [2, 3, 4, 1, 0] rfl)
set_option maxHeartbeats 4000000 in
set_option maxRecDepth 100000 in
theorem c_R_rangeTotal_ok (l : Launch) (dC : Nat → ClassId) (dI : Nat → Nat → Nat) (ad cd : Nat → Nat) (w wr fl : Nat → Int32) (pw sc : Int32) (lw rot vb : Nat → Int32) (rec tk : Int32) (live row : Nat → Int32) (cur ser dur wo : Int32) (bts : Nat → Int32) (us : Int32) (act : Nat → Int32) (rd rs : Int32) (tn : Nat) (fr : Int32) (to : Int32) (ht48 : tn ≤ 48) (hrot : ∀ i, i < 48 → IX 48 (rot i)) : Met l y_R_rangeTotal w_R_rangeTotal ({ frames := 4, cells := 0, slots := 0, locals := 85 }) (xR (dC, dI) vwCl (xt cd) (xw ad cd w wr fl (nI 1) sc lw rot vb rec (nI tn) live row cur ser dur wo bts us act rd rs) [.ref (ad 0), .int fr, .int to]) (vp_Sl (fun r => True)) 0 0 (fun _ => False) := by
  refine Met.ofW (cc := b_R_rangeTotal) (maxL := 7) (ret := (some (.long))) (by decide) rfl ?_
  intro P e s m args below meth c0 s₁ B hml hv
  obtain ⟨rfl, hP, hK, hN⟩ := hv
  have hx := B.exec
  have hb := B.bytes
  have hr := B.returns
  have hts := atoms_spec (ws := w_R_rangeTotal) B.pre
  have hown : s.vm.findClass R_R = some m.cls := findClass_of_methodNamed B.named
  have hlocks := B.notSynchronized
  have hl := lv_entry ([.ref (ad 0), .int fr, .int to]) (n := 7) (Nat.le_of_ble_eq_true rfl)
  rw [lg_entry_eq]
  generalize (lg_sl ([.ref (ad 0), .int fr, .int to]) ++ List.replicate (7 - (lg_sl ([.ref (ad 0), .int fr, .int to])).length) Slot.unset).toArray = ls at hl ⊢
  have hl : lv_has ls 7 [(0, .ref (ad 0)), (1, .int fr), (2, .int to)] := hl
  refine lv_aload_n hx hb d_R_rangeTotal_0 rfl (lv_at hl 0 rfl) ?_
  refine va_get (D := (dC, dI)) (ci := 4) (v := .ref (ad 2)) (C := R_R) (T := F_R) (N := 7) hx hb hts (fun w h => List.mem_cons_of_mem _ (in_R w h)) hown hK hP 0 rfl rfl 1 (by decide) (hts (.fieldLink R_R 20 R_R "chip" "LWeighRecorder$Chip;") (List.mem_cons_of_mem _ t_115)) (fun _ h9 => h9) rfl d_R_rangeTotal_1 ?_
  refine vp_callSi (va_runV (C := R_C) (As := []) (rest := []) ⟨hx, hb, hml, hown, hts⟩ (c_C_isPowered l dC dI ad cd w wr fl (nI 1) sc lw rot vb rec (nI tn) live row cur ser dur wo bts us act rd rs  (by first | exact B01.n1 | assumption)) (cwV 0 hts (g_V t_225 t_226 t_227 t_3 t_228) rfl rfl rfl (by decide +kernel) ⟨by decide, by decide⟩) (xR_v hP hK hN 2 rfl rfl) rfl rfl hl.1 rfl (lv_room (Nat.le_of_ble_eq_true rfl)) d_R_rangeTotal_4 ⟨Nat.le_refl _, Nat.le_refl _⟩).run (fun r4 q4 => ?_)
  have q4 := q4.symm
  subst q4
  refine va_csv (va_runS (As := [.int (nI 1)]) (rest := []) ⟨hx, hb, hml, hown, hts⟩ (c_R_requireState_1 l dC dI  ) (cwS 1 hts (g_S t_338 t_339 t_1 t_340) rfl rfl rfl (by decide +kernel) ⟨by decide, by decide⟩) (xR_s (va_P.sub hP [] rfl) (hK.sub [] rfl) hN) rfl rfl hl.1 rfl (lv_room (Nat.le_of_ble_eq_true rfl)) d_R_rangeTotal_7 ⟨Nat.le_refl _, Nat.le_refl _⟩).run (fun q7 => ?_)
  refine lv_iload_n hx hb d_R_rangeTotal_10 rfl (lv_at hl 2 rfl) ?_
  refine lv_aload_n hx hb d_R_rangeTotal_11 rfl (lv_at hl 0 rfl) ?_
  refine va_get (D := (dC, dI)) (ci := 4) (v := .ref (ad 3)) (C := R_R) (T := F_R) (N := 7) hx hb hts (fun w h => List.mem_cons_of_mem _ (in_R w h)) hown hK hP 0 rfl rfl 2 (by decide) (hts (.fieldLink R_R 26 R_R "log" "LWeighRecorder$Log;") (List.mem_cons_of_mem _ t_116)) (fun _ h9 => h9) rfl d_R_rangeTotal_12 ?_
  refine vp_callSi (va_runV (C := R_G) (As := []) (rest := [.int to]) ⟨hx, hb, hml, hown, hts⟩ (c_G_ticketCount l dC dI ad cd w wr fl (nI 1) sc lw rot vb rec (nI tn) live row cur ser dur wo bts us act rd rs tn ) (cwV 0 hts (g_V t_217 t_218 t_219 t_4 t_220) rfl rfl rfl (by decide +kernel) ⟨by decide, by decide⟩) (xR_v hP hK hN 3 rfl rfl) rfl rfl hl.1 rfl (lv_room (Nat.le_of_ble_eq_true rfl)) d_R_rangeTotal_15 ⟨Nat.le_refl _, Nat.le_refl _⟩).run (fun r15 q15 => ?_)
  have q15 := q15.symm
  subst q15
  refine va_mmin hx hb (hml.trans hl.1.symm) hown (hts (.methodLink R_R 133 Lib.Math.min.name) (List.mem_cons_of_mem _ t_567)) (hts (.static Lib.Math.min.name) (List.mem_cons_of_mem _ t_568)) (hts (.initialized "java/lang/Math") (List.mem_cons_of_mem _ t_13)) (hts (.code Lib.Math.min.name Lib.Math.min.code 2 (some .int)) (List.mem_cons_of_mem _ t_569)) (by decide) (by decide) (Nat.zero_le _) (Nat.zero_le _) d_R_rangeTotal_18 ?_
  obtain ⟨z, ez⟩ : ∃ z : Int32, z = (if (nI tn) < to then (nI tn) else to) := ⟨_, rfl⟩
  have hzn : z ≤ nI tn := by rw [ez]; exact mn_le _ _
  refine tp_i (y := z) ez.symm ?_
  refine lv_istore_n hx hb d_R_rangeTotal_21 rfl hl (by decide) rfl (fun ls hl => ?_)
  have hl : lv_has ls 7 [(3, .int z), (0, .ref (ad 0)), (1, .int fr), (2, .int to)] := hl
  refine lv_lconst (v := 0) hx hb d_R_rangeTotal_22 (by decide) ?_
  refine lv_lstore hx hb d_R_rangeTotal_23 hl (by decide) rfl (fun ls hl => ?_)
  have hl : lv_has ls 7 [(4, .long 0), (3, .int z), (0, .ref (ad 0)), (1, .int fr), (2, .int to)] := hl
  refine lv_iload_n hx hb d_R_rangeTotal_25 rfl (lv_at hl 3 rfl) ?_
  refine lv_iconst (v := nI 1) hx hb d_R_rangeTotal_26 (by decide) ?_
  refine va_mmax hx hb (hml.trans hl.1.symm) hown (hts (.methodLink R_R 139 Lib.Math.max.name) (List.mem_cons_of_mem _ t_570)) (hts (.static Lib.Math.max.name) (List.mem_cons_of_mem _ t_571)) (hts (.initialized "java/lang/Math") (List.mem_cons_of_mem _ t_13)) (hts (.code Lib.Math.max.name Lib.Math.max.code 2 (some .int)) (List.mem_cons_of_mem _ t_572)) (by decide) (by decide) (Nat.zero_le _) (Nat.zero_le _) d_R_rangeTotal_27 ?_
  by_cases hfr : (if fr < (nI 1) then (nI 1) else fr) ≤ nI tn
  ·
    obtain ⟨j, hj, ej⟩ := tk_nat ⟨mx1 _, hfr⟩ (by omega)
    refine tp_i (y := nI (j + 1)) ej ?_
    refine lv_istore hx hb d_R_rangeTotal_30 hl (by decide) rfl (fun ls hl => ?_)
    have hl : lv_has ls 7 [(6, .int (nI (j + 1))), (4, .long 0), (3, .int z), (0, .ref (ad 0)), (1, .int fr), (2, .int to)] := hl
    have lp32 : ∀ (n : Nat) (i : Nat) (x : Int64) (ls : Array Slot), (tn + 1 - i) < n → (1 ≤ i) → (i ≤ tn + 1) → lv_has ls 7 [(0, .ref (ad 0)), (3, .int z), (4, .long x), (6, .int (nI i))] → W P l e (headSpec w_R_rangeTotal ({ frames := 4, cells := 0, slots := 0, locals := 85 })).room s m (([.ref (ad 0), .int fr, .int to] : List Value).toArray) below meth c0 s.heap [] 0 0 (MQ below (vp_Sl (fun r => True)) (([.ref (ad 0), .int fr, .int to] : List Value).toArray) s 0 0 (fun _ => False)) (F0 m 32 ls []) := by
      intro n
      induction n with
      | zero => intro i x ls hm; intros; omega
      | succ n ih32 =>
        intro i x ls hm hi1 hi2 hl
        refine lv_iload hx hb d_R_rangeTotal_32 (lv_at hl 3 rfl) ?_
        refine lv_iload_n hx hb d_R_rangeTotal_34 rfl (lv_at hl 1 rfl) ?_
        refine lv_icmp_gt (tgt := 71) hx hb d_R_rangeTotal_35 (by decide) (fun c35 => ?_) (fun c35 => ?_)
        ·
          refine lv_lload hx hb d_R_rangeTotal_71 (lv_at hl 2 rfl) ?_
          exact W.lret (v := x) hx hb hr (fun t ht hW => ⟨x, rfl, trivial, ht⟩) (fun q hq => by cases hq) d_R_rangeTotal_73
        ·
          have c35 := le_nat c35 (by first | exact hzn | exact Int32.le_refl _) (by omega) (by omega)
          refine lv_aload_n hx hb d_R_rangeTotal_38 rfl (lv_at hl 0 rfl) ?_
          refine va_get (D := (dC, dI)) (ci := 4) (v := .ref (ad 3)) (C := R_R) (T := F_R) (N := 7) hx hb hts (fun w h => List.mem_cons_of_mem _ (in_R w h)) hown hK hP 0 rfl rfl 2 (by decide) (hts (.fieldLink R_R 26 R_R "log" "LWeighRecorder$Log;") (List.mem_cons_of_mem _ t_116)) (fun _ h9 => h9) rfl d_R_rangeTotal_39 ?_
          refine lv_iload hx hb d_R_rangeTotal_42 (lv_at hl 3 rfl) ?_
          refine vp_callSi (va_runV (C := R_G) (As := [.int (nI i)]) (rest := []) ⟨hx, hb, hml, hown, hts⟩ (c_G_isVoided l dC dI ad cd w wr fl (nI 1) sc lw rot vb rec (nI tn) live row cur ser dur wo bts us act rd rs i (by first | omega | rfl | assumption | decide) (by first | omega | rfl | assumption | decide)) (cwV 1 hts (g_V t_474 t_203 t_204 t_4 t_205) rfl rfl rfl (by decide +kernel) ⟨by decide, by decide⟩) (xR_v hP hK hN 3 rfl rfl) rfl rfl hl.1 rfl (lv_room (Nat.le_of_ble_eq_true rfl)) d_R_rangeTotal_44 ⟨Nat.le_refl _, Nat.le_refl _⟩).run (fun r44 q44 => ?_)
          have hk44 := q44
          refine lv_if_ne (tgt := 65) hx hb d_R_rangeTotal_47 (by decide) (fun c47 => ?_) (fun c47 => ?_)
          ·
            refine lv_iinc (k := 3) (v := nI (i + 1)) hx hb d_R_rangeTotal_65 hl rfl (nI_1 _) (by decide) rfl (fun ls hl => ?_)
            have hl : lv_has ls 7 [(6, .int (nI (i + 1))), (0, .ref (ad 0)), (3, .int z), (4, .long x)] := hl
            refine lv_goto (tgt := 32) hx hb d_R_rangeTotal_68 (by decide) ?_
            exact ih32 (i + 1) x ls (by omega) (by omega) (by omega) (lv_sub hl [1, 2, 3, 0] rfl)
          ·
            refine lv_lload hx hb d_R_rangeTotal_50 (lv_at hl 2 rfl) ?_
            refine lv_aload_n hx hb d_R_rangeTotal_52 rfl (lv_at hl 0 rfl) ?_
            refine va_get (D := (dC, dI)) (ci := 4) (v := .ref (ad 3)) (C := R_R) (T := F_R) (N := 7) hx hb hts (fun w h => List.mem_cons_of_mem _ (in_R w h)) hown hK hP 0 rfl rfl 2 (by decide) (hts (.fieldLink R_R 26 R_R "log" "LWeighRecorder$Log;") (List.mem_cons_of_mem _ t_116)) (fun _ h9 => h9) rfl d_R_rangeTotal_53 ?_
            refine lv_iload hx hb d_R_rangeTotal_56 (lv_at hl 3 rfl) ?_
            refine vp_callSi (va_runV (C := R_G) (As := [.int (nI i)]) (rest := [.long x]) ⟨hx, hb, hml, hown, hts⟩ (c_G_netOf l dC dI ad cd w wr fl (nI 1) sc lw rot vb rec (nI tn) live row cur ser dur wo bts us act rd rs i (by first | omega | rfl | assumption | decide) (by first | omega | rfl | assumption | decide) (by first | omega | rfl | assumption | decide)) (cwV 1 hts (g_V t_554 t_555 t_556 t_4 t_557) rfl rfl rfl (by decide +kernel) ⟨by decide, by decide⟩) (xR_v hP hK hN 3 rfl rfl) rfl rfl hl.1 rfl (lv_room (Nat.le_of_ble_eq_true rfl)) d_R_rangeTotal_58 ⟨Nat.le_refl _, Nat.le_refl _⟩).run (fun r58 q58 => ?_)
            have hk58 := q58
            refine lv_i2l (v := r58.toInt64) hx hb d_R_rangeTotal_61 rfl ?_
            refine lv_ladd hx hb d_R_rangeTotal_62 ?_
            refine lv_lstore hx hb d_R_rangeTotal_63 hl (by decide) rfl (fun ls hl => ?_)
            have hl : lv_has ls 7 [(4, .long (x + r58.toInt64)), (0, .ref (ad 0)), (3, .int z), (6, .int (nI i))] := hl
            refine lv_iinc (k := 3) (v := nI (i + 1)) hx hb d_R_rangeTotal_65 hl rfl (nI_1 _) (by decide) rfl (fun ls hl => ?_)
            have hl : lv_has ls 7 [(6, .int (nI (i + 1))), (4, .long (x + r58.toInt64)), (0, .ref (ad 0)), (3, .int z)] := hl
            refine lv_goto (tgt := 32) hx hb d_R_rangeTotal_68 (by decide) ?_
            exact ih32 (i + 1) (x + r58.toInt64) ls (by omega) (by omega) (by omega) (lv_sub hl [2, 3, 1, 0] rfl)
    exact lp32 _ (j + 1) 0 ls (Nat.lt_succ_self _) (by omega) (by omega) (lv_sub hl [3, 2, 1, 0] rfl)
  ·
    refine lv_istore hx hb d_R_rangeTotal_30 hl (by decide) rfl (fun ls hl => ?_)
    have hl : lv_has ls 7 [(6, .int (if fr < (nI 1) then (nI 1) else fr)), (4, .long 0), (3, .int z), (0, .ref (ad 0)), (1, .int fr), (2, .int to)] := hl
    refine lv_iload hx hb d_R_rangeTotal_32 (lv_at hl 0 rfl) ?_
    refine lv_iload_n hx hb d_R_rangeTotal_34 rfl (lv_at hl 2 rfl) ?_
    refine lv_icmp_gt (tgt := 71) hx hb d_R_rangeTotal_35 (by decide) (fun c35 => ?_) (fun c35 => ?_)
    ·
      refine lv_lload hx hb d_R_rangeTotal_71 (lv_at hl 1 rfl) ?_
      exact W.lret (v := 0) hx hb hr (fun t ht hW => ⟨0, rfl, trivial, ht⟩) (fun q hq => by cases hq) d_R_rangeTotal_73
    ·
      exact absurd (by first | exact Int32.le_trans (Int32.not_lt.mp c35) hzn | exact Int32.not_lt.mp c35) hfr
set_option maxHeartbeats 4000000 in
set_option maxRecDepth 100000 in
theorem c_R_find_ok (l : Launch) (dC : Nat → ClassId) (dI : Nat → Nat → Nat) (ad cd : Nat → Nat) (w wr fl : Nat → Int32) (pw sc : Int32) (lw rot vb : Nat → Int32) (rec tk : Int32) (live row : Nat → Int32) (cur ser dur wo : Int32) (bts : Nat → Int32) (us : Int32) (act : Nat → Int32) (rd rs : Int32) (tn : Nat) (pl : Int32) (fr : Int32) (ht48 : tn ≤ 48) (hrot : ∀ i, i < 48 → IX 48 (rot i)) : Met l y_R_find w_R_find ({ frames := 3, cells := 0, slots := 0, locals := 64 }) (xR (dC, dI) vwCl (xt cd) (xw ad cd w wr fl (nI 1) sc lw rot vb rec (nI tn) live row cur ser dur wo bts us act rd rs) [.ref (ad 0), .int pl, .int fr]) (vp_Si (fun r => True)) 0 0 (fun _ => False) := by
  refine Met.ofW (cc := b_R_find) (maxL := 4) (ret := (some (.int))) (by decide) rfl ?_
  intro P e s m args below meth c0 s₁ B hml hv
  obtain ⟨rfl, hP, hK, hN⟩ := hv
  have hx := B.exec
  have hb := B.bytes
  have hr := B.returns
  have hts := atoms_spec (ws := w_R_find) B.pre
  have hown : s.vm.findClass R_R = some m.cls := findClass_of_methodNamed B.named
  have hlocks := B.notSynchronized
  have hl := lv_entry ([.ref (ad 0), .int pl, .int fr]) (n := 4) (Nat.le_of_ble_eq_true rfl)
  rw [lg_entry_eq]
  generalize (lg_sl ([.ref (ad 0), .int pl, .int fr]) ++ List.replicate (4 - (lg_sl ([.ref (ad 0), .int pl, .int fr])).length) Slot.unset).toArray = ls at hl ⊢
  have hl : lv_has ls 4 [(0, .ref (ad 0)), (1, .int pl), (2, .int fr)] := hl
  refine lv_aload_n hx hb d_R_find_0 rfl (lv_at hl 0 rfl) ?_
  refine va_get (D := (dC, dI)) (ci := 4) (v := .ref (ad 2)) (C := R_R) (T := F_R) (N := 7) hx hb hts (fun w h => List.mem_cons_of_mem _ (in_R w h)) hown hK hP 0 rfl rfl 1 (by decide) (hts (.fieldLink R_R 20 R_R "chip" "LWeighRecorder$Chip;") (List.mem_cons_of_mem _ t_115)) (fun _ h9 => h9) rfl d_R_find_1 ?_
  refine vp_callSi (va_runV (C := R_C) (As := []) (rest := []) ⟨hx, hb, hml, hown, hts⟩ (c_C_isPowered l dC dI ad cd w wr fl (nI 1) sc lw rot vb rec (nI tn) live row cur ser dur wo bts us act rd rs  (by first | exact B01.n1 | assumption)) (cwV 0 hts (g_V t_225 t_226 t_227 t_3 t_228) rfl rfl rfl (by decide +kernel) ⟨by decide, by decide⟩) (xR_v hP hK hN 2 rfl rfl) rfl rfl hl.1 rfl (lv_room (Nat.le_of_ble_eq_true rfl)) d_R_find_4 ⟨Nat.le_refl _, Nat.le_refl _⟩).run (fun r4 q4 => ?_)
  have q4 := q4.symm
  subst q4
  refine va_csv (va_runS (As := [.int (nI 1)]) (rest := []) ⟨hx, hb, hml, hown, hts⟩ (c_R_requireState_1 l dC dI  ) (cwS 1 hts (g_S t_338 t_339 t_1 t_340) rfl rfl rfl (by decide +kernel) ⟨by decide, by decide⟩) (xR_s (va_P.sub hP [] rfl) (hK.sub [] rfl) hN) rfl rfl hl.1 rfl (lv_room (Nat.le_of_ble_eq_true rfl)) d_R_find_7 ⟨Nat.le_refl _, Nat.le_refl _⟩).run (fun q7 => ?_)
  refine lv_iload_n hx hb d_R_find_10 rfl (lv_at hl 2 rfl) ?_
  refine lv_iconst (v := nI 1) hx hb d_R_find_11 (by decide) ?_
  refine va_mmax hx hb (hml.trans hl.1.symm) hown (hts (.methodLink R_R 139 Lib.Math.max.name) (List.mem_cons_of_mem _ t_570)) (hts (.static Lib.Math.max.name) (List.mem_cons_of_mem _ t_571)) (hts (.initialized "java/lang/Math") (List.mem_cons_of_mem _ t_13)) (hts (.code Lib.Math.max.name Lib.Math.max.code 2 (some .int)) (List.mem_cons_of_mem _ t_572)) (by decide) (by decide) (Nat.zero_le _) (Nat.zero_le _) d_R_find_12 ?_
  by_cases hfr : (if fr < (nI 1) then (nI 1) else fr) ≤ nI tn
  ·
    obtain ⟨j, hj, ej⟩ := tk_nat ⟨mx1 _, hfr⟩ (by omega)
    refine tp_i (y := nI (j + 1)) ej ?_
    refine lv_istore_n hx hb d_R_find_15 rfl hl (by decide) rfl (fun ls hl => ?_)
    have hl : lv_has ls 4 [(3, .int (nI (j + 1))), (0, .ref (ad 0)), (1, .int pl), (2, .int fr)] := hl
    have lp16 : ∀ (n : Nat) (i : Nat) (ls : Array Slot), (tn + 1 - i) < n → (1 ≤ i) → (i ≤ tn + 1) → lv_has ls 4 [(0, .ref (ad 0)), (1, .int pl), (3, .int (nI i))] → W P l e (headSpec w_R_find ({ frames := 3, cells := 0, slots := 0, locals := 64 })).room s m (([.ref (ad 0), .int pl, .int fr] : List Value).toArray) below meth c0 s.heap [] 0 0 (MQ below (vp_Si (fun r => True)) (([.ref (ad 0), .int pl, .int fr] : List Value).toArray) s 0 0 (fun _ => False)) (F0 m 16 ls []) := by
      intro n
      induction n with
      | zero => intro i ls hm; intros; omega
      | succ n ih16 =>
        intro i ls hm hi1 hi2 hl
        refine lv_iload_n hx hb d_R_find_16 rfl (lv_at hl 2 rfl) ?_
        refine lv_aload_n hx hb d_R_find_17 rfl (lv_at hl 0 rfl) ?_
        refine va_get (D := (dC, dI)) (ci := 4) (v := .ref (ad 3)) (C := R_R) (T := F_R) (N := 7) hx hb hts (fun w h => List.mem_cons_of_mem _ (in_R w h)) hown hK hP 0 rfl rfl 2 (by decide) (hts (.fieldLink R_R 26 R_R "log" "LWeighRecorder$Log;") (List.mem_cons_of_mem _ t_116)) (fun _ h9 => h9) rfl d_R_find_18 ?_
        refine vp_callSi (va_runV (C := R_G) (As := []) (rest := [.int (nI i)]) ⟨hx, hb, hml, hown, hts⟩ (c_G_ticketCount l dC dI ad cd w wr fl (nI 1) sc lw rot vb rec (nI tn) live row cur ser dur wo bts us act rd rs tn ) (cwV 0 hts (g_V t_217 t_218 t_219 t_4 t_220) rfl rfl rfl (by decide +kernel) ⟨by decide, by decide⟩) (xR_v hP hK hN 3 rfl rfl) rfl rfl hl.1 rfl (lv_room (Nat.le_of_ble_eq_true rfl)) d_R_find_21 ⟨Nat.le_refl _, Nat.le_refl _⟩).run (fun r21 q21 => ?_)
        have q21 := q21.symm
        subst q21
        refine lv_icmp_gt (tgt := 47) hx hb d_R_find_24 (by decide) (fun c24 => ?_) (fun c24 => ?_)
        ·
          have c24 := cd_gt_t (by omega) (by omega) c24
          refine lv_iconst (v := nI 0) hx hb d_R_find_47 (by decide) ?_
          exact W.iret (v := nI 0) hx hb hr (fun t ht hW => ⟨nI 0, rfl, trivial, ht⟩) (fun q hq => by cases hq) d_R_find_48
        ·
          have c24 := cd_gt_f (by omega) (by omega) c24
          refine lv_aload_n hx hb d_R_find_27 rfl (lv_at hl 0 rfl) ?_
          refine va_get (D := (dC, dI)) (ci := 4) (v := .ref (ad 3)) (C := R_R) (T := F_R) (N := 7) hx hb hts (fun w h => List.mem_cons_of_mem _ (in_R w h)) hown hK hP 0 rfl rfl 2 (by decide) (hts (.fieldLink R_R 26 R_R "log" "LWeighRecorder$Log;") (List.mem_cons_of_mem _ t_116)) (fun _ h9 => h9) rfl d_R_find_28 ?_
          refine lv_iload_n hx hb d_R_find_31 rfl (lv_at hl 2 rfl) ?_
          refine vp_callSi (va_runV (C := R_G) (As := [.int (nI i)]) (rest := []) ⟨hx, hb, hml, hown, hts⟩ (c_G_plateOf l dC dI ad cd w wr fl (nI 1) sc lw rot vb rec (nI tn) live row cur ser dur wo bts us act rd rs i (by first | omega | rfl | assumption | decide) (by first | omega | rfl | assumption | decide) (by first | omega | rfl | assumption | decide)) (cwV 1 hts (g_V t_509 t_510 t_511 t_4 t_512) rfl rfl rfl (by decide +kernel) ⟨by decide, by decide⟩) (xR_v hP hK hN 3 rfl rfl) rfl rfl hl.1 rfl (lv_room (Nat.le_of_ble_eq_true rfl)) d_R_find_32 ⟨Nat.le_refl _, Nat.le_refl _⟩).run (fun r32 q32 => ?_)
          have hk32 := q32
          refine lv_iload_n hx hb d_R_find_35 rfl (lv_at hl 1 rfl) ?_
          refine lv_icmp_ne (tgt := 41) hx hb d_R_find_36 (by decide) (fun c36 => ?_) (fun c36 => ?_)
          ·
            refine lv_iinc (k := 2) (v := nI (i + 1)) hx hb d_R_find_41 hl rfl (nI_1 _) (by decide) rfl (fun ls hl => ?_)
            have hl : lv_has ls 4 [(3, .int (nI (i + 1))), (0, .ref (ad 0)), (1, .int pl)] := hl
            refine lv_goto (tgt := 16) hx hb d_R_find_44 (by decide) ?_
            exact ih16 (i + 1) ls (by omega) (by omega) (by omega) (lv_sub hl [1, 2, 0] rfl)
          ·
            refine lv_iload_n hx hb d_R_find_39 rfl (lv_at hl 2 rfl) ?_
            exact W.iret (v := nI i) hx hb hr (fun t ht hW => ⟨nI i, rfl, trivial, ht⟩) (fun q hq => by cases hq) d_R_find_40
    exact lp16 _ (j + 1) ls (Nat.lt_succ_self _) (by omega) (by omega) (lv_sub hl [1, 2, 0] rfl)
  ·
    refine lv_istore_n hx hb d_R_find_15 rfl hl (by decide) rfl (fun ls hl => ?_)
    have hl : lv_has ls 4 [(3, .int (if fr < (nI 1) then (nI 1) else fr)), (0, .ref (ad 0)), (1, .int pl), (2, .int fr)] := hl
    refine lv_iload_n hx hb d_R_find_16 rfl (lv_at hl 0 rfl) ?_
    refine lv_aload_n hx hb d_R_find_17 rfl (lv_at hl 1 rfl) ?_
    refine va_get (D := (dC, dI)) (ci := 4) (v := .ref (ad 3)) (C := R_R) (T := F_R) (N := 7) hx hb hts (fun w h => List.mem_cons_of_mem _ (in_R w h)) hown hK hP 0 rfl rfl 2 (by decide) (hts (.fieldLink R_R 26 R_R "log" "LWeighRecorder$Log;") (List.mem_cons_of_mem _ t_116)) (fun _ h9 => h9) rfl d_R_find_18 ?_
    refine vp_callSi (va_runV (C := R_G) (As := []) (rest := [.int (if fr < (nI 1) then (nI 1) else fr)]) ⟨hx, hb, hml, hown, hts⟩ (c_G_ticketCount l dC dI ad cd w wr fl (nI 1) sc lw rot vb rec (nI tn) live row cur ser dur wo bts us act rd rs tn ) (cwV 0 hts (g_V t_217 t_218 t_219 t_4 t_220) rfl rfl rfl (by decide +kernel) ⟨by decide, by decide⟩) (xR_v hP hK hN 3 rfl rfl) rfl rfl hl.1 rfl (lv_room (Nat.le_of_ble_eq_true rfl)) d_R_find_21 ⟨Nat.le_refl _, Nat.le_refl _⟩).run (fun r21 q21 => ?_)
    have q21 := q21.symm
    subst q21
    refine lv_icmp_gt (tgt := 47) hx hb d_R_find_24 (by decide) (fun c24 => ?_) (fun c24 => ?_)
    ·
      refine lv_iconst (v := nI 0) hx hb d_R_find_47 (by decide) ?_
      exact W.iret (v := nI 0) hx hb hr (fun t ht hW => ⟨nI 0, rfl, trivial, ht⟩) (fun q hq => by cases hq) d_R_find_48
    ·
      exact absurd (Int32.not_lt.mp c24) hfr
set_option maxHeartbeats 4000000 in
set_option maxRecDepth 100000 in
theorem c_R_audit_ok (l : Launch) (dC : Nat → ClassId) (dI : Nat → Nat → Nat) (ad cd : Nat → Nat) (w wr fl : Nat → Int32) (pw sc : Int32) (lw rot vb : Nat → Int32) (rec tk : Int32) (live row : Nat → Int32) (cur ser dur wo : Int32) (bts : Nat → Int32) (us : Int32) (act : Nat → Int32) (rd rs : Int32) (tn : Nat) (fr : Int32) (to : Int32) (ht48 : tn ≤ 48) (hrot : ∀ i, i < 48 → IX 48 (rot i)) (hlv : ∀ i, i < 16 → PG 32 (live i)) : Met l y_R_audit w_R_audit ({ frames := 4, cells := 0, slots := 0, locals := 90 }) (xR (dC, dI) vwCl (xt cd) (xw ad cd w wr fl (nI 1) sc lw rot vb rec (nI tn) live row cur ser dur wo bts us act rd rs) [.ref (ad 0), .int fr, .int to]) (vp_Si (fun r => True)) 0 0 (fun _ => False) := by
  refine Met.ofW (cc := b_R_audit) (maxL := 5) (ret := (some (.int))) (by decide) rfl ?_
  intro P e s m args below meth c0 s₁ B hml hv
  obtain ⟨rfl, hP, hK, hN⟩ := hv
  have hx := B.exec
  have hb := B.bytes
  have hr := B.returns
  have hts := atoms_spec (ws := w_R_audit) B.pre
  have hown : s.vm.findClass R_R = some m.cls := findClass_of_methodNamed B.named
  have hlocks := B.notSynchronized
  have hl := lv_entry ([.ref (ad 0), .int fr, .int to]) (n := 5) (Nat.le_of_ble_eq_true rfl)
  rw [lg_entry_eq]
  generalize (lg_sl ([.ref (ad 0), .int fr, .int to]) ++ List.replicate (5 - (lg_sl ([.ref (ad 0), .int fr, .int to])).length) Slot.unset).toArray = ls at hl ⊢
  have hl : lv_has ls 5 [(0, .ref (ad 0)), (1, .int fr), (2, .int to)] := hl
  refine lv_aload_n hx hb d_R_audit_0 rfl (lv_at hl 0 rfl) ?_
  refine va_get (D := (dC, dI)) (ci := 4) (v := .ref (ad 2)) (C := R_R) (T := F_R) (N := 7) hx hb hts (fun w h => List.mem_cons_of_mem _ (in_R w h)) hown hK hP 0 rfl rfl 1 (by decide) (hts (.fieldLink R_R 20 R_R "chip" "LWeighRecorder$Chip;") (List.mem_cons_of_mem _ t_115)) (fun _ h9 => h9) rfl d_R_audit_1 ?_
  refine vp_callSi (va_runV (C := R_C) (As := []) (rest := []) ⟨hx, hb, hml, hown, hts⟩ (c_C_isPowered l dC dI ad cd w wr fl (nI 1) sc lw rot vb rec (nI tn) live row cur ser dur wo bts us act rd rs  (by first | exact B01.n1 | assumption)) (cwV 0 hts (g_V t_225 t_226 t_227 t_3 t_228) rfl rfl rfl (by decide +kernel) ⟨by decide, by decide⟩) (xR_v hP hK hN 2 rfl rfl) rfl rfl hl.1 rfl (lv_room (Nat.le_of_ble_eq_true rfl)) d_R_audit_4 ⟨Nat.le_refl _, Nat.le_refl _⟩).run (fun r4 q4 => ?_)
  have q4 := q4.symm
  subst q4
  refine va_csv (va_runS (As := [.int (nI 1)]) (rest := []) ⟨hx, hb, hml, hown, hts⟩ (c_R_requireState_1 l dC dI  ) (cwS 1 hts (g_S t_338 t_339 t_1 t_340) rfl rfl rfl (by decide +kernel) ⟨by decide, by decide⟩) (xR_s (va_P.sub hP [] rfl) (hK.sub [] rfl) hN) rfl rfl hl.1 rfl (lv_room (Nat.le_of_ble_eq_true rfl)) d_R_audit_7 ⟨Nat.le_refl _, Nat.le_refl _⟩).run (fun q7 => ?_)
  refine lv_iload_n hx hb d_R_audit_10 rfl (lv_at hl 2 rfl) ?_
  refine lv_aload_n hx hb d_R_audit_11 rfl (lv_at hl 0 rfl) ?_
  refine va_get (D := (dC, dI)) (ci := 4) (v := .ref (ad 3)) (C := R_R) (T := F_R) (N := 7) hx hb hts (fun w h => List.mem_cons_of_mem _ (in_R w h)) hown hK hP 0 rfl rfl 2 (by decide) (hts (.fieldLink R_R 26 R_R "log" "LWeighRecorder$Log;") (List.mem_cons_of_mem _ t_116)) (fun _ h9 => h9) rfl d_R_audit_12 ?_
  refine vp_callSi (va_runV (C := R_G) (As := []) (rest := [.int to]) ⟨hx, hb, hml, hown, hts⟩ (c_G_ticketCount l dC dI ad cd w wr fl (nI 1) sc lw rot vb rec (nI tn) live row cur ser dur wo bts us act rd rs tn ) (cwV 0 hts (g_V t_217 t_218 t_219 t_4 t_220) rfl rfl rfl (by decide +kernel) ⟨by decide, by decide⟩) (xR_v hP hK hN 3 rfl rfl) rfl rfl hl.1 rfl (lv_room (Nat.le_of_ble_eq_true rfl)) d_R_audit_15 ⟨Nat.le_refl _, Nat.le_refl _⟩).run (fun r15 q15 => ?_)
  have q15 := q15.symm
  subst q15
  refine va_mmin hx hb (hml.trans hl.1.symm) hown (hts (.methodLink R_R 133 Lib.Math.min.name) (List.mem_cons_of_mem _ t_567)) (hts (.static Lib.Math.min.name) (List.mem_cons_of_mem _ t_568)) (hts (.initialized "java/lang/Math") (List.mem_cons_of_mem _ t_13)) (hts (.code Lib.Math.min.name Lib.Math.min.code 2 (some .int)) (List.mem_cons_of_mem _ t_569)) (by decide) (by decide) (Nat.zero_le _) (Nat.zero_le _) d_R_audit_18 ?_
  obtain ⟨z, ez⟩ : ∃ z : Int32, z = (if (nI tn) < to then (nI tn) else to) := ⟨_, rfl⟩
  have hzn : z ≤ nI tn := by rw [ez]; exact mn_le _ _
  refine tp_i (y := z) ez.symm ?_
  refine lv_istore_n hx hb d_R_audit_21 rfl hl (by decide) rfl (fun ls hl => ?_)
  have hl : lv_has ls 5 [(3, .int z), (0, .ref (ad 0)), (1, .int fr), (2, .int to)] := hl
  refine lv_iload_n hx hb d_R_audit_22 rfl (lv_at hl 2 rfl) ?_
  refine lv_iconst (v := nI 1) hx hb d_R_audit_23 (by decide) ?_
  refine va_mmax hx hb (hml.trans hl.1.symm) hown (hts (.methodLink R_R 139 Lib.Math.max.name) (List.mem_cons_of_mem _ t_570)) (hts (.static Lib.Math.max.name) (List.mem_cons_of_mem _ t_571)) (hts (.initialized "java/lang/Math") (List.mem_cons_of_mem _ t_13)) (hts (.code Lib.Math.max.name Lib.Math.max.code 2 (some .int)) (List.mem_cons_of_mem _ t_572)) (by decide) (by decide) (Nat.zero_le _) (Nat.zero_le _) d_R_audit_24 ?_
  by_cases hfr : (if fr < (nI 1) then (nI 1) else fr) ≤ nI tn
  ·
    obtain ⟨j, hj, ej⟩ := tk_nat ⟨mx1 _, hfr⟩ (by omega)
    refine tp_i (y := nI (j + 1)) ej ?_
    refine lv_istore hx hb d_R_audit_27 hl (by decide) rfl (fun ls hl => ?_)
    have hl : lv_has ls 5 [(4, .int (nI (j + 1))), (3, .int z), (0, .ref (ad 0)), (1, .int fr), (2, .int to)] := hl
    have lp29 : ∀ (n : Nat) (i : Nat) (ls : Array Slot), (tn + 1 - i) < n → (1 ≤ i) → (i ≤ tn + 1) → lv_has ls 5 [(0, .ref (ad 0)), (3, .int z), (4, .int (nI i))] → W P l e (headSpec w_R_audit ({ frames := 4, cells := 0, slots := 0, locals := 90 })).room s m (([.ref (ad 0), .int fr, .int to] : List Value).toArray) below meth c0 s.heap [] 0 0 (MQ below (vp_Si (fun r => True)) (([.ref (ad 0), .int fr, .int to] : List Value).toArray) s 0 0 (fun _ => False)) (F0 m 29 ls []) := by
      intro n
      induction n with
      | zero => intro i ls hm; intros; omega
      | succ n ih29 =>
        intro i ls hm hi1 hi2 hl
        refine lv_iload hx hb d_R_audit_29 (lv_at hl 2 rfl) ?_
        refine lv_iload_n hx hb d_R_audit_31 rfl (lv_at hl 1 rfl) ?_
        refine lv_icmp_gt (tgt := 63) hx hb d_R_audit_32 (by decide) (fun c32 => ?_) (fun c32 => ?_)
        ·
          refine lv_iconst (v := nI 0) hx hb d_R_audit_63 (by decide) ?_
          exact W.iret (v := nI 0) hx hb hr (fun t ht hW => ⟨nI 0, rfl, trivial, ht⟩) (fun q hq => by cases hq) d_R_audit_64
        ·
          have c32 := le_nat c32 (by first | exact hzn | exact Int32.le_refl _) (by omega) (by omega)
          refine lv_aload_n hx hb d_R_audit_35 rfl (lv_at hl 0 rfl) ?_
          refine va_get (D := (dC, dI)) (ci := 4) (v := .ref (ad 1)) (C := R_R) (T := F_R) (N := 7) hx hb hts (fun w h => List.mem_cons_of_mem _ (in_R w h)) hown hK hP 0 rfl rfl 0 (by decide) (hts (.fieldLink R_R 12 R_R "store" "LWeighRecorder$Store;") (List.mem_cons_of_mem _ t_114)) (fun _ h9 => h9) rfl d_R_audit_36 ?_
          refine lv_aload_n hx hb d_R_audit_39 rfl (lv_at hl 0 rfl) ?_
          refine va_get (D := (dC, dI)) (ci := 4) (v := .ref (ad 3)) (C := R_R) (T := F_R) (N := 7) hx hb hts (fun w h => List.mem_cons_of_mem _ (in_R w h)) hown hK hP 0 rfl rfl 2 (by decide) (hts (.fieldLink R_R 26 R_R "log" "LWeighRecorder$Log;") (List.mem_cons_of_mem _ t_116)) (fun _ h9 => h9) rfl d_R_audit_40 ?_
          refine lv_iload hx hb d_R_audit_43 (lv_at hl 2 rfl) ?_
          refine vp_callSi (va_runV (C := R_G) (As := [.int (nI i)]) (rest := [.ref (ad 1)]) ⟨hx, hb, hml, hown, hts⟩ (c_G_recordOf l dC dI ad cd w wr fl (nI 1) sc lw rot vb rec (nI tn) live row cur ser dur wo bts us act rd rs i (by first | omega | rfl | assumption | decide) (by first | omega | rfl | assumption | decide) (by first | omega | rfl | assumption | decide)) (cwV 1 hts (g_V t_587 t_518 t_519 t_4 t_520) rfl rfl rfl (by decide +kernel) ⟨by decide, by decide⟩) (xR_v hP hK hN 3 rfl rfl) rfl rfl hl.1 rfl (lv_room (Nat.le_of_ble_eq_true rfl)) d_R_audit_45 ⟨Nat.le_refl _, Nat.le_refl _⟩).run (fun r45 q45 => ?_)
          obtain ⟨p45, hp45, rfl⟩ := q45
          refine vp_callSi (va_runV (C := R_S) (As := [.int (nI p45)]) (rest := []) ⟨hx, hb, hml, hown, hts⟩ (c_S_failsAt l dC dI ad cd w wr fl (nI 1) sc lw rot vb rec (nI tn) live row cur ser dur wo bts us act rd rs p45 (by first | omega | rfl | assumption | decide) (by first | omega | rfl | assumption | decide)) (cwV 1 hts (g_V t_588 t_589 t_590 t_2 t_591) rfl rfl rfl (by decide +kernel) ⟨by decide, by decide⟩) (xR_v hP hK hN 1 rfl rfl) rfl rfl hl.1 rfl (lv_room (Nat.le_of_ble_eq_true rfl)) d_R_audit_48 ⟨Nat.le_refl _, Nat.le_refl _⟩).run (fun r48 q48 => ?_)
          have hk48 := q48
          refine lv_if_eq (tgt := 57) hx hb d_R_audit_51 (by decide) (fun c51 => ?_) (fun c51 => ?_)
          ·
            refine lv_iinc (k := 2) (v := nI (i + 1)) hx hb d_R_audit_57 hl rfl (nI_1 _) (by decide) rfl (fun ls hl => ?_)
            have hl : lv_has ls 5 [(4, .int (nI (i + 1))), (0, .ref (ad 0)), (3, .int z)] := hl
            refine lv_goto (tgt := 29) hx hb d_R_audit_60 (by decide) ?_
            exact ih29 (i + 1) ls (by omega) (by omega) (by omega) (lv_sub hl [1, 2, 0] rfl)
          ·
            refine lv_iload hx hb d_R_audit_54 (lv_at hl 2 rfl) ?_
            exact W.iret (v := nI i) hx hb hr (fun t ht hW => ⟨nI i, rfl, trivial, ht⟩) (fun q hq => by cases hq) d_R_audit_56
    exact lp29 _ (j + 1) ls (Nat.lt_succ_self _) (by omega) (by omega) (lv_sub hl [2, 1, 0] rfl)
  ·
    refine lv_istore hx hb d_R_audit_27 hl (by decide) rfl (fun ls hl => ?_)
    have hl : lv_has ls 5 [(4, .int (if fr < (nI 1) then (nI 1) else fr)), (3, .int z), (0, .ref (ad 0)), (1, .int fr), (2, .int to)] := hl
    refine lv_iload hx hb d_R_audit_29 (lv_at hl 0 rfl) ?_
    refine lv_iload_n hx hb d_R_audit_31 rfl (lv_at hl 1 rfl) ?_
    refine lv_icmp_gt (tgt := 63) hx hb d_R_audit_32 (by decide) (fun c32 => ?_) (fun c32 => ?_)
    ·
      refine lv_iconst (v := nI 0) hx hb d_R_audit_63 (by decide) ?_
      exact W.iret (v := nI 0) hx hb hr (fun t ht hW => ⟨nI 0, rfl, trivial, ht⟩) (fun q hq => by cases hq) d_R_audit_64
    ·
      exact absurd (by first | exact Int32.le_trans (Int32.not_lt.mp c32) hzn | exact Int32.not_lt.mp c32) hfr
set_option maxHeartbeats 4000000 in
set_option maxRecDepth 100000 in
theorem c_R_exportByte_ok (l : Launch) (dC : Nat → ClassId) (dI : Nat → Nat → Nat) (ad cd : Nat → Nat) (sz : Nat) (w wr fl : Nat → Int32) (pw sc : Int32) (lw rot vb : Nat → Int32) (rec tk : Int32) (live row : Nat → Int32) (cur ser dur wo : Int32) (bts : Nat → Int32) (us : Int32) (act : Nat → Int32) (rd rs : Int32) (tn : Nat) (un : Nat) (fr : Int32) (to : Int32) (ix0 : Int32) (ht48 : tn ≤ 48) (hrot : ∀ i, i < 48 → IX 48 (rot i)) (hus : un ≤ 32) : Met l y_R_exportByte w_R_exportByte ({ frames := 5, cells := 0, slots := 0, locals := 107 }) (xP (dC, dI) vwCl (xt cd) (xw ad cd w wr fl (nI 1) sc lw rot vb rec (nI tn) live row cur ser dur wo bts (nI un) act rd rs) sz [.ref (ad 0), .int fr, .int to, .int ix0]) (va_Qi (fun r (u : (Nat → Nat → Int32) × (Nat → Int32) × (Nat → Nat)) => (u.2.2 0) ≤ 32) (fun (u : (Nat → Nat → Int32) × (Nat → Int32) × (Nat → Nat)) (t : State) => xB (dC, dI) vwCl (xt cd) (xA 15 ad sz) (xw ad cd w wr fl (nI 1) sc lw rot vb rec (nI tn) live row cur ser dur wo (u.1 0) (nI (u.2.2 0)) act rd rs) t) (xA 15 ad sz)) 0 0 (xA 15 ad sz) := by
  refine Met.ofW (cc := b_R_exportByte) (maxL := 7) (ret := (some (.int))) (by decide) rfl ?_
  intro P e s m args below meth c0 s₁ B hml hv
  obtain ⟨rfl, hsz, hP, hK, hD0, hN⟩ := hv
  have hx := B.exec
  have hb := B.bytes
  have hr := B.returns
  have hts := atoms_spec (ws := w_R_exportByte) B.pre
  have hown : s.vm.findClass R_R = some m.cls := findClass_of_methodNamed B.named
  have hlocks := B.notSynchronized
  subst hsz
  have hD := xw_D (sz := s.heap.size) hD0
  have hS : va_S (xA 15 ad s.heap.size) s.heap s.heap [] := va_S.rf
  have hA : ∀ q : Nat, s.heap.size ≤ q → (xA 15 ad s.heap.size) q := fun q h => Or.inr h
  have hl := lv_entry ([.ref (ad 0), .int fr, .int to, .int ix0]) (n := 7) (Nat.le_of_ble_eq_true rfl)
  rw [lg_entry_eq]
  generalize (lg_sl ([.ref (ad 0), .int fr, .int to, .int ix0]) ++ List.replicate (7 - (lg_sl ([.ref (ad 0), .int fr, .int to, .int ix0])).length) Slot.unset).toArray = ls at hl ⊢
  have hl : lv_has ls 7 [(0, .ref (ad 0)), (1, .int fr), (2, .int to), (3, .int ix0)] := hl
  refine lv_aload_n hx hb d_R_exportByte_0 rfl (lv_at hl 0 rfl) ?_
  refine va_get (D := (dC, dI)) (ci := 4) (v := .ref (ad 2)) (C := R_R) (T := F_R) (N := 7) hx hb hts (fun w h => List.mem_cons_of_mem _ (in_R w h)) hown hK hP 0 rfl rfl 1 (by decide) (hts (.fieldLink R_R 20 R_R "chip" "LWeighRecorder$Chip;") (List.mem_cons_of_mem _ t_115)) (fun _ h9 => h9) rfl d_R_exportByte_1 ?_
  refine vp_callSi (va_runV (C := R_C) (As := []) (rest := []) ⟨hx, hb, hml, hown, hts⟩ (c_C_isPowered l dC dI ad cd w wr fl (nI 1) sc lw rot vb rec (nI tn) live row cur ser dur wo bts (nI un) act rd rs  (by first | exact B01.n1 | assumption)) (cwV 0 hts (g_V t_225 t_226 t_227 t_3 t_228) rfl rfl rfl (by decide +kernel) ⟨by decide, by decide⟩) (xR_v hP hK hN 2 rfl rfl) rfl rfl hl.1 rfl (lv_room (Nat.le_of_ble_eq_true rfl)) d_R_exportByte_4 ⟨Nat.le_refl _, Nat.le_refl _⟩).run (fun r4 q4 => ?_)
  have q4 := q4.symm
  subst q4
  refine va_csv (va_runS (As := [.int (nI 1)]) (rest := []) ⟨hx, hb, hml, hown, hts⟩ (c_R_requireState_1 l dC dI  ) (cwS 1 hts (g_S t_338 t_339 t_1 t_340) rfl rfl rfl (by decide +kernel) ⟨by decide, by decide⟩) (xR_s (va_P.sub hP [] rfl) (hK.sub [] rfl) hN) rfl rfl hl.1 rfl (lv_room (Nat.le_of_ble_eq_true rfl)) d_R_exportByte_7 ⟨Nat.le_refl _, Nat.le_refl _⟩).run (fun q7 => ?_)
  refine lv_iload_n hx hb d_R_exportByte_10 rfl (lv_at hl 3 rfl) ?_
  refine lv_if_ge (tgt := 16) hx hb d_R_exportByte_11 (by decide) (fun c11 => ?_) (fun c11 => ?_)
  ·
    refine lv_iload_n hx hb d_R_exportByte_16 rfl (lv_at hl 2 rfl) ?_
    refine lv_aload_n hx hb d_R_exportByte_17 rfl (lv_at hl 0 rfl) ?_
    refine va_get (D := (dC, dI)) (ci := 4) (v := .ref (ad 3)) (C := R_R) (T := F_R) (N := 7) hx hb hts (fun w h => List.mem_cons_of_mem _ (in_R w h)) hown hK hP 0 rfl rfl 2 (by decide) (hts (.fieldLink R_R 26 R_R "log" "LWeighRecorder$Log;") (List.mem_cons_of_mem _ t_116)) (fun _ h9 => h9) rfl d_R_exportByte_18 ?_
    refine vp_callSi (va_runV (C := R_G) (As := []) (rest := [.int to]) ⟨hx, hb, hml, hown, hts⟩ (c_G_ticketCount l dC dI ad cd w wr fl (nI 1) sc lw rot vb rec (nI tn) live row cur ser dur wo bts (nI un) act rd rs tn ) (cwV 0 hts (g_V t_217 t_218 t_219 t_4 t_220) rfl rfl rfl (by decide +kernel) ⟨by decide, by decide⟩) (xR_v hP hK hN 3 rfl rfl) rfl rfl hl.1 rfl (lv_room (Nat.le_of_ble_eq_true rfl)) d_R_exportByte_21 ⟨Nat.le_refl _, Nat.le_refl _⟩).run (fun r21 q21 => ?_)
    have q21 := q21.symm
    subst q21
    refine va_mmin hx hb (hml.trans hl.1.symm) hown (hts (.methodLink R_R 133 Lib.Math.min.name) (List.mem_cons_of_mem _ t_567)) (hts (.static Lib.Math.min.name) (List.mem_cons_of_mem _ t_568)) (hts (.initialized "java/lang/Math") (List.mem_cons_of_mem _ t_13)) (hts (.code Lib.Math.min.name Lib.Math.min.code 2 (some .int)) (List.mem_cons_of_mem _ t_569)) (by decide) (by decide) (Nat.zero_le _) (Nat.zero_le _) d_R_exportByte_24 ?_
    obtain ⟨z, ez⟩ : ∃ z : Int32, z = (if (nI tn) < to then (nI tn) else to) := ⟨_, rfl⟩
    have hzn : z ≤ nI tn := by rw [ez]; exact mn_le _ _
    refine tp_i (y := z) ez.symm ?_
    refine lv_istore hx hb d_R_exportByte_27 hl (by decide) rfl (fun ls hl => ?_)
    have hl : lv_has ls 7 [(4, .int z), (0, .ref (ad 0)), (1, .int fr), (2, .int to), (3, .int ix0)] := hl
    refine lv_iload_n hx hb d_R_exportByte_29 rfl (lv_at hl 4 rfl) ?_
    refine lv_istore hx hb d_R_exportByte_30 hl (by decide) rfl (fun ls hl => ?_)
    have hl : lv_has ls 7 [(5, .int ix0), (4, .int z), (0, .ref (ad 0)), (1, .int fr), (2, .int to), (3, .int ix0)] := hl
    refine lv_iload_n hx hb d_R_exportByte_32 rfl (lv_at hl 3 rfl) ?_
    refine lv_iconst (v := nI 1) hx hb d_R_exportByte_33 (by decide) ?_
    refine va_mmax hx hb (hml.trans hl.1.symm) hown (hts (.methodLink R_R 139 Lib.Math.max.name) (List.mem_cons_of_mem _ t_570)) (hts (.static Lib.Math.max.name) (List.mem_cons_of_mem _ t_571)) (hts (.initialized "java/lang/Math") (List.mem_cons_of_mem _ t_13)) (hts (.code Lib.Math.max.name Lib.Math.max.code 2 (some .int)) (List.mem_cons_of_mem _ t_572)) (by decide) (by decide) (Nat.zero_le _) (Nat.zero_le _) d_R_exportByte_34 ?_
    by_cases hfr : (if fr < (nI 1) then (nI 1) else fr) ≤ nI tn
    ·
      obtain ⟨j, hj, ej⟩ := tk_nat ⟨mx1 _, hfr⟩ (by omega)
      refine tp_i (y := nI (j + 1)) ej ?_
      refine lv_istore hx hb d_R_exportByte_37 hl (by decide) rfl (fun ls hl => ?_)
      have hl : lv_has ls 7 [(6, .int (nI (j + 1))), (5, .int ix0), (4, .int z), (0, .ref (ad 0)), (1, .int fr), (2, .int to), (3, .int ix0)] := hl
      have lp39 : ∀ (n : Nat) (i : Nat) (x : Int32) (bv : Nat → Int32) (uv : Nat) (H : Heap) (locs : List Loc) (ls : Array Slot), (tn + 1 - i) < n → (1 ≤ i) → (i ≤ tn + 1) → (0 ≤ x) → (uv ≤ 32) → lv_has ls 7 [(0, .ref (ad 0)), (4, .int z), (5, .int x), (6, .int (nI i))] → va_P (dC, dI) vwCl (xw ad cd w wr fl (nI 1) sc lw rot vb rec (nI tn) live row cur ser dur wo bv (nI uv) act rd rs) H → va_D (xA 15 ad s.heap.size) (xw ad cd w wr fl (nI 1) sc lw rot vb rec (nI tn) live row cur ser dur wo bv (nI uv) act rd rs) → va_S (xA 15 ad s.heap.size) s.heap H locs → W P l e (headSpec w_R_exportByte ({ frames := 5, cells := 0, slots := 0, locals := 107 })).room s m (([.ref (ad 0), .int fr, .int to, .int ix0] : List Value).toArray) below meth c0 H locs 0 0 (MQ below (va_Qi (fun r (u : (Nat → Nat → Int32) × (Nat → Int32) × (Nat → Nat)) => (u.2.2 0) ≤ 32) (fun (u : (Nat → Nat → Int32) × (Nat → Int32) × (Nat → Nat)) (t : State) => xB (dC, dI) vwCl (xt cd) (xA 15 ad s.heap.size) (xw ad cd w wr fl (nI 1) sc lw rot vb rec (nI tn) live row cur ser dur wo (u.1 0) (nI (u.2.2 0)) act rd rs) t) (xA 15 ad s.heap.size)) (([.ref (ad 0), .int fr, .int to, .int ix0] : List Value).toArray) s 0 0 (xA 15 ad s.heap.size)) (F0 m 39 ls []) := by
        intro n
        induction n with
        | zero => intro i x bv uv H locs ls hm; intros; omega
        | succ n ih39 =>
          intro i x bv uv H locs ls hm hi1 hi2 hx0 hus hl hP hD hS
          refine lv_iload hx hb d_R_exportByte_39 (lv_at hl 3 rfl) ?_
          refine lv_iload hx hb d_R_exportByte_41 (lv_at hl 1 rfl) ?_
          refine lv_icmp_gt (tgt := 99) hx hb d_R_exportByte_43 (by decide) (fun c43 => ?_) (fun c43 => ?_)
          ·
            refine lv_iconst (v := (-1)) hx hb d_R_exportByte_99 (by decide) ?_
            exact W.iret (v := (-1)) hx hb hr (fun t ht hW => ⟨⟨(-1), (fun i => [bv].getD i (fun _ => 0), fun i => [].getD i 0, fun i => [uv].getD i 0), rfl, hus, ⟨by rw [ht]; exact hP, va_K.moved hW.alike hK, hD⟩⟩, hS.F ht⟩) hS.2.2 d_R_exportByte_100
          ·
            have c43 := le_nat c43 (by first | exact hzn | exact Int32.le_refl _) (by omega) (by omega)
            refine lv_aload_n hx hb d_R_exportByte_46 rfl (lv_at hl 0 rfl) ?_
            refine va_get (D := (dC, dI)) (ci := 4) (v := .ref (ad 4)) (C := R_R) (T := F_R) (N := 7) hx hb hts (fun w h => List.mem_cons_of_mem _ (in_R w h)) hown hK hP 0 rfl rfl 3 (by decide) (hts (.fieldLink R_R 33 R_R "line" "LWeighRecorder$Line;") (List.mem_cons_of_mem _ t_117)) (fun _ h9 => h9) rfl d_R_exportByte_47 ?_
            refine lv_aload_n hx hb d_R_exportByte_50 rfl (lv_at hl 0 rfl) ?_
            refine va_get (D := (dC, dI)) (ci := 4) (v := .ref (ad 3)) (C := R_R) (T := F_R) (N := 7) hx hb hts (fun w h => List.mem_cons_of_mem _ (in_R w h)) hown hK hP 0 rfl rfl 2 (by decide) (hts (.fieldLink R_R 26 R_R "log" "LWeighRecorder$Log;") (List.mem_cons_of_mem _ t_116)) (fun _ h9 => h9) rfl d_R_exportByte_51 ?_
            refine lv_iload hx hb d_R_exportByte_54 (lv_at hl 3 rfl) ?_
            have hSz := hS.1
            refine va_callv (va_runV (C := R_N) (As := [.ref (ad 3), .int (nI i)]) (rest := []) ⟨hx, hb, hml, hown, hts⟩ (c_N_fillFrom l dC dI ad cd H.size w wr fl (nI 1) sc lw rot vb rec (nI tn) live row cur ser dur wo bv (nI uv) act rd rs i (by first | omega | rfl | assumption | decide) (by first | omega | rfl | assumption | decide) (by first | omega | rfl | assumption | decide)) (cwV 2 hts (g_V t_611 t_612 t_613 t_5 t_614) rfl rfl rfl (by decide +kernel) ⟨by decide, by decide⟩) (xP_v hP hK hD hN 4 rfl rfl) rfl rfl hl.1 rfl (lv_room (Nat.le_of_ble_eq_true rfl)) d_R_exportByte_56 ⟨Nat.le_refl _, Nat.le_refl _⟩) hS (fun q _ h => xA_up hS.1 q h) (fun q h => xA_up hS.1 q h) (fun u56 t H1 locs1 ht hvm q56 hB hz1 hk1 hS => ?_)
            obtain ⟨hP1, hK1, hD1⟩ := hB
            rw [ht] at hP1
            have hD : va_D (xA 15 ad s.heap.size) (xw ad cd w wr fl (nI 1) sc lw rot vb rec (nI tn) live row cur ser dur wo (u56.1 0) (nI (u56.2.2 0)) act rd rs) := hD1.weaken (fun _ q _ h => xA_up hSz _ h)
            have hP : va_P (dC, dI) vwCl (xw ad cd w wr fl (nI 1) sc lw rot vb rec (nI tn) live row cur ser dur wo (u56.1 0) (nI (u56.2.2 0)) act rd rs) H1 := hP1
            generalize H1 = H at hP hS ⊢
            generalize locs1 = locs at hS ⊢
            have hus := q56
            refine lv_iload hx hb d_R_exportByte_59 (lv_at hl 2 rfl) ?_
            refine lv_aload_n hx hb d_R_exportByte_61 rfl (lv_at hl 0 rfl) ?_
            refine va_get (D := (dC, dI)) (ci := 4) (v := .ref (ad 4)) (C := R_R) (T := F_R) (N := 7) hx hb hts (fun w h => List.mem_cons_of_mem _ (in_R w h)) hown hK hP 0 rfl rfl 3 (by decide) (hts (.fieldLink R_R 33 R_R "line" "LWeighRecorder$Line;") (List.mem_cons_of_mem _ t_117)) (fun _ h9 => h9) rfl d_R_exportByte_62 ?_
            refine vp_callSi (va_runV (C := R_N) (As := []) (rest := [.int x]) ⟨hx, hb, hml, hown, hts⟩ (c_N_length l dC dI ad cd w wr fl (nI 1) sc lw rot vb rec (nI tn) live row cur ser dur wo (u56.1 0) (nI (u56.2.2 0)) act rd rs (u56.2.2 0) ) (cwV 0 hts (g_V t_632 t_633 t_634 t_5 t_635) rfl rfl rfl (by decide +kernel) ⟨by decide, by decide⟩) (xR_v hP hK hN 4 rfl rfl) rfl rfl hl.1 rfl (lv_room (Nat.le_of_ble_eq_true rfl)) d_R_exportByte_65 ⟨Nat.le_refl _, Nat.le_refl _⟩).run (fun r65 q65 => ?_)
            have q65 := q65.symm
            subst q65
            refine lv_icmp_ge (tgt := 81) hx hb d_R_exportByte_68 (by decide) (fun c68 => ?_) (fun c68 => ?_)
            ·
              refine lv_iload hx hb d_R_exportByte_81 (lv_at hl 2 rfl) ?_
              refine lv_aload_n hx hb d_R_exportByte_83 rfl (lv_at hl 0 rfl) ?_
              refine va_get (D := (dC, dI)) (ci := 4) (v := .ref (ad 4)) (C := R_R) (T := F_R) (N := 7) hx hb hts (fun w h => List.mem_cons_of_mem _ (in_R w h)) hown hK hP 0 rfl rfl 3 (by decide) (hts (.fieldLink R_R 33 R_R "line" "LWeighRecorder$Line;") (List.mem_cons_of_mem _ t_117)) (fun _ h9 => h9) rfl d_R_exportByte_84 ?_
              refine vp_callSi (va_runV (C := R_N) (As := []) (rest := [.int x]) ⟨hx, hb, hml, hown, hts⟩ (c_N_length l dC dI ad cd w wr fl (nI 1) sc lw rot vb rec (nI tn) live row cur ser dur wo (u56.1 0) (nI (u56.2.2 0)) act rd rs (u56.2.2 0) ) (cwV 0 hts (g_V t_632 t_633 t_634 t_5 t_635) rfl rfl rfl (by decide +kernel) ⟨by decide, by decide⟩) (xR_v hP hK hN 4 rfl rfl) rfl rfl hl.1 rfl (lv_room (Nat.le_of_ble_eq_true rfl)) d_R_exportByte_87 ⟨Nat.le_refl _, Nat.le_refl _⟩).run (fun r87 q87 => ?_)
              have q87 := q87.symm
              subst q87
              refine lv_isub hx hb d_R_exportByte_90 ?_
              refine lv_istore hx hb d_R_exportByte_91 hl (by decide) rfl (fun ls hl => ?_)
              have hl : lv_has ls 7 [(5, .int (x - (nI (u56.2.2 0)))), (0, .ref (ad 0)), (4, .int z), (6, .int (nI i))] := hl
              refine lv_iinc (k := 3) (v := nI (i + 1)) hx hb d_R_exportByte_93 hl rfl (nI_1 _) (by decide) rfl (fun ls hl => ?_)
              have hl : lv_has ls 7 [(6, .int (nI (i + 1))), (5, .int (x - (nI (u56.2.2 0)))), (0, .ref (ad 0)), (4, .int z)] := hl
              refine lv_goto (tgt := 39) hx hb d_R_exportByte_96 (by decide) ?_
              exact ih39 (i + 1) (x - (nI (u56.2.2 0))) (u56.1 0) (u56.2.2 0) H locs ls (by omega) (by omega) (by omega) (rest_sub hx0 c68 (by omega)) hus (lv_sub hl [2, 3, 1, 0] rfl) hP hD hS
            ·
              refine lv_aload_n hx hb d_R_exportByte_71 rfl (lv_at hl 0 rfl) ?_
              refine va_get (D := (dC, dI)) (ci := 4) (v := .ref (ad 4)) (C := R_R) (T := F_R) (N := 7) hx hb hts (fun w h => List.mem_cons_of_mem _ (in_R w h)) hown hK hP 0 rfl rfl 3 (by decide) (hts (.fieldLink R_R 33 R_R "line" "LWeighRecorder$Line;") (List.mem_cons_of_mem _ t_117)) (fun _ h9 => h9) rfl d_R_exportByte_72 ?_
              refine lv_iload hx hb d_R_exportByte_75 (lv_at hl 2 rfl) ?_
              obtain ⟨ix, hix, ex⟩ := rest_ix hx0 c68 (by omega)
              refine tp_i (y := nI ix) ex ?_
              refine vp_callSi (va_runV (C := R_N) (As := [.int (nI ix)]) (rest := []) ⟨hx, hb, hml, hown, hts⟩ (c_N_byteAt l dC dI ad cd w wr fl (nI 1) sc lw rot vb rec (nI tn) live row cur ser dur wo (u56.1 0) (nI (u56.2.2 0)) act rd rs ix (by first | omega | rfl | assumption | decide)) (cwV 1 hts (g_V t_636 t_637 t_638 t_5 t_639) rfl rfl rfl (by decide +kernel) ⟨by decide, by decide⟩) (xR_v hP hK hN 4 rfl rfl) rfl rfl hl.1 rfl (lv_room (Nat.le_of_ble_eq_true rfl)) d_R_exportByte_77 ⟨Nat.le_refl _, Nat.le_refl _⟩).run (fun r77 q77 => ?_)
              have hk77 := q77
              exact W.iret (v := r77) hx hb hr (fun t ht hW => ⟨⟨r77, (fun i => [u56.1 0].getD i (fun _ => 0), fun i => [].getD i 0, fun i => [u56.2.2 0].getD i 0), rfl, hus, ⟨by rw [ht]; exact hP, va_K.moved hW.alike hK, hD⟩⟩, hS.F ht⟩) hS.2.2 d_R_exportByte_80
      exact lp39 _ (j + 1) ix0 bts un s.heap [] ls (Nat.lt_succ_self _) (by omega) (by omega) c11 hus (lv_sub hl [3, 2, 1, 0] rfl) hP hD hS
    ·
      refine lv_istore hx hb d_R_exportByte_37 hl (by decide) rfl (fun ls hl => ?_)
      have hl : lv_has ls 7 [(6, .int (if fr < (nI 1) then (nI 1) else fr)), (5, .int ix0), (4, .int z), (0, .ref (ad 0)), (1, .int fr), (2, .int to), (3, .int ix0)] := hl
      refine lv_iload hx hb d_R_exportByte_39 (lv_at hl 0 rfl) ?_
      refine lv_iload hx hb d_R_exportByte_41 (lv_at hl 2 rfl) ?_
      refine lv_icmp_gt (tgt := 99) hx hb d_R_exportByte_43 (by decide) (fun c43 => ?_) (fun c43 => ?_)
      ·
        refine lv_iconst (v := (-1)) hx hb d_R_exportByte_99 (by decide) ?_
        exact W.iret (v := (-1)) hx hb hr (fun t ht hW => ⟨⟨(-1), (fun i => [bts].getD i (fun _ => 0), fun i => [].getD i 0, fun i => [un].getD i 0), rfl, hus, ⟨by rw [ht]; exact hP, va_K.moved hW.alike hK, hD⟩⟩, hS.F ht⟩) hS.2.2 d_R_exportByte_100
      ·
        exact absurd (by first | exact Int32.le_trans (Int32.not_lt.mp c43) hzn | exact Int32.not_lt.mp c43) hfr
  ·
    refine lv_iconst (v := (-1)) hx hb d_R_exportByte_14 (by decide) ?_
    exact W.iret (v := (-1)) hx hb hr (fun t ht hW => ⟨⟨(-1), (fun i => [bts].getD i (fun _ => 0), fun i => [].getD i 0, fun i => [un].getD i 0), rfl, hus, ⟨by rw [ht]; exact hP, va_K.moved hW.alike hK, hD⟩⟩, hS.F ht⟩) hS.2.2 d_R_exportByte_15
set_option maxHeartbeats 4000000 in
set_option maxRecDepth 100000 in
theorem c_R_setProduct_ok (l : Launch) (dC : Nat → ClassId) (dI : Nat → Nat → Nat) (ad cd : Nat → Nat) (sz : Nat) (w wr fl : Nat → Int32) (pw sc : Int32) (lw rot vb : Nat → Int32) (rec tk : Int32) (live row : Nat → Int32) (cur ser dur wo : Int32) (bts : Nat → Int32) (us : Int32) (act : Nat → Int32) (rd rs : Int32) (co : Int32) (b : Int32) (hok : (nI 0 ≤ co ∧ co ≤ nI 39)) : Met l y_R_setProduct w_R_setProduct ({ frames := 2, cells := 0, slots := 0, locals := 42 }) (xP (dC, dI) vwCl (xt cd) (xw ad cd w wr fl pw sc lw rot vb rec tk live row cur ser dur wo bts us act rd rs) sz [.ref (ad 0), .int co, .int b]) (va_Qv (fun (u : (Nat → Nat → Int32) × (Nat → Int32) × (Nat → Nat)) => True) (fun (u : (Nat → Nat → Int32) × (Nat → Int32) × (Nat → Nat)) (t : State) => xB (dC, dI) vwCl (xt cd) (xA 15 ad sz) (xw ad cd w wr fl pw sc lw rot vb rec tk live row cur ser dur wo bts us (u.1 0) rd rs) t) (xA 15 ad sz)) 0 0 (xA 15 ad sz) := by
  refine Met.ofW (cc := b_R_setProduct) (maxL := 3) (ret := none) (by decide) rfl ?_
  intro P e s m args below meth c0 s₁ B hml hv
  obtain ⟨rfl, hsz, hP, hK, hD0, hN⟩ := hv
  have hx := B.exec
  have hb := B.bytes
  have hr := B.returns
  have hts := atoms_spec (ws := w_R_setProduct) B.pre
  have hown : s.vm.findClass R_R = some m.cls := findClass_of_methodNamed B.named
  have hlocks := B.notSynchronized
  subst hsz
  have hD := xw_D (sz := s.heap.size) hD0
  have hS : va_S (xA 15 ad s.heap.size) s.heap s.heap [] := va_S.rf
  have hA : ∀ q : Nat, s.heap.size ≤ q → (xA 15 ad s.heap.size) q := fun q h => Or.inr h
  have hl := lv_entry ([.ref (ad 0), .int co, .int b]) (n := 3) (Nat.le_of_ble_eq_true rfl)
  rw [lg_entry_eq]
  generalize (lg_sl ([.ref (ad 0), .int co, .int b]) ++ List.replicate (3 - (lg_sl ([.ref (ad 0), .int co, .int b])).length) Slot.unset).toArray = ls at hl ⊢
  have hl : lv_has ls 3 [(0, .ref (ad 0)), (1, .int co), (2, .int b)] := hl
  refine lv_iload_n hx hb d_R_setProduct_0 rfl (lv_at hl 1 rfl) ?_
  refine vp_callSi (va_runS (As := [.int co]) (rest := []) ⟨hx, hb, hml, hown, hts⟩ (c_R_isProduct l dC dI co ) (cwS 1 hts (g_S t_364 t_365 t_1 t_366) rfl rfl rfl (by decide +kernel) ⟨by decide, by decide⟩) (xR_s (va_P.sub hP [] rfl) (hK.sub [] rfl) hN) rfl rfl hl.1 rfl (lv_room (Nat.le_of_ble_eq_true rfl)) d_R_setProduct_1 ⟨Nat.le_refl _, Nat.le_refl _⟩).run (fun r1 q1 => ?_)
  obtain ⟨rfl, -⟩ := q1.resolve_right (fun z => z.2 (hok))
  refine va_csv (va_runS (As := [.int (nI 1)]) (rest := []) ⟨hx, hb, hml, hown, hts⟩ (c_R_requireArgument_1 l dC dI  ) (cwS 1 hts (g_S t_272 t_273 t_1 t_274) rfl rfl rfl (by decide +kernel) ⟨by decide, by decide⟩) (xR_s (va_P.sub hP [] rfl) (hK.sub [] rfl) hN) rfl rfl hl.1 rfl (lv_room (Nat.le_of_ble_eq_true rfl)) d_R_setProduct_4 ⟨Nat.le_refl _, Nat.le_refl _⟩).run (fun q4 => ?_)
  obtain ⟨j, hj, rfl⟩ := in_nt (n := 39) hok
  refine lv_aload_n hx hb d_R_setProduct_7 rfl (lv_at hl 0 rfl) ?_
  refine va_get (D := (dC, dI)) (ci := 4) (v := .ref (ad 5)) (C := R_R) (T := F_R) (N := 7) hx hb hts (fun w h => List.mem_cons_of_mem _ (in_R w h)) hown hK hP 0 rfl rfl 4 (by decide) (hts (.fieldLink R_R 37 R_R "active" "[Z") (List.mem_cons_of_mem _ t_118)) (fun _ h9 => h9) rfl d_R_setProduct_8 ?_
  refine lv_iload_n hx hb d_R_setProduct_11 rfl (lv_at hl 1 rfl) ?_
  refine lv_iload_n hx hb d_R_setProduct_12 rfl (lv_at hl 2 rfl) ?_
  refine va_zast hx hb hK hP hD hS 5 0 rfl rfl (vp_in_nI (by omega) (by decide)) d_R_setProduct_13 (fun H locs hP hD hS => ?_)
  rw [nI_clamp (by omega)] at hP hD
  have hP : va_P (dC, dI) vwCl (xw ad cd w wr fl pw sc lw rot vb rec tk live row cur ser dur wo bts us (upd act j (vp_nar .boolean b)) rd rs) H := hP
  have hD : va_D (xA 15 ad s.heap.size) (xw ad cd w wr fl pw sc lw rot vb rec tk live row cur ser dur wo bts us (upd act j (vp_nar .boolean b)) rd rs) := hD
  exact W.vret hx hb hr (fun t ht hW => ⟨⟨(fun i => [upd act j (vp_nar .boolean b)].getD i (fun _ => 0), fun i => [].getD i 0, fun i => [].getD i 0), rfl, trivial, ⟨by rw [ht]; exact hP, va_K.moved hW.alike hK, hD⟩⟩, hS.F ht⟩) hS.2.2 d_R_setProduct_14
set_option maxHeartbeats 4000000 in
set_option maxRecDepth 100000 in
theorem c_R_cutAfter_ok (l : Launch) (dC : Nat → ClassId) (dI : Nat → Nat → Nat) (ad cd : Nat → Nat) (sz : Nat) (w wr fl : Nat → Int32) (pw sc : Int32) (lw rot vb : Nat → Int32) (rec tk : Int32) (live row : Nat → Int32) (cur ser dur wo : Int32) (bts : Nat → Int32) (us : Int32) (act : Nat → Int32) (rd rs : Int32) (n : Int32) (hok : (nI 0 ≤ n ∧ n ≤ nI 300)) : Met l y_R_cutAfter w_R_cutAfter ({ frames := 1, cells := 0, slots := 0, locals := 22 }) (xP (dC, dI) vwCl (xt cd) (xw ad cd w wr fl pw sc lw rot vb rec tk live row cur ser dur wo bts us act rd rs) sz [.ref (ad 0), .int n]) (va_Qv (fun (u : (Nat → Nat → Int32) × (Nat → Int32) × (Nat → Nat)) => True) (fun (u : (Nat → Nat → Int32) × (Nat → Int32) × (Nat → Nat)) (t : State) => xB (dC, dI) vwCl (xt cd) (xA 15 ad sz) (xw ad cd w wr fl pw (u.2.1 0) lw rot vb rec tk live row cur ser dur wo bts us act rd rs) t) (xA 15 ad sz)) 0 0 (xA 15 ad sz) := by
  refine Met.ofW (cc := b_R_cutAfter) (maxL := 2) (ret := none) (by decide) rfl ?_
  intro P e s m args below meth c0 s₁ B hml hv
  obtain ⟨rfl, hsz, hP, hK, hD0, hN⟩ := hv
  have hx := B.exec
  have hb := B.bytes
  have hr := B.returns
  have hts := atoms_spec (ws := w_R_cutAfter) B.pre
  have hown : s.vm.findClass R_R = some m.cls := findClass_of_methodNamed B.named
  have hlocks := B.notSynchronized
  subst hsz
  have hD := xw_D (sz := s.heap.size) hD0
  have hS : va_S (xA 15 ad s.heap.size) s.heap s.heap [] := va_S.rf
  have hA : ∀ q : Nat, s.heap.size ≤ q → (xA 15 ad s.heap.size) q := fun q h => Or.inr h
  have hl := lv_entry ([.ref (ad 0), .int n]) (n := 2) (Nat.le_of_ble_eq_true rfl)
  rw [lg_entry_eq]
  generalize (lg_sl ([.ref (ad 0), .int n]) ++ List.replicate (2 - (lg_sl ([.ref (ad 0), .int n])).length) Slot.unset).toArray = ls at hl ⊢
  have hl : lv_has ls 2 [(0, .ref (ad 0)), (1, .int n)] := hl
  refine lv_iload_n hx hb d_R_cutAfter_0 rfl (lv_at hl 1 rfl) ?_
  refine lv_iconst (v := nI 0) hx hb d_R_cutAfter_1 (by decide) ?_
  refine lv_sipush (v := nI 300) hx hb d_R_cutAfter_2 (by decide) ?_
  refine vp_callSi (va_runS (As := [.int n, .int (nI 0), .int (nI 300)]) (rest := []) ⟨hx, hb, hml, hown, hts⟩ (c_R_isWithin l dC dI n (nI 0) (nI 300) ) (cwS 3 hts (g_S t_271 t_207 t_1 t_208) rfl rfl rfl (by decide +kernel) ⟨by decide, by decide⟩) (xR_s (va_P.sub hP [] rfl) (hK.sub [] rfl) hN) rfl rfl hl.1 rfl (lv_room (Nat.le_of_ble_eq_true rfl)) d_R_cutAfter_5 ⟨Nat.le_refl _, Nat.le_refl _⟩).run (fun r5 q5 => ?_)
  obtain ⟨rfl, -⟩ := q5.resolve_right (fun z => z.2 (hok))
  refine va_csv (va_runS (As := [.int (nI 1)]) (rest := []) ⟨hx, hb, hml, hown, hts⟩ (c_R_requireArgument_1 l dC dI  ) (cwS 1 hts (g_S t_272 t_273 t_1 t_274) rfl rfl rfl (by decide +kernel) ⟨by decide, by decide⟩) (xR_s (va_P.sub hP [] rfl) (hK.sub [] rfl) hN) rfl rfl hl.1 rfl (lv_room (Nat.le_of_ble_eq_true rfl)) d_R_cutAfter_8 ⟨Nat.le_refl _, Nat.le_refl _⟩).run (fun q8 => ?_)
  refine lv_aload_n hx hb d_R_cutAfter_11 rfl (lv_at hl 0 rfl) ?_
  refine va_get (D := (dC, dI)) (ci := 4) (v := .ref (ad 2)) (C := R_R) (T := F_R) (N := 7) hx hb hts (fun w h => List.mem_cons_of_mem _ (in_R w h)) hown hK hP 0 rfl rfl 1 (by decide) (hts (.fieldLink R_R 20 R_R "chip" "LWeighRecorder$Chip;") (List.mem_cons_of_mem _ t_115)) (fun _ h9 => h9) rfl d_R_cutAfter_12 ?_
  refine lv_iload_n hx hb d_R_cutAfter_15 rfl (lv_at hl 1 rfl) ?_
  have hSz := hS.1
  refine va_callv (va_runV (C := R_C) (As := [.int n]) (rest := []) ⟨hx, hb, hml, hown, hts⟩ (c_C_tellCut l dC dI ad cd s.heap.size w wr fl pw sc lw rot vb rec tk live row cur ser dur wo bts us act rd rs n ) (cwV 1 hts (g_V t_654 t_655 t_656 t_3 t_657) rfl rfl rfl (by decide +kernel) ⟨by decide, by decide⟩) (xP_v hP hK hD hN 2 rfl rfl) rfl rfl hl.1 rfl (lv_room (Nat.le_of_ble_eq_true rfl)) d_R_cutAfter_16 ⟨Nat.le_refl _, Nat.le_refl _⟩) hS (fun q _ h => xA_up hS.1 q h) (fun q h => xA_up hS.1 q h) (fun u16 t H1 locs1 ht hvm q16 hB hz1 hk1 hS => ?_)
  obtain ⟨hP1, hK1, hD1⟩ := hB
  rw [ht] at hP1
  have hD : va_D (xA 15 ad s.heap.size) (xw ad cd w wr fl pw (u16.2.1 0) lw rot vb rec tk live row cur ser dur wo bts us act rd rs) := hD1.weaken (fun _ q _ h => xA_up hSz _ h)
  have hP : va_P (dC, dI) vwCl (xw ad cd w wr fl pw (u16.2.1 0) lw rot vb rec tk live row cur ser dur wo bts us act rd rs) H1 := hP1
  generalize H1 = H at hP hS ⊢
  generalize locs1 = locs at hS ⊢
  have hk16 := q16
  exact W.vret hx hb hr (fun t ht hW => ⟨⟨(fun i => [].getD i (fun _ => 0), fun i => [u16.2.1 0].getD i 0, fun i => [].getD i 0), rfl, trivial, ⟨by rw [ht]; exact hP, va_K.moved hW.alike hK, hD⟩⟩, hS.F ht⟩) hS.2.2 d_R_cutAfter_19
set_option maxHeartbeats 4000000 in
set_option maxRecDepth 100000 in
theorem c_R_crash (l : Launch) (dC : Nat → ClassId) (dI : Nat → Nat → Nat) (ad cd : Nat → Nat) (sz : Nat) (w wr fl : Nat → Int32) (pw sc : Int32) (lw rot vb : Nat → Int32) (rec tk : Int32) (live row : Nat → Int32) (cur ser dur wo : Int32) (bts : Nat → Int32) (us : Int32) (act : Nat → Int32) (rd rs : Int32)  : Met l y_R_crash w_R_crash ({ frames := 1, cells := 0, slots := 0, locals := 20 }) (xP (dC, dI) vwCl (xt cd) (xw ad cd w wr fl pw sc lw rot vb rec tk live row cur ser dur wo bts us act rd rs) sz [.ref (ad 0)]) (va_Qv (fun (u : (Nat → Nat → Int32) × (Nat → Int32) × (Nat → Nat)) => B01 (u.2.1 0)) (fun (u : (Nat → Nat → Int32) × (Nat → Int32) × (Nat → Nat)) (t : State) => xB (dC, dI) vwCl (xt cd) (xA 15 ad sz) (xw ad cd w wr fl (u.2.1 0) (u.2.1 1) lw rot vb rec tk live row cur ser dur wo bts us act rd rs) t) (xA 15 ad sz)) 0 0 (xA 15 ad sz) := by
  refine Met.ofW (cc := b_R_crash) (maxL := 1) (ret := none) (by decide) rfl ?_
  intro P e s m args below meth c0 s₁ B hml hv
  obtain ⟨rfl, hsz, hP, hK, hD0, hN⟩ := hv
  have hx := B.exec
  have hb := B.bytes
  have hr := B.returns
  have hts := atoms_spec (ws := w_R_crash) B.pre
  have hown : s.vm.findClass R_R = some m.cls := findClass_of_methodNamed B.named
  have hlocks := B.notSynchronized
  subst hsz
  have hD := xw_D (sz := s.heap.size) hD0
  have hS : va_S (xA 15 ad s.heap.size) s.heap s.heap [] := va_S.rf
  have hA : ∀ q : Nat, s.heap.size ≤ q → (xA 15 ad s.heap.size) q := fun q h => Or.inr h
  have hl := lv_entry ([.ref (ad 0)]) (n := 1) (Nat.le_of_ble_eq_true rfl)
  rw [lg_entry_eq]
  generalize (lg_sl ([.ref (ad 0)]) ++ List.replicate (1 - (lg_sl ([.ref (ad 0)])).length) Slot.unset).toArray = ls at hl ⊢
  have hl : lv_has ls 1 [(0, .ref (ad 0))] := hl
  refine lv_aload_n hx hb d_R_crash_0 rfl (lv_at hl 0 rfl) ?_
  refine va_get (D := (dC, dI)) (ci := 4) (v := .ref (ad 2)) (C := R_R) (T := F_R) (N := 7) hx hb hts (fun w h => List.mem_cons_of_mem _ (in_R w h)) hown hK hP 0 rfl rfl 1 (by decide) (hts (.fieldLink R_R 20 R_R "chip" "LWeighRecorder$Chip;") (List.mem_cons_of_mem _ t_115)) (fun _ h9 => h9) rfl d_R_crash_1 ?_
  have hSz := hS.1
  refine va_callv (va_runV (C := R_C) (As := []) (rest := []) ⟨hx, hb, hml, hown, hts⟩ (c_C_turnOff l dC dI ad cd s.heap.size w wr fl pw sc lw rot vb rec tk live row cur ser dur wo bts us act rd rs  ) (cwV 0 hts (g_V t_140 t_141 t_142 t_3 t_143) rfl rfl rfl (by decide +kernel) ⟨by decide, by decide⟩) (xP_v hP hK hD hN 2 rfl rfl) rfl rfl hl.1 rfl (lv_room (Nat.le_of_ble_eq_true rfl)) d_R_crash_4 ⟨Nat.le_refl _, Nat.le_refl _⟩) hS (fun q _ h => xA_up hS.1 q h) (fun q h => xA_up hS.1 q h) (fun u4 t H1 locs1 ht hvm q4 hB hz1 hk1 hS => ?_)
  obtain ⟨hP1, hK1, hD1⟩ := hB
  rw [ht] at hP1
  have hD : va_D (xA 15 ad s.heap.size) (xw ad cd w wr fl (u4.2.1 0) (u4.2.1 1) lw rot vb rec tk live row cur ser dur wo bts us act rd rs) := hD1.weaken (fun _ q _ h => xA_up hSz _ h)
  have hP : va_P (dC, dI) vwCl (xw ad cd w wr fl (u4.2.1 0) (u4.2.1 1) lw rot vb rec tk live row cur ser dur wo bts us act rd rs) H1 := hP1
  generalize H1 = H at hP hS ⊢
  generalize locs1 = locs at hS ⊢
  have hpw := q4
  exact W.vret hx hb hr (fun t ht hW => ⟨⟨(fun i => [].getD i (fun _ => 0), fun i => [u4.2.1 0, u4.2.1 1].getD i 0, fun i => [].getD i 0), rfl, by first | exact hpw | exact B01.n0 | exact B01.n1, ⟨by rw [ht]; exact hP, va_K.moved hW.alike hK, hD⟩⟩, hS.F ht⟩) hS.2.2 d_R_crash_7
set_option maxHeartbeats 4000000 in
set_option maxRecDepth 100000 in
theorem c_R_mount (l : Launch) (dC : Nat → ClassId) (dI : Nat → Nat → Nat) (ad cd : Nat → Nat) (sz : Nat) (w wr fl : Nat → Int32) (pw sc : Int32) (lw rot vb : Nat → Int32) (rec tk : Int32) (live row : Nat → Int32) (cur ser dur wo : Int32) (bts : Nat → Int32) (us : Int32) (act : Nat → Int32) (rd rs : Int32)  (hrot : ∀ i, i < 48 → IX 48 (rot i)) : Met l y_R_mount w_R_mount ({ frames := 5, cells := 0, slots := 0, locals := 118 }) (xP (dC, dI) vwCl (xt cd) (xw ad cd w wr fl pw sc lw rot vb rec tk live row cur ser dur wo bts us act rd rs) sz [.ref (ad 0)]) (va_Qi (fun r (u : (Nat → Nat → Int32) × (Nat → Int32) × (Nat → Nat)) => B01 (u.2.1 0) ∧ (u.2.2 1) ≤ (u.2.2 0) ∧ (u.2.2 0) ≤ 48 ∧ (∀ i, i < 48 → IX 48 ((u.1 2) i)) ∧ (∀ i, i < 16 → PG 32 ((u.1 0) i)) ∧ PG 8 (u.2.1 4) ∧ B01 (u.2.1 6)) (fun (u : (Nat → Nat → Int32) × (Nat → Int32) × (Nat → Nat)) (t : State) => xB (dC, dI) vwCl (xt cd) (xA 15 ad sz) (xw ad cd w wr fl (u.2.1 0) (u.2.1 1) (u.1 1) (u.1 2) (u.1 3) (nI (u.2.2 0)) (nI (u.2.2 1)) (u.1 0) row (u.2.1 4) (u.2.1 5) (u.2.1 7) (u.2.1 6) bts us act (u.2.1 2) (u.2.1 3)) t) (xA 15 ad sz)) 0 0 (xA 15 ad sz) := by
  refine Met.ofW (cc := b_R_mount) (maxL := 1) (ret := (some (.int))) (by decide) rfl ?_
  intro P e s m args below meth c0 s₁ B hml hv
  obtain ⟨rfl, hsz, hP, hK, hD0, hN⟩ := hv
  have hx := B.exec
  have hb := B.bytes
  have hr := B.returns
  have hts := atoms_spec (ws := w_R_mount) B.pre
  have hown : s.vm.findClass R_R = some m.cls := findClass_of_methodNamed B.named
  have hlocks := B.notSynchronized
  subst hsz
  have hD := xw_D (sz := s.heap.size) hD0
  have hS : va_S (xA 15 ad s.heap.size) s.heap s.heap [] := va_S.rf
  have hA : ∀ q : Nat, s.heap.size ≤ q → (xA 15 ad s.heap.size) q := fun q h => Or.inr h
  have hl := lv_entry ([.ref (ad 0)]) (n := 1) (Nat.le_of_ble_eq_true rfl)
  rw [lg_entry_eq]
  generalize (lg_sl ([.ref (ad 0)]) ++ List.replicate (1 - (lg_sl ([.ref (ad 0)])).length) Slot.unset).toArray = ls at hl ⊢
  have hl : lv_has ls 1 [(0, .ref (ad 0))] := hl
  refine lv_aload_n hx hb d_R_mount_0 rfl (lv_at hl 0 rfl) ?_
  refine va_get (D := (dC, dI)) (ci := 4) (v := .ref (ad 2)) (C := R_R) (T := F_R) (N := 7) hx hb hts (fun w h => List.mem_cons_of_mem _ (in_R w h)) hown hK hP 0 rfl rfl 1 (by decide) (hts (.fieldLink R_R 20 R_R "chip" "LWeighRecorder$Chip;") (List.mem_cons_of_mem _ t_115)) (fun _ h9 => h9) rfl d_R_mount_1 ?_
  have hSz := hS.1
  refine va_callv (va_runV (C := R_C) (As := []) (rest := []) ⟨hx, hb, hml, hown, hts⟩ (c_C_turnOff l dC dI ad cd s.heap.size w wr fl pw sc lw rot vb rec tk live row cur ser dur wo bts us act rd rs  ) (cwV 0 hts (g_V t_140 t_141 t_142 t_3 t_143) rfl rfl rfl (by decide +kernel) ⟨by decide, by decide⟩) (xP_v hP hK hD hN 2 rfl rfl) rfl rfl hl.1 rfl (lv_room (Nat.le_of_ble_eq_true rfl)) d_R_mount_4 ⟨Nat.le_refl _, Nat.le_refl _⟩) hS (fun q _ h => xA_up hS.1 q h) (fun q h => xA_up hS.1 q h) (fun u4 t H1 locs1 ht hvm q4 hB hz1 hk1 hS => ?_)
  obtain ⟨hP1, hK1, hD1⟩ := hB
  rw [ht] at hP1
  have hD : va_D (xA 15 ad s.heap.size) (xw ad cd w wr fl (u4.2.1 0) (u4.2.1 1) lw rot vb rec tk live row cur ser dur wo bts us act rd rs) := hD1.weaken (fun _ q _ h => xA_up hSz _ h)
  have hP : va_P (dC, dI) vwCl (xw ad cd w wr fl (u4.2.1 0) (u4.2.1 1) lw rot vb rec tk live row cur ser dur wo bts us act rd rs) H1 := hP1
  generalize H1 = H at hP hS ⊢
  generalize locs1 = locs at hS ⊢
  have hpw := q4
  refine lv_aload_n hx hb d_R_mount_7 rfl (lv_at hl 0 rfl) ?_
  have hSz := hS.1
  refine va_callv (va_runV (C := R_R) (As := []) (rest := []) ⟨hx, hb, hml, hown, hts⟩ (c_R_forgetReadings l dC dI ad cd H.size w wr fl (u4.2.1 0) (u4.2.1 1) lw rot vb rec tk live row cur ser dur wo bts us act rd rs  ) (cwV 0 hts (g_V t_148 t_150 s_0 t_1 t_151) rfl rfl rfl (by decide +kernel) ⟨by decide, by decide⟩) (xP_v hP hK hD hN 0 rfl rfl) rfl rfl hl.1 rfl (lv_room (Nat.le_of_ble_eq_true rfl)) d_R_mount_8 ⟨Nat.le_refl _, Nat.le_refl _⟩) hS (fun q _ h => xA_up hS.1 q h) (fun q h => xA_up hS.1 q h) (fun u8 t H1 locs1 ht hvm q8 hB hz1 hk1 hS => ?_)
  obtain ⟨hP1, hK1, hD1⟩ := hB
  rw [ht] at hP1
  have hD : va_D (xA 15 ad s.heap.size) (xw ad cd w wr fl (u4.2.1 0) (u4.2.1 1) lw rot vb rec tk live row cur ser dur wo bts us act (u8.2.1 0) (u8.2.1 1)) := hD1.weaken (fun _ q _ h => xA_up hSz _ h)
  have hP : va_P (dC, dI) vwCl (xw ad cd w wr fl (u4.2.1 0) (u4.2.1 1) lw rot vb rec tk live row cur ser dur wo bts us act (u8.2.1 0) (u8.2.1 1)) H1 := hP1
  generalize H1 = H at hP hS ⊢
  generalize locs1 = locs at hS ⊢
  have hk8 := q8
  refine lv_aload_n hx hb d_R_mount_11 rfl (lv_at hl 0 rfl) ?_
  refine va_get (D := (dC, dI)) (ci := 4) (v := .ref (ad 1)) (C := R_R) (T := F_R) (N := 7) hx hb hts (fun w h => List.mem_cons_of_mem _ (in_R w h)) hown hK hP 0 rfl rfl 0 (by decide) (hts (.fieldLink R_R 12 R_R "store" "LWeighRecorder$Store;") (List.mem_cons_of_mem _ t_114)) (fun _ h9 => h9) rfl d_R_mount_12 ?_
  refine lv_aload_n hx hb d_R_mount_15 rfl (lv_at hl 0 rfl) ?_
  refine va_get (D := (dC, dI)) (ci := 4) (v := .ref (ad 3)) (C := R_R) (T := F_R) (N := 7) hx hb hts (fun w h => List.mem_cons_of_mem _ (in_R w h)) hown hK hP 0 rfl rfl 2 (by decide) (hts (.fieldLink R_R 26 R_R "log" "LWeighRecorder$Log;") (List.mem_cons_of_mem _ t_116)) (fun _ h9 => h9) rfl d_R_mount_16 ?_
  have hSz := hS.1
  refine va_callv (va_runV (C := R_S) (As := [.ref (ad 3)]) (rest := []) ⟨hx, hb, hml, hown, hts⟩ (c_S_restore l dC dI ad cd H.size w wr fl (u4.2.1 0) (u4.2.1 1) lw rot vb rec tk live row cur ser dur wo bts us act (u8.2.1 0) (u8.2.1 1)  (by first | omega | rfl | assumption | decide)) (cwV 1 hts (g_V t_152 t_153 t_154 t_2 t_155) rfl rfl rfl (by decide +kernel) ⟨by decide, by decide⟩) (xP_v hP hK hD hN 1 rfl rfl) rfl rfl hl.1 rfl (lv_room (Nat.le_of_ble_eq_true rfl)) d_R_mount_19 ⟨Nat.le_refl _, Nat.le_refl _⟩) hS (fun q _ h => xA_up hS.1 q h) (fun q h => xA_up hS.1 q h) (fun u19 t H1 locs1 ht hvm q19 hB hz1 hk1 hS => ?_)
  obtain ⟨hP1, hK1, hD1⟩ := hB
  rw [ht] at hP1
  have hD : va_D (xA 15 ad s.heap.size) (xw ad cd w wr fl (u4.2.1 0) (u4.2.1 1) (u19.1 1) (u19.1 2) (u19.1 3) (nI (u19.2.2 0)) (nI (u19.2.2 1)) (u19.1 0) row (u19.2.1 0) (u19.2.1 1) (u19.2.1 3) (u19.2.1 2) bts us act (u8.2.1 0) (u8.2.1 1)) := hD1.weaken (fun _ q _ h => xA_up hSz _ h)
  have hP : va_P (dC, dI) vwCl (xw ad cd w wr fl (u4.2.1 0) (u4.2.1 1) (u19.1 1) (u19.1 2) (u19.1 3) (nI (u19.2.2 0)) (nI (u19.2.2 1)) (u19.1 0) row (u19.2.1 0) (u19.2.1 1) (u19.2.1 3) (u19.2.1 2) bts us act (u8.2.1 0) (u8.2.1 1)) H1 := hP1
  generalize H1 = H at hP hS ⊢
  generalize locs1 = locs at hS ⊢
  obtain ⟨hlv, hcu, hwo, hrt, hr48, hrot⟩ := q19
  refine lv_aload_n hx hb d_R_mount_22 rfl (lv_at hl 0 rfl) ?_
  refine va_get (D := (dC, dI)) (ci := 4) (v := .ref (ad 2)) (C := R_R) (T := F_R) (N := 7) hx hb hts (fun w h => List.mem_cons_of_mem _ (in_R w h)) hown hK hP 0 rfl rfl 1 (by decide) (hts (.fieldLink R_R 20 R_R "chip" "LWeighRecorder$Chip;") (List.mem_cons_of_mem _ t_115)) (fun _ h9 => h9) rfl d_R_mount_23 ?_
  have hSz := hS.1
  refine va_callv (va_runV (C := R_C) (As := []) (rest := []) ⟨hx, hb, hml, hown, hts⟩ (c_C_turnOn l dC dI ad cd H.size w wr fl (u4.2.1 0) (u4.2.1 1) (u19.1 1) (u19.1 2) (u19.1 3) (nI (u19.2.2 0)) (nI (u19.2.2 1)) (u19.1 0) row (u19.2.1 0) (u19.2.1 1) (u19.2.1 3) (u19.2.1 2) bts us act (u8.2.1 0) (u8.2.1 1)  ) (cwV 0 hts (g_V t_213 t_214 t_215 t_3 t_216) rfl rfl rfl (by decide +kernel) ⟨by decide, by decide⟩) (xP_v hP hK hD hN 2 rfl rfl) rfl rfl hl.1 rfl (lv_room (Nat.le_of_ble_eq_true rfl)) d_R_mount_26 ⟨Nat.le_refl _, Nat.le_refl _⟩) hS (fun q _ h => xA_up hS.1 q h) (fun q h => xA_up hS.1 q h) (fun u26 t H1 locs1 ht hvm q26 hB hz1 hk1 hS => ?_)
  obtain ⟨hP1, hK1, hD1⟩ := hB
  rw [ht] at hP1
  have hD : va_D (xA 15 ad s.heap.size) (xw ad cd w wr fl (u26.2.1 0) (u4.2.1 1) (u19.1 1) (u19.1 2) (u19.1 3) (nI (u19.2.2 0)) (nI (u19.2.2 1)) (u19.1 0) row (u19.2.1 0) (u19.2.1 1) (u19.2.1 3) (u19.2.1 2) bts us act (u8.2.1 0) (u8.2.1 1)) := hD1.weaken (fun _ q _ h => xA_up hSz _ h)
  have hP : va_P (dC, dI) vwCl (xw ad cd w wr fl (u26.2.1 0) (u4.2.1 1) (u19.1 1) (u19.1 2) (u19.1 3) (nI (u19.2.2 0)) (nI (u19.2.2 1)) (u19.1 0) row (u19.2.1 0) (u19.2.1 1) (u19.2.1 3) (u19.2.1 2) bts us act (u8.2.1 0) (u8.2.1 1)) H1 := hP1
  generalize H1 = H at hP hS ⊢
  generalize locs1 = locs at hS ⊢
  have hpw := q26
  refine lv_aload_n hx hb d_R_mount_29 rfl (lv_at hl 0 rfl) ?_
  refine va_get (D := (dC, dI)) (ci := 4) (v := .ref (ad 3)) (C := R_R) (T := F_R) (N := 7) hx hb hts (fun w h => List.mem_cons_of_mem _ (in_R w h)) hown hK hP 0 rfl rfl 2 (by decide) (hts (.fieldLink R_R 26 R_R "log" "LWeighRecorder$Log;") (List.mem_cons_of_mem _ t_116)) (fun _ h9 => h9) rfl d_R_mount_30 ?_
  refine vp_callSi (va_runV (C := R_G) (As := []) (rest := []) ⟨hx, hb, hml, hown, hts⟩ (c_G_ticketCount l dC dI ad cd w wr fl (u26.2.1 0) (u4.2.1 1) (u19.1 1) (u19.1 2) (u19.1 3) (nI (u19.2.2 0)) (nI (u19.2.2 1)) (u19.1 0) row (u19.2.1 0) (u19.2.1 1) (u19.2.1 3) (u19.2.1 2) bts us act (u8.2.1 0) (u8.2.1 1) (u19.2.2 1) ) (cwV 0 hts (g_V t_217 t_218 t_219 t_4 t_220) rfl rfl rfl (by decide +kernel) ⟨by decide, by decide⟩) (xR_v hP hK hN 3 rfl rfl) rfl rfl hl.1 rfl (lv_room (Nat.le_of_ble_eq_true rfl)) d_R_mount_33 ⟨Nat.le_refl _, Nat.le_refl _⟩).run (fun r33 q33 => ?_)
  have q33 := q33.symm
  subst q33
  exact W.iret (v := nI (u19.2.2 1)) hx hb hr (fun t ht hW => ⟨⟨nI (u19.2.2 1), (fun i => [u19.1 0, u19.1 1, u19.1 2, u19.1 3].getD i (fun _ => 0), fun i => [u26.2.1 0, u4.2.1 1, u8.2.1 0, u8.2.1 1, u19.2.1 0, u19.2.1 1, u19.2.1 2, u19.2.1 3].getD i 0, fun i => [u19.2.2 0, u19.2.2 1].getD i 0), rfl, ⟨by first | exact hpw | exact B01.n0 | exact B01.n1, by first | exact hrt | omega, by first | exact hr48 | omega, hrot, hlv, by first | exact hcu | exact PG.m1, hwo⟩, ⟨by rw [ht]; exact hP, va_K.moved hW.alike hK, hD⟩⟩, hS.F ht⟩) hS.2.2 d_R_mount_36
set_option maxHeartbeats 4000000 in
set_option maxRecDepth 100000 in
theorem c_R_wearOf_ok (l : Launch) (dC : Nat → ClassId) (dI : Nat → Nat → Nat) (ad cd : Nat → Nat) (w wr fl : Nat → Int32) (pw sc : Int32) (lw rot vb : Nat → Int32) (rec tk : Int32) (live row : Nat → Int32) (cur ser dur wo : Int32) (bts : Nat → Int32) (us : Int32) (act : Nat → Int32) (rd rs : Int32) (b : Int32) (hok : (nI 0 ≤ b ∧ b ≤ nI 7)) : Met l y_R_wearOf w_R_wearOf ({ frames := 1, cells := 0, slots := 0, locals := 22 }) (xR (dC, dI) vwCl (xt cd) (xw ad cd w wr fl pw sc lw rot vb rec tk live row cur ser dur wo bts us act rd rs) [.ref (ad 0), .int b]) (vp_Si (fun r => True)) 0 0 (fun _ => False) := by
  refine Met.ofW (cc := b_R_wearOf) (maxL := 2) (ret := (some (.int))) (by decide) rfl ?_
  intro P e s m args below meth c0 s₁ B hml hv
  obtain ⟨rfl, hP, hK, hN⟩ := hv
  have hx := B.exec
  have hb := B.bytes
  have hr := B.returns
  have hts := atoms_spec (ws := w_R_wearOf) B.pre
  have hown : s.vm.findClass R_R = some m.cls := findClass_of_methodNamed B.named
  have hlocks := B.notSynchronized
  have hl := lv_entry ([.ref (ad 0), .int b]) (n := 2) (Nat.le_of_ble_eq_true rfl)
  rw [lg_entry_eq]
  generalize (lg_sl ([.ref (ad 0), .int b]) ++ List.replicate (2 - (lg_sl ([.ref (ad 0), .int b])).length) Slot.unset).toArray = ls at hl ⊢
  have hl : lv_has ls 2 [(0, .ref (ad 0)), (1, .int b)] := hl
  refine lv_iload_n hx hb d_R_wearOf_0 rfl (lv_at hl 1 rfl) ?_
  refine lv_iconst (v := nI 0) hx hb d_R_wearOf_1 (by decide) ?_
  refine lv_bipush (v := nI 7) hx hb d_R_wearOf_2 (by decide) ?_
  refine vp_callSi (va_runS (As := [.int b, .int (nI 0), .int (nI 7)]) (rest := []) ⟨hx, hb, hml, hown, hts⟩ (c_R_isWithin l dC dI b (nI 0) (nI 7) ) (cwS 3 hts (g_S t_271 t_207 t_1 t_208) rfl rfl rfl (by decide +kernel) ⟨by decide, by decide⟩) (xR_s (va_P.sub hP [] rfl) (hK.sub [] rfl) hN) rfl rfl hl.1 rfl (lv_room (Nat.le_of_ble_eq_true rfl)) d_R_wearOf_4 ⟨Nat.le_refl _, Nat.le_refl _⟩).run (fun r4 q4 => ?_)
  obtain ⟨rfl, -⟩ := q4.resolve_right (fun z => z.2 (hok))
  refine va_csv (va_runS (As := [.int (nI 1)]) (rest := []) ⟨hx, hb, hml, hown, hts⟩ (c_R_requireArgument_1 l dC dI  ) (cwS 1 hts (g_S t_272 t_273 t_1 t_274) rfl rfl rfl (by decide +kernel) ⟨by decide, by decide⟩) (xR_s (va_P.sub hP [] rfl) (hK.sub [] rfl) hN) rfl rfl hl.1 rfl (lv_room (Nat.le_of_ble_eq_true rfl)) d_R_wearOf_7 ⟨Nat.le_refl _, Nat.le_refl _⟩).run (fun q7 => ?_)
  obtain ⟨j, hj, rfl⟩ := in_nt (n := 7) hok
  refine lv_aload_n hx hb d_R_wearOf_10 rfl (lv_at hl 0 rfl) ?_
  refine va_get (D := (dC, dI)) (ci := 4) (v := .ref (ad 2)) (C := R_R) (T := F_R) (N := 7) hx hb hts (fun w h => List.mem_cons_of_mem _ (in_R w h)) hown hK hP 0 rfl rfl 1 (by decide) (hts (.fieldLink R_R 20 R_R "chip" "LWeighRecorder$Chip;") (List.mem_cons_of_mem _ t_115)) (fun _ h9 => h9) rfl d_R_wearOf_11 ?_
  refine lv_iload_n hx hb d_R_wearOf_14 rfl (lv_at hl 1 rfl) ?_
  refine vp_callSi (va_runV (C := R_C) (As := [.int (nI j)]) (rest := []) ⟨hx, hb, hml, hown, hts⟩ (c_C_wearAt l dC dI ad cd w wr fl pw sc lw rot vb rec tk live row cur ser dur wo bts us act rd rs j (by first | omega | rfl | assumption | decide)) (cwV 1 hts (g_V t_665 t_666 t_667 t_3 t_668) rfl rfl rfl (by decide +kernel) ⟨by decide, by decide⟩) (xR_v hP hK hN 2 rfl rfl) rfl rfl hl.1 rfl (lv_room (Nat.le_of_ble_eq_true rfl)) d_R_wearOf_15 ⟨Nat.le_refl _, Nat.le_refl _⟩).run (fun r15 q15 => ?_)
  have hk15 := q15
  exact W.iret (v := r15) hx hb hr (fun t ht hW => ⟨r15, rfl, trivial, ht⟩) (fun q hq => by cases hq) d_R_wearOf_18
set_option maxHeartbeats 4000000 in
set_option maxRecDepth 100000 in
theorem c_R_failBlock_ok (l : Launch) (dC : Nat → ClassId) (dI : Nat → Nat → Nat) (ad cd : Nat → Nat) (sz : Nat) (w wr fl : Nat → Int32) (pw sc : Int32) (lw rot vb : Nat → Int32) (rec tk : Int32) (live row : Nat → Int32) (cur ser dur wo : Int32) (bts : Nat → Int32) (us : Int32) (act : Nat → Int32) (rd rs : Int32) (b : Int32) (hok : (nI 0 ≤ b ∧ b ≤ nI 7)) (hfl : ∀ i, i < 8 → B01 (fl i)) : Met l y_R_failBlock w_R_failBlock ({ frames := 1, cells := 0, slots := 0, locals := 22 }) (xP (dC, dI) vwCl (xt cd) (xw ad cd w wr fl pw sc lw rot vb rec tk live row cur ser dur wo bts us act rd rs) sz [.ref (ad 0), .int b]) (va_Qv (fun (u : (Nat → Nat → Int32) × (Nat → Int32) × (Nat → Nat)) => (∀ i, i < 8 → B01 ((u.1 0) i))) (fun (u : (Nat → Nat → Int32) × (Nat → Int32) × (Nat → Nat)) (t : State) => xB (dC, dI) vwCl (xt cd) (xA 15 ad sz) (xw ad cd w wr (u.1 0) pw sc lw rot vb rec tk live row cur ser dur wo bts us act rd rs) t) (xA 15 ad sz)) 0 0 (xA 15 ad sz) := by
  refine Met.ofW (cc := b_R_failBlock) (maxL := 2) (ret := none) (by decide) rfl ?_
  intro P e s m args below meth c0 s₁ B hml hv
  obtain ⟨rfl, hsz, hP, hK, hD0, hN⟩ := hv
  have hx := B.exec
  have hb := B.bytes
  have hr := B.returns
  have hts := atoms_spec (ws := w_R_failBlock) B.pre
  have hown : s.vm.findClass R_R = some m.cls := findClass_of_methodNamed B.named
  have hlocks := B.notSynchronized
  subst hsz
  have hD := xw_D (sz := s.heap.size) hD0
  have hS : va_S (xA 15 ad s.heap.size) s.heap s.heap [] := va_S.rf
  have hA : ∀ q : Nat, s.heap.size ≤ q → (xA 15 ad s.heap.size) q := fun q h => Or.inr h
  have hl := lv_entry ([.ref (ad 0), .int b]) (n := 2) (Nat.le_of_ble_eq_true rfl)
  rw [lg_entry_eq]
  generalize (lg_sl ([.ref (ad 0), .int b]) ++ List.replicate (2 - (lg_sl ([.ref (ad 0), .int b])).length) Slot.unset).toArray = ls at hl ⊢
  have hl : lv_has ls 2 [(0, .ref (ad 0)), (1, .int b)] := hl
  refine lv_iload_n hx hb d_R_failBlock_0 rfl (lv_at hl 1 rfl) ?_
  refine lv_iconst (v := nI 0) hx hb d_R_failBlock_1 (by decide) ?_
  refine lv_bipush (v := nI 7) hx hb d_R_failBlock_2 (by decide) ?_
  refine vp_callSi (va_runS (As := [.int b, .int (nI 0), .int (nI 7)]) (rest := []) ⟨hx, hb, hml, hown, hts⟩ (c_R_isWithin l dC dI b (nI 0) (nI 7) ) (cwS 3 hts (g_S t_271 t_207 t_1 t_208) rfl rfl rfl (by decide +kernel) ⟨by decide, by decide⟩) (xR_s (va_P.sub hP [] rfl) (hK.sub [] rfl) hN) rfl rfl hl.1 rfl (lv_room (Nat.le_of_ble_eq_true rfl)) d_R_failBlock_4 ⟨Nat.le_refl _, Nat.le_refl _⟩).run (fun r4 q4 => ?_)
  obtain ⟨rfl, -⟩ := q4.resolve_right (fun z => z.2 (hok))
  refine va_csv (va_runS (As := [.int (nI 1)]) (rest := []) ⟨hx, hb, hml, hown, hts⟩ (c_R_requireArgument_1 l dC dI  ) (cwS 1 hts (g_S t_272 t_273 t_1 t_274) rfl rfl rfl (by decide +kernel) ⟨by decide, by decide⟩) (xR_s (va_P.sub hP [] rfl) (hK.sub [] rfl) hN) rfl rfl hl.1 rfl (lv_room (Nat.le_of_ble_eq_true rfl)) d_R_failBlock_7 ⟨Nat.le_refl _, Nat.le_refl _⟩).run (fun q7 => ?_)
  obtain ⟨j, hj, rfl⟩ := in_nt (n := 7) hok
  refine lv_aload_n hx hb d_R_failBlock_10 rfl (lv_at hl 0 rfl) ?_
  refine va_get (D := (dC, dI)) (ci := 4) (v := .ref (ad 2)) (C := R_R) (T := F_R) (N := 7) hx hb hts (fun w h => List.mem_cons_of_mem _ (in_R w h)) hown hK hP 0 rfl rfl 1 (by decide) (hts (.fieldLink R_R 20 R_R "chip" "LWeighRecorder$Chip;") (List.mem_cons_of_mem _ t_115)) (fun _ h9 => h9) rfl d_R_failBlock_11 ?_
  refine lv_iload_n hx hb d_R_failBlock_14 rfl (lv_at hl 1 rfl) ?_
  have hSz := hS.1
  refine va_callv (va_runV (C := R_C) (As := [.int (nI j)]) (rest := []) ⟨hx, hb, hml, hown, hts⟩ (c_C_markFailed l dC dI ad cd s.heap.size w wr fl pw sc lw rot vb rec tk live row cur ser dur wo bts us act rd rs j (by first | omega | rfl | assumption | decide) (by first | omega | rfl | assumption | decide)) (cwV 1 hts (g_V t_676 t_677 t_678 t_3 t_679) rfl rfl rfl (by decide +kernel) ⟨by decide, by decide⟩) (xP_v hP hK hD hN 2 rfl rfl) rfl rfl hl.1 rfl (lv_room (Nat.le_of_ble_eq_true rfl)) d_R_failBlock_15 ⟨Nat.le_refl _, Nat.le_refl _⟩) hS (fun q _ h => xA_up hS.1 q h) (fun q h => xA_up hS.1 q h) (fun u15 t H1 locs1 ht hvm q15 hB hz1 hk1 hS => ?_)
  obtain ⟨hP1, hK1, hD1⟩ := hB
  rw [ht] at hP1
  have hD : va_D (xA 15 ad s.heap.size) (xw ad cd w wr (u15.1 0) pw sc lw rot vb rec tk live row cur ser dur wo bts us act rd rs) := hD1.weaken (fun _ q _ h => xA_up hSz _ h)
  have hP : va_P (dC, dI) vwCl (xw ad cd w wr (u15.1 0) pw sc lw rot vb rec tk live row cur ser dur wo bts us act rd rs) H1 := hP1
  generalize H1 = H at hP hS ⊢
  generalize locs1 = locs at hS ⊢
  have hfl := q15
  exact W.vret hx hb hr (fun t ht hW => ⟨⟨(fun i => [u15.1 0].getD i (fun _ => 0), fun i => [].getD i 0, fun i => [].getD i 0), rfl, hfl, ⟨by rw [ht]; exact hP, va_K.moved hW.alike hK, hD⟩⟩, hS.F ht⟩) hS.2.2 d_R_failBlock_18
set_option maxHeartbeats 4000000 in
set_option maxRecDepth 100000 in
theorem c_R_poke_ok (l : Launch) (dC : Nat → ClassId) (dI : Nat → Nat → Nat) (ad cd : Nat → Nat) (sz : Nat) (w wr fl : Nat → Int32) (pw sc : Int32) (lw rot vb : Nat → Int32) (rec tk : Int32) (live row : Nat → Int32) (cur ser dur wo : Int32) (bts : Nat → Int32) (us : Int32) (act : Nat → Int32) (rd rs : Int32) (pa : Int32) (wo_ : Int32) (mask : Int32) (hok : ((nI 0 ≤ pa ∧ pa ≤ nI 31) ∧ (nI 0 ≤ wo_ ∧ wo_ ≤ nI 15))) : Met l y_R_poke w_R_poke ({ frames := 2, cells := 0, slots := 0, locals := 43 }) (xP (dC, dI) vwCl (xt cd) (xw ad cd w wr fl pw sc lw rot vb rec tk live row cur ser dur wo bts us act rd rs) sz [.ref (ad 0), .int pa, .int wo_, .int mask]) (va_Qv (fun (u : (Nat → Nat → Int32) × (Nat → Int32) × (Nat → Nat)) => True) (fun (u : (Nat → Nat → Int32) × (Nat → Int32) × (Nat → Nat)) (t : State) => xB (dC, dI) vwCl (xt cd) (xA 15 ad sz) (xw ad cd (u.1 0) wr fl pw sc lw rot vb rec tk live row cur ser dur wo bts us act rd rs) t) (xA 15 ad sz)) 0 0 (xA 15 ad sz) := by
  refine Met.ofW (cc := b_R_poke) (maxL := 4) (ret := none) (by decide) rfl ?_
  intro P e s m args below meth c0 s₁ B hml hv
  obtain ⟨rfl, hsz, hP, hK, hD0, hN⟩ := hv
  have hx := B.exec
  have hb := B.bytes
  have hr := B.returns
  have hts := atoms_spec (ws := w_R_poke) B.pre
  have hown : s.vm.findClass R_R = some m.cls := findClass_of_methodNamed B.named
  have hlocks := B.notSynchronized
  subst hsz
  have hD := xw_D (sz := s.heap.size) hD0
  have hS : va_S (xA 15 ad s.heap.size) s.heap s.heap [] := va_S.rf
  have hA : ∀ q : Nat, s.heap.size ≤ q → (xA 15 ad s.heap.size) q := fun q h => Or.inr h
  have hl := lv_entry ([.ref (ad 0), .int pa, .int wo_, .int mask]) (n := 4) (Nat.le_of_ble_eq_true rfl)
  rw [lg_entry_eq]
  generalize (lg_sl ([.ref (ad 0), .int pa, .int wo_, .int mask]) ++ List.replicate (4 - (lg_sl ([.ref (ad 0), .int pa, .int wo_, .int mask])).length) Slot.unset).toArray = ls at hl ⊢
  have hl : lv_has ls 4 [(0, .ref (ad 0)), (1, .int pa), (2, .int wo_), (3, .int mask)] := hl
  refine lv_iload_n hx hb d_R_poke_0 rfl (lv_at hl 1 rfl) ?_
  refine lv_iload_n hx hb d_R_poke_1 rfl (lv_at hl 2 rfl) ?_
  refine vp_callSi (va_runS (As := [.int pa, .int wo_]) (rest := []) ⟨hx, hb, hml, hown, hts⟩ (c_R_isPlace l dC dI pa wo_ ) (cwS 2 hts (g_S t_687 t_688 t_1 t_689) rfl rfl rfl (by decide +kernel) ⟨by decide, by decide⟩) (xR_s (va_P.sub hP [] rfl) (hK.sub [] rfl) hN) rfl rfl hl.1 rfl (lv_room (Nat.le_of_ble_eq_true rfl)) d_R_poke_2 ⟨Nat.le_refl _, Nat.le_refl _⟩).run (fun r2 q2 => ?_)
  obtain ⟨rfl, -⟩ := q2.resolve_right (fun z => z.2 (hok))
  refine va_csv (va_runS (As := [.int (nI 1)]) (rest := []) ⟨hx, hb, hml, hown, hts⟩ (c_R_requireArgument_1 l dC dI  ) (cwS 1 hts (g_S t_272 t_273 t_1 t_274) rfl rfl rfl (by decide +kernel) ⟨by decide, by decide⟩) (xR_s (va_P.sub hP [] rfl) (hK.sub [] rfl) hN) rfl rfl hl.1 rfl (lv_room (Nat.le_of_ble_eq_true rfl)) d_R_poke_5 ⟨Nat.le_refl _, Nat.le_refl _⟩).run (fun q5 => ?_)
  obtain ⟨j, hj, rfl⟩ := in_nt (n := 31) hok.1
  obtain ⟨k, hk, rfl⟩ := in_nt (n := 15) hok.2
  refine lv_aload_n hx hb d_R_poke_8 rfl (lv_at hl 0 rfl) ?_
  refine va_get (D := (dC, dI)) (ci := 4) (v := .ref (ad 2)) (C := R_R) (T := F_R) (N := 7) hx hb hts (fun w h => List.mem_cons_of_mem _ (in_R w h)) hown hK hP 0 rfl rfl 1 (by decide) (hts (.fieldLink R_R 20 R_R "chip" "LWeighRecorder$Chip;") (List.mem_cons_of_mem _ t_115)) (fun _ h9 => h9) rfl d_R_poke_9 ?_
  refine lv_iload_n hx hb d_R_poke_12 rfl (lv_at hl 1 rfl) ?_
  refine lv_iload_n hx hb d_R_poke_13 rfl (lv_at hl 2 rfl) ?_
  refine lv_iload_n hx hb d_R_poke_14 rfl (lv_at hl 3 rfl) ?_
  have hSz := hS.1
  refine va_callv (va_runV (C := R_C) (As := [.int (nI j), .int (nI k), .int mask]) (rest := []) ⟨hx, hb, hml, hown, hts⟩ (c_C_flip l dC dI ad cd s.heap.size w wr fl pw sc lw rot vb rec tk live row cur ser dur wo bts us act rd rs j k mask (by first | omega | rfl | assumption | decide) (by first | omega | rfl | assumption | decide)) (cwV 3 hts (g_V t_690 t_691 t_692 t_3 t_693) rfl rfl rfl (by decide +kernel) ⟨by decide, by decide⟩) (xP_v hP hK hD hN 2 rfl rfl) rfl rfl hl.1 rfl (lv_room (Nat.le_of_ble_eq_true rfl)) d_R_poke_15 ⟨Nat.le_refl _, Nat.le_refl _⟩) hS (fun q _ h => xA_up hS.1 q h) (fun q h => xA_up hS.1 q h) (fun u15 t H1 locs1 ht hvm q15 hB hz1 hk1 hS => ?_)
  obtain ⟨hP1, hK1, hD1⟩ := hB
  rw [ht] at hP1
  have hD : va_D (xA 15 ad s.heap.size) (xw ad cd (u15.1 0) wr fl pw sc lw rot vb rec tk live row cur ser dur wo bts us act rd rs) := hD1.weaken (fun _ q _ h => xA_up hSz _ h)
  have hP : va_P (dC, dI) vwCl (xw ad cd (u15.1 0) wr fl pw sc lw rot vb rec tk live row cur ser dur wo bts us act rd rs) H1 := hP1
  generalize H1 = H at hP hS ⊢
  generalize locs1 = locs at hS ⊢
  have hk15 := q15
  exact W.vret hx hb hr (fun t ht hW => ⟨⟨(fun i => [u15.1 0].getD i (fun _ => 0), fun i => [].getD i 0, fun i => [].getD i 0), rfl, trivial, ⟨by rw [ht]; exact hP, va_K.moved hW.alike hK, hD⟩⟩, hS.F ht⟩) hS.2.2 d_R_poke_18
set_option maxHeartbeats 4000000 in
set_option maxRecDepth 100000 in
theorem c_R_word_ok (l : Launch) (dC : Nat → ClassId) (dI : Nat → Nat → Nat) (ad cd : Nat → Nat) (w wr fl : Nat → Int32) (pw sc : Int32) (lw rot vb : Nat → Int32) (rec tk : Int32) (live row : Nat → Int32) (cur ser dur wo : Int32) (bts : Nat → Int32) (us : Int32) (act : Nat → Int32) (rd rs : Int32) (pa : Int32) (wo_ : Int32) (hok : ((nI 0 ≤ pa ∧ pa ≤ nI 31) ∧ (nI 0 ≤ wo_ ∧ wo_ ≤ nI 15))) : Met l y_R_word w_R_word ({ frames := 2, cells := 0, slots := 0, locals := 43 }) (xR (dC, dI) vwCl (xt cd) (xw ad cd w wr fl pw sc lw rot vb rec tk live row cur ser dur wo bts us act rd rs) [.ref (ad 0), .int pa, .int wo_]) (vp_Si (fun r => True)) 0 0 (fun _ => False) := by
  refine Met.ofW (cc := b_R_word) (maxL := 3) (ret := (some (.int))) (by decide) rfl ?_
  intro P e s m args below meth c0 s₁ B hml hv
  obtain ⟨rfl, hP, hK, hN⟩ := hv
  have hx := B.exec
  have hb := B.bytes
  have hr := B.returns
  have hts := atoms_spec (ws := w_R_word) B.pre
  have hown : s.vm.findClass R_R = some m.cls := findClass_of_methodNamed B.named
  have hlocks := B.notSynchronized
  have hl := lv_entry ([.ref (ad 0), .int pa, .int wo_]) (n := 3) (Nat.le_of_ble_eq_true rfl)
  rw [lg_entry_eq]
  generalize (lg_sl ([.ref (ad 0), .int pa, .int wo_]) ++ List.replicate (3 - (lg_sl ([.ref (ad 0), .int pa, .int wo_])).length) Slot.unset).toArray = ls at hl ⊢
  have hl : lv_has ls 3 [(0, .ref (ad 0)), (1, .int pa), (2, .int wo_)] := hl
  refine lv_iload_n hx hb d_R_word_0 rfl (lv_at hl 1 rfl) ?_
  refine lv_iload_n hx hb d_R_word_1 rfl (lv_at hl 2 rfl) ?_
  refine vp_callSi (va_runS (As := [.int pa, .int wo_]) (rest := []) ⟨hx, hb, hml, hown, hts⟩ (c_R_isPlace l dC dI pa wo_ ) (cwS 2 hts (g_S t_687 t_688 t_1 t_689) rfl rfl rfl (by decide +kernel) ⟨by decide, by decide⟩) (xR_s (va_P.sub hP [] rfl) (hK.sub [] rfl) hN) rfl rfl hl.1 rfl (lv_room (Nat.le_of_ble_eq_true rfl)) d_R_word_2 ⟨Nat.le_refl _, Nat.le_refl _⟩).run (fun r2 q2 => ?_)
  obtain ⟨rfl, -⟩ := q2.resolve_right (fun z => z.2 (hok))
  refine va_csv (va_runS (As := [.int (nI 1)]) (rest := []) ⟨hx, hb, hml, hown, hts⟩ (c_R_requireIndex_1 l dC dI  ) (cwS 1 hts (g_S t_491 t_492 t_1 t_493) rfl rfl rfl (by decide +kernel) ⟨by decide, by decide⟩) (xR_s (va_P.sub hP [] rfl) (hK.sub [] rfl) hN) rfl rfl hl.1 rfl (lv_room (Nat.le_of_ble_eq_true rfl)) d_R_word_5 ⟨Nat.le_refl _, Nat.le_refl _⟩).run (fun q5 => ?_)
  obtain ⟨j, hj, rfl⟩ := in_nt (n := 31) hok.1
  obtain ⟨k, hk, rfl⟩ := in_nt (n := 15) hok.2
  refine lv_aload_n hx hb d_R_word_8 rfl (lv_at hl 0 rfl) ?_
  refine va_get (D := (dC, dI)) (ci := 4) (v := .ref (ad 2)) (C := R_R) (T := F_R) (N := 7) hx hb hts (fun w h => List.mem_cons_of_mem _ (in_R w h)) hown hK hP 0 rfl rfl 1 (by decide) (hts (.fieldLink R_R 20 R_R "chip" "LWeighRecorder$Chip;") (List.mem_cons_of_mem _ t_115)) (fun _ h9 => h9) rfl d_R_word_9 ?_
  refine lv_iload_n hx hb d_R_word_12 rfl (lv_at hl 1 rfl) ?_
  refine lv_iload_n hx hb d_R_word_13 rfl (lv_at hl 2 rfl) ?_
  refine vp_callSi (va_runV (C := R_C) (As := [.int (nI j), .int (nI k)]) (rest := []) ⟨hx, hb, hml, hown, hts⟩ (c_C_read l dC dI ad cd w wr fl pw sc lw rot vb rec tk live row cur ser dur wo bts us act rd rs j k (by first | omega | rfl | assumption | decide) (by first | omega | rfl | assumption | decide)) (cwV 2 hts (g_V t_701 t_165 t_166 t_3 t_167) rfl rfl rfl (by decide +kernel) ⟨by decide, by decide⟩) (xR_v hP hK hN 2 rfl rfl) rfl rfl hl.1 rfl (lv_room (Nat.le_of_ble_eq_true rfl)) d_R_word_14 ⟨Nat.le_refl _, Nat.le_refl _⟩).run (fun r14 q14 => ?_)
  have q14 := q14.symm
  subst q14
  exact W.iret (v := w (16 * j + k)) hx hb hr (fun t ht hW => ⟨w (16 * j + k), rfl, trivial, ht⟩) (fun q hq => by cases hq) d_R_word_17
set_option maxHeartbeats 4000000 in
set_option maxRecDepth 100000 in
theorem c_R_state (l : Launch) (dC : Nat → ClassId) (dI : Nat → Nat → Nat) (ad cd : Nat → Nat) (w wr fl : Nat → Int32) (pw sc : Int32) (lw rot vb : Nat → Int32) (rec tk : Int32) (live row : Nat → Int32) (cur ser dur wo : Int32) (bts : Nat → Int32) (us : Int32) (act : Nat → Int32) (rd rs : Int32) (rn : Nat) (tn : Nat) (what : Int32) (hpw : B01 pw) (hlv : ∀ i, i < 16 → PG 32 (live i)) : Met l y_R_state w_R_state ({ frames := 3, cells := 0, slots := 0, locals := 68 }) (xR (dC, dI) vwCl (xt cd) (xw ad cd w wr fl pw sc lw rot vb (nI rn) (nI tn) live row cur ser dur wo bts us act rd rs) [.ref (ad 0), .int what]) (vp_Si (fun r => True)) 0 0 (fun _ => False) := by
  refine Met.ofW (cc := b_R_state) (maxL := 3) (ret := (some (.int))) (by decide) rfl ?_
  intro P e s m args below meth c0 s₁ B hml hv
  obtain ⟨rfl, hP, hK, hN⟩ := hv
  have hx := B.exec
  have hb := B.bytes
  have hr := B.returns
  have hts := atoms_spec (ws := w_R_state) B.pre
  have hown : s.vm.findClass R_R = some m.cls := findClass_of_methodNamed B.named
  have hlocks := B.notSynchronized
  have hl := lv_entry ([.ref (ad 0), .int what]) (n := 3) (Nat.le_of_ble_eq_true rfl)
  rw [lg_entry_eq]
  generalize (lg_sl ([.ref (ad 0), .int what]) ++ List.replicate (3 - (lg_sl ([.ref (ad 0), .int what])).length) Slot.unset).toArray = ls at hl ⊢
  have hl : lv_has ls 3 [(0, .ref (ad 0)), (1, .int what)] := hl
  refine lv_aload_n hx hb d_R_state_0 rfl (lv_at hl 0 rfl) ?_
  refine va_get (D := (dC, dI)) (ci := 4) (v := .ref (ad 2)) (C := R_R) (T := F_R) (N := 7) hx hb hts (fun w h => List.mem_cons_of_mem _ (in_R w h)) hown hK hP 0 rfl rfl 1 (by decide) (hts (.fieldLink R_R 20 R_R "chip" "LWeighRecorder$Chip;") (List.mem_cons_of_mem _ t_115)) (fun _ h9 => h9) rfl d_R_state_1 ?_
  refine vp_callSi (va_runV (C := R_C) (As := []) (rest := []) ⟨hx, hb, hml, hown, hts⟩ (c_C_isPowered l dC dI ad cd w wr fl pw sc lw rot vb (nI rn) (nI tn) live row cur ser dur wo bts us act rd rs  (by first | omega | rfl | assumption | decide)) (cwV 0 hts (g_V t_225 t_226 t_227 t_3 t_228) rfl rfl rfl (by decide +kernel) ⟨by decide, by decide⟩) (xR_v hP hK hN 2 rfl rfl) rfl rfl hl.1 rfl (lv_room (Nat.le_of_ble_eq_true rfl)) d_R_state_4 ⟨Nat.le_refl _, Nat.le_refl _⟩).run (fun r4 q4 => ?_)
  have q4 := q4.symm
  subst q4
  refine lv_istore_n hx hb d_R_state_7 rfl hl (by decide) rfl (fun ls hl => ?_)
  have hl : lv_has ls 3 [(2, .int pw), (0, .ref (ad 0)), (1, .int what)] := hl
  refine lv_iload_n hx hb d_R_state_8 rfl (lv_at hl 2 rfl) ?_
  refine lv_topi (fun sx esx => ?_)
  rcases sw_in sx 8 with hsw | ⟨j, hj, ej⟩
  ·
    refine lv_tableOut (tgt := 187) hx hb d_R_state_9 hsw (by decide) ?_
    refine lv_iconst (v := (-1)) hx hb d_R_state_187 (by decide) ?_
    exact W.iret (v := (-1)) hx hb hr (fun t ht hW => ⟨(-1), rfl, trivial, ht⟩) (fun q hq => by cases hq) d_R_state_188
  ·
    rcases (show j = 0 ∨ j = 1 ∨ j = 2 ∨ j = 3 ∨ j = 4 ∨ j = 5 ∨ j = 6 ∨ j = 7 ∨ j = 8 by omega) with rfl | rfl | rfl | rfl | rfl | rfl | rfl | rfl | rfl
    ·
      subst ej
      refine lv_tableIn (off := 51) (tgt := 60) hx hb d_R_state_9 (by decide) (by decide) rfl (by decide) ?_
      refine lv_iload_n hx hb d_R_state_60 rfl (lv_at hl 0 rfl) ?_
      refine lv_if_eq (tgt := 74) hx hb d_R_state_61 (by decide) (fun c61 => ?_) (fun c61 => ?_)
      ·
        refine lv_iconst (v := nI 0) hx hb d_R_state_74 (by decide) ?_
        exact W.iret (v := nI 0) hx hb hr (fun t ht hW => ⟨nI 0, rfl, trivial, ht⟩) (fun q hq => by cases hq) d_R_state_75
      ·
        refine lv_aload_n hx hb d_R_state_64 rfl (lv_at hl 1 rfl) ?_
        refine va_get (D := (dC, dI)) (ci := 4) (v := .ref (ad 3)) (C := R_R) (T := F_R) (N := 7) hx hb hts (fun w h => List.mem_cons_of_mem _ (in_R w h)) hown hK hP 0 rfl rfl 2 (by decide) (hts (.fieldLink R_R 26 R_R "log" "LWeighRecorder$Log;") (List.mem_cons_of_mem _ t_116)) (fun _ h9 => h9) rfl d_R_state_65 ?_
        refine vp_callSi (va_runV (C := R_G) (As := []) (rest := []) ⟨hx, hb, hml, hown, hts⟩ (c_G_recordCount l dC dI ad cd w wr fl pw sc lw rot vb (nI rn) (nI tn) live row cur ser dur wo bts us act rd rs rn ) (cwV 0 hts (g_V t_229 t_210 t_211 t_4 t_212) rfl rfl rfl (by decide +kernel) ⟨by decide, by decide⟩) (xR_v hP hK hN 3 rfl rfl) rfl rfl hl.1 rfl (lv_room (Nat.le_of_ble_eq_true rfl)) d_R_state_68 ⟨Nat.le_refl _, Nat.le_refl _⟩).run (fun r68 q68 => ?_)
        have q68 := q68.symm
        subst q68
        refine lv_goto (tgt := 75) hx hb d_R_state_71 (by decide) ?_
        exact W.iret (v := nI rn) hx hb hr (fun t ht hW => ⟨nI rn, rfl, trivial, ht⟩) (fun q hq => by cases hq) d_R_state_75
    ·
      subst ej
      refine lv_tableIn (off := 67) (tgt := 76) hx hb d_R_state_9 (by decide) (by decide) rfl (by decide) ?_
      refine lv_iload_n hx hb d_R_state_76 rfl (lv_at hl 0 rfl) ?_
      refine lv_if_eq (tgt := 90) hx hb d_R_state_77 (by decide) (fun c77 => ?_) (fun c77 => ?_)
      ·
        refine lv_iconst (v := nI 0) hx hb d_R_state_90 (by decide) ?_
        exact W.iret (v := nI 0) hx hb hr (fun t ht hW => ⟨nI 0, rfl, trivial, ht⟩) (fun q hq => by cases hq) d_R_state_91
      ·
        refine lv_aload_n hx hb d_R_state_80 rfl (lv_at hl 1 rfl) ?_
        refine va_get (D := (dC, dI)) (ci := 4) (v := .ref (ad 1)) (C := R_R) (T := F_R) (N := 7) hx hb hts (fun w h => List.mem_cons_of_mem _ (in_R w h)) hown hK hP 0 rfl rfl 0 (by decide) (hts (.fieldLink R_R 12 R_R "store" "LWeighRecorder$Store;") (List.mem_cons_of_mem _ t_114)) (fun _ h9 => h9) rfl d_R_state_81 ?_
        refine vp_callSi (va_runV (C := R_S) (As := []) (rest := []) ⟨hx, hb, hml, hown, hts⟩ (c_S_durableCount l dC dI ad cd w wr fl pw sc lw rot vb (nI rn) (nI tn) live row cur ser dur wo bts us act rd rs  ) (cwV 0 hts (g_V t_230 t_231 t_232 t_2 t_233) rfl rfl rfl (by decide +kernel) ⟨by decide, by decide⟩) (xR_v hP hK hN 1 rfl rfl) rfl rfl hl.1 rfl (lv_room (Nat.le_of_ble_eq_true rfl)) d_R_state_84 ⟨Nat.le_refl _, Nat.le_refl _⟩).run (fun r84 q84 => ?_)
        have hk84 := q84
        refine lv_goto (tgt := 91) hx hb d_R_state_87 (by decide) ?_
        exact W.iret (v := r84) hx hb hr (fun t ht hW => ⟨r84, rfl, trivial, ht⟩) (fun q hq => by cases hq) d_R_state_91
    ·
      subst ej
      refine lv_tableIn (off := 83) (tgt := 92) hx hb d_R_state_9 (by decide) (by decide) rfl (by decide) ?_
      refine lv_iload_n hx hb d_R_state_92 rfl (lv_at hl 0 rfl) ?_
      refine lv_if_eq (tgt := 106) hx hb d_R_state_93 (by decide) (fun c93 => ?_) (fun c93 => ?_)
      ·
        refine lv_iconst (v := nI 0) hx hb d_R_state_106 (by decide) ?_
        exact W.iret (v := nI 0) hx hb hr (fun t ht hW => ⟨nI 0, rfl, trivial, ht⟩) (fun q hq => by cases hq) d_R_state_107
      ·
        refine lv_aload_n hx hb d_R_state_96 rfl (lv_at hl 1 rfl) ?_
        refine va_get (D := (dC, dI)) (ci := 4) (v := .ref (ad 3)) (C := R_R) (T := F_R) (N := 7) hx hb hts (fun w h => List.mem_cons_of_mem _ (in_R w h)) hown hK hP 0 rfl rfl 2 (by decide) (hts (.fieldLink R_R 26 R_R "log" "LWeighRecorder$Log;") (List.mem_cons_of_mem _ t_116)) (fun _ h9 => h9) rfl d_R_state_97 ?_
        refine vp_callSi (va_runV (C := R_G) (As := []) (rest := []) ⟨hx, hb, hml, hown, hts⟩ (c_G_ticketCount l dC dI ad cd w wr fl pw sc lw rot vb (nI rn) (nI tn) live row cur ser dur wo bts us act rd rs tn ) (cwV 0 hts (g_V t_217 t_218 t_219 t_4 t_220) rfl rfl rfl (by decide +kernel) ⟨by decide, by decide⟩) (xR_v hP hK hN 3 rfl rfl) rfl rfl hl.1 rfl (lv_room (Nat.le_of_ble_eq_true rfl)) d_R_state_100 ⟨Nat.le_refl _, Nat.le_refl _⟩).run (fun r100 q100 => ?_)
        have q100 := q100.symm
        subst q100
        refine lv_goto (tgt := 107) hx hb d_R_state_103 (by decide) ?_
        exact W.iret (v := nI tn) hx hb hr (fun t ht hW => ⟨nI tn, rfl, trivial, ht⟩) (fun q hq => by cases hq) d_R_state_107
    ·
      subst ej
      refine lv_tableIn (off := 99) (tgt := 108) hx hb d_R_state_9 (by decide) (by decide) rfl (by decide) ?_
      refine lv_iload_n hx hb d_R_state_108 rfl (lv_at hl 0 rfl) ?_
      refine lv_if_eq (tgt := 122) hx hb d_R_state_109 (by decide) (fun c109 => ?_) (fun c109 => ?_)
      ·
        refine lv_iconst (v := nI 0) hx hb d_R_state_122 (by decide) ?_
        exact W.iret (v := nI 0) hx hb hr (fun t ht hW => ⟨nI 0, rfl, trivial, ht⟩) (fun q hq => by cases hq) d_R_state_123
      ·
        refine lv_aload_n hx hb d_R_state_112 rfl (lv_at hl 1 rfl) ?_
        refine va_get (D := (dC, dI)) (ci := 4) (v := .ref (ad 1)) (C := R_R) (T := F_R) (N := 7) hx hb hts (fun w h => List.mem_cons_of_mem _ (in_R w h)) hown hK hP 0 rfl rfl 0 (by decide) (hts (.fieldLink R_R 12 R_R "store" "LWeighRecorder$Store;") (List.mem_cons_of_mem _ t_114)) (fun _ h9 => h9) rfl d_R_state_113 ?_
        refine vp_callSi (va_runV (C := R_S) (As := []) (rest := []) ⟨hx, hb, hml, hown, hts⟩ (c_S_livePageCount l dC dI ad cd w wr fl pw sc lw rot vb (nI rn) (nI tn) live row cur ser dur wo bts us act rd rs  ) (cwV 0 hts (g_V t_234 t_235 t_236 t_2 t_237) rfl rfl rfl (by decide +kernel) ⟨by decide, by decide⟩) (xR_v hP hK hN 1 rfl rfl) rfl rfl hl.1 rfl (lv_room (Nat.le_of_ble_eq_true rfl)) d_R_state_116 ⟨Nat.le_refl _, Nat.le_refl _⟩).run (fun r116 q116 => ?_)
        have hk116 := q116
        refine lv_goto (tgt := 123) hx hb d_R_state_119 (by decide) ?_
        exact W.iret (v := r116) hx hb hr (fun t ht hW => ⟨r116, rfl, trivial, ht⟩) (fun q hq => by cases hq) d_R_state_123
    ·
      subst ej
      refine lv_tableIn (off := 115) (tgt := 124) hx hb d_R_state_9 (by decide) (by decide) rfl (by decide) ?_
      refine lv_iload_n hx hb d_R_state_124 rfl (lv_at hl 0 rfl) ?_
      refine lv_if_eq (tgt := 135) hx hb d_R_state_125 (by decide) (fun c125 => ?_) (fun c125 => ?_)
      ·
        refine lv_iconst (v := nI 0) hx hb d_R_state_135 (by decide) ?_
        exact W.iret (v := nI 0) hx hb hr (fun t ht hW => ⟨nI 0, rfl, trivial, ht⟩) (fun q hq => by cases hq) d_R_state_136
      ·
        refine lv_aload_n hx hb d_R_state_128 rfl (lv_at hl 1 rfl) ?_
        refine va_get (D := (dC, dI)) (ci := 4) (v := .int rd) (C := R_R) (T := F_R) (N := 7) hx hb hts (fun w h => List.mem_cons_of_mem _ (in_R w h)) hown hK hP 0 rfl rfl 5 (by decide) (hts (.fieldLink R_R 41 R_R "readings" "I") (List.mem_cons_of_mem _ t_119)) (fun _ h9 => h9) rfl d_R_state_129 ?_
        refine lv_goto (tgt := 136) hx hb d_R_state_132 (by decide) ?_
        exact W.iret (v := rd) hx hb hr (fun t ht hW => ⟨rd, rfl, trivial, ht⟩) (fun q hq => by cases hq) d_R_state_136
    ·
      subst ej
      refine lv_tableIn (off := 128) (tgt := 137) hx hb d_R_state_9 (by decide) (by decide) rfl (by decide) ?_
      refine lv_iload_n hx hb d_R_state_137 rfl (lv_at hl 0 rfl) ?_
      refine lv_if_eq (tgt := 151) hx hb d_R_state_138 (by decide) (fun c138 => ?_) (fun c138 => ?_)
      ·
        refine lv_iconst (v := nI 0) hx hb d_R_state_151 (by decide) ?_
        exact W.iret (v := nI 0) hx hb hr (fun t ht hW => ⟨nI 0, rfl, trivial, ht⟩) (fun q hq => by cases hq) d_R_state_152
      ·
        refine lv_aload_n hx hb d_R_state_141 rfl (lv_at hl 1 rfl) ?_
        refine va_get (D := (dC, dI)) (ci := 4) (v := .ref (ad 1)) (C := R_R) (T := F_R) (N := 7) hx hb hts (fun w h => List.mem_cons_of_mem _ (in_R w h)) hown hK hP 0 rfl rfl 0 (by decide) (hts (.fieldLink R_R 12 R_R "store" "LWeighRecorder$Store;") (List.mem_cons_of_mem _ t_114)) (fun _ h9 => h9) rfl d_R_state_142 ?_
        refine vp_callSi (va_runV (C := R_S) (As := []) (rest := []) ⟨hx, hb, hml, hown, hts⟩ (c_S_latestSerial l dC dI ad cd w wr fl pw sc lw rot vb (nI rn) (nI tn) live row cur ser dur wo bts us act rd rs  ) (cwV 0 hts (g_V t_242 t_243 t_244 t_2 t_245) rfl rfl rfl (by decide +kernel) ⟨by decide, by decide⟩) (xR_v hP hK hN 1 rfl rfl) rfl rfl hl.1 rfl (lv_room (Nat.le_of_ble_eq_true rfl)) d_R_state_145 ⟨Nat.le_refl _, Nat.le_refl _⟩).run (fun r145 q145 => ?_)
        have hk145 := q145
        refine lv_goto (tgt := 152) hx hb d_R_state_148 (by decide) ?_
        exact W.iret (v := r145) hx hb hr (fun t ht hW => ⟨r145, rfl, trivial, ht⟩) (fun q hq => by cases hq) d_R_state_152
    ·
      subst ej
      refine lv_tableIn (off := 144) (tgt := 153) hx hb d_R_state_9 (by decide) (by decide) rfl (by decide) ?_
      refine lv_iload_n hx hb d_R_state_153 rfl (lv_at hl 0 rfl) ?_
      refine lv_if_eq (tgt := 167) hx hb d_R_state_154 (by decide) (fun c154 => ?_) (fun c154 => ?_)
      ·
        refine lv_iconst (v := (-1)) hx hb d_R_state_167 (by decide) ?_
        exact W.iret (v := (-1)) hx hb hr (fun t ht hW => ⟨(-1), rfl, trivial, ht⟩) (fun q hq => by cases hq) d_R_state_168
      ·
        refine lv_aload_n hx hb d_R_state_157 rfl (lv_at hl 1 rfl) ?_
        refine va_get (D := (dC, dI)) (ci := 4) (v := .ref (ad 1)) (C := R_R) (T := F_R) (N := 7) hx hb hts (fun w h => List.mem_cons_of_mem _ (in_R w h)) hown hK hP 0 rfl rfl 0 (by decide) (hts (.fieldLink R_R 12 R_R "store" "LWeighRecorder$Store;") (List.mem_cons_of_mem _ t_114)) (fun _ h9 => h9) rfl d_R_state_158 ?_
        refine vp_callSi (va_runV (C := R_S) (As := []) (rest := []) ⟨hx, hb, hml, hown, hts⟩ (c_S_cursorBlock l dC dI ad cd w wr fl pw sc lw rot vb (nI rn) (nI tn) live row cur ser dur wo bts us act rd rs  ) (cwV 0 hts (g_V t_246 t_247 t_248 t_2 t_249) rfl rfl rfl (by decide +kernel) ⟨by decide, by decide⟩) (xR_v hP hK hN 1 rfl rfl) rfl rfl hl.1 rfl (lv_room (Nat.le_of_ble_eq_true rfl)) d_R_state_161 ⟨Nat.le_refl _, Nat.le_refl _⟩).run (fun r161 q161 => ?_)
        have hk161 := q161
        refine lv_goto (tgt := 168) hx hb d_R_state_164 (by decide) ?_
        exact W.iret (v := r161) hx hb hr (fun t ht hW => ⟨r161, rfl, trivial, ht⟩) (fun q hq => by cases hq) d_R_state_168
    ·
      subst ej
      refine lv_tableIn (off := 160) (tgt := 169) hx hb d_R_state_9 (by decide) (by decide) rfl (by decide) ?_
      refine lv_aload_n hx hb d_R_state_169 rfl (lv_at hl 1 rfl) ?_
      refine va_get (D := (dC, dI)) (ci := 4) (v := .ref (ad 2)) (C := R_R) (T := F_R) (N := 7) hx hb hts (fun w h => List.mem_cons_of_mem _ (in_R w h)) hown hK hP 0 rfl rfl 1 (by decide) (hts (.fieldLink R_R 20 R_R "chip" "LWeighRecorder$Chip;") (List.mem_cons_of_mem _ t_115)) (fun _ h9 => h9) rfl d_R_state_170 ?_
      refine vp_callSi (va_runV (C := R_C) (As := []) (rest := []) ⟨hx, hb, hml, hown, hts⟩ (c_C_usableFreePages l dC dI ad cd w wr fl pw sc lw rot vb (nI rn) (nI tn) live row cur ser dur wo bts us act rd rs  ) (cwV 0 hts (g_V t_250 t_251 t_252 t_3 t_253) rfl rfl rfl (by decide +kernel) ⟨by decide, by decide⟩) (xR_v hP hK hN 2 rfl rfl) rfl rfl hl.1 rfl (lv_room (Nat.le_of_ble_eq_true rfl)) d_R_state_173 ⟨Nat.le_refl _, Nat.le_refl _⟩).run (fun r173 q173 => ?_)
      have hk173 := q173
      exact W.iret (v := r173) hx hb hr (fun t ht hW => ⟨r173, rfl, trivial, ht⟩) (fun q hq => by cases hq) d_R_state_176
    ·
      subst ej
      refine lv_tableIn (off := 168) (tgt := 177) hx hb d_R_state_9 (by decide) (by decide) rfl (by decide) ?_
      refine lv_iload_n hx hb d_R_state_177 rfl (lv_at hl 0 rfl) ?_
      refine lv_if_eq (tgt := 185) hx hb d_R_state_178 (by decide) (fun c178 => ?_) (fun c178 => ?_)
      ·
        refine lv_iconst (v := nI 0) hx hb d_R_state_185 (by decide) ?_
        exact W.iret (v := nI 0) hx hb hr (fun t ht hW => ⟨nI 0, rfl, trivial, ht⟩) (fun q hq => by cases hq) d_R_state_186
      ·
        refine lv_iconst (v := nI 1) hx hb d_R_state_181 (by decide) ?_
        refine lv_goto (tgt := 186) hx hb d_R_state_182 (by decide) ?_
        exact W.iret (v := nI 1) hx hb hr (fun t ht hW => ⟨nI 1, rfl, trivial, ht⟩) (fun q hq => by cases hq) d_R_state_186
