set_option maxHeartbeats 4000000 in
set_option maxRecDepth 100000 in
theorem c_R_isProduct (l : Launch) (dC : Nat → ClassId) (dI : Nat → Nat → Nat)  (v : Int32) : Met l y_R_isProduct w_R_isProduct ({ frames := 1, cells := 0, slots := 0, locals := 22 }) (xR (dC, dI) vwCl [] [] [.int v]) (vp_Si (fun r => (r = 1 ∧ (nI 0 ≤ v ∧ v ≤ nI 39)) ∨ (r = 0 ∧ ¬ (nI 0 ≤ v ∧ v ≤ nI 39)))) 0 0 (fun _ => False) := by
  refine Met.ofW (cc := b_R_isProduct) (maxL := 1) (ret := (some (.boolean))) (by decide) rfl ?_
  intro P e s m args below meth c0 s₁ B hml hv
  obtain ⟨rfl, hP, hK⟩ := hv
  have hx := B.exec
  have hb := B.bytes
  have hr := B.returns
  have hts := atoms_spec (ws := w_R_isProduct) B.pre
  have hown : s.vm.findClass R_R = some m.cls := findClass_of_methodNamed B.named
  have hlocks := B.notSynchronized
  have hl := lv_entry ([.int v]) (n := 1) (Nat.le_of_ble_eq_true rfl)
  rw [lg_entry_eq]
  generalize (lg_sl ([.int v]) ++ List.replicate (1 - (lg_sl ([.int v])).length) Slot.unset).toArray = ls at hl ⊢
  have hl : lv_has ls 1 [(0, .int v)] := hl
  refine lv_iload_n hx hb d_R_isProduct_0 rfl (lv_at hl 0 rfl) ?_
  refine lv_iconst (v := nI 0) hx hb d_R_isProduct_1 (by decide) ?_
  refine lv_bipush (v := nI 39) hx hb d_R_isProduct_2 (by decide) ?_
  refine vp_callSi (va_runS (As := [.int v, .int (nI 0), .int (nI 39)]) (rest := []) ⟨hx, hb, hml, hown, hts⟩ (c_R_isWithin l dC dI v (nI 0) (nI 39) ) (cwS 3 hts (g_S t_271 t_207 t_1 t_208) rfl rfl rfl (by decide +kernel) ⟨by decide, by decide⟩) (xR_s (va_P.sub hP [] rfl) (hK.sub [] rfl)) rfl rfl hl.1 rfl (lv_room (Nat.le_of_ble_eq_true rfl)) d_R_isProduct_4 ⟨Nat.le_refl _, Nat.le_refl _⟩).run (fun r4 q4 => ?_)
  exact W.zret (v := r4) hx hb hr (by rcases q4 with ⟨h, -⟩ | ⟨h, -⟩ <;> rw [h] <;> rfl) (fun t ht hW => ⟨r4, rfl, q4, ht⟩) (fun q hq => by cases hq) d_R_isProduct_7
set_option maxHeartbeats 4000000 in
set_option maxRecDepth 100000 in
theorem c_R_isPlace (l : Launch) (dC : Nat → ClassId) (dI : Nat → Nat → Nat)  (v k : Int32) : Met l y_R_isPlace w_R_isPlace ({ frames := 1, cells := 0, slots := 0, locals := 22 }) (xR (dC, dI) vwCl [] [] [.int v, .int k]) (vp_Si (fun r => (r = 1 ∧ ((nI 0 ≤ v ∧ v ≤ nI 31) ∧ (nI 0 ≤ k ∧ k ≤ nI 15))) ∨ (r = 0 ∧ ¬ ((nI 0 ≤ v ∧ v ≤ nI 31) ∧ (nI 0 ≤ k ∧ k ≤ nI 15))))) 0 0 (fun _ => False) := by
  refine Met.ofW (cc := b_R_isPlace) (maxL := 2) (ret := (some (.boolean))) (by decide) rfl ?_
  intro P e s m args below meth c0 s₁ B hml hv
  obtain ⟨rfl, hP, hK⟩ := hv
  have hx := B.exec
  have hb := B.bytes
  have hr := B.returns
  have hts := atoms_spec (ws := w_R_isPlace) B.pre
  have hown : s.vm.findClass R_R = some m.cls := findClass_of_methodNamed B.named
  have hlocks := B.notSynchronized
  have hl := lv_entry ([.int v, .int k]) (n := 2) (Nat.le_of_ble_eq_true rfl)
  rw [lg_entry_eq]
  generalize (lg_sl ([.int v, .int k]) ++ List.replicate (2 - (lg_sl ([.int v, .int k])).length) Slot.unset).toArray = ls at hl ⊢
  have hl : lv_has ls 2 [(0, .int v), (1, .int k)] := hl
  refine lv_iload_n hx hb d_R_isPlace_0 rfl (lv_at hl 0 rfl) ?_
  refine lv_iconst (v := nI 0) hx hb d_R_isPlace_1 (by decide) ?_
  refine lv_bipush (v := nI 31) hx hb d_R_isPlace_2 (by decide) ?_
  refine vp_callSi (va_runS (As := [.int v, .int (nI 0), .int (nI 31)]) (rest := []) ⟨hx, hb, hml, hown, hts⟩ (c_R_isWithin l dC dI v (nI 0) (nI 31) ) (cwS 3 hts (g_S t_271 t_207 t_1 t_208) rfl rfl rfl (by decide +kernel) ⟨by decide, by decide⟩) (xR_s (va_P.sub hP [] rfl) (hK.sub [] rfl)) rfl rfl hl.1 rfl (lv_room (Nat.le_of_ble_eq_true rfl)) d_R_isPlace_4 ⟨Nat.le_refl _, Nat.le_refl _⟩).run (fun r4 q4 => ?_)
  rcases q4 with ⟨rfl, h4⟩ | ⟨rfl, h4⟩
  ·
    refine lv_if_eq (tgt := 24) hx hb d_R_isPlace_7 (by decide) (fun c7 => ?_) (fun c7 => ?_)
    ·
      exact absurd c7 (by decide)
    ·
      refine lv_iload_n hx hb d_R_isPlace_10 rfl (lv_at hl 1 rfl) ?_
      refine lv_iconst (v := nI 0) hx hb d_R_isPlace_11 (by decide) ?_
      refine lv_bipush (v := nI 15) hx hb d_R_isPlace_12 (by decide) ?_
      refine vp_callSi (va_runS (As := [.int k, .int (nI 0), .int (nI 15)]) (rest := []) ⟨hx, hb, hml, hown, hts⟩ (c_R_isWithin l dC dI k (nI 0) (nI 15) ) (cwS 3 hts (g_S t_271 t_207 t_1 t_208) rfl rfl rfl (by decide +kernel) ⟨by decide, by decide⟩) (xR_s (va_P.sub hP [] rfl) (hK.sub [] rfl)) rfl rfl hl.1 rfl (lv_room (Nat.le_of_ble_eq_true rfl)) d_R_isPlace_14 ⟨Nat.le_refl _, Nat.le_refl _⟩).run (fun r14 q14 => ?_)
      rcases q14 with ⟨rfl, h14⟩ | ⟨rfl, h14⟩
      ·
        refine lv_if_eq (tgt := 24) hx hb d_R_isPlace_17 (by decide) (fun c17 => ?_) (fun c17 => ?_)
        ·
          exact absurd c17 (by decide)
        ·
          refine lv_iconst (v := 1) hx hb d_R_isPlace_20 (by decide) ?_
          refine lv_goto (tgt := 25) hx hb d_R_isPlace_21 (by decide) ?_
          exact W.zret (v := 1) hx hb hr (by first | rfl | decide | assumption) (fun t ht hW => ⟨1, rfl, by first | exact Or.inl ⟨rfl, h4, h14⟩ | exact Or.inr ⟨rfl, fun z => h14 z.2⟩ | exact Or.inr ⟨rfl, fun z => h4 z.1⟩, ht⟩) (fun q hq => by cases hq) d_R_isPlace_25
      ·
        refine lv_if_eq (tgt := 24) hx hb d_R_isPlace_17 (by decide) (fun c17 => ?_) (fun c17 => ?_)
        ·
          refine lv_iconst (v := 0) hx hb d_R_isPlace_24 (by decide) ?_
          exact W.zret (v := 0) hx hb hr (by first | rfl | decide | assumption) (fun t ht hW => ⟨0, rfl, by first | exact Or.inl ⟨rfl, h4, h14⟩ | exact Or.inr ⟨rfl, fun z => h14 z.2⟩ | exact Or.inr ⟨rfl, fun z => h4 z.1⟩, ht⟩) (fun q hq => by cases hq) d_R_isPlace_25
        ·
          exact absurd c17 (by decide)
  ·
    refine lv_if_eq (tgt := 24) hx hb d_R_isPlace_7 (by decide) (fun c7 => ?_) (fun c7 => ?_)
    ·
      refine lv_iconst (v := 0) hx hb d_R_isPlace_24 (by decide) ?_
      exact W.zret (v := 0) hx hb hr (by first | rfl | decide | assumption) (fun t ht hW => ⟨0, rfl, by first | exact Or.inl ⟨rfl, h4, h14⟩ | exact Or.inr ⟨rfl, fun z => h14 z.2⟩ | exact Or.inr ⟨rfl, fun z => h4 z.1⟩, ht⟩) (fun q hq => by cases hq) d_R_isPlace_25
    ·
      exact absurd c7 (by decide)
set_option maxHeartbeats 4000000 in
set_option maxRecDepth 100000 in
theorem c_R_axle_ok (l : Launch) (dC : Nat → ClassId) (dI : Nat → Nat → Nat) (ad cd : Nat → Nat) (sz : Nat) (w wr fl : Nat → Int32) (pw sc : Int32) (lw rot vb : Nat → Int32) (rec tk : Int32) (live row : Nat → Int32) (cur ser dur wo : Int32) (bts : Nat → Int32) (us : Int32) (act : Nat → Int32) (rd rs : Int32) (st : Int32) (hok : (nI 1 ≤ st ∧ st ≤ nI 1200)) : Met l y_R_axle w_R_axle ({ frames := 1, cells := 0, slots := 0, locals := 22 }) (xP (dC, dI) vwCl (xt cd) (xw ad cd w wr fl (nI 1) (-1) lw rot vb (nI 0) (nI 0) live row (-1) (nI 0) (nI 0) (nI 0) bts (nI 0) act (nI 0) (nI 0)) sz [.ref (ad 0), .int st]) (va_Qi (fun r (u : Unit) => r = nI 1) (fun (u : Unit) (t : State) => xB (dC, dI) vwCl (xt cd) (xA 15 ad sz) (xw ad cd w wr fl (nI 1) (-1) lw rot vb (nI 0) (nI 0) live row (-1) (nI 0) (nI 0) (nI 0) bts (nI 0) act (nI (0 + 1)) (nI 0 + st)) t) (xA 15 ad sz)) 0 0 (xA 15 ad sz) := by
  refine Met.ofW (cc := b_R_axle) (maxL := 2) (ret := (some (.int))) (by decide) rfl ?_
  intro P e s m args below meth c0 s₁ B hml hv
  obtain ⟨rfl, hsz, hP, hK, hD0⟩ := hv
  have hx := B.exec
  have hb := B.bytes
  have hr := B.returns
  have hts := atoms_spec (ws := w_R_axle) B.pre
  have hown : s.vm.findClass R_R = some m.cls := findClass_of_methodNamed B.named
  have hlocks := B.notSynchronized
  subst hsz
  have hD := xw_D (sz := s.heap.size) hD0
  have hS : va_S (xA 15 ad s.heap.size) s.heap s.heap [] := va_S.rf
  have hA : ∀ q : Nat, s.heap.size ≤ q → (xA 15 ad s.heap.size) q := fun q h => Or.inr h
  have hl := lv_entry ([.ref (ad 0), .int st]) (n := 2) (Nat.le_of_ble_eq_true rfl)
  rw [lg_entry_eq]
  generalize (lg_sl ([.ref (ad 0), .int st]) ++ List.replicate (2 - (lg_sl ([.ref (ad 0), .int st])).length) Slot.unset).toArray = ls at hl ⊢
  have hl : lv_has ls 2 [(0, .ref (ad 0)), (1, .int st)] := hl
  refine lv_iload_n hx hb d_R_axle_0 rfl (lv_at hl 1 rfl) ?_
  refine lv_iconst (v := nI 1) hx hb d_R_axle_1 (by decide) ?_
  refine lv_sipush (v := nI 1200) hx hb d_R_axle_2 (by decide) ?_
  refine vp_callSi (va_runS (As := [.int st, .int (nI 1), .int (nI 1200)]) (rest := []) ⟨hx, hb, hml, hown, hts⟩ (c_R_isWithin l dC dI st (nI 1) (nI 1200) ) (cwS 3 hts (g_S t_271 t_207 t_1 t_208) rfl rfl rfl (by decide +kernel) ⟨by decide, by decide⟩) (xR_s (va_P.sub hP [] rfl) (hK.sub [] rfl)) rfl rfl hl.1 rfl (lv_room (Nat.le_of_ble_eq_true rfl)) d_R_axle_5 ⟨Nat.le_refl _, Nat.le_refl _⟩).run (fun r5 q5 => ?_)
  obtain ⟨rfl, -⟩ := q5.resolve_right (fun z => z.2 (hok))
  refine va_csv (va_runS (As := [.int (nI 1)]) (rest := []) ⟨hx, hb, hml, hown, hts⟩ (c_R_requireArgument_1 l dC dI  ) (cwS 1 hts (g_S t_272 t_273 t_1 t_274) rfl rfl rfl (by decide +kernel) ⟨by decide, by decide⟩) (xR_s (va_P.sub hP [] rfl) (hK.sub [] rfl)) rfl rfl hl.1 rfl (lv_room (Nat.le_of_ble_eq_true rfl)) d_R_axle_8 ⟨Nat.le_refl _, Nat.le_refl _⟩).run (fun q8 => ?_)
  refine lv_aload_n hx hb d_R_axle_11 rfl (lv_at hl 0 rfl) ?_
  refine va_get (D := (dC, dI)) (ci := 4) (v := .ref (ad 2)) (C := R_R) (T := F_R) (N := 7) hx hb hts (fun w h => List.mem_cons_of_mem _ (in_R w h)) hown hK hP 0 rfl rfl 1 (by decide) (hts (.fieldLink R_R 20 R_R "chip" "LWeighRecorder$Chip;") (List.mem_cons_of_mem _ t_115)) (fun _ h9 => h9) rfl d_R_axle_12 ?_
  refine vp_callSi (va_runV (C := R_C) (As := []) (rest := []) ⟨hx, hb, hml, hown, hts⟩ (c_C_isPowered l dC dI ad cd w wr fl (nI 1) (-1) lw rot vb (nI 0) (nI 0) live row (-1) (nI 0) (nI 0) (nI 0) bts (nI 0) act (nI 0) (nI 0)  (by first | omega | rfl | assumption | decide)) (cwV 0 hts (g_V t_225 t_226 t_227 t_3 t_228) rfl rfl rfl (by decide +kernel) ⟨by decide, by decide⟩) (xR_v hP hK 2 rfl rfl) rfl rfl hl.1 rfl (lv_room (Nat.le_of_ble_eq_true rfl)) d_R_axle_15 ⟨Nat.le_refl _, Nat.le_refl _⟩).run (fun r15 q15 => ?_)
  subst q15
  refine lv_if_eq (tgt := 34) hx hb d_R_axle_18 (by decide) (fun c18 => ?_) (fun c18 => ?_)
  ·
    exact absurd c18 (by decide)
  ·
    refine lv_aload_n hx hb d_R_axle_21 rfl (lv_at hl 0 rfl) ?_
    refine va_get (D := (dC, dI)) (ci := 4) (v := .int (nI 0)) (C := R_R) (T := F_R) (N := 7) hx hb hts (fun w h => List.mem_cons_of_mem _ (in_R w h)) hown hK hP 0 rfl rfl 5 (by decide) (hts (.fieldLink R_R 41 R_R "readings" "I") (List.mem_cons_of_mem _ t_119)) (fun _ h9 => h9) rfl d_R_axle_22 ?_
    refine lv_bipush (v := nI 9) hx hb d_R_axle_25 (by decide) ?_
    refine lv_icmp_ge (tgt := 34) hx hb d_R_axle_27 (by decide) (fun c27 => ?_) (fun c27 => ?_)
    ·
      exact absurd c27 (by decide)
    ·
      refine lv_iconst (v := nI 1) hx hb d_R_axle_30 (by decide) ?_
      refine lv_goto (tgt := 35) hx hb d_R_axle_31 (by decide) ?_
      refine va_csv (va_runS (As := [.int (nI 1)]) (rest := []) ⟨hx, hb, hml, hown, hts⟩ (c_R_requireState_1 l dC dI  ) (cwS 1 hts (g_S t_338 t_339 t_1 t_340) rfl rfl rfl (by decide +kernel) ⟨by decide, by decide⟩) (xR_s (va_P.sub hP [] rfl) (hK.sub [] rfl)) rfl rfl hl.1 rfl (lv_room (Nat.le_of_ble_eq_true rfl)) d_R_axle_35 ⟨Nat.le_refl _, Nat.le_refl _⟩).run (fun q35 => ?_)
      refine lv_aload_n hx hb d_R_axle_38 rfl (lv_at hl 0 rfl) ?_
      refine lv_dup hx hb d_R_axle_39 rfl ?_
      refine va_get (D := (dC, dI)) (ci := 4) (v := .int (nI 0)) (C := R_R) (T := F_R) (N := 7) hx hb hts (fun w h => List.mem_cons_of_mem _ (in_R w h)) hown hK hP 0 rfl rfl 5 (by decide) (hts (.fieldLink R_R 41 R_R "readings" "I") (List.mem_cons_of_mem _ t_119)) (fun _ h9 => h9) rfl d_R_axle_40 ?_
      refine lv_iconst (v := nI 1) hx hb d_R_axle_43 (by decide) ?_
      refine lv_iadd hx hb d_R_axle_44 ?_
      refine tp_i (y := nI (0 + 1)) (nI_add _ _) ?_
      refine va_put (D := (dC, dI)) (ci := 4) (v := .int (nI (0 + 1))) (ty := .int) (C := R_R) (T := F_R) (N := 7) hx hb hts (fun w h => List.mem_cons_of_mem _ (in_R w h)) t_R ok_R nm_R hown hK hP hD hS 0 rfl rfl 5 (by decide) (hts (.fieldLink R_R 41 R_R "readings" "I") (List.mem_cons_of_mem _ t_119)) (fun _ h9 => h9) rfl (by decide +kernel) rfl rfl (Nat.le_of_ble_eq_true rfl) d_R_axle_45 (fun H locs hP hD hS => ?_)
      have hP : va_P (dC, dI) vwCl (xw ad cd w wr fl (nI 1) (-1) lw rot vb (nI 0) (nI 0) live row (-1) (nI 0) (nI 0) (nI 0) bts (nI 0) act (nI (0 + 1)) (nI 0)) H := hP
      have hD : va_D (xA 15 ad s.heap.size) (xw ad cd w wr fl (nI 1) (-1) lw rot vb (nI 0) (nI 0) live row (-1) (nI 0) (nI 0) (nI 0) bts (nI 0) act (nI (0 + 1)) (nI 0)) := hD
      refine lv_aload_n hx hb d_R_axle_48 rfl (lv_at hl 0 rfl) ?_
      refine lv_dup hx hb d_R_axle_49 rfl ?_
      refine va_get (D := (dC, dI)) (ci := 4) (v := .int (nI 0)) (C := R_R) (T := F_R) (N := 7) hx hb hts (fun w h => List.mem_cons_of_mem _ (in_R w h)) hown hK hP 0 rfl rfl 6 (by decide) (hts (.fieldLink R_R 45 R_R "readSteps" "I") (List.mem_cons_of_mem _ t_120)) (fun _ h9 => h9) rfl d_R_axle_50 ?_
      refine lv_iload_n hx hb d_R_axle_53 rfl (lv_at hl 1 rfl) ?_
      refine lv_iadd hx hb d_R_axle_54 ?_
      refine va_put (D := (dC, dI)) (ci := 4) (v := .int ((nI 0) + st)) (ty := .int) (C := R_R) (T := F_R) (N := 7) hx hb hts (fun w h => List.mem_cons_of_mem _ (in_R w h)) t_R ok_R nm_R hown hK hP hD hS 0 rfl rfl 6 (by decide) (hts (.fieldLink R_R 45 R_R "readSteps" "I") (List.mem_cons_of_mem _ t_120)) (fun _ h9 => h9) rfl (by decide +kernel) rfl rfl (Nat.le_of_ble_eq_true rfl) d_R_axle_55 (fun H locs hP hD hS => ?_)
      have hP : va_P (dC, dI) vwCl (xw ad cd w wr fl (nI 1) (-1) lw rot vb (nI 0) (nI 0) live row (-1) (nI 0) (nI 0) (nI 0) bts (nI 0) act (nI (0 + 1)) ((nI 0) + st)) H := hP
      have hD : va_D (xA 15 ad s.heap.size) (xw ad cd w wr fl (nI 1) (-1) lw rot vb (nI 0) (nI 0) live row (-1) (nI 0) (nI 0) (nI 0) bts (nI 0) act (nI (0 + 1)) ((nI 0) + st)) := hD
      refine lv_aload_n hx hb d_R_axle_58 rfl (lv_at hl 0 rfl) ?_
      refine va_get (D := (dC, dI)) (ci := 4) (v := .int (nI (0 + 1))) (C := R_R) (T := F_R) (N := 7) hx hb hts (fun w h => List.mem_cons_of_mem _ (in_R w h)) hown hK hP 0 rfl rfl 5 (by decide) (hts (.fieldLink R_R 41 R_R "readings" "I") (List.mem_cons_of_mem _ t_119)) (fun _ h9 => h9) rfl d_R_axle_59 ?_
      exact W.iret (v := nI (0 + 1)) hx hb hr (fun t ht hW => ⟨⟨nI (0 + 1), (), rfl, by first | rfl | trivial | omega, ⟨by rw [ht]; exact hP, va_K.moved hW.alike hK, hD⟩⟩, hS.F ht⟩) hS.2.2 d_R_axle_62
set_option maxHeartbeats 4000000 in
set_option maxRecDepth 100000 in
theorem c_R_close_ok (l : Launch) (dC : Nat → ClassId) (dI : Nat → Nat → Nat) (ad cd : Nat → Nat) (w wr fl : Nat → Int32) (pw sc : Int32) (lw rot vb : Nat → Int32) (rec tk : Int32) (live row : Nat → Int32) (cur ser dur wo : Int32) (bts : Nat → Int32) (us : Int32) (act : Nat → Int32) (rd rs : Int32) (plate tare product clock : Int32) (h1 : (nI 0 ≤ tare ∧ tare ≤ nI 216000)) (h2 : (nI 0 ≤ product ∧ product ≤ nI 39)) (h3 : (nI 0 ≤ clock ∧ clock ≤ nI 67108863)) : Met l y_R_close w_R_close ({ frames := 2, cells := 0, slots := 0, locals := 42 }) (xR (dC, dI) vwCl (xt cd) (xw ad cd w wr fl (nI 1) (-1) lw rot vb (nI 0) (nI 0) live row (-1) (nI 0) (nI 0) (nI 0) bts (nI 0) act (nI 0) (nI 0)) [.ref (ad 0), .int plate, .int tare, .int product, .int clock]) (vp_Si (fun r => r = nI 0)) 0 0 (fun _ => False) := by
  refine Met.ofW (cc := b_R_close) (maxL := 6) (ret := (some (.int))) (by decide) rfl ?_
  intro P e s m args below meth c0 s₁ B hml hv
  obtain ⟨rfl, hP, hK⟩ := hv
  have hx := B.exec
  have hb := B.bytes
  have hr := B.returns
  have hts := atoms_spec (ws := w_R_close) B.pre
  have hown : s.vm.findClass R_R = some m.cls := findClass_of_methodNamed B.named
  have hlocks := B.notSynchronized
  have hl := lv_entry ([.ref (ad 0), .int plate, .int tare, .int product, .int clock]) (n := 6) (Nat.le_of_ble_eq_true rfl)
  rw [lg_entry_eq]
  generalize (lg_sl ([.ref (ad 0), .int plate, .int tare, .int product, .int clock]) ++ List.replicate (6 - (lg_sl ([.ref (ad 0), .int plate, .int tare, .int product, .int clock])).length) Slot.unset).toArray = ls at hl ⊢
  have hl : lv_has ls 6 [(0, .ref (ad 0)), (1, .int plate), (2, .int tare), (3, .int product), (4, .int clock)] := hl
  refine lv_iload_n hx hb d_R_close_0 rfl (lv_at hl 2 rfl) ?_
  refine lv_iconst (v := nI 0) hx hb d_R_close_1 (by decide) ?_
  refine lv_ldc (v := nI 216000) hx hb hown (hts (.constant R_R 65 216000) (List.mem_cons_of_mem _ t_363)) d_R_close_2 ?_
  refine vp_callSi (va_runS (As := [.int tare, .int (nI 0), .int (nI 216000)]) (rest := []) ⟨hx, hb, hml, hown, hts⟩ (c_R_isWithin l dC dI tare (nI 0) (nI 216000) ) (cwS 3 hts (g_S t_271 t_207 t_1 t_208) rfl rfl rfl (by decide +kernel) ⟨by decide, by decide⟩) (xR_s (va_P.sub hP [] rfl) (hK.sub [] rfl)) rfl rfl hl.1 rfl (lv_room (Nat.le_of_ble_eq_true rfl)) d_R_close_4 ⟨Nat.le_refl _, Nat.le_refl _⟩).run (fun r4 q4 => ?_)
  obtain ⟨rfl, -⟩ := q4.resolve_right (fun z => z.2 (h1))
  refine va_csv (va_runS (As := [.int (nI 1)]) (rest := []) ⟨hx, hb, hml, hown, hts⟩ (c_R_requireArgument_1 l dC dI  ) (cwS 1 hts (g_S t_272 t_273 t_1 t_274) rfl rfl rfl (by decide +kernel) ⟨by decide, by decide⟩) (xR_s (va_P.sub hP [] rfl) (hK.sub [] rfl)) rfl rfl hl.1 rfl (lv_room (Nat.le_of_ble_eq_true rfl)) d_R_close_7 ⟨Nat.le_refl _, Nat.le_refl _⟩).run (fun q7 => ?_)
  refine lv_iload_n hx hb d_R_close_10 rfl (lv_at hl 3 rfl) ?_
  refine vp_callSi (va_runS (As := [.int product]) (rest := []) ⟨hx, hb, hml, hown, hts⟩ (c_R_isProduct l dC dI product ) (cwS 1 hts (g_S t_364 t_365 t_1 t_366) rfl rfl rfl (by decide +kernel) ⟨by decide, by decide⟩) (xR_s (va_P.sub hP [] rfl) (hK.sub [] rfl)) rfl rfl hl.1 rfl (lv_room (Nat.le_of_ble_eq_true rfl)) d_R_close_11 ⟨Nat.le_refl _, Nat.le_refl _⟩).run (fun r11 q11 => ?_)
  obtain ⟨rfl, -⟩ := q11.resolve_right (fun z => z.2 (h2))
  refine va_csv (va_runS (As := [.int (nI 1)]) (rest := []) ⟨hx, hb, hml, hown, hts⟩ (c_R_requireArgument_1 l dC dI  ) (cwS 1 hts (g_S t_272 t_273 t_1 t_274) rfl rfl rfl (by decide +kernel) ⟨by decide, by decide⟩) (xR_s (va_P.sub hP [] rfl) (hK.sub [] rfl)) rfl rfl hl.1 rfl (lv_room (Nat.le_of_ble_eq_true rfl)) d_R_close_14 ⟨Nat.le_refl _, Nat.le_refl _⟩).run (fun q14 => ?_)
  refine lv_iload hx hb d_R_close_17 (lv_at hl 4 rfl) ?_
  refine lv_iconst (v := nI 0) hx hb d_R_close_19 (by decide) ?_
  refine lv_ldc (v := nI 67108863) hx hb hown (hts (.constant R_R 70 67108863) (List.mem_cons_of_mem _ t_367)) d_R_close_20 ?_
  refine vp_callSi (va_runS (As := [.int clock, .int (nI 0), .int (nI 67108863)]) (rest := []) ⟨hx, hb, hml, hown, hts⟩ (c_R_isWithin l dC dI clock (nI 0) (nI 67108863) ) (cwS 3 hts (g_S t_271 t_207 t_1 t_208) rfl rfl rfl (by decide +kernel) ⟨by decide, by decide⟩) (xR_s (va_P.sub hP [] rfl) (hK.sub [] rfl)) rfl rfl hl.1 rfl (lv_room (Nat.le_of_ble_eq_true rfl)) d_R_close_22 ⟨Nat.le_refl _, Nat.le_refl _⟩).run (fun r22 q22 => ?_)
  obtain ⟨rfl, -⟩ := q22.resolve_right (fun z => z.2 (h3))
  refine va_csv (va_runS (As := [.int (nI 1)]) (rest := []) ⟨hx, hb, hml, hown, hts⟩ (c_R_requireArgument_1 l dC dI  ) (cwS 1 hts (g_S t_272 t_273 t_1 t_274) rfl rfl rfl (by decide +kernel) ⟨by decide, by decide⟩) (xR_s (va_P.sub hP [] rfl) (hK.sub [] rfl)) rfl rfl hl.1 rfl (lv_room (Nat.le_of_ble_eq_true rfl)) d_R_close_25 ⟨Nat.le_refl _, Nat.le_refl _⟩).run (fun q25 => ?_)
  refine lv_aload_n hx hb d_R_close_28 rfl (lv_at hl 0 rfl) ?_
  refine va_get (D := (dC, dI)) (ci := 4) (v := .ref (ad 2)) (C := R_R) (T := F_R) (N := 7) hx hb hts (fun w h => List.mem_cons_of_mem _ (in_R w h)) hown hK hP 0 rfl rfl 1 (by decide) (hts (.fieldLink R_R 20 R_R "chip" "LWeighRecorder$Chip;") (List.mem_cons_of_mem _ t_115)) (fun _ h9 => h9) rfl d_R_close_29 ?_
  refine vp_callSi (va_runV (C := R_C) (As := []) (rest := []) ⟨hx, hb, hml, hown, hts⟩ (c_C_isPowered l dC dI ad cd w wr fl (nI 1) (-1) lw rot vb (nI 0) (nI 0) live row (-1) (nI 0) (nI 0) (nI 0) bts (nI 0) act (nI 0) (nI 0)  (by first | omega | rfl | assumption | decide)) (cwV 0 hts (g_V t_225 t_226 t_227 t_3 t_228) rfl rfl rfl (by decide +kernel) ⟨by decide, by decide⟩) (xR_v hP hK 2 rfl rfl) rfl rfl hl.1 rfl (lv_room (Nat.le_of_ble_eq_true rfl)) d_R_close_32 ⟨Nat.le_refl _, Nat.le_refl _⟩).run (fun r32 q32 => ?_)
  subst q32
  refine va_csv (va_runS (As := [.int (nI 1)]) (rest := []) ⟨hx, hb, hml, hown, hts⟩ (c_R_requireState_1 l dC dI  ) (cwS 1 hts (g_S t_338 t_339 t_1 t_340) rfl rfl rfl (by decide +kernel) ⟨by decide, by decide⟩) (xR_s (va_P.sub hP [] rfl) (hK.sub [] rfl)) rfl rfl hl.1 rfl (lv_room (Nat.le_of_ble_eq_true rfl)) d_R_close_35 ⟨Nat.le_refl _, Nat.le_refl _⟩).run (fun q35 => ?_)
  refine lv_aload_n hx hb d_R_close_38 rfl (lv_at hl 0 rfl) ?_
  refine va_get (D := (dC, dI)) (ci := 4) (v := .int (nI 0)) (C := R_R) (T := F_R) (N := 7) hx hb hts (fun w h => List.mem_cons_of_mem _ (in_R w h)) hown hK hP 0 rfl rfl 5 (by decide) (hts (.fieldLink R_R 41 R_R "readings" "I") (List.mem_cons_of_mem _ t_119)) (fun _ h9 => h9) rfl d_R_close_39 ?_
  refine lv_if_eq (tgt := 75) hx hb d_R_close_42 (by decide) (fun c42 => ?_) (fun c42 => ?_)
  ·
    refine lv_iconst (v := nI 0) hx hb d_R_close_75 (by decide) ?_
    exact W.iret (v := nI 0) hx hb hr (fun t ht hW => ⟨nI 0, rfl, by first | rfl | trivial | omega, ht⟩) (fun q hq => by cases hq) d_R_close_76
  ·
    exact absurd c42 (by decide)
set_option maxHeartbeats 4000000 in
set_option maxRecDepth 100000 in
theorem c_R_annul_ok (l : Launch) (dC : Nat → ClassId) (dI : Nat → Nat → Nat) (ad cd : Nat → Nat) (w wr fl : Nat → Int32) (pw sc : Int32) (lw rot vb : Nat → Int32) (rec tk : Int32) (live row : Nat → Int32) (cur ser dur wo : Int32) (bts : Nat → Int32) (us : Int32) (act : Nat → Int32) (rd rs : Int32) (tno rea : Int32) (hok : (nI 0 ≤ rea ∧ rea ≤ nI 3)) : Met l y_R_annul w_R_annul ({ frames := 1, cells := 0, slots := 0, locals := 22 }) (xR (dC, dI) vwCl (xt cd) (xw ad cd w wr fl (nI 1) (-1) lw rot vb (nI 0) (nI 0) live row (-1) (nI 0) (nI 0) (nI 0) bts (nI 0) act (nI 0) (nI 0)) [.ref (ad 0), .int tno, .int rea]) (vp_Si (fun r => r = nI 0)) 0 0 (fun _ => False) := by
  refine Met.ofW (cc := b_R_annul) (maxL := 3) (ret := (some (.int))) (by decide) rfl ?_
  intro P e s m args below meth c0 s₁ B hml hv
  obtain ⟨rfl, hP, hK⟩ := hv
  have hx := B.exec
  have hb := B.bytes
  have hr := B.returns
  have hts := atoms_spec (ws := w_R_annul) B.pre
  have hown : s.vm.findClass R_R = some m.cls := findClass_of_methodNamed B.named
  have hlocks := B.notSynchronized
  have hl := lv_entry ([.ref (ad 0), .int tno, .int rea]) (n := 3) (Nat.le_of_ble_eq_true rfl)
  rw [lg_entry_eq]
  generalize (lg_sl ([.ref (ad 0), .int tno, .int rea]) ++ List.replicate (3 - (lg_sl ([.ref (ad 0), .int tno, .int rea])).length) Slot.unset).toArray = ls at hl ⊢
  have hl : lv_has ls 3 [(0, .ref (ad 0)), (1, .int tno), (2, .int rea)] := hl
  refine lv_iload_n hx hb d_R_annul_0 rfl (lv_at hl 2 rfl) ?_
  refine lv_iconst (v := nI 0) hx hb d_R_annul_1 (by decide) ?_
  refine lv_iconst (v := nI 3) hx hb d_R_annul_2 (by decide) ?_
  refine vp_callSi (va_runS (As := [.int rea, .int (nI 0), .int (nI 3)]) (rest := []) ⟨hx, hb, hml, hown, hts⟩ (c_R_isWithin l dC dI rea (nI 0) (nI 3) ) (cwS 3 hts (g_S t_271 t_207 t_1 t_208) rfl rfl rfl (by decide +kernel) ⟨by decide, by decide⟩) (xR_s (va_P.sub hP [] rfl) (hK.sub [] rfl)) rfl rfl hl.1 rfl (lv_room (Nat.le_of_ble_eq_true rfl)) d_R_annul_3 ⟨Nat.le_refl _, Nat.le_refl _⟩).run (fun r3 q3 => ?_)
  obtain ⟨rfl, -⟩ := q3.resolve_right (fun z => z.2 (hok))
  refine va_csv (va_runS (As := [.int (nI 1)]) (rest := []) ⟨hx, hb, hml, hown, hts⟩ (c_R_requireArgument_1 l dC dI  ) (cwS 1 hts (g_S t_272 t_273 t_1 t_274) rfl rfl rfl (by decide +kernel) ⟨by decide, by decide⟩) (xR_s (va_P.sub hP [] rfl) (hK.sub [] rfl)) rfl rfl hl.1 rfl (lv_room (Nat.le_of_ble_eq_true rfl)) d_R_annul_6 ⟨Nat.le_refl _, Nat.le_refl _⟩).run (fun q6 => ?_)
  refine lv_aload_n hx hb d_R_annul_9 rfl (lv_at hl 0 rfl) ?_
  refine va_get (D := (dC, dI)) (ci := 4) (v := .ref (ad 2)) (C := R_R) (T := F_R) (N := 7) hx hb hts (fun w h => List.mem_cons_of_mem _ (in_R w h)) hown hK hP 0 rfl rfl 1 (by decide) (hts (.fieldLink R_R 20 R_R "chip" "LWeighRecorder$Chip;") (List.mem_cons_of_mem _ t_115)) (fun _ h9 => h9) rfl d_R_annul_10 ?_
  refine vp_callSi (va_runV (C := R_C) (As := []) (rest := []) ⟨hx, hb, hml, hown, hts⟩ (c_C_isPowered l dC dI ad cd w wr fl (nI 1) (-1) lw rot vb (nI 0) (nI 0) live row (-1) (nI 0) (nI 0) (nI 0) bts (nI 0) act (nI 0) (nI 0)  (by first | omega | rfl | assumption | decide)) (cwV 0 hts (g_V t_225 t_226 t_227 t_3 t_228) rfl rfl rfl (by decide +kernel) ⟨by decide, by decide⟩) (xR_v hP hK 2 rfl rfl) rfl rfl hl.1 rfl (lv_room (Nat.le_of_ble_eq_true rfl)) d_R_annul_13 ⟨Nat.le_refl _, Nat.le_refl _⟩).run (fun r13 q13 => ?_)
  subst q13
  refine va_csv (va_runS (As := [.int (nI 1)]) (rest := []) ⟨hx, hb, hml, hown, hts⟩ (c_R_requireState_1 l dC dI  ) (cwS 1 hts (g_S t_338 t_339 t_1 t_340) rfl rfl rfl (by decide +kernel) ⟨by decide, by decide⟩) (xR_s (va_P.sub hP [] rfl) (hK.sub [] rfl)) rfl rfl hl.1 rfl (lv_room (Nat.le_of_ble_eq_true rfl)) d_R_annul_16 ⟨Nat.le_refl _, Nat.le_refl _⟩).run (fun q16 => ?_)
  refine lv_aload_n hx hb d_R_annul_19 rfl (lv_at hl 0 rfl) ?_
  refine va_get (D := (dC, dI)) (ci := 4) (v := .ref (ad 3)) (C := R_R) (T := F_R) (N := 7) hx hb hts (fun w h => List.mem_cons_of_mem _ (in_R w h)) hown hK hP 0 rfl rfl 2 (by decide) (hts (.fieldLink R_R 26 R_R "log" "LWeighRecorder$Log;") (List.mem_cons_of_mem _ t_116)) (fun _ h9 => h9) rfl d_R_annul_20 ?_
  refine lv_iload_n hx hb d_R_annul_23 rfl (lv_at hl 1 rfl) ?_
  refine vp_callSi (va_runV (C := R_G) (As := [.int tno]) (rest := []) ⟨hx, hb, hml, hown, hts⟩ (c_G_hasTicket l dC dI ad cd w wr fl (nI 1) (-1) lw rot vb (nI 0) (nI 0) live row (-1) (nI 0) (nI 0) (nI 0) bts (nI 0) act (nI 0) (nI 0) tno ) (cwV 1 hts (g_V t_473 t_199 t_200 t_4 t_201) rfl rfl rfl (by decide +kernel) ⟨by decide, by decide⟩) (xR_v hP hK 3 rfl rfl) rfl rfl hl.1 rfl (lv_room (Nat.le_of_ble_eq_true rfl)) d_R_annul_24 ⟨Nat.le_refl _, Nat.le_refl _⟩).run (fun r24 q24 => ?_)
  obtain ⟨rfl, -⟩ := q24.resolve_left (fun z => (fun z => not_tk z) z.2)
  refine lv_if_eq (tgt := 51) hx hb d_R_annul_27 (by decide) (fun c27 => ?_) (fun c27 => ?_)
  ·
    refine lv_iconst (v := nI 0) hx hb d_R_annul_51 (by decide) ?_
    exact W.iret (v := nI 0) hx hb hr (fun t ht hW => ⟨nI 0, rfl, by first | rfl | trivial | omega, ht⟩) (fun q hq => by cases hq) d_R_annul_52
  ·
    exact absurd c27 (by decide)
set_option maxHeartbeats 4000000 in
set_option maxRecDepth 100000 in
theorem c_R_sync_f (l : Launch) (dC : Nat → ClassId) (dI : Nat → Nat → Nat) (ad cd : Nat → Nat) (w wr fl : Nat → Int32) (pw sc : Int32) (lw rot vb : Nat → Int32) (rec tk : Int32) (live row : Nat → Int32) (cur ser dur wo : Int32) (bts : Nat → Int32) (us : Int32) (act : Nat → Int32) (rd rs : Int32)  : Met l y_R_sync w_R_sync ({ frames := 1, cells := 0, slots := 0, locals := 20 }) (xR (dC, dI) vwCl (xt cd) (xw ad cd w wr fl (nI 1) (-1) lw rot vb (nI 0) (nI 0) live row (-1) (nI 0) (nI 0) (nI 0) bts (nI 0) act (nI 0) (nI 0)) [.ref (ad 0)]) (vp_Si (fun r => r = nI 1)) 0 0 (fun _ => False) := by
  refine Met.ofW (cc := b_R_sync) (maxL := 2) (ret := (some (.int))) (by decide) rfl ?_
  intro P e s m args below meth c0 s₁ B hml hv
  obtain ⟨rfl, hP, hK⟩ := hv
  have hx := B.exec
  have hb := B.bytes
  have hr := B.returns
  have hts := atoms_spec (ws := w_R_sync) B.pre
  have hown : s.vm.findClass R_R = some m.cls := findClass_of_methodNamed B.named
  have hlocks := B.notSynchronized
  have hl := lv_entry ([.ref (ad 0)]) (n := 2) (Nat.le_of_ble_eq_true rfl)
  rw [lg_entry_eq]
  generalize (lg_sl ([.ref (ad 0)]) ++ List.replicate (2 - (lg_sl ([.ref (ad 0)])).length) Slot.unset).toArray = ls at hl ⊢
  have hl : lv_has ls 2 [(0, .ref (ad 0))] := hl
  refine lv_aload_n hx hb d_R_sync_0 rfl (lv_at hl 0 rfl) ?_
  refine va_get (D := (dC, dI)) (ci := 4) (v := .ref (ad 2)) (C := R_R) (T := F_R) (N := 7) hx hb hts (fun w h => List.mem_cons_of_mem _ (in_R w h)) hown hK hP 0 rfl rfl 1 (by decide) (hts (.fieldLink R_R 20 R_R "chip" "LWeighRecorder$Chip;") (List.mem_cons_of_mem _ t_115)) (fun _ h9 => h9) rfl d_R_sync_1 ?_
  refine vp_callSi (va_runV (C := R_C) (As := []) (rest := []) ⟨hx, hb, hml, hown, hts⟩ (c_C_isPowered l dC dI ad cd w wr fl (nI 1) (-1) lw rot vb (nI 0) (nI 0) live row (-1) (nI 0) (nI 0) (nI 0) bts (nI 0) act (nI 0) (nI 0)  (by first | omega | rfl | assumption | decide)) (cwV 0 hts (g_V t_225 t_226 t_227 t_3 t_228) rfl rfl rfl (by decide +kernel) ⟨by decide, by decide⟩) (xR_v hP hK 2 rfl rfl) rfl rfl hl.1 rfl (lv_room (Nat.le_of_ble_eq_true rfl)) d_R_sync_4 ⟨Nat.le_refl _, Nat.le_refl _⟩).run (fun r4 q4 => ?_)
  subst q4
  refine va_csv (va_runS (As := [.int (nI 1)]) (rest := []) ⟨hx, hb, hml, hown, hts⟩ (c_R_requireState_1 l dC dI  ) (cwS 1 hts (g_S t_338 t_339 t_1 t_340) rfl rfl rfl (by decide +kernel) ⟨by decide, by decide⟩) (xR_s (va_P.sub hP [] rfl) (hK.sub [] rfl)) rfl rfl hl.1 rfl (lv_room (Nat.le_of_ble_eq_true rfl)) d_R_sync_7 ⟨Nat.le_refl _, Nat.le_refl _⟩).run (fun q7 => ?_)
  refine lv_aload_n hx hb d_R_sync_10 rfl (lv_at hl 0 rfl) ?_
  refine va_get (D := (dC, dI)) (ci := 4) (v := .ref (ad 1)) (C := R_R) (T := F_R) (N := 7) hx hb hts (fun w h => List.mem_cons_of_mem _ (in_R w h)) hown hK hP 0 rfl rfl 0 (by decide) (hts (.fieldLink R_R 12 R_R "store" "LWeighRecorder$Store;") (List.mem_cons_of_mem _ t_114)) (fun _ h9 => h9) rfl d_R_sync_11 ?_
  refine vp_callSi (va_runV (C := R_S) (As := []) (rest := []) ⟨hx, hb, hml, hown, hts⟩ (c_S_durableCount l dC dI ad cd w wr fl (nI 1) (-1) lw rot vb (nI 0) (nI 0) live row (-1) (nI 0) (nI 0) (nI 0) bts (nI 0) act (nI 0) (nI 0)  ) (cwV 0 hts (g_V t_230 t_231 t_232 t_2 t_233) rfl rfl rfl (by decide +kernel) ⟨by decide, by decide⟩) (xR_v hP hK 1 rfl rfl) rfl rfl hl.1 rfl (lv_room (Nat.le_of_ble_eq_true rfl)) d_R_sync_14 ⟨Nat.le_refl _, Nat.le_refl _⟩).run (fun r14 q14 => ?_)
  subst q14
  refine lv_aload_n hx hb d_R_sync_17 rfl (lv_at hl 0 rfl) ?_
  refine va_get (D := (dC, dI)) (ci := 4) (v := .ref (ad 3)) (C := R_R) (T := F_R) (N := 7) hx hb hts (fun w h => List.mem_cons_of_mem _ (in_R w h)) hown hK hP 0 rfl rfl 2 (by decide) (hts (.fieldLink R_R 26 R_R "log" "LWeighRecorder$Log;") (List.mem_cons_of_mem _ t_116)) (fun _ h9 => h9) rfl d_R_sync_18 ?_
  refine vp_callSi (va_runV (C := R_G) (As := []) (rest := [.int (nI 0)]) ⟨hx, hb, hml, hown, hts⟩ (c_G_recordCount l dC dI ad cd w wr fl (nI 1) (-1) lw rot vb (nI 0) (nI 0) live row (-1) (nI 0) (nI 0) (nI 0) bts (nI 0) act (nI 0) (nI 0)  ) (cwV 0 hts (g_V t_229 t_210 t_211 t_4 t_212) rfl rfl rfl (by decide +kernel) ⟨by decide, by decide⟩) (xR_v hP hK 3 rfl rfl) rfl rfl hl.1 rfl (lv_room (Nat.le_of_ble_eq_true rfl)) d_R_sync_21 ⟨Nat.le_refl _, Nat.le_refl _⟩).run (fun r21 q21 => ?_)
  subst q21
  refine lv_icmp_ne (tgt := 29) hx hb d_R_sync_24 (by decide) (fun c24 => ?_) (fun c24 => ?_)
  ·
    exact absurd c24 (by decide)
  ·
    refine lv_iconst (v := nI 1) hx hb d_R_sync_27 (by decide) ?_
    exact W.iret (v := nI 1) hx hb hr (fun t ht hW => ⟨nI 1, rfl, by first | rfl | trivial | omega, ht⟩) (fun q hq => by cases hq) d_R_sync_28
set_option maxHeartbeats 4000000 in
set_option maxRecDepth 100000 in
theorem c_R_dayTotal_f (l : Launch) (dC : Nat → ClassId) (dI : Nat → Nat → Nat) (ad cd : Nat → Nat) (w wr fl : Nat → Int32) (pw sc : Int32) (lw rot vb : Nat → Int32) (rec tk : Int32) (live row : Nat → Int32) (cur ser dur wo : Int32) (bts : Nat → Int32) (us : Int32) (act : Nat → Int32) (rd rs : Int32) (da pr : Int32) : Met l y_R_dayTotal w_R_dayTotal ({ frames := 1, cells := 0, slots := 0, locals := 20 }) (xR (dC, dI) vwCl (xt cd) (xw ad cd w wr fl (nI 1) (-1) lw rot vb (nI 0) (nI 0) live row (-1) (nI 0) (nI 0) (nI 0) bts (nI 0) act (nI 0) (nI 0)) [.ref (ad 0), .int da, .int pr]) (vp_Sl (fun r => r = 0)) 0 0 (fun _ => False) := by
  refine Met.ofW (cc := b_R_dayTotal) (maxL := 7) (ret := (some (.long))) (by decide) rfl ?_
  intro P e s m args below meth c0 s₁ B hml hv
  obtain ⟨rfl, hP, hK⟩ := hv
  have hx := B.exec
  have hb := B.bytes
  have hr := B.returns
  have hts := atoms_spec (ws := w_R_dayTotal) B.pre
  have hown : s.vm.findClass R_R = some m.cls := findClass_of_methodNamed B.named
  have hlocks := B.notSynchronized
  have hl := lv_entry ([.ref (ad 0), .int da, .int pr]) (n := 7) (Nat.le_of_ble_eq_true rfl)
  rw [lg_entry_eq]
  generalize (lg_sl ([.ref (ad 0), .int da, .int pr]) ++ List.replicate (7 - (lg_sl ([.ref (ad 0), .int da, .int pr])).length) Slot.unset).toArray = ls at hl ⊢
  have hl : lv_has ls 7 [(0, .ref (ad 0)), (1, .int da), (2, .int pr)] := hl
  refine lv_aload_n hx hb d_R_dayTotal_0 rfl (lv_at hl 0 rfl) ?_
  refine va_get (D := (dC, dI)) (ci := 4) (v := .ref (ad 2)) (C := R_R) (T := F_R) (N := 7) hx hb hts (fun w h => List.mem_cons_of_mem _ (in_R w h)) hown hK hP 0 rfl rfl 1 (by decide) (hts (.fieldLink R_R 20 R_R "chip" "LWeighRecorder$Chip;") (List.mem_cons_of_mem _ t_115)) (fun _ h9 => h9) rfl d_R_dayTotal_1 ?_
  refine vp_callSi (va_runV (C := R_C) (As := []) (rest := []) ⟨hx, hb, hml, hown, hts⟩ (c_C_isPowered l dC dI ad cd w wr fl (nI 1) (-1) lw rot vb (nI 0) (nI 0) live row (-1) (nI 0) (nI 0) (nI 0) bts (nI 0) act (nI 0) (nI 0)  (by first | omega | rfl | assumption | decide)) (cwV 0 hts (g_V t_225 t_226 t_227 t_3 t_228) rfl rfl rfl (by decide +kernel) ⟨by decide, by decide⟩) (xR_v hP hK 2 rfl rfl) rfl rfl hl.1 rfl (lv_room (Nat.le_of_ble_eq_true rfl)) d_R_dayTotal_4 ⟨Nat.le_refl _, Nat.le_refl _⟩).run (fun r4 q4 => ?_)
  subst q4
  refine va_csv (va_runS (As := [.int (nI 1)]) (rest := []) ⟨hx, hb, hml, hown, hts⟩ (c_R_requireState_1 l dC dI  ) (cwS 1 hts (g_S t_338 t_339 t_1 t_340) rfl rfl rfl (by decide +kernel) ⟨by decide, by decide⟩) (xR_s (va_P.sub hP [] rfl) (hK.sub [] rfl)) rfl rfl hl.1 rfl (lv_room (Nat.le_of_ble_eq_true rfl)) d_R_dayTotal_7 ⟨Nat.le_refl _, Nat.le_refl _⟩).run (fun q7 => ?_)
  refine lv_lconst (v := 0) hx hb d_R_dayTotal_10 (by decide) ?_
  refine lv_lstore_n hx hb d_R_dayTotal_11 rfl hl (by decide) rfl (fun ls hl => ?_)
  have hl : lv_has ls 7 [(3, .long 0), (0, .ref (ad 0)), (1, .int da), (2, .int pr)] := hl
  refine lv_iconst (v := nI 1) hx hb d_R_dayTotal_12 (by decide) ?_
  refine lv_istore hx hb d_R_dayTotal_13 hl (by decide) rfl (fun ls hl => ?_)
  have hl : lv_has ls 7 [(5, .int (nI 1)), (3, .long 0), (0, .ref (ad 0)), (1, .int da), (2, .int pr)] := hl
  refine lv_iload hx hb d_R_dayTotal_15 (lv_at hl 0 rfl) ?_
  refine lv_aload_n hx hb d_R_dayTotal_17 rfl (lv_at hl 2 rfl) ?_
  refine va_get (D := (dC, dI)) (ci := 4) (v := .ref (ad 3)) (C := R_R) (T := F_R) (N := 7) hx hb hts (fun w h => List.mem_cons_of_mem _ (in_R w h)) hown hK hP 0 rfl rfl 2 (by decide) (hts (.fieldLink R_R 26 R_R "log" "LWeighRecorder$Log;") (List.mem_cons_of_mem _ t_116)) (fun _ h9 => h9) rfl d_R_dayTotal_18 ?_
  refine vp_callSi (va_runV (C := R_G) (As := []) (rest := [.int (nI 1)]) ⟨hx, hb, hml, hown, hts⟩ (c_G_ticketCount l dC dI ad cd w wr fl (nI 1) (-1) lw rot vb (nI 0) (nI 0) live row (-1) (nI 0) (nI 0) (nI 0) bts (nI 0) act (nI 0) (nI 0)  ) (cwV 0 hts (g_V t_217 t_218 t_219 t_4 t_220) rfl rfl rfl (by decide +kernel) ⟨by decide, by decide⟩) (xR_v hP hK 3 rfl rfl) rfl rfl hl.1 rfl (lv_room (Nat.le_of_ble_eq_true rfl)) d_R_dayTotal_21 ⟨Nat.le_refl _, Nat.le_refl _⟩).run (fun r21 q21 => ?_)
  subst q21
  refine lv_icmp_gt (tgt := 100) hx hb d_R_dayTotal_24 (by decide) (fun c24 => ?_) (fun c24 => ?_)
  ·
    refine lv_lload_n hx hb d_R_dayTotal_100 rfl (lv_at hl 1 rfl) ?_
    exact W.lret (v := 0) hx hb hr (fun t ht hW => ⟨0, rfl, by first | rfl | trivial | omega, ht⟩) (fun q hq => by cases hq) d_R_dayTotal_101
  ·
    exact absurd c24 (by decide)
set_option maxHeartbeats 4000000 in
set_option maxRecDepth 100000 in
theorem c_R_rangeTotal_f (l : Launch) (dC : Nat → ClassId) (dI : Nat → Nat → Nat) (ad cd : Nat → Nat) (w wr fl : Nat → Int32) (pw sc : Int32) (lw rot vb : Nat → Int32) (rec tk : Int32) (live row : Nat → Int32) (cur ser dur wo : Int32) (bts : Nat → Int32) (us : Int32) (act : Nat → Int32) (rd rs : Int32) (fr to : Int32) : Met l y_R_rangeTotal w_R_rangeTotal ({ frames := 1, cells := 0, slots := 0, locals := 20 }) (xR (dC, dI) vwCl (xt cd) (xw ad cd w wr fl (nI 1) (-1) lw rot vb (nI 0) (nI 0) live row (-1) (nI 0) (nI 0) (nI 0) bts (nI 0) act (nI 0) (nI 0)) [.ref (ad 0), .int fr, .int to]) (vp_Sl (fun r => r = 0)) 0 0 (fun _ => False) := by
  refine Met.ofW (cc := b_R_rangeTotal) (maxL := 7) (ret := (some (.long))) (by decide) rfl ?_
  intro P e s m args below meth c0 s₁ B hml hv
  obtain ⟨rfl, hP, hK⟩ := hv
  have hx := B.exec
  have hb := B.bytes
  have hr := B.returns
  have hts := atoms_spec (ws := w_R_rangeTotal) B.pre
  have hown : s.vm.findClass R_R = some m.cls := findClass_of_methodNamed B.named
  have hlocks := B.notSynchronized
  have hl := lv_entry ([.ref (ad 0), .int fr, .int to]) (n := 7) (Nat.le_of_ble_eq_true rfl)
  rw [lg_entry_eq]
  generalize (lg_sl ([.ref (ad 0), .int fr, .int to]) ++ List.replicate (7 - (lg_sl ([.ref (ad 0), .int fr, .int to])).length) Slot.unset).toArray = ls at hl ⊢
  have hl : lv_has ls 7 [(0, .ref (ad 0)), (1, .int fr), (2, .int to)] := hl
  refine lv_aload_n hx hb d_R_rangeTotal_0 rfl (lv_at hl 0 rfl) ?_
  refine va_get (D := (dC, dI)) (ci := 4) (v := .ref (ad 2)) (C := R_R) (T := F_R) (N := 7) hx hb hts (fun w h => List.mem_cons_of_mem _ (in_R w h)) hown hK hP 0 rfl rfl 1 (by decide) (hts (.fieldLink R_R 20 R_R "chip" "LWeighRecorder$Chip;") (List.mem_cons_of_mem _ t_115)) (fun _ h9 => h9) rfl d_R_rangeTotal_1 ?_
  refine vp_callSi (va_runV (C := R_C) (As := []) (rest := []) ⟨hx, hb, hml, hown, hts⟩ (c_C_isPowered l dC dI ad cd w wr fl (nI 1) (-1) lw rot vb (nI 0) (nI 0) live row (-1) (nI 0) (nI 0) (nI 0) bts (nI 0) act (nI 0) (nI 0)  (by first | omega | rfl | assumption | decide)) (cwV 0 hts (g_V t_225 t_226 t_227 t_3 t_228) rfl rfl rfl (by decide +kernel) ⟨by decide, by decide⟩) (xR_v hP hK 2 rfl rfl) rfl rfl hl.1 rfl (lv_room (Nat.le_of_ble_eq_true rfl)) d_R_rangeTotal_4 ⟨Nat.le_refl _, Nat.le_refl _⟩).run (fun r4 q4 => ?_)
  subst q4
  refine va_csv (va_runS (As := [.int (nI 1)]) (rest := []) ⟨hx, hb, hml, hown, hts⟩ (c_R_requireState_1 l dC dI  ) (cwS 1 hts (g_S t_338 t_339 t_1 t_340) rfl rfl rfl (by decide +kernel) ⟨by decide, by decide⟩) (xR_s (va_P.sub hP [] rfl) (hK.sub [] rfl)) rfl rfl hl.1 rfl (lv_room (Nat.le_of_ble_eq_true rfl)) d_R_rangeTotal_7 ⟨Nat.le_refl _, Nat.le_refl _⟩).run (fun q7 => ?_)
  refine lv_iload_n hx hb d_R_rangeTotal_10 rfl (lv_at hl 2 rfl) ?_
  refine lv_aload_n hx hb d_R_rangeTotal_11 rfl (lv_at hl 0 rfl) ?_
  refine va_get (D := (dC, dI)) (ci := 4) (v := .ref (ad 3)) (C := R_R) (T := F_R) (N := 7) hx hb hts (fun w h => List.mem_cons_of_mem _ (in_R w h)) hown hK hP 0 rfl rfl 2 (by decide) (hts (.fieldLink R_R 26 R_R "log" "LWeighRecorder$Log;") (List.mem_cons_of_mem _ t_116)) (fun _ h9 => h9) rfl d_R_rangeTotal_12 ?_
  refine vp_callSi (va_runV (C := R_G) (As := []) (rest := [.int to]) ⟨hx, hb, hml, hown, hts⟩ (c_G_ticketCount l dC dI ad cd w wr fl (nI 1) (-1) lw rot vb (nI 0) (nI 0) live row (-1) (nI 0) (nI 0) (nI 0) bts (nI 0) act (nI 0) (nI 0)  ) (cwV 0 hts (g_V t_217 t_218 t_219 t_4 t_220) rfl rfl rfl (by decide +kernel) ⟨by decide, by decide⟩) (xR_v hP hK 3 rfl rfl) rfl rfl hl.1 rfl (lv_room (Nat.le_of_ble_eq_true rfl)) d_R_rangeTotal_15 ⟨Nat.le_refl _, Nat.le_refl _⟩).run (fun r15 q15 => ?_)
  subst q15
  refine va_mmin hx hb (hml.trans hl.1.symm) hown (hts (.methodLink R_R 133 Lib.Math.min.name) (List.mem_cons_of_mem _ t_567)) (hts (.static Lib.Math.min.name) (List.mem_cons_of_mem _ t_568)) (hts (.initialized "java/lang/Math") (List.mem_cons_of_mem _ t_13)) (hts (.code Lib.Math.min.name Lib.Math.min.code 2 (some .int)) (List.mem_cons_of_mem _ t_569)) (by decide) (by decide) (Nat.zero_le _) (Nat.zero_le _) d_R_rangeTotal_18 ?_
  refine lv_istore_n hx hb d_R_rangeTotal_21 rfl hl (by decide) rfl (fun ls hl => ?_)
  have hl : lv_has ls 7 [(3, .int (if (nI 0) < to then (nI 0) else to)), (0, .ref (ad 0)), (1, .int fr), (2, .int to)] := hl
  refine lv_lconst (v := 0) hx hb d_R_rangeTotal_22 (by decide) ?_
  refine lv_lstore hx hb d_R_rangeTotal_23 hl (by decide) rfl (fun ls hl => ?_)
  have hl : lv_has ls 7 [(4, .long 0), (3, .int (if (nI 0) < to then (nI 0) else to)), (0, .ref (ad 0)), (1, .int fr), (2, .int to)] := hl
  refine lv_iload_n hx hb d_R_rangeTotal_25 rfl (lv_at hl 3 rfl) ?_
  refine lv_iconst (v := nI 1) hx hb d_R_rangeTotal_26 (by decide) ?_
  refine va_mmax hx hb (hml.trans hl.1.symm) hown (hts (.methodLink R_R 139 Lib.Math.max.name) (List.mem_cons_of_mem _ t_570)) (hts (.static Lib.Math.max.name) (List.mem_cons_of_mem _ t_571)) (hts (.initialized "java/lang/Math") (List.mem_cons_of_mem _ t_13)) (hts (.code Lib.Math.max.name Lib.Math.max.code 2 (some .int)) (List.mem_cons_of_mem _ t_572)) (by decide) (by decide) (Nat.zero_le _) (Nat.zero_le _) d_R_rangeTotal_27 ?_
  refine lv_istore hx hb d_R_rangeTotal_30 hl (by decide) rfl (fun ls hl => ?_)
  have hl : lv_has ls 7 [(6, .int (if fr < (nI 1) then (nI 1) else fr)), (4, .long 0), (3, .int (if (nI 0) < to then (nI 0) else to)), (0, .ref (ad 0)), (1, .int fr), (2, .int to)] := hl
  refine lv_iload hx hb d_R_rangeTotal_32 (lv_at hl 0 rfl) ?_
  refine lv_iload_n hx hb d_R_rangeTotal_34 rfl (lv_at hl 2 rfl) ?_
  refine lv_icmp_gt (tgt := 71) hx hb d_R_rangeTotal_35 (by decide) (fun c35 => ?_) (fun c35 => ?_)
  ·
    refine lv_lload hx hb d_R_rangeTotal_71 (lv_at hl 1 rfl) ?_
    exact W.lret (v := 0) hx hb hr (fun t ht hW => ⟨0, rfl, by first | rfl | trivial | omega, ht⟩) (fun q hq => by cases hq) d_R_rangeTotal_73
  ·
    exact absurd (mn_mx to fr) c35
set_option maxHeartbeats 4000000 in
set_option maxRecDepth 100000 in
theorem c_R_find_f (l : Launch) (dC : Nat → ClassId) (dI : Nat → Nat → Nat) (ad cd : Nat → Nat) (w wr fl : Nat → Int32) (pw sc : Int32) (lw rot vb : Nat → Int32) (rec tk : Int32) (live row : Nat → Int32) (cur ser dur wo : Int32) (bts : Nat → Int32) (us : Int32) (act : Nat → Int32) (rd rs : Int32) (pl fr : Int32) : Met l y_R_find w_R_find ({ frames := 1, cells := 0, slots := 0, locals := 20 }) (xR (dC, dI) vwCl (xt cd) (xw ad cd w wr fl (nI 1) (-1) lw rot vb (nI 0) (nI 0) live row (-1) (nI 0) (nI 0) (nI 0) bts (nI 0) act (nI 0) (nI 0)) [.ref (ad 0), .int pl, .int fr]) (vp_Si (fun r => r = nI 0)) 0 0 (fun _ => False) := by
  refine Met.ofW (cc := b_R_find) (maxL := 4) (ret := (some (.int))) (by decide) rfl ?_
  intro P e s m args below meth c0 s₁ B hml hv
  obtain ⟨rfl, hP, hK⟩ := hv
  have hx := B.exec
  have hb := B.bytes
  have hr := B.returns
  have hts := atoms_spec (ws := w_R_find) B.pre
  have hown : s.vm.findClass R_R = some m.cls := findClass_of_methodNamed B.named
  have hlocks := B.notSynchronized
  have hl := lv_entry ([.ref (ad 0), .int pl, .int fr]) (n := 4) (Nat.le_of_ble_eq_true rfl)
  rw [lg_entry_eq]
  generalize (lg_sl ([.ref (ad 0), .int pl, .int fr]) ++ List.replicate (4 - (lg_sl ([.ref (ad 0), .int pl, .int fr])).length) Slot.unset).toArray = ls at hl ⊢
  have hl : lv_has ls 4 [(0, .ref (ad 0)), (1, .int pl), (2, .int fr)] := hl
  refine lv_aload_n hx hb d_R_find_0 rfl (lv_at hl 0 rfl) ?_
  refine va_get (D := (dC, dI)) (ci := 4) (v := .ref (ad 2)) (C := R_R) (T := F_R) (N := 7) hx hb hts (fun w h => List.mem_cons_of_mem _ (in_R w h)) hown hK hP 0 rfl rfl 1 (by decide) (hts (.fieldLink R_R 20 R_R "chip" "LWeighRecorder$Chip;") (List.mem_cons_of_mem _ t_115)) (fun _ h9 => h9) rfl d_R_find_1 ?_
  refine vp_callSi (va_runV (C := R_C) (As := []) (rest := []) ⟨hx, hb, hml, hown, hts⟩ (c_C_isPowered l dC dI ad cd w wr fl (nI 1) (-1) lw rot vb (nI 0) (nI 0) live row (-1) (nI 0) (nI 0) (nI 0) bts (nI 0) act (nI 0) (nI 0)  (by first | omega | rfl | assumption | decide)) (cwV 0 hts (g_V t_225 t_226 t_227 t_3 t_228) rfl rfl rfl (by decide +kernel) ⟨by decide, by decide⟩) (xR_v hP hK 2 rfl rfl) rfl rfl hl.1 rfl (lv_room (Nat.le_of_ble_eq_true rfl)) d_R_find_4 ⟨Nat.le_refl _, Nat.le_refl _⟩).run (fun r4 q4 => ?_)
  subst q4
  refine va_csv (va_runS (As := [.int (nI 1)]) (rest := []) ⟨hx, hb, hml, hown, hts⟩ (c_R_requireState_1 l dC dI  ) (cwS 1 hts (g_S t_338 t_339 t_1 t_340) rfl rfl rfl (by decide +kernel) ⟨by decide, by decide⟩) (xR_s (va_P.sub hP [] rfl) (hK.sub [] rfl)) rfl rfl hl.1 rfl (lv_room (Nat.le_of_ble_eq_true rfl)) d_R_find_7 ⟨Nat.le_refl _, Nat.le_refl _⟩).run (fun q7 => ?_)
  refine lv_iload_n hx hb d_R_find_10 rfl (lv_at hl 2 rfl) ?_
  refine lv_iconst (v := nI 1) hx hb d_R_find_11 (by decide) ?_
  refine va_mmax hx hb (hml.trans hl.1.symm) hown (hts (.methodLink R_R 139 Lib.Math.max.name) (List.mem_cons_of_mem _ t_570)) (hts (.static Lib.Math.max.name) (List.mem_cons_of_mem _ t_571)) (hts (.initialized "java/lang/Math") (List.mem_cons_of_mem _ t_13)) (hts (.code Lib.Math.max.name Lib.Math.max.code 2 (some .int)) (List.mem_cons_of_mem _ t_572)) (by decide) (by decide) (Nat.zero_le _) (Nat.zero_le _) d_R_find_12 ?_
  refine lv_istore_n hx hb d_R_find_15 rfl hl (by decide) rfl (fun ls hl => ?_)
  have hl : lv_has ls 4 [(3, .int (if fr < (nI 1) then (nI 1) else fr)), (0, .ref (ad 0)), (1, .int pl), (2, .int fr)] := hl
  refine lv_iload_n hx hb d_R_find_16 rfl (lv_at hl 0 rfl) ?_
  refine lv_aload_n hx hb d_R_find_17 rfl (lv_at hl 1 rfl) ?_
  refine va_get (D := (dC, dI)) (ci := 4) (v := .ref (ad 3)) (C := R_R) (T := F_R) (N := 7) hx hb hts (fun w h => List.mem_cons_of_mem _ (in_R w h)) hown hK hP 0 rfl rfl 2 (by decide) (hts (.fieldLink R_R 26 R_R "log" "LWeighRecorder$Log;") (List.mem_cons_of_mem _ t_116)) (fun _ h9 => h9) rfl d_R_find_18 ?_
  refine vp_callSi (va_runV (C := R_G) (As := []) (rest := [.int (if fr < (nI 1) then (nI 1) else fr)]) ⟨hx, hb, hml, hown, hts⟩ (c_G_ticketCount l dC dI ad cd w wr fl (nI 1) (-1) lw rot vb (nI 0) (nI 0) live row (-1) (nI 0) (nI 0) (nI 0) bts (nI 0) act (nI 0) (nI 0)  ) (cwV 0 hts (g_V t_217 t_218 t_219 t_4 t_220) rfl rfl rfl (by decide +kernel) ⟨by decide, by decide⟩) (xR_v hP hK 3 rfl rfl) rfl rfl hl.1 rfl (lv_room (Nat.le_of_ble_eq_true rfl)) d_R_find_21 ⟨Nat.le_refl _, Nat.le_refl _⟩).run (fun r21 q21 => ?_)
  subst q21
  refine lv_icmp_gt (tgt := 47) hx hb d_R_find_24 (by decide) (fun c24 => ?_) (fun c24 => ?_)
  ·
    refine lv_iconst (v := nI 0) hx hb d_R_find_47 (by decide) ?_
    exact W.iret (v := nI 0) hx hb hr (fun t ht hW => ⟨nI 0, rfl, by first | rfl | trivial | omega, ht⟩) (fun q hq => by cases hq) d_R_find_48
  ·
    exact absurd (z_mx fr) c24
set_option maxHeartbeats 4000000 in
set_option maxRecDepth 100000 in
theorem c_R_audit_f (l : Launch) (dC : Nat → ClassId) (dI : Nat → Nat → Nat) (ad cd : Nat → Nat) (w wr fl : Nat → Int32) (pw sc : Int32) (lw rot vb : Nat → Int32) (rec tk : Int32) (live row : Nat → Int32) (cur ser dur wo : Int32) (bts : Nat → Int32) (us : Int32) (act : Nat → Int32) (rd rs : Int32) (fr to : Int32) : Met l y_R_audit w_R_audit ({ frames := 1, cells := 0, slots := 0, locals := 20 }) (xR (dC, dI) vwCl (xt cd) (xw ad cd w wr fl (nI 1) (-1) lw rot vb (nI 0) (nI 0) live row (-1) (nI 0) (nI 0) (nI 0) bts (nI 0) act (nI 0) (nI 0)) [.ref (ad 0), .int fr, .int to]) (vp_Si (fun r => r = nI 0)) 0 0 (fun _ => False) := by
  refine Met.ofW (cc := b_R_audit) (maxL := 5) (ret := (some (.int))) (by decide) rfl ?_
  intro P e s m args below meth c0 s₁ B hml hv
  obtain ⟨rfl, hP, hK⟩ := hv
  have hx := B.exec
  have hb := B.bytes
  have hr := B.returns
  have hts := atoms_spec (ws := w_R_audit) B.pre
  have hown : s.vm.findClass R_R = some m.cls := findClass_of_methodNamed B.named
  have hlocks := B.notSynchronized
  have hl := lv_entry ([.ref (ad 0), .int fr, .int to]) (n := 5) (Nat.le_of_ble_eq_true rfl)
  rw [lg_entry_eq]
  generalize (lg_sl ([.ref (ad 0), .int fr, .int to]) ++ List.replicate (5 - (lg_sl ([.ref (ad 0), .int fr, .int to])).length) Slot.unset).toArray = ls at hl ⊢
  have hl : lv_has ls 5 [(0, .ref (ad 0)), (1, .int fr), (2, .int to)] := hl
  refine lv_aload_n hx hb d_R_audit_0 rfl (lv_at hl 0 rfl) ?_
  refine va_get (D := (dC, dI)) (ci := 4) (v := .ref (ad 2)) (C := R_R) (T := F_R) (N := 7) hx hb hts (fun w h => List.mem_cons_of_mem _ (in_R w h)) hown hK hP 0 rfl rfl 1 (by decide) (hts (.fieldLink R_R 20 R_R "chip" "LWeighRecorder$Chip;") (List.mem_cons_of_mem _ t_115)) (fun _ h9 => h9) rfl d_R_audit_1 ?_
  refine vp_callSi (va_runV (C := R_C) (As := []) (rest := []) ⟨hx, hb, hml, hown, hts⟩ (c_C_isPowered l dC dI ad cd w wr fl (nI 1) (-1) lw rot vb (nI 0) (nI 0) live row (-1) (nI 0) (nI 0) (nI 0) bts (nI 0) act (nI 0) (nI 0)  (by first | omega | rfl | assumption | decide)) (cwV 0 hts (g_V t_225 t_226 t_227 t_3 t_228) rfl rfl rfl (by decide +kernel) ⟨by decide, by decide⟩) (xR_v hP hK 2 rfl rfl) rfl rfl hl.1 rfl (lv_room (Nat.le_of_ble_eq_true rfl)) d_R_audit_4 ⟨Nat.le_refl _, Nat.le_refl _⟩).run (fun r4 q4 => ?_)
  subst q4
  refine va_csv (va_runS (As := [.int (nI 1)]) (rest := []) ⟨hx, hb, hml, hown, hts⟩ (c_R_requireState_1 l dC dI  ) (cwS 1 hts (g_S t_338 t_339 t_1 t_340) rfl rfl rfl (by decide +kernel) ⟨by decide, by decide⟩) (xR_s (va_P.sub hP [] rfl) (hK.sub [] rfl)) rfl rfl hl.1 rfl (lv_room (Nat.le_of_ble_eq_true rfl)) d_R_audit_7 ⟨Nat.le_refl _, Nat.le_refl _⟩).run (fun q7 => ?_)
  refine lv_iload_n hx hb d_R_audit_10 rfl (lv_at hl 2 rfl) ?_
  refine lv_aload_n hx hb d_R_audit_11 rfl (lv_at hl 0 rfl) ?_
  refine va_get (D := (dC, dI)) (ci := 4) (v := .ref (ad 3)) (C := R_R) (T := F_R) (N := 7) hx hb hts (fun w h => List.mem_cons_of_mem _ (in_R w h)) hown hK hP 0 rfl rfl 2 (by decide) (hts (.fieldLink R_R 26 R_R "log" "LWeighRecorder$Log;") (List.mem_cons_of_mem _ t_116)) (fun _ h9 => h9) rfl d_R_audit_12 ?_
  refine vp_callSi (va_runV (C := R_G) (As := []) (rest := [.int to]) ⟨hx, hb, hml, hown, hts⟩ (c_G_ticketCount l dC dI ad cd w wr fl (nI 1) (-1) lw rot vb (nI 0) (nI 0) live row (-1) (nI 0) (nI 0) (nI 0) bts (nI 0) act (nI 0) (nI 0)  ) (cwV 0 hts (g_V t_217 t_218 t_219 t_4 t_220) rfl rfl rfl (by decide +kernel) ⟨by decide, by decide⟩) (xR_v hP hK 3 rfl rfl) rfl rfl hl.1 rfl (lv_room (Nat.le_of_ble_eq_true rfl)) d_R_audit_15 ⟨Nat.le_refl _, Nat.le_refl _⟩).run (fun r15 q15 => ?_)
  subst q15
  refine va_mmin hx hb (hml.trans hl.1.symm) hown (hts (.methodLink R_R 133 Lib.Math.min.name) (List.mem_cons_of_mem _ t_567)) (hts (.static Lib.Math.min.name) (List.mem_cons_of_mem _ t_568)) (hts (.initialized "java/lang/Math") (List.mem_cons_of_mem _ t_13)) (hts (.code Lib.Math.min.name Lib.Math.min.code 2 (some .int)) (List.mem_cons_of_mem _ t_569)) (by decide) (by decide) (Nat.zero_le _) (Nat.zero_le _) d_R_audit_18 ?_
  refine lv_istore_n hx hb d_R_audit_21 rfl hl (by decide) rfl (fun ls hl => ?_)
  have hl : lv_has ls 5 [(3, .int (if (nI 0) < to then (nI 0) else to)), (0, .ref (ad 0)), (1, .int fr), (2, .int to)] := hl
  refine lv_iload_n hx hb d_R_audit_22 rfl (lv_at hl 2 rfl) ?_
  refine lv_iconst (v := nI 1) hx hb d_R_audit_23 (by decide) ?_
  refine va_mmax hx hb (hml.trans hl.1.symm) hown (hts (.methodLink R_R 139 Lib.Math.max.name) (List.mem_cons_of_mem _ t_570)) (hts (.static Lib.Math.max.name) (List.mem_cons_of_mem _ t_571)) (hts (.initialized "java/lang/Math") (List.mem_cons_of_mem _ t_13)) (hts (.code Lib.Math.max.name Lib.Math.max.code 2 (some .int)) (List.mem_cons_of_mem _ t_572)) (by decide) (by decide) (Nat.zero_le _) (Nat.zero_le _) d_R_audit_24 ?_
  refine lv_istore hx hb d_R_audit_27 hl (by decide) rfl (fun ls hl => ?_)
  have hl : lv_has ls 5 [(4, .int (if fr < (nI 1) then (nI 1) else fr)), (3, .int (if (nI 0) < to then (nI 0) else to)), (0, .ref (ad 0)), (1, .int fr), (2, .int to)] := hl
  refine lv_iload hx hb d_R_audit_29 (lv_at hl 0 rfl) ?_
  refine lv_iload_n hx hb d_R_audit_31 rfl (lv_at hl 1 rfl) ?_
  refine lv_icmp_gt (tgt := 63) hx hb d_R_audit_32 (by decide) (fun c32 => ?_) (fun c32 => ?_)
  ·
    refine lv_iconst (v := nI 0) hx hb d_R_audit_63 (by decide) ?_
    exact W.iret (v := nI 0) hx hb hr (fun t ht hW => ⟨nI 0, rfl, by first | rfl | trivial | omega, ht⟩) (fun q hq => by cases hq) d_R_audit_64
  ·
    exact absurd (mn_mx to fr) c32
set_option maxHeartbeats 4000000 in
set_option maxRecDepth 100000 in
theorem c_R_exportByte_f (l : Launch) (dC : Nat → ClassId) (dI : Nat → Nat → Nat) (ad cd : Nat → Nat) (w wr fl : Nat → Int32) (pw sc : Int32) (lw rot vb : Nat → Int32) (rec tk : Int32) (live row : Nat → Int32) (cur ser dur wo : Int32) (bts : Nat → Int32) (us : Int32) (act : Nat → Int32) (rd rs : Int32) (fr to ix : Int32) : Met l y_R_exportByte w_R_exportByte ({ frames := 1, cells := 0, slots := 0, locals := 20 }) (xR (dC, dI) vwCl (xt cd) (xw ad cd w wr fl (nI 1) (-1) lw rot vb (nI 0) (nI 0) live row (-1) (nI 0) (nI 0) (nI 0) bts (nI 0) act (nI 0) (nI 0)) [.ref (ad 0), .int fr, .int to, .int ix]) (vp_Si (fun r => r = -1)) 0 0 (fun _ => False) := by
  refine Met.ofW (cc := b_R_exportByte) (maxL := 7) (ret := (some (.int))) (by decide) rfl ?_
  intro P e s m args below meth c0 s₁ B hml hv
  obtain ⟨rfl, hP, hK⟩ := hv
  have hx := B.exec
  have hb := B.bytes
  have hr := B.returns
  have hts := atoms_spec (ws := w_R_exportByte) B.pre
  have hown : s.vm.findClass R_R = some m.cls := findClass_of_methodNamed B.named
  have hlocks := B.notSynchronized
  have hl := lv_entry ([.ref (ad 0), .int fr, .int to, .int ix]) (n := 7) (Nat.le_of_ble_eq_true rfl)
  rw [lg_entry_eq]
  generalize (lg_sl ([.ref (ad 0), .int fr, .int to, .int ix]) ++ List.replicate (7 - (lg_sl ([.ref (ad 0), .int fr, .int to, .int ix])).length) Slot.unset).toArray = ls at hl ⊢
  have hl : lv_has ls 7 [(0, .ref (ad 0)), (1, .int fr), (2, .int to), (3, .int ix)] := hl
  refine lv_aload_n hx hb d_R_exportByte_0 rfl (lv_at hl 0 rfl) ?_
  refine va_get (D := (dC, dI)) (ci := 4) (v := .ref (ad 2)) (C := R_R) (T := F_R) (N := 7) hx hb hts (fun w h => List.mem_cons_of_mem _ (in_R w h)) hown hK hP 0 rfl rfl 1 (by decide) (hts (.fieldLink R_R 20 R_R "chip" "LWeighRecorder$Chip;") (List.mem_cons_of_mem _ t_115)) (fun _ h9 => h9) rfl d_R_exportByte_1 ?_
  refine vp_callSi (va_runV (C := R_C) (As := []) (rest := []) ⟨hx, hb, hml, hown, hts⟩ (c_C_isPowered l dC dI ad cd w wr fl (nI 1) (-1) lw rot vb (nI 0) (nI 0) live row (-1) (nI 0) (nI 0) (nI 0) bts (nI 0) act (nI 0) (nI 0)  (by first | omega | rfl | assumption | decide)) (cwV 0 hts (g_V t_225 t_226 t_227 t_3 t_228) rfl rfl rfl (by decide +kernel) ⟨by decide, by decide⟩) (xR_v hP hK 2 rfl rfl) rfl rfl hl.1 rfl (lv_room (Nat.le_of_ble_eq_true rfl)) d_R_exportByte_4 ⟨Nat.le_refl _, Nat.le_refl _⟩).run (fun r4 q4 => ?_)
  subst q4
  refine va_csv (va_runS (As := [.int (nI 1)]) (rest := []) ⟨hx, hb, hml, hown, hts⟩ (c_R_requireState_1 l dC dI  ) (cwS 1 hts (g_S t_338 t_339 t_1 t_340) rfl rfl rfl (by decide +kernel) ⟨by decide, by decide⟩) (xR_s (va_P.sub hP [] rfl) (hK.sub [] rfl)) rfl rfl hl.1 rfl (lv_room (Nat.le_of_ble_eq_true rfl)) d_R_exportByte_7 ⟨Nat.le_refl _, Nat.le_refl _⟩).run (fun q7 => ?_)
  refine lv_iload_n hx hb d_R_exportByte_10 rfl (lv_at hl 3 rfl) ?_
  refine lv_if_ge (tgt := 16) hx hb d_R_exportByte_11 (by decide) (fun c11 => ?_) (fun c11 => ?_)
  ·
    refine lv_iload_n hx hb d_R_exportByte_16 rfl (lv_at hl 2 rfl) ?_
    refine lv_aload_n hx hb d_R_exportByte_17 rfl (lv_at hl 0 rfl) ?_
    refine va_get (D := (dC, dI)) (ci := 4) (v := .ref (ad 3)) (C := R_R) (T := F_R) (N := 7) hx hb hts (fun w h => List.mem_cons_of_mem _ (in_R w h)) hown hK hP 0 rfl rfl 2 (by decide) (hts (.fieldLink R_R 26 R_R "log" "LWeighRecorder$Log;") (List.mem_cons_of_mem _ t_116)) (fun _ h9 => h9) rfl d_R_exportByte_18 ?_
    refine vp_callSi (va_runV (C := R_G) (As := []) (rest := [.int to]) ⟨hx, hb, hml, hown, hts⟩ (c_G_ticketCount l dC dI ad cd w wr fl (nI 1) (-1) lw rot vb (nI 0) (nI 0) live row (-1) (nI 0) (nI 0) (nI 0) bts (nI 0) act (nI 0) (nI 0)  ) (cwV 0 hts (g_V t_217 t_218 t_219 t_4 t_220) rfl rfl rfl (by decide +kernel) ⟨by decide, by decide⟩) (xR_v hP hK 3 rfl rfl) rfl rfl hl.1 rfl (lv_room (Nat.le_of_ble_eq_true rfl)) d_R_exportByte_21 ⟨Nat.le_refl _, Nat.le_refl _⟩).run (fun r21 q21 => ?_)
    subst q21
    refine va_mmin hx hb (hml.trans hl.1.symm) hown (hts (.methodLink R_R 133 Lib.Math.min.name) (List.mem_cons_of_mem _ t_567)) (hts (.static Lib.Math.min.name) (List.mem_cons_of_mem _ t_568)) (hts (.initialized "java/lang/Math") (List.mem_cons_of_mem _ t_13)) (hts (.code Lib.Math.min.name Lib.Math.min.code 2 (some .int)) (List.mem_cons_of_mem _ t_569)) (by decide) (by decide) (Nat.zero_le _) (Nat.zero_le _) d_R_exportByte_24 ?_
    refine lv_istore hx hb d_R_exportByte_27 hl (by decide) rfl (fun ls hl => ?_)
    have hl : lv_has ls 7 [(4, .int (if (nI 0) < to then (nI 0) else to)), (0, .ref (ad 0)), (1, .int fr), (2, .int to), (3, .int ix)] := hl
    refine lv_iload_n hx hb d_R_exportByte_29 rfl (lv_at hl 4 rfl) ?_
    refine lv_istore hx hb d_R_exportByte_30 hl (by decide) rfl (fun ls hl => ?_)
    have hl : lv_has ls 7 [(5, .int ix), (4, .int (if (nI 0) < to then (nI 0) else to)), (0, .ref (ad 0)), (1, .int fr), (2, .int to), (3, .int ix)] := hl
    refine lv_iload_n hx hb d_R_exportByte_32 rfl (lv_at hl 3 rfl) ?_
    refine lv_iconst (v := nI 1) hx hb d_R_exportByte_33 (by decide) ?_
    refine va_mmax hx hb (hml.trans hl.1.symm) hown (hts (.methodLink R_R 139 Lib.Math.max.name) (List.mem_cons_of_mem _ t_570)) (hts (.static Lib.Math.max.name) (List.mem_cons_of_mem _ t_571)) (hts (.initialized "java/lang/Math") (List.mem_cons_of_mem _ t_13)) (hts (.code Lib.Math.max.name Lib.Math.max.code 2 (some .int)) (List.mem_cons_of_mem _ t_572)) (by decide) (by decide) (Nat.zero_le _) (Nat.zero_le _) d_R_exportByte_34 ?_
    refine lv_istore hx hb d_R_exportByte_37 hl (by decide) rfl (fun ls hl => ?_)
    have hl : lv_has ls 7 [(6, .int (if fr < (nI 1) then (nI 1) else fr)), (5, .int ix), (4, .int (if (nI 0) < to then (nI 0) else to)), (0, .ref (ad 0)), (1, .int fr), (2, .int to), (3, .int ix)] := hl
    refine lv_iload hx hb d_R_exportByte_39 (lv_at hl 0 rfl) ?_
    refine lv_iload hx hb d_R_exportByte_41 (lv_at hl 2 rfl) ?_
    refine lv_icmp_gt (tgt := 99) hx hb d_R_exportByte_43 (by decide) (fun c43 => ?_) (fun c43 => ?_)
    ·
      refine lv_iconst (v := (-1)) hx hb d_R_exportByte_99 (by decide) ?_
      exact W.iret (v := (-1)) hx hb hr (fun t ht hW => ⟨(-1), rfl, by first | rfl | trivial | omega, ht⟩) (fun q hq => by cases hq) d_R_exportByte_100
    ·
      exact absurd (mn_mx to fr) c43
  ·
    refine lv_iconst (v := (-1)) hx hb d_R_exportByte_14 (by decide) ?_
    exact W.iret (v := (-1)) hx hb hr (fun t ht hW => ⟨(-1), rfl, by first | rfl | trivial | omega, ht⟩) (fun q hq => by cases hq) d_R_exportByte_15
set_option maxHeartbeats 4000000 in
set_option maxRecDepth 100000 in
theorem c_R_setProduct_ok (l : Launch) (dC : Nat → ClassId) (dI : Nat → Nat → Nat) (ad cd : Nat → Nat) (sz : Nat) (w wr fl : Nat → Int32) (pw sc : Int32) (lw rot vb : Nat → Int32) (rec tk : Int32) (live row : Nat → Int32) (cur ser dur wo : Int32) (bts : Nat → Int32) (us : Int32) (act : Nat → Int32) (rd rs : Int32) (j : Nat) (b : Int32) (hj : j < 40) : Met l y_R_setProduct w_R_setProduct ({ frames := 2, cells := 0, slots := 0, locals := 42 }) (xP (dC, dI) vwCl (xt cd) (xw ad cd w wr fl (nI 1) (-1) lw rot vb (nI 0) (nI 0) live row (-1) (nI 0) (nI 0) (nI 0) bts (nI 0) act (nI 0) (nI 0)) sz [.ref (ad 0), .int (nI j), .int b]) (va_Qv (fun (u : Unit) => True) (fun (u : Unit) (t : State) => xB (dC, dI) vwCl (xt cd) (xA 15 ad sz) (xw ad cd w wr fl (nI 1) (-1) lw rot vb (nI 0) (nI 0) live row (-1) (nI 0) (nI 0) (nI 0) bts (nI 0) (upd act j (vp_nar .boolean b)) (nI 0) (nI 0)) t) (xA 15 ad sz)) 0 0 (xA 15 ad sz) := by
  refine Met.ofW (cc := b_R_setProduct) (maxL := 3) (ret := none) (by decide) rfl ?_
  intro P e s m args below meth c0 s₁ B hml hv
  obtain ⟨rfl, hsz, hP, hK, hD0⟩ := hv
  have hx := B.exec
  have hb := B.bytes
  have hr := B.returns
  have hts := atoms_spec (ws := w_R_setProduct) B.pre
  have hown : s.vm.findClass R_R = some m.cls := findClass_of_methodNamed B.named
  have hlocks := B.notSynchronized
  subst hsz
  have hD := xw_D (sz := s.heap.size) hD0
  have hS : va_S (xA 15 ad s.heap.size) s.heap s.heap [] := va_S.rf
  have hA : ∀ q : Nat, s.heap.size ≤ q → (xA 15 ad s.heap.size) q := fun q h => Or.inr h
  have hl := lv_entry ([.ref (ad 0), .int (nI j), .int b]) (n := 3) (Nat.le_of_ble_eq_true rfl)
  rw [lg_entry_eq]
  generalize (lg_sl ([.ref (ad 0), .int (nI j), .int b]) ++ List.replicate (3 - (lg_sl ([.ref (ad 0), .int (nI j), .int b])).length) Slot.unset).toArray = ls at hl ⊢
  have hl : lv_has ls 3 [(0, .ref (ad 0)), (1, .int (nI j)), (2, .int b)] := hl
  refine lv_iload_n hx hb d_R_setProduct_0 rfl (lv_at hl 1 rfl) ?_
  refine vp_callSi (va_runS (As := [.int (nI j)]) (rest := []) ⟨hx, hb, hml, hown, hts⟩ (c_R_isProduct l dC dI (nI j) ) (cwS 1 hts (g_S t_364 t_365 t_1 t_366) rfl rfl rfl (by decide +kernel) ⟨by decide, by decide⟩) (xR_s (va_P.sub hP [] rfl) (hK.sub [] rfl)) rfl rfl hl.1 rfl (lv_room (Nat.le_of_ble_eq_true rfl)) d_R_setProduct_1 ⟨Nat.le_refl _, Nat.le_refl _⟩).run (fun r1 q1 => ?_)
  obtain ⟨rfl, -⟩ := q1.resolve_right (fun z => z.2 (⟨(nI_leI (by decide) (by omega)).mpr (Nat.zero_le _), (nI_leI (by omega) (by decide)).mpr (by omega)⟩))
  refine va_csv (va_runS (As := [.int (nI 1)]) (rest := []) ⟨hx, hb, hml, hown, hts⟩ (c_R_requireArgument_1 l dC dI  ) (cwS 1 hts (g_S t_272 t_273 t_1 t_274) rfl rfl rfl (by decide +kernel) ⟨by decide, by decide⟩) (xR_s (va_P.sub hP [] rfl) (hK.sub [] rfl)) rfl rfl hl.1 rfl (lv_room (Nat.le_of_ble_eq_true rfl)) d_R_setProduct_4 ⟨Nat.le_refl _, Nat.le_refl _⟩).run (fun q4 => ?_)
  refine lv_aload_n hx hb d_R_setProduct_7 rfl (lv_at hl 0 rfl) ?_
  refine va_get (D := (dC, dI)) (ci := 4) (v := .ref (ad 5)) (C := R_R) (T := F_R) (N := 7) hx hb hts (fun w h => List.mem_cons_of_mem _ (in_R w h)) hown hK hP 0 rfl rfl 4 (by decide) (hts (.fieldLink R_R 37 R_R "active" "[Z") (List.mem_cons_of_mem _ t_118)) (fun _ h9 => h9) rfl d_R_setProduct_8 ?_
  refine lv_iload_n hx hb d_R_setProduct_11 rfl (lv_at hl 1 rfl) ?_
  refine lv_iload_n hx hb d_R_setProduct_12 rfl (lv_at hl 2 rfl) ?_
  refine va_zast hx hb hK hP hD hS 5 0 rfl rfl (vp_in_nI (by omega) (by decide)) d_R_setProduct_13 (fun H locs hP hD hS => ?_)
  rw [nI_clamp (by omega)] at hP hD
  have hP : va_P (dC, dI) vwCl (xw ad cd w wr fl (nI 1) (-1) lw rot vb (nI 0) (nI 0) live row (-1) (nI 0) (nI 0) (nI 0) bts (nI 0) (upd act j (vp_nar .boolean b)) (nI 0) (nI 0)) H := hP
  have hD : va_D (xA 15 ad s.heap.size) (xw ad cd w wr fl (nI 1) (-1) lw rot vb (nI 0) (nI 0) live row (-1) (nI 0) (nI 0) (nI 0) bts (nI 0) (upd act j (vp_nar .boolean b)) (nI 0) (nI 0)) := hD
  exact W.vret hx hb hr (fun t ht hW => ⟨⟨(), rfl, by first | rfl | trivial | omega, ⟨by rw [ht]; exact hP, va_K.moved hW.alike hK, hD⟩⟩, hS.F ht⟩) hS.2.2 d_R_setProduct_14
set_option maxHeartbeats 4000000 in
set_option maxRecDepth 100000 in
theorem c_R_cutAfter_ok (l : Launch) (dC : Nat → ClassId) (dI : Nat → Nat → Nat) (ad cd : Nat → Nat) (sz : Nat) (w wr fl : Nat → Int32) (pw sc : Int32) (lw rot vb : Nat → Int32) (rec tk : Int32) (live row : Nat → Int32) (cur ser dur wo : Int32) (bts : Nat → Int32) (us : Int32) (act : Nat → Int32) (rd rs : Int32) (n : Int32) (hok : nI 0 ≤ n ∧ n ≤ nI 300) : Met l y_R_cutAfter w_R_cutAfter ({ frames := 1, cells := 0, slots := 0, locals := 22 }) (xP (dC, dI) vwCl (xt cd) (xw ad cd w wr fl (nI 1) (-1) lw rot vb (nI 0) (nI 0) live row (-1) (nI 0) (nI 0) (nI 0) bts (nI 0) act (nI 0) (nI 0)) sz [.ref (ad 0), .int n]) (va_Qv (fun (u : Unit) => True) (fun (u : Unit) (t : State) => xB (dC, dI) vwCl (xt cd) (xA 15 ad sz) (xw ad cd w wr fl (nI 1) n lw rot vb (nI 0) (nI 0) live row (-1) (nI 0) (nI 0) (nI 0) bts (nI 0) act (nI 0) (nI 0)) t) (xA 15 ad sz)) 0 0 (xA 15 ad sz) := by
  refine Met.ofW (cc := b_R_cutAfter) (maxL := 2) (ret := none) (by decide) rfl ?_
  intro P e s m args below meth c0 s₁ B hml hv
  obtain ⟨rfl, hsz, hP, hK, hD0⟩ := hv
  have hx := B.exec
  have hb := B.bytes
  have hr := B.returns
  have hts := atoms_spec (ws := w_R_cutAfter) B.pre
  have hown : s.vm.findClass R_R = some m.cls := findClass_of_methodNamed B.named
  have hlocks := B.notSynchronized
  subst hsz
  have hD := xw_D (sz := s.heap.size) hD0
  have hS : va_S (xA 15 ad s.heap.size) s.heap s.heap [] := va_S.rf
  have hA : ∀ q : Nat, s.heap.size ≤ q → (xA 15 ad s.heap.size) q := fun q h => Or.inr h
  have hl := lv_entry ([.ref (ad 0), .int n]) (n := 2) (Nat.le_of_ble_eq_true rfl)
  rw [lg_entry_eq]
  generalize (lg_sl ([.ref (ad 0), .int n]) ++ List.replicate (2 - (lg_sl ([.ref (ad 0), .int n])).length) Slot.unset).toArray = ls at hl ⊢
  have hl : lv_has ls 2 [(0, .ref (ad 0)), (1, .int n)] := hl
  refine lv_iload_n hx hb d_R_cutAfter_0 rfl (lv_at hl 1 rfl) ?_
  refine lv_iconst (v := nI 0) hx hb d_R_cutAfter_1 (by decide) ?_
  refine lv_sipush (v := nI 300) hx hb d_R_cutAfter_2 (by decide) ?_
  refine vp_callSi (va_runS (As := [.int n, .int (nI 0), .int (nI 300)]) (rest := []) ⟨hx, hb, hml, hown, hts⟩ (c_R_isWithin l dC dI n (nI 0) (nI 300) ) (cwS 3 hts (g_S t_271 t_207 t_1 t_208) rfl rfl rfl (by decide +kernel) ⟨by decide, by decide⟩) (xR_s (va_P.sub hP [] rfl) (hK.sub [] rfl)) rfl rfl hl.1 rfl (lv_room (Nat.le_of_ble_eq_true rfl)) d_R_cutAfter_5 ⟨Nat.le_refl _, Nat.le_refl _⟩).run (fun r5 q5 => ?_)
  obtain ⟨rfl, -⟩ := q5.resolve_right (fun z => z.2 (hok))
  refine va_csv (va_runS (As := [.int (nI 1)]) (rest := []) ⟨hx, hb, hml, hown, hts⟩ (c_R_requireArgument_1 l dC dI  ) (cwS 1 hts (g_S t_272 t_273 t_1 t_274) rfl rfl rfl (by decide +kernel) ⟨by decide, by decide⟩) (xR_s (va_P.sub hP [] rfl) (hK.sub [] rfl)) rfl rfl hl.1 rfl (lv_room (Nat.le_of_ble_eq_true rfl)) d_R_cutAfter_8 ⟨Nat.le_refl _, Nat.le_refl _⟩).run (fun q8 => ?_)
  refine lv_aload_n hx hb d_R_cutAfter_11 rfl (lv_at hl 0 rfl) ?_
  refine va_get (D := (dC, dI)) (ci := 4) (v := .ref (ad 2)) (C := R_R) (T := F_R) (N := 7) hx hb hts (fun w h => List.mem_cons_of_mem _ (in_R w h)) hown hK hP 0 rfl rfl 1 (by decide) (hts (.fieldLink R_R 20 R_R "chip" "LWeighRecorder$Chip;") (List.mem_cons_of_mem _ t_115)) (fun _ h9 => h9) rfl d_R_cutAfter_12 ?_
  refine lv_iload_n hx hb d_R_cutAfter_15 rfl (lv_at hl 1 rfl) ?_
  have hSz := hS.1
  refine va_callv (va_runV (C := R_C) (As := [.int n]) (rest := []) ⟨hx, hb, hml, hown, hts⟩ (c_C_tellCut l dC dI ad cd s.heap.size w wr fl (nI 1) (-1) lw rot vb (nI 0) (nI 0) live row (-1) (nI 0) (nI 0) (nI 0) bts (nI 0) act (nI 0) (nI 0) n ) (cwV 1 hts (g_V t_654 t_655 t_656 t_3 t_657) rfl rfl rfl (by decide +kernel) ⟨by decide, by decide⟩) (xP_v hP hK hD 2 rfl rfl) rfl rfl hl.1 rfl (lv_room (Nat.le_of_ble_eq_true rfl)) d_R_cutAfter_16 ⟨Nat.le_refl _, Nat.le_refl _⟩) hS (fun q _ h => xA_up hS.1 q h) (fun q h => xA_up hS.1 q h) (fun u16 t H1 locs1 ht hvm q16 hB hz1 hk1 hS => ?_)
  obtain ⟨hP1, hK1, hD1⟩ := hB
  rw [ht] at hP1
  have hD : va_D (xA 15 ad s.heap.size) (xw ad cd w wr fl (nI 1) n lw rot vb (nI 0) (nI 0) live row (-1) (nI 0) (nI 0) (nI 0) bts (nI 0) act (nI 0) (nI 0)) := hD1.weaken (fun _ q _ h => xA_up hSz _ h)
  have hP : va_P (dC, dI) vwCl (xw ad cd w wr fl (nI 1) n lw rot vb (nI 0) (nI 0) live row (-1) (nI 0) (nI 0) (nI 0) bts (nI 0) act (nI 0) (nI 0)) H1 := hP1
  generalize H1 = H at hP hS ⊢
  generalize locs1 = locs at hS ⊢
  exact W.vret hx hb hr (fun t ht hW => ⟨⟨(), rfl, by first | rfl | trivial | omega, ⟨by rw [ht]; exact hP, va_K.moved hW.alike hK, hD⟩⟩, hS.F ht⟩) hS.2.2 d_R_cutAfter_19
set_option maxHeartbeats 4000000 in
set_option maxRecDepth 100000 in
theorem c_R_wearOf_ok (l : Launch) (dC : Nat → ClassId) (dI : Nat → Nat → Nat) (ad cd : Nat → Nat) (w wr fl : Nat → Int32) (pw sc : Int32) (lw rot vb : Nat → Int32) (rec tk : Int32) (live row : Nat → Int32) (cur ser dur wo : Int32) (bts : Nat → Int32) (us : Int32) (act : Nat → Int32) (rd rs : Int32) (j : Nat) (hj : j < 8) : Met l y_R_wearOf w_R_wearOf ({ frames := 1, cells := 0, slots := 0, locals := 22 }) (xR (dC, dI) vwCl (xt cd) (xw ad cd w wr fl (nI 1) (-1) lw rot vb (nI 0) (nI 0) live row (-1) (nI 0) (nI 0) (nI 0) bts (nI 0) act (nI 0) (nI 0)) [.ref (ad 0), .int (nI j)]) (vp_Si (fun r => r = wr j)) 0 0 (fun _ => False) := by
  refine Met.ofW (cc := b_R_wearOf) (maxL := 2) (ret := (some (.int))) (by decide) rfl ?_
  intro P e s m args below meth c0 s₁ B hml hv
  obtain ⟨rfl, hP, hK⟩ := hv
  have hx := B.exec
  have hb := B.bytes
  have hr := B.returns
  have hts := atoms_spec (ws := w_R_wearOf) B.pre
  have hown : s.vm.findClass R_R = some m.cls := findClass_of_methodNamed B.named
  have hlocks := B.notSynchronized
  have hl := lv_entry ([.ref (ad 0), .int (nI j)]) (n := 2) (Nat.le_of_ble_eq_true rfl)
  rw [lg_entry_eq]
  generalize (lg_sl ([.ref (ad 0), .int (nI j)]) ++ List.replicate (2 - (lg_sl ([.ref (ad 0), .int (nI j)])).length) Slot.unset).toArray = ls at hl ⊢
  have hl : lv_has ls 2 [(0, .ref (ad 0)), (1, .int (nI j))] := hl
  refine lv_iload_n hx hb d_R_wearOf_0 rfl (lv_at hl 1 rfl) ?_
  refine lv_iconst (v := nI 0) hx hb d_R_wearOf_1 (by decide) ?_
  refine lv_bipush (v := nI 7) hx hb d_R_wearOf_2 (by decide) ?_
  refine vp_callSi (va_runS (As := [.int (nI j), .int (nI 0), .int (nI 7)]) (rest := []) ⟨hx, hb, hml, hown, hts⟩ (c_R_isWithin l dC dI (nI j) (nI 0) (nI 7) ) (cwS 3 hts (g_S t_271 t_207 t_1 t_208) rfl rfl rfl (by decide +kernel) ⟨by decide, by decide⟩) (xR_s (va_P.sub hP [] rfl) (hK.sub [] rfl)) rfl rfl hl.1 rfl (lv_room (Nat.le_of_ble_eq_true rfl)) d_R_wearOf_4 ⟨Nat.le_refl _, Nat.le_refl _⟩).run (fun r4 q4 => ?_)
  obtain ⟨rfl, -⟩ := q4.resolve_right (fun z => z.2 (⟨(nI_leI (by decide) (by omega)).mpr (Nat.zero_le _), (nI_leI (by omega) (by decide)).mpr (by omega)⟩))
  refine va_csv (va_runS (As := [.int (nI 1)]) (rest := []) ⟨hx, hb, hml, hown, hts⟩ (c_R_requireArgument_1 l dC dI  ) (cwS 1 hts (g_S t_272 t_273 t_1 t_274) rfl rfl rfl (by decide +kernel) ⟨by decide, by decide⟩) (xR_s (va_P.sub hP [] rfl) (hK.sub [] rfl)) rfl rfl hl.1 rfl (lv_room (Nat.le_of_ble_eq_true rfl)) d_R_wearOf_7 ⟨Nat.le_refl _, Nat.le_refl _⟩).run (fun q7 => ?_)
  refine lv_aload_n hx hb d_R_wearOf_10 rfl (lv_at hl 0 rfl) ?_
  refine va_get (D := (dC, dI)) (ci := 4) (v := .ref (ad 2)) (C := R_R) (T := F_R) (N := 7) hx hb hts (fun w h => List.mem_cons_of_mem _ (in_R w h)) hown hK hP 0 rfl rfl 1 (by decide) (hts (.fieldLink R_R 20 R_R "chip" "LWeighRecorder$Chip;") (List.mem_cons_of_mem _ t_115)) (fun _ h9 => h9) rfl d_R_wearOf_11 ?_
  refine lv_iload_n hx hb d_R_wearOf_14 rfl (lv_at hl 1 rfl) ?_
  refine vp_callSi (va_runV (C := R_C) (As := [.int (nI j)]) (rest := []) ⟨hx, hb, hml, hown, hts⟩ (c_C_wearAt l dC dI ad cd w wr fl (nI 1) (-1) lw rot vb (nI 0) (nI 0) live row (-1) (nI 0) (nI 0) (nI 0) bts (nI 0) act (nI 0) (nI 0) j (by first | omega | rfl | assumption | decide)) (cwV 1 hts (g_V t_665 t_666 t_667 t_3 t_668) rfl rfl rfl (by decide +kernel) ⟨by decide, by decide⟩) (xR_v hP hK 2 rfl rfl) rfl rfl hl.1 rfl (lv_room (Nat.le_of_ble_eq_true rfl)) d_R_wearOf_15 ⟨Nat.le_refl _, Nat.le_refl _⟩).run (fun r15 q15 => ?_)
  subst q15
  exact W.iret (v := wr j) hx hb hr (fun t ht hW => ⟨wr j, rfl, by first | rfl | trivial | omega, ht⟩) (fun q hq => by cases hq) d_R_wearOf_18
set_option maxHeartbeats 4000000 in
set_option maxRecDepth 100000 in
theorem c_R_failBlock_ok (l : Launch) (dC : Nat → ClassId) (dI : Nat → Nat → Nat) (ad cd : Nat → Nat) (sz : Nat) (w wr fl : Nat → Int32) (pw sc : Int32) (lw rot vb : Nat → Int32) (rec tk : Int32) (live row : Nat → Int32) (cur ser dur wo : Int32) (bts : Nat → Int32) (us : Int32) (act : Nat → Int32) (rd rs : Int32) (j : Nat) (hj : j < 8) : Met l y_R_failBlock w_R_failBlock ({ frames := 1, cells := 0, slots := 0, locals := 22 }) (xP (dC, dI) vwCl (xt cd) (xw ad cd w wr fl (nI 1) (-1) lw rot vb (nI 0) (nI 0) live row (-1) (nI 0) (nI 0) (nI 0) bts (nI 0) act (nI 0) (nI 0)) sz [.ref (ad 0), .int (nI j)]) (va_Qv (fun (u : Unit) => True) (fun (u : Unit) (t : State) => xB (dC, dI) vwCl (xt cd) (xA 15 ad sz) (xw ad cd w wr (upd fl j (vp_nar .boolean (nI 1))) (nI 1) (-1) lw rot vb (nI 0) (nI 0) live row (-1) (nI 0) (nI 0) (nI 0) bts (nI 0) act (nI 0) (nI 0)) t) (xA 15 ad sz)) 0 0 (xA 15 ad sz) := by
  refine Met.ofW (cc := b_R_failBlock) (maxL := 2) (ret := none) (by decide) rfl ?_
  intro P e s m args below meth c0 s₁ B hml hv
  obtain ⟨rfl, hsz, hP, hK, hD0⟩ := hv
  have hx := B.exec
  have hb := B.bytes
  have hr := B.returns
  have hts := atoms_spec (ws := w_R_failBlock) B.pre
  have hown : s.vm.findClass R_R = some m.cls := findClass_of_methodNamed B.named
  have hlocks := B.notSynchronized
  subst hsz
  have hD := xw_D (sz := s.heap.size) hD0
  have hS : va_S (xA 15 ad s.heap.size) s.heap s.heap [] := va_S.rf
  have hA : ∀ q : Nat, s.heap.size ≤ q → (xA 15 ad s.heap.size) q := fun q h => Or.inr h
  have hl := lv_entry ([.ref (ad 0), .int (nI j)]) (n := 2) (Nat.le_of_ble_eq_true rfl)
  rw [lg_entry_eq]
  generalize (lg_sl ([.ref (ad 0), .int (nI j)]) ++ List.replicate (2 - (lg_sl ([.ref (ad 0), .int (nI j)])).length) Slot.unset).toArray = ls at hl ⊢
  have hl : lv_has ls 2 [(0, .ref (ad 0)), (1, .int (nI j))] := hl
  refine lv_iload_n hx hb d_R_failBlock_0 rfl (lv_at hl 1 rfl) ?_
  refine lv_iconst (v := nI 0) hx hb d_R_failBlock_1 (by decide) ?_
  refine lv_bipush (v := nI 7) hx hb d_R_failBlock_2 (by decide) ?_
  refine vp_callSi (va_runS (As := [.int (nI j), .int (nI 0), .int (nI 7)]) (rest := []) ⟨hx, hb, hml, hown, hts⟩ (c_R_isWithin l dC dI (nI j) (nI 0) (nI 7) ) (cwS 3 hts (g_S t_271 t_207 t_1 t_208) rfl rfl rfl (by decide +kernel) ⟨by decide, by decide⟩) (xR_s (va_P.sub hP [] rfl) (hK.sub [] rfl)) rfl rfl hl.1 rfl (lv_room (Nat.le_of_ble_eq_true rfl)) d_R_failBlock_4 ⟨Nat.le_refl _, Nat.le_refl _⟩).run (fun r4 q4 => ?_)
  obtain ⟨rfl, -⟩ := q4.resolve_right (fun z => z.2 (⟨(nI_leI (by decide) (by omega)).mpr (Nat.zero_le _), (nI_leI (by omega) (by decide)).mpr (by omega)⟩))
  refine va_csv (va_runS (As := [.int (nI 1)]) (rest := []) ⟨hx, hb, hml, hown, hts⟩ (c_R_requireArgument_1 l dC dI  ) (cwS 1 hts (g_S t_272 t_273 t_1 t_274) rfl rfl rfl (by decide +kernel) ⟨by decide, by decide⟩) (xR_s (va_P.sub hP [] rfl) (hK.sub [] rfl)) rfl rfl hl.1 rfl (lv_room (Nat.le_of_ble_eq_true rfl)) d_R_failBlock_7 ⟨Nat.le_refl _, Nat.le_refl _⟩).run (fun q7 => ?_)
  refine lv_aload_n hx hb d_R_failBlock_10 rfl (lv_at hl 0 rfl) ?_
  refine va_get (D := (dC, dI)) (ci := 4) (v := .ref (ad 2)) (C := R_R) (T := F_R) (N := 7) hx hb hts (fun w h => List.mem_cons_of_mem _ (in_R w h)) hown hK hP 0 rfl rfl 1 (by decide) (hts (.fieldLink R_R 20 R_R "chip" "LWeighRecorder$Chip;") (List.mem_cons_of_mem _ t_115)) (fun _ h9 => h9) rfl d_R_failBlock_11 ?_
  refine lv_iload_n hx hb d_R_failBlock_14 rfl (lv_at hl 1 rfl) ?_
  have hSz := hS.1
  refine va_callv (va_runV (C := R_C) (As := [.int (nI j)]) (rest := []) ⟨hx, hb, hml, hown, hts⟩ (c_C_markFailed l dC dI ad cd s.heap.size w wr fl (nI 1) (-1) lw rot vb (nI 0) (nI 0) live row (-1) (nI 0) (nI 0) (nI 0) bts (nI 0) act (nI 0) (nI 0) j (by first | omega | rfl | assumption | decide)) (cwV 1 hts (g_V t_676 t_677 t_678 t_3 t_679) rfl rfl rfl (by decide +kernel) ⟨by decide, by decide⟩) (xP_v hP hK hD 2 rfl rfl) rfl rfl hl.1 rfl (lv_room (Nat.le_of_ble_eq_true rfl)) d_R_failBlock_15 ⟨Nat.le_refl _, Nat.le_refl _⟩) hS (fun q _ h => xA_up hS.1 q h) (fun q h => xA_up hS.1 q h) (fun u15 t H1 locs1 ht hvm q15 hB hz1 hk1 hS => ?_)
  obtain ⟨hP1, hK1, hD1⟩ := hB
  rw [ht] at hP1
  have hD : va_D (xA 15 ad s.heap.size) (xw ad cd w wr (upd fl j (vp_nar .boolean (nI 1))) (nI 1) (-1) lw rot vb (nI 0) (nI 0) live row (-1) (nI 0) (nI 0) (nI 0) bts (nI 0) act (nI 0) (nI 0)) := hD1.weaken (fun _ q _ h => xA_up hSz _ h)
  have hP : va_P (dC, dI) vwCl (xw ad cd w wr (upd fl j (vp_nar .boolean (nI 1))) (nI 1) (-1) lw rot vb (nI 0) (nI 0) live row (-1) (nI 0) (nI 0) (nI 0) bts (nI 0) act (nI 0) (nI 0)) H1 := hP1
  generalize H1 = H at hP hS ⊢
  generalize locs1 = locs at hS ⊢
  exact W.vret hx hb hr (fun t ht hW => ⟨⟨(), rfl, by first | rfl | trivial | omega, ⟨by rw [ht]; exact hP, va_K.moved hW.alike hK, hD⟩⟩, hS.F ht⟩) hS.2.2 d_R_failBlock_18
set_option maxHeartbeats 4000000 in
set_option maxRecDepth 100000 in
theorem c_R_poke_ok (l : Launch) (dC : Nat → ClassId) (dI : Nat → Nat → Nat) (ad cd : Nat → Nat) (sz : Nat) (w wr fl : Nat → Int32) (pw sc : Int32) (lw rot vb : Nat → Int32) (rec tk : Int32) (live row : Nat → Int32) (cur ser dur wo : Int32) (bts : Nat → Int32) (us : Int32) (act : Nat → Int32) (rd rs : Int32) (j k : Nat) (mask : Int32) (hj : j < 32) (hk : k < 16) : Met l y_R_poke w_R_poke ({ frames := 2, cells := 0, slots := 0, locals := 43 }) (xP (dC, dI) vwCl (xt cd) (xw ad cd w wr fl (nI 1) (-1) lw rot vb (nI 0) (nI 0) live row (-1) (nI 0) (nI 0) (nI 0) bts (nI 0) act (nI 0) (nI 0)) sz [.ref (ad 0), .int (nI j), .int (nI k), .int mask]) (va_Qv (fun (u : Unit) => True) (fun (u : Unit) (t : State) => xB (dC, dI) vwCl (xt cd) (xA 15 ad sz) (xw ad cd (upd w (j * 16 + k) (w (j * 16 + k) ^^^ mask)) wr fl (nI 1) (-1) lw rot vb (nI 0) (nI 0) live row (-1) (nI 0) (nI 0) (nI 0) bts (nI 0) act (nI 0) (nI 0)) t) (xA 15 ad sz)) 0 0 (xA 15 ad sz) := by
  refine Met.ofW (cc := b_R_poke) (maxL := 4) (ret := none) (by decide) rfl ?_
  intro P e s m args below meth c0 s₁ B hml hv
  obtain ⟨rfl, hsz, hP, hK, hD0⟩ := hv
  have hx := B.exec
  have hb := B.bytes
  have hr := B.returns
  have hts := atoms_spec (ws := w_R_poke) B.pre
  have hown : s.vm.findClass R_R = some m.cls := findClass_of_methodNamed B.named
  have hlocks := B.notSynchronized
  subst hsz
  have hD := xw_D (sz := s.heap.size) hD0
  have hS : va_S (xA 15 ad s.heap.size) s.heap s.heap [] := va_S.rf
  have hA : ∀ q : Nat, s.heap.size ≤ q → (xA 15 ad s.heap.size) q := fun q h => Or.inr h
  have hl := lv_entry ([.ref (ad 0), .int (nI j), .int (nI k), .int mask]) (n := 4) (Nat.le_of_ble_eq_true rfl)
  rw [lg_entry_eq]
  generalize (lg_sl ([.ref (ad 0), .int (nI j), .int (nI k), .int mask]) ++ List.replicate (4 - (lg_sl ([.ref (ad 0), .int (nI j), .int (nI k), .int mask])).length) Slot.unset).toArray = ls at hl ⊢
  have hl : lv_has ls 4 [(0, .ref (ad 0)), (1, .int (nI j)), (2, .int (nI k)), (3, .int mask)] := hl
  refine lv_iload_n hx hb d_R_poke_0 rfl (lv_at hl 1 rfl) ?_
  refine lv_iload_n hx hb d_R_poke_1 rfl (lv_at hl 2 rfl) ?_
  refine vp_callSi (va_runS (As := [.int (nI j), .int (nI k)]) (rest := []) ⟨hx, hb, hml, hown, hts⟩ (c_R_isPlace l dC dI (nI j) (nI k) ) (cwS 2 hts (g_S t_687 t_688 t_1 t_689) rfl rfl rfl (by decide +kernel) ⟨by decide, by decide⟩) (xR_s (va_P.sub hP [] rfl) (hK.sub [] rfl)) rfl rfl hl.1 rfl (lv_room (Nat.le_of_ble_eq_true rfl)) d_R_poke_2 ⟨Nat.le_refl _, Nat.le_refl _⟩).run (fun r2 q2 => ?_)
  obtain ⟨rfl, -⟩ := q2.resolve_right (fun z => z.2 (⟨⟨(nI_leI (by decide) (by omega)).mpr (Nat.zero_le _), (nI_leI (by omega) (by decide)).mpr (by omega)⟩, ⟨(nI_leI (by decide) (by omega)).mpr (Nat.zero_le _), (nI_leI (by omega) (by decide)).mpr (by omega)⟩⟩))
  refine va_csv (va_runS (As := [.int (nI 1)]) (rest := []) ⟨hx, hb, hml, hown, hts⟩ (c_R_requireArgument_1 l dC dI  ) (cwS 1 hts (g_S t_272 t_273 t_1 t_274) rfl rfl rfl (by decide +kernel) ⟨by decide, by decide⟩) (xR_s (va_P.sub hP [] rfl) (hK.sub [] rfl)) rfl rfl hl.1 rfl (lv_room (Nat.le_of_ble_eq_true rfl)) d_R_poke_5 ⟨Nat.le_refl _, Nat.le_refl _⟩).run (fun q5 => ?_)
  refine lv_aload_n hx hb d_R_poke_8 rfl (lv_at hl 0 rfl) ?_
  refine va_get (D := (dC, dI)) (ci := 4) (v := .ref (ad 2)) (C := R_R) (T := F_R) (N := 7) hx hb hts (fun w h => List.mem_cons_of_mem _ (in_R w h)) hown hK hP 0 rfl rfl 1 (by decide) (hts (.fieldLink R_R 20 R_R "chip" "LWeighRecorder$Chip;") (List.mem_cons_of_mem _ t_115)) (fun _ h9 => h9) rfl d_R_poke_9 ?_
  refine lv_iload_n hx hb d_R_poke_12 rfl (lv_at hl 1 rfl) ?_
  refine lv_iload_n hx hb d_R_poke_13 rfl (lv_at hl 2 rfl) ?_
  refine lv_iload_n hx hb d_R_poke_14 rfl (lv_at hl 3 rfl) ?_
  have hSz := hS.1
  refine va_callv (va_runV (C := R_C) (As := [.int (nI j), .int (nI k), .int mask]) (rest := []) ⟨hx, hb, hml, hown, hts⟩ (c_C_flip l dC dI ad cd s.heap.size w wr fl (nI 1) (-1) lw rot vb (nI 0) (nI 0) live row (-1) (nI 0) (nI 0) (nI 0) bts (nI 0) act (nI 0) (nI 0) j k mask (by first | omega | rfl | assumption | decide) (by first | omega | rfl | assumption | decide)) (cwV 3 hts (g_V t_690 t_691 t_692 t_3 t_693) rfl rfl rfl (by decide +kernel) ⟨by decide, by decide⟩) (xP_v hP hK hD 2 rfl rfl) rfl rfl hl.1 rfl (lv_room (Nat.le_of_ble_eq_true rfl)) d_R_poke_15 ⟨Nat.le_refl _, Nat.le_refl _⟩) hS (fun q _ h => xA_up hS.1 q h) (fun q h => xA_up hS.1 q h) (fun u15 t H1 locs1 ht hvm q15 hB hz1 hk1 hS => ?_)
  obtain ⟨hP1, hK1, hD1⟩ := hB
  rw [ht] at hP1
  have hD : va_D (xA 15 ad s.heap.size) (xw ad cd (upd w (j * 16 + k) (w (j * 16 + k) ^^^ mask)) wr fl (nI 1) (-1) lw rot vb (nI 0) (nI 0) live row (-1) (nI 0) (nI 0) (nI 0) bts (nI 0) act (nI 0) (nI 0)) := hD1.weaken (fun _ q _ h => xA_up hSz _ h)
  have hP : va_P (dC, dI) vwCl (xw ad cd (upd w (j * 16 + k) (w (j * 16 + k) ^^^ mask)) wr fl (nI 1) (-1) lw rot vb (nI 0) (nI 0) live row (-1) (nI 0) (nI 0) (nI 0) bts (nI 0) act (nI 0) (nI 0)) H1 := hP1
  generalize H1 = H at hP hS ⊢
  generalize locs1 = locs at hS ⊢
  exact W.vret hx hb hr (fun t ht hW => ⟨⟨(), rfl, by first | rfl | trivial | omega, ⟨by rw [ht]; exact hP, va_K.moved hW.alike hK, hD⟩⟩, hS.F ht⟩) hS.2.2 d_R_poke_18
set_option maxHeartbeats 4000000 in
set_option maxRecDepth 100000 in
theorem c_R_word_ok (l : Launch) (dC : Nat → ClassId) (dI : Nat → Nat → Nat) (ad cd : Nat → Nat) (w wr fl : Nat → Int32) (pw sc : Int32) (lw rot vb : Nat → Int32) (rec tk : Int32) (live row : Nat → Int32) (cur ser dur wo : Int32) (bts : Nat → Int32) (us : Int32) (act : Nat → Int32) (rd rs : Int32) (j k : Nat) (hj : j < 32) (hk : k < 16) : Met l y_R_word w_R_word ({ frames := 2, cells := 0, slots := 0, locals := 43 }) (xR (dC, dI) vwCl (xt cd) (xw ad cd w wr fl (nI 1) (-1) lw rot vb (nI 0) (nI 0) live row (-1) (nI 0) (nI 0) (nI 0) bts (nI 0) act (nI 0) (nI 0)) [.ref (ad 0), .int (nI j), .int (nI k)]) (vp_Si (fun r => r = w (16 * j + k))) 0 0 (fun _ => False) := by
  refine Met.ofW (cc := b_R_word) (maxL := 3) (ret := (some (.int))) (by decide) rfl ?_
  intro P e s m args below meth c0 s₁ B hml hv
  obtain ⟨rfl, hP, hK⟩ := hv
  have hx := B.exec
  have hb := B.bytes
  have hr := B.returns
  have hts := atoms_spec (ws := w_R_word) B.pre
  have hown : s.vm.findClass R_R = some m.cls := findClass_of_methodNamed B.named
  have hlocks := B.notSynchronized
  have hl := lv_entry ([.ref (ad 0), .int (nI j), .int (nI k)]) (n := 3) (Nat.le_of_ble_eq_true rfl)
  rw [lg_entry_eq]
  generalize (lg_sl ([.ref (ad 0), .int (nI j), .int (nI k)]) ++ List.replicate (3 - (lg_sl ([.ref (ad 0), .int (nI j), .int (nI k)])).length) Slot.unset).toArray = ls at hl ⊢
  have hl : lv_has ls 3 [(0, .ref (ad 0)), (1, .int (nI j)), (2, .int (nI k))] := hl
  refine lv_iload_n hx hb d_R_word_0 rfl (lv_at hl 1 rfl) ?_
  refine lv_iload_n hx hb d_R_word_1 rfl (lv_at hl 2 rfl) ?_
  refine vp_callSi (va_runS (As := [.int (nI j), .int (nI k)]) (rest := []) ⟨hx, hb, hml, hown, hts⟩ (c_R_isPlace l dC dI (nI j) (nI k) ) (cwS 2 hts (g_S t_687 t_688 t_1 t_689) rfl rfl rfl (by decide +kernel) ⟨by decide, by decide⟩) (xR_s (va_P.sub hP [] rfl) (hK.sub [] rfl)) rfl rfl hl.1 rfl (lv_room (Nat.le_of_ble_eq_true rfl)) d_R_word_2 ⟨Nat.le_refl _, Nat.le_refl _⟩).run (fun r2 q2 => ?_)
  obtain ⟨rfl, -⟩ := q2.resolve_right (fun z => z.2 (⟨⟨(nI_leI (by decide) (by omega)).mpr (Nat.zero_le _), (nI_leI (by omega) (by decide)).mpr (by omega)⟩, ⟨(nI_leI (by decide) (by omega)).mpr (Nat.zero_le _), (nI_leI (by omega) (by decide)).mpr (by omega)⟩⟩))
  refine va_csv (va_runS (As := [.int (nI 1)]) (rest := []) ⟨hx, hb, hml, hown, hts⟩ (c_R_requireIndex_1 l dC dI  ) (cwS 1 hts (g_S t_491 t_492 t_1 t_493) rfl rfl rfl (by decide +kernel) ⟨by decide, by decide⟩) (xR_s (va_P.sub hP [] rfl) (hK.sub [] rfl)) rfl rfl hl.1 rfl (lv_room (Nat.le_of_ble_eq_true rfl)) d_R_word_5 ⟨Nat.le_refl _, Nat.le_refl _⟩).run (fun q5 => ?_)
  refine lv_aload_n hx hb d_R_word_8 rfl (lv_at hl 0 rfl) ?_
  refine va_get (D := (dC, dI)) (ci := 4) (v := .ref (ad 2)) (C := R_R) (T := F_R) (N := 7) hx hb hts (fun w h => List.mem_cons_of_mem _ (in_R w h)) hown hK hP 0 rfl rfl 1 (by decide) (hts (.fieldLink R_R 20 R_R "chip" "LWeighRecorder$Chip;") (List.mem_cons_of_mem _ t_115)) (fun _ h9 => h9) rfl d_R_word_9 ?_
  refine lv_iload_n hx hb d_R_word_12 rfl (lv_at hl 1 rfl) ?_
  refine lv_iload_n hx hb d_R_word_13 rfl (lv_at hl 2 rfl) ?_
  refine vp_callSi (va_runV (C := R_C) (As := [.int (nI j), .int (nI k)]) (rest := []) ⟨hx, hb, hml, hown, hts⟩ (c_C_read l dC dI ad cd w wr fl (nI 1) (-1) lw rot vb (nI 0) (nI 0) live row (-1) (nI 0) (nI 0) (nI 0) bts (nI 0) act (nI 0) (nI 0) j k (by first | omega | rfl | assumption | decide) (by first | omega | rfl | assumption | decide)) (cwV 2 hts (g_V t_701 t_165 t_166 t_3 t_167) rfl rfl rfl (by decide +kernel) ⟨by decide, by decide⟩) (xR_v hP hK 2 rfl rfl) rfl rfl hl.1 rfl (lv_room (Nat.le_of_ble_eq_true rfl)) d_R_word_14 ⟨Nat.le_refl _, Nat.le_refl _⟩).run (fun r14 q14 => ?_)
  subst q14
  exact W.iret (v := w (16 * j + k)) hx hb hr (fun t ht hW => ⟨w (16 * j + k), rfl, by first | rfl | trivial | omega, ht⟩) (fun q hq => by cases hq) d_R_word_17
set_option maxHeartbeats 4000000 in
set_option maxRecDepth 100000 in
theorem c_R_state_f (l : Launch) (dC : Nat → ClassId) (dI : Nat → Nat → Nat) (ad cd : Nat → Nat) (w wr fl : Nat → Int32) (pw sc : Int32) (lw rot vb : Nat → Int32) (rec tk : Int32) (live row : Nat → Int32) (cur ser dur wo : Int32) (bts : Nat → Int32) (us : Int32) (act : Nat → Int32) (rd rs : Int32) (what : Int32) (hw : ∀ i, i < 512 → w i = -1) (hlv : ∀ i, i < 16 → live i = -1) (hfl : ∀ i, i < 8 → fl i = 0) : Met l y_R_state w_R_state ({ frames := 3, cells := 0, slots := 0, locals := 68 }) (xR (dC, dI) vwCl (xt cd) (xw ad cd w wr fl (nI 1) (-1) lw rot vb (nI 0) (nI 0) live row (-1) (nI 0) (nI 0) (nI 0) bts (nI 0) act (nI 0) (nI 0)) [.ref (ad 0), .int what]) (vp_Si (fun r => r = stv what)) 0 0 (fun _ => False) := by
  refine Met.ofW (cc := b_R_state) (maxL := 3) (ret := (some (.int))) (by decide) rfl ?_
  intro P e s m args below meth c0 s₁ B hml hv
  obtain ⟨rfl, hP, hK⟩ := hv
  have hx := B.exec
  have hb := B.bytes
  have hr := B.returns
  have hts := atoms_spec (ws := w_R_state) B.pre
  have hown : s.vm.findClass R_R = some m.cls := findClass_of_methodNamed B.named
  have hlocks := B.notSynchronized
  have hl := lv_entry ([.ref (ad 0), .int what]) (n := 3) (Nat.le_of_ble_eq_true rfl)
  rw [lg_entry_eq]
  generalize (lg_sl ([.ref (ad 0), .int what]) ++ List.replicate (3 - (lg_sl ([.ref (ad 0), .int what])).length) Slot.unset).toArray = ls at hl ⊢
  have hl : lv_has ls 3 [(0, .ref (ad 0)), (1, .int what)] := hl
  refine lv_aload_n hx hb d_R_state_0 rfl (lv_at hl 0 rfl) ?_
  refine va_get (D := (dC, dI)) (ci := 4) (v := .ref (ad 2)) (C := R_R) (T := F_R) (N := 7) hx hb hts (fun w h => List.mem_cons_of_mem _ (in_R w h)) hown hK hP 0 rfl rfl 1 (by decide) (hts (.fieldLink R_R 20 R_R "chip" "LWeighRecorder$Chip;") (List.mem_cons_of_mem _ t_115)) (fun _ h9 => h9) rfl d_R_state_1 ?_
  refine vp_callSi (va_runV (C := R_C) (As := []) (rest := []) ⟨hx, hb, hml, hown, hts⟩ (c_C_isPowered l dC dI ad cd w wr fl (nI 1) (-1) lw rot vb (nI 0) (nI 0) live row (-1) (nI 0) (nI 0) (nI 0) bts (nI 0) act (nI 0) (nI 0)  (by first | omega | rfl | assumption | decide)) (cwV 0 hts (g_V t_225 t_226 t_227 t_3 t_228) rfl rfl rfl (by decide +kernel) ⟨by decide, by decide⟩) (xR_v hP hK 2 rfl rfl) rfl rfl hl.1 rfl (lv_room (Nat.le_of_ble_eq_true rfl)) d_R_state_4 ⟨Nat.le_refl _, Nat.le_refl _⟩).run (fun r4 q4 => ?_)
  subst q4
  refine lv_istore_n hx hb d_R_state_7 rfl hl (by decide) rfl (fun ls hl => ?_)
  have hl : lv_has ls 3 [(2, .int (nI 1)), (0, .ref (ad 0)), (1, .int what)] := hl
  refine lv_iload_n hx hb d_R_state_8 rfl (lv_at hl 2 rfl) ?_
  refine lv_topi (fun sx esx => ?_)
  rcases sw_in sx 8 with hsw | ⟨j, hj, ej⟩
  ·
    refine lv_tableOut (tgt := 187) hx hb d_R_state_9 hsw (by decide) ?_
    refine lv_iconst (v := (-1)) hx hb d_R_state_187 (by decide) ?_
    exact W.iret (v := (-1)) hx hb hr (fun t ht hW => ⟨(-1), rfl, by rw [← esx]; exact (stv_out hsw).symm, ht⟩) (fun q hq => by cases hq) d_R_state_188
  ·
    rcases (show j = 0 ∨ j = 1 ∨ j = 2 ∨ j = 3 ∨ j = 4 ∨ j = 5 ∨ j = 6 ∨ j = 7 ∨ j = 8 by omega) with rfl | rfl | rfl | rfl | rfl | rfl | rfl | rfl | rfl
    ·
      subst ej
      refine lv_tableIn (off := 51) (tgt := 60) hx hb d_R_state_9 (by decide) (by decide) rfl (by decide) ?_
      refine lv_iload_n hx hb d_R_state_60 rfl (lv_at hl 0 rfl) ?_
      refine lv_if_eq (tgt := 74) hx hb d_R_state_61 (by decide) (fun c61 => ?_) (fun c61 => ?_)
      ·
        exact absurd c61 (by decide)
      ·
        refine lv_aload_n hx hb d_R_state_64 rfl (lv_at hl 1 rfl) ?_
        refine va_get (D := (dC, dI)) (ci := 4) (v := .ref (ad 3)) (C := R_R) (T := F_R) (N := 7) hx hb hts (fun w h => List.mem_cons_of_mem _ (in_R w h)) hown hK hP 0 rfl rfl 2 (by decide) (hts (.fieldLink R_R 26 R_R "log" "LWeighRecorder$Log;") (List.mem_cons_of_mem _ t_116)) (fun _ h9 => h9) rfl d_R_state_65 ?_
        refine vp_callSi (va_runV (C := R_G) (As := []) (rest := []) ⟨hx, hb, hml, hown, hts⟩ (c_G_recordCount l dC dI ad cd w wr fl (nI 1) (-1) lw rot vb (nI 0) (nI 0) live row (-1) (nI 0) (nI 0) (nI 0) bts (nI 0) act (nI 0) (nI 0)  ) (cwV 0 hts (g_V t_229 t_210 t_211 t_4 t_212) rfl rfl rfl (by decide +kernel) ⟨by decide, by decide⟩) (xR_v hP hK 3 rfl rfl) rfl rfl hl.1 rfl (lv_room (Nat.le_of_ble_eq_true rfl)) d_R_state_68 ⟨Nat.le_refl _, Nat.le_refl _⟩).run (fun r68 q68 => ?_)
        subst q68
        refine lv_goto (tgt := 75) hx hb d_R_state_71 (by decide) ?_
        exact W.iret (v := nI 0) hx hb hr (fun t ht hW => ⟨nI 0, rfl, by rw [← esx]; decide, ht⟩) (fun q hq => by cases hq) d_R_state_75
    ·
      subst ej
      refine lv_tableIn (off := 67) (tgt := 76) hx hb d_R_state_9 (by decide) (by decide) rfl (by decide) ?_
      refine lv_iload_n hx hb d_R_state_76 rfl (lv_at hl 0 rfl) ?_
      refine lv_if_eq (tgt := 90) hx hb d_R_state_77 (by decide) (fun c77 => ?_) (fun c77 => ?_)
      ·
        exact absurd c77 (by decide)
      ·
        refine lv_aload_n hx hb d_R_state_80 rfl (lv_at hl 1 rfl) ?_
        refine va_get (D := (dC, dI)) (ci := 4) (v := .ref (ad 1)) (C := R_R) (T := F_R) (N := 7) hx hb hts (fun w h => List.mem_cons_of_mem _ (in_R w h)) hown hK hP 0 rfl rfl 0 (by decide) (hts (.fieldLink R_R 12 R_R "store" "LWeighRecorder$Store;") (List.mem_cons_of_mem _ t_114)) (fun _ h9 => h9) rfl d_R_state_81 ?_
        refine vp_callSi (va_runV (C := R_S) (As := []) (rest := []) ⟨hx, hb, hml, hown, hts⟩ (c_S_durableCount l dC dI ad cd w wr fl (nI 1) (-1) lw rot vb (nI 0) (nI 0) live row (-1) (nI 0) (nI 0) (nI 0) bts (nI 0) act (nI 0) (nI 0)  ) (cwV 0 hts (g_V t_230 t_231 t_232 t_2 t_233) rfl rfl rfl (by decide +kernel) ⟨by decide, by decide⟩) (xR_v hP hK 1 rfl rfl) rfl rfl hl.1 rfl (lv_room (Nat.le_of_ble_eq_true rfl)) d_R_state_84 ⟨Nat.le_refl _, Nat.le_refl _⟩).run (fun r84 q84 => ?_)
        subst q84
        refine lv_goto (tgt := 91) hx hb d_R_state_87 (by decide) ?_
        exact W.iret (v := nI 0) hx hb hr (fun t ht hW => ⟨nI 0, rfl, by rw [← esx]; decide, ht⟩) (fun q hq => by cases hq) d_R_state_91
    ·
      subst ej
      refine lv_tableIn (off := 83) (tgt := 92) hx hb d_R_state_9 (by decide) (by decide) rfl (by decide) ?_
      refine lv_iload_n hx hb d_R_state_92 rfl (lv_at hl 0 rfl) ?_
      refine lv_if_eq (tgt := 106) hx hb d_R_state_93 (by decide) (fun c93 => ?_) (fun c93 => ?_)
      ·
        exact absurd c93 (by decide)
      ·
        refine lv_aload_n hx hb d_R_state_96 rfl (lv_at hl 1 rfl) ?_
        refine va_get (D := (dC, dI)) (ci := 4) (v := .ref (ad 3)) (C := R_R) (T := F_R) (N := 7) hx hb hts (fun w h => List.mem_cons_of_mem _ (in_R w h)) hown hK hP 0 rfl rfl 2 (by decide) (hts (.fieldLink R_R 26 R_R "log" "LWeighRecorder$Log;") (List.mem_cons_of_mem _ t_116)) (fun _ h9 => h9) rfl d_R_state_97 ?_
        refine vp_callSi (va_runV (C := R_G) (As := []) (rest := []) ⟨hx, hb, hml, hown, hts⟩ (c_G_ticketCount l dC dI ad cd w wr fl (nI 1) (-1) lw rot vb (nI 0) (nI 0) live row (-1) (nI 0) (nI 0) (nI 0) bts (nI 0) act (nI 0) (nI 0)  ) (cwV 0 hts (g_V t_217 t_218 t_219 t_4 t_220) rfl rfl rfl (by decide +kernel) ⟨by decide, by decide⟩) (xR_v hP hK 3 rfl rfl) rfl rfl hl.1 rfl (lv_room (Nat.le_of_ble_eq_true rfl)) d_R_state_100 ⟨Nat.le_refl _, Nat.le_refl _⟩).run (fun r100 q100 => ?_)
        subst q100
        refine lv_goto (tgt := 107) hx hb d_R_state_103 (by decide) ?_
        exact W.iret (v := nI 0) hx hb hr (fun t ht hW => ⟨nI 0, rfl, by rw [← esx]; decide, ht⟩) (fun q hq => by cases hq) d_R_state_107
    ·
      subst ej
      refine lv_tableIn (off := 99) (tgt := 108) hx hb d_R_state_9 (by decide) (by decide) rfl (by decide) ?_
      refine lv_iload_n hx hb d_R_state_108 rfl (lv_at hl 0 rfl) ?_
      refine lv_if_eq (tgt := 122) hx hb d_R_state_109 (by decide) (fun c109 => ?_) (fun c109 => ?_)
      ·
        exact absurd c109 (by decide)
      ·
        refine lv_aload_n hx hb d_R_state_112 rfl (lv_at hl 1 rfl) ?_
        refine va_get (D := (dC, dI)) (ci := 4) (v := .ref (ad 1)) (C := R_R) (T := F_R) (N := 7) hx hb hts (fun w h => List.mem_cons_of_mem _ (in_R w h)) hown hK hP 0 rfl rfl 0 (by decide) (hts (.fieldLink R_R 12 R_R "store" "LWeighRecorder$Store;") (List.mem_cons_of_mem _ t_114)) (fun _ h9 => h9) rfl d_R_state_113 ?_
        refine vp_callSi (va_runV (C := R_S) (As := []) (rest := []) ⟨hx, hb, hml, hown, hts⟩ (c_S_livePageCount_f l dC dI ad cd w wr fl (nI 1) (-1) lw rot vb (nI 0) (nI 0) live row (-1) (nI 0) (nI 0) (nI 0) bts (nI 0) act (nI 0) (nI 0)  (hlv)) (cwV 0 hts (g_V t_234 t_235 t_236 t_2 t_237) rfl rfl rfl (by decide +kernel) ⟨by decide, by decide⟩) (xR_v hP hK 1 rfl rfl) rfl rfl hl.1 rfl (lv_room (Nat.le_of_ble_eq_true rfl)) d_R_state_116 ⟨Nat.le_refl _, Nat.le_refl _⟩).run (fun r116 q116 => ?_)
        subst q116
        refine lv_goto (tgt := 123) hx hb d_R_state_119 (by decide) ?_
        exact W.iret (v := nI 0) hx hb hr (fun t ht hW => ⟨nI 0, rfl, by rw [← esx]; decide, ht⟩) (fun q hq => by cases hq) d_R_state_123
    ·
      subst ej
      refine lv_tableIn (off := 115) (tgt := 124) hx hb d_R_state_9 (by decide) (by decide) rfl (by decide) ?_
      refine lv_iload_n hx hb d_R_state_124 rfl (lv_at hl 0 rfl) ?_
      refine lv_if_eq (tgt := 135) hx hb d_R_state_125 (by decide) (fun c125 => ?_) (fun c125 => ?_)
      ·
        exact absurd c125 (by decide)
      ·
        refine lv_aload_n hx hb d_R_state_128 rfl (lv_at hl 1 rfl) ?_
        refine va_get (D := (dC, dI)) (ci := 4) (v := .int (nI 0)) (C := R_R) (T := F_R) (N := 7) hx hb hts (fun w h => List.mem_cons_of_mem _ (in_R w h)) hown hK hP 0 rfl rfl 5 (by decide) (hts (.fieldLink R_R 41 R_R "readings" "I") (List.mem_cons_of_mem _ t_119)) (fun _ h9 => h9) rfl d_R_state_129 ?_
        refine lv_goto (tgt := 136) hx hb d_R_state_132 (by decide) ?_
        exact W.iret (v := nI 0) hx hb hr (fun t ht hW => ⟨nI 0, rfl, by rw [← esx]; decide, ht⟩) (fun q hq => by cases hq) d_R_state_136
    ·
      subst ej
      refine lv_tableIn (off := 128) (tgt := 137) hx hb d_R_state_9 (by decide) (by decide) rfl (by decide) ?_
      refine lv_iload_n hx hb d_R_state_137 rfl (lv_at hl 0 rfl) ?_
      refine lv_if_eq (tgt := 151) hx hb d_R_state_138 (by decide) (fun c138 => ?_) (fun c138 => ?_)
      ·
        exact absurd c138 (by decide)
      ·
        refine lv_aload_n hx hb d_R_state_141 rfl (lv_at hl 1 rfl) ?_
        refine va_get (D := (dC, dI)) (ci := 4) (v := .ref (ad 1)) (C := R_R) (T := F_R) (N := 7) hx hb hts (fun w h => List.mem_cons_of_mem _ (in_R w h)) hown hK hP 0 rfl rfl 0 (by decide) (hts (.fieldLink R_R 12 R_R "store" "LWeighRecorder$Store;") (List.mem_cons_of_mem _ t_114)) (fun _ h9 => h9) rfl d_R_state_142 ?_
        refine vp_callSi (va_runV (C := R_S) (As := []) (rest := []) ⟨hx, hb, hml, hown, hts⟩ (c_S_latestSerial l dC dI ad cd w wr fl (nI 1) (-1) lw rot vb (nI 0) (nI 0) live row (-1) (nI 0) (nI 0) (nI 0) bts (nI 0) act (nI 0) (nI 0)  ) (cwV 0 hts (g_V t_242 t_243 t_244 t_2 t_245) rfl rfl rfl (by decide +kernel) ⟨by decide, by decide⟩) (xR_v hP hK 1 rfl rfl) rfl rfl hl.1 rfl (lv_room (Nat.le_of_ble_eq_true rfl)) d_R_state_145 ⟨Nat.le_refl _, Nat.le_refl _⟩).run (fun r145 q145 => ?_)
        subst q145
        refine lv_goto (tgt := 152) hx hb d_R_state_148 (by decide) ?_
        exact W.iret (v := nI 0) hx hb hr (fun t ht hW => ⟨nI 0, rfl, by rw [← esx]; decide, ht⟩) (fun q hq => by cases hq) d_R_state_152
    ·
      subst ej
      refine lv_tableIn (off := 144) (tgt := 153) hx hb d_R_state_9 (by decide) (by decide) rfl (by decide) ?_
      refine lv_iload_n hx hb d_R_state_153 rfl (lv_at hl 0 rfl) ?_
      refine lv_if_eq (tgt := 167) hx hb d_R_state_154 (by decide) (fun c154 => ?_) (fun c154 => ?_)
      ·
        exact absurd c154 (by decide)
      ·
        refine lv_aload_n hx hb d_R_state_157 rfl (lv_at hl 1 rfl) ?_
        refine va_get (D := (dC, dI)) (ci := 4) (v := .ref (ad 1)) (C := R_R) (T := F_R) (N := 7) hx hb hts (fun w h => List.mem_cons_of_mem _ (in_R w h)) hown hK hP 0 rfl rfl 0 (by decide) (hts (.fieldLink R_R 12 R_R "store" "LWeighRecorder$Store;") (List.mem_cons_of_mem _ t_114)) (fun _ h9 => h9) rfl d_R_state_158 ?_
        refine vp_callSi (va_runV (C := R_S) (As := []) (rest := []) ⟨hx, hb, hml, hown, hts⟩ (c_S_cursorBlock l dC dI ad cd w wr fl (nI 1) (-1) lw rot vb (nI 0) (nI 0) live row (-1) (nI 0) (nI 0) (nI 0) bts (nI 0) act (nI 0) (nI 0)  ) (cwV 0 hts (g_V t_246 t_247 t_248 t_2 t_249) rfl rfl rfl (by decide +kernel) ⟨by decide, by decide⟩) (xR_v hP hK 1 rfl rfl) rfl rfl hl.1 rfl (lv_room (Nat.le_of_ble_eq_true rfl)) d_R_state_161 ⟨Nat.le_refl _, Nat.le_refl _⟩).run (fun r161 q161 => ?_)
        subst q161
        refine lv_goto (tgt := 168) hx hb d_R_state_164 (by decide) ?_
        exact W.iret (v := (-1)) hx hb hr (fun t ht hW => ⟨(-1), rfl, by rw [← esx]; decide, ht⟩) (fun q hq => by cases hq) d_R_state_168
    ·
      subst ej
      refine lv_tableIn (off := 160) (tgt := 169) hx hb d_R_state_9 (by decide) (by decide) rfl (by decide) ?_
      refine lv_aload_n hx hb d_R_state_169 rfl (lv_at hl 1 rfl) ?_
      refine va_get (D := (dC, dI)) (ci := 4) (v := .ref (ad 2)) (C := R_R) (T := F_R) (N := 7) hx hb hts (fun w h => List.mem_cons_of_mem _ (in_R w h)) hown hK hP 0 rfl rfl 1 (by decide) (hts (.fieldLink R_R 20 R_R "chip" "LWeighRecorder$Chip;") (List.mem_cons_of_mem _ t_115)) (fun _ h9 => h9) rfl d_R_state_170 ?_
      refine vp_callSi (va_runV (C := R_C) (As := []) (rest := []) ⟨hx, hb, hml, hown, hts⟩ (c_C_usableFreePages_f l dC dI ad cd w wr fl (nI 1) (-1) lw rot vb (nI 0) (nI 0) live row (-1) (nI 0) (nI 0) (nI 0) bts (nI 0) act (nI 0) (nI 0)  (hw) (hfl)) (cwV 0 hts (g_V t_250 t_251 t_252 t_3 t_253) rfl rfl rfl (by decide +kernel) ⟨by decide, by decide⟩) (xR_v hP hK 2 rfl rfl) rfl rfl hl.1 rfl (lv_room (Nat.le_of_ble_eq_true rfl)) d_R_state_173 ⟨Nat.le_refl _, Nat.le_refl _⟩).run (fun r173 q173 => ?_)
      subst q173
      exact W.iret (v := nI 32) hx hb hr (fun t ht hW => ⟨nI 32, rfl, by rw [← esx]; decide, ht⟩) (fun q hq => by cases hq) d_R_state_176
    ·
      subst ej
      refine lv_tableIn (off := 168) (tgt := 177) hx hb d_R_state_9 (by decide) (by decide) rfl (by decide) ?_
      refine lv_iload_n hx hb d_R_state_177 rfl (lv_at hl 0 rfl) ?_
      refine lv_if_eq (tgt := 185) hx hb d_R_state_178 (by decide) (fun c178 => ?_) (fun c178 => ?_)
      ·
        exact absurd c178 (by decide)
      ·
        refine lv_iconst (v := nI 1) hx hb d_R_state_181 (by decide) ?_
        refine lv_goto (tgt := 186) hx hb d_R_state_182 (by decide) ?_
        exact W.iret (v := nI 1) hx hb hr (fun t ht hW => ⟨nI 1, rfl, by rw [← esx]; decide, ht⟩) (fun q hq => by cases hq) d_R_state_186
