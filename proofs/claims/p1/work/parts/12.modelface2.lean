set_option maxHeartbeats 4000000 in
set_option maxRecDepth 100000 in
theorem c_M_setProduct_ok (l : Launch) (dC : Nat → ClassId) (dI : Nat → Nat → Nat) (am cm : Nat → Nat) (sz : Nat) (th : Int32) (mw mwr mfl mact : Nat → Int32) (on cut mrec : Int32) (mlog mlive had : Nat → Int32) (mser mcur mrd mwt worn : Int32) (pg : Nat → Int32) (pla sou fou : Int32) (j : Nat) (b : Int32) (hj : j < 40) : Met l y_M_setProduct w_M_setProduct ({ frames := 1, cells := 0, slots := 0, locals := 22 }) (xP (dC, dI) vwCl (mt cm) (mw_ am cm th mw mwr mfl mact (nI 1) (-1) (nI 0) mlog mlive had (nI 0) (-1) (nI 0) (nI 0) (nI 0) pg pla sou fou) sz [.ref (am 0), .int (nI j), .int b]) (va_Qv (fun (u : Unit) => True) (fun (u : Unit) (t : State) => xB (dC, dI) vwCl (mt cm) (xA 9 am sz) (mw_ am cm (nI 0) mw mwr mfl (upd mact j (vp_nar .boolean b)) (nI 1) (-1) (nI 0) mlog mlive had (nI 0) (-1) (nI 0) (nI 0) (nI 0) pg pla sou fou) t) (xA 9 am sz)) 0 0 (xA 9 am sz) := by
  refine Met.ofW (cc := b_M_setProduct) (maxL := 3) (ret := none) (by decide) rfl ?_
  intro P e s m args below meth c0 s₁ B hml hv
  obtain ⟨rfl, hsz, hP, hK, hD0⟩ := hv
  have hx := B.exec
  have hb := B.bytes
  have hr := B.returns
  have hts := atoms_spec (ws := w_M_setProduct) B.pre
  have hown : s.vm.findClass R_M = some m.cls := findClass_of_methodNamed B.named
  have hlocks := B.notSynchronized
  subst hsz
  have hD := mw_D (sz := s.heap.size) hD0
  have hS : va_S (xA 9 am s.heap.size) s.heap s.heap [] := va_S.rf
  have hA : ∀ q : Nat, s.heap.size ≤ q → (xA 9 am s.heap.size) q := fun q h => Or.inr h
  have hl := lv_entry ([.ref (am 0), .int (nI j), .int b]) (n := 3) (Nat.le_of_ble_eq_true rfl)
  rw [lg_entry_eq]
  generalize (lg_sl ([.ref (am 0), .int (nI j), .int b]) ++ List.replicate (3 - (lg_sl ([.ref (am 0), .int (nI j), .int b])).length) Slot.unset).toArray = ls at hl ⊢
  have hl : lv_has ls 3 [(0, .ref (am 0)), (1, .int (nI j)), (2, .int b)] := hl
  refine lv_aload_n hx hb d_M_setProduct_0 rfl (lv_at hl 0 rfl) ?_
  refine lv_iconst (v := nI 1) hx hb d_M_setProduct_1 (by decide) ?_
  refine lv_iload_n hx hb d_M_setProduct_2 rfl (lv_at hl 1 rfl) ?_
  refine lv_iconst (v := nI 0) hx hb d_M_setProduct_3 (by decide) ?_
  refine lv_bipush (v := nI 39) hx hb d_M_setProduct_4 (by decide) ?_
  refine vp_callSi (va_runS (As := [.int (nI j), .int (nI 0), .int (nI 39)]) (rest := [.int (nI 1), .ref (am 0)]) ⟨hx, hb, hml, hown, hts⟩ (c_M_isIn l dC dI (nI j) (nI 0) (nI 39) ) (cwS 3 hts (g_S t_781 t_782 t_6 t_783) rfl rfl rfl (by decide +kernel) ⟨by decide, by decide⟩) (xR_s (va_P.sub hP [] rfl) (hK.sub [] rfl)) rfl rfl hl.1 rfl (lv_room (Nat.le_of_ble_eq_true rfl)) d_M_setProduct_6 ⟨Nat.le_refl _, Nat.le_refl _⟩).run (fun r6 q6 => ?_)
  obtain ⟨rfl, -⟩ := q6.resolve_right (fun z => z.2 (⟨(nI_leI (by decide) (by omega)).mpr (Nat.zero_le _), (nI_leI (by omega) (by decide)).mpr (by omega)⟩))
  refine lv_if_ne (tgt := 16) hx hb d_M_setProduct_9 (by decide) (fun c9 => ?_) (fun c9 => ?_)
  ·
    refine lv_iconst (v := nI 0) hx hb d_M_setProduct_16 (by decide) ?_
    have hSz := hS.1
    refine va_calli (va_runV (C := R_M) (As := [.int (nI 1), .int (nI 0)]) (rest := []) ⟨hx, hb, hml, hown, hts⟩ (c_M_fails_0 l dC dI am cm s.heap.size th mw mwr mfl mact (nI 1) (-1) (nI 0) mlog mlive had (nI 0) (-1) (nI 0) (nI 0) (nI 0) pg pla sou fou (nI 1) ) (cwV 2 hts (g_V t_784 t_786 s_22 t_6 t_787) rfl rfl rfl (by decide +kernel) ⟨by decide, by decide⟩) (xP_v hP hK hD 0 rfl rfl) rfl rfl hl.1 rfl (lv_room (Nat.le_of_ble_eq_true rfl)) d_M_setProduct_17 ⟨Nat.le_refl _, Nat.le_refl _⟩) hS (fun q _ h => xA_up hS.1 q h) (fun q h => xA_up hS.1 q h) (fun r17 u17 t H1 locs1 ht hvm q17 hB hz1 hk1 hS => ?_)
    obtain ⟨hP1, hK1, hD1⟩ := hB
    rw [ht] at hP1
    have hD : va_D (xA 9 am s.heap.size) (mw_ am cm (nI 0) mw mwr mfl mact (nI 1) (-1) (nI 0) mlog mlive had (nI 0) (-1) (nI 0) (nI 0) (nI 0) pg pla sou fou) := hD1.weaken (fun _ q _ h => xA_up hSz _ h)
    have hP : va_P (dC, dI) vwCl (mw_ am cm (nI 0) mw mwr mfl mact (nI 1) (-1) (nI 0) mlog mlive had (nI 0) (-1) (nI 0) (nI 0) (nI 0) pg pla sou fou) H1 := hP1
    generalize H1 = H at hP hS ⊢
    generalize locs1 = locs at hS ⊢
    subst q17
    refine lv_if_ne (tgt := 30) hx hb d_M_setProduct_20 (by decide) (fun c20 => ?_) (fun c20 => ?_)
    ·
      exact absurd c20 (by decide)
    ·
      refine lv_aload_n hx hb d_M_setProduct_23 rfl (lv_at hl 0 rfl) ?_
      refine va_get (D := (dC, dI)) (ci := 5) (v := .ref (am 4)) (C := R_M) (T := F_M) (N := 20) hx hb hts (fun w h => List.mem_cons_of_mem _ (in_M w h)) hown hK hP 0 rfl rfl 4 (by decide) (hts (.fieldLink R_M 20 R_M "active" "[Z") (List.mem_cons_of_mem _ t_716)) (fun _ h9 => h9) rfl d_M_setProduct_24 ?_
      refine lv_iload_n hx hb d_M_setProduct_27 rfl (lv_at hl 1 rfl) ?_
      refine lv_iload_n hx hb d_M_setProduct_28 rfl (lv_at hl 2 rfl) ?_
      refine va_zast hx hb hK hP hD hS 4 3 rfl rfl (vp_in_nI (by omega) (by decide)) d_M_setProduct_29 (fun H locs hP hD hS => ?_)
      rw [nI_clamp (by omega)] at hP hD
      have hP : va_P (dC, dI) vwCl (mw_ am cm (nI 0) mw mwr mfl (upd mact j (vp_nar .boolean b)) (nI 1) (-1) (nI 0) mlog mlive had (nI 0) (-1) (nI 0) (nI 0) (nI 0) pg pla sou fou) H := hP
      have hD : va_D (xA 9 am s.heap.size) (mw_ am cm (nI 0) mw mwr mfl (upd mact j (vp_nar .boolean b)) (nI 1) (-1) (nI 0) mlog mlive had (nI 0) (-1) (nI 0) (nI 0) (nI 0) pg pla sou fou) := hD
      exact W.vret hx hb hr (fun t ht hW => ⟨⟨(), rfl, by first | rfl | trivial | omega, ⟨by rw [ht]; exact hP, va_K.moved hW.alike hK, hD⟩⟩, hS.F ht⟩) hS.2.2 d_M_setProduct_30
  ·
    exact absurd c9 (by decide)
set_option maxHeartbeats 4000000 in
set_option maxRecDepth 100000 in
theorem c_M_setProduct_bad (l : Launch) (dC : Nat → ClassId) (dI : Nat → Nat → Nat) (am cm : Nat → Nat) (sz : Nat) (th : Int32) (mw mwr mfl mact : Nat → Int32) (on cut mrec : Int32) (mlog mlive had : Nat → Int32) (mser mcur mrd mwt worn : Int32) (pg : Nat → Int32) (pla sou fou : Int32) (co b : Int32) (hok : ¬ (nI 0 ≤ co ∧ co ≤ nI 39)) : Met l y_M_setProduct w_M_setProduct ({ frames := 1, cells := 0, slots := 0, locals := 22 }) (xP (dC, dI) vwCl (mt cm) (mw_ am cm th mw mwr mfl mact (nI 1) (-1) (nI 0) mlog mlive had (nI 0) (-1) (nI 0) (nI 0) (nI 0) pg pla sou fou) sz [.ref (am 0), .int co, .int b]) (va_Qv (fun (u : Unit) => True) (fun (u : Unit) (t : State) => xB (dC, dI) vwCl (mt cm) (xA 9 am sz) (mw_ am cm (nI 1) mw mwr mfl mact (nI 1) (-1) (nI 0) mlog mlive had (nI 0) (-1) (nI 0) (nI 0) (nI 0) pg pla sou fou) t) (xA 9 am sz)) 0 0 (xA 9 am sz) := by
  refine Met.ofW (cc := b_M_setProduct) (maxL := 3) (ret := none) (by decide) rfl ?_
  intro P e s m args below meth c0 s₁ B hml hv
  obtain ⟨rfl, hsz, hP, hK, hD0⟩ := hv
  have hx := B.exec
  have hb := B.bytes
  have hr := B.returns
  have hts := atoms_spec (ws := w_M_setProduct) B.pre
  have hown : s.vm.findClass R_M = some m.cls := findClass_of_methodNamed B.named
  have hlocks := B.notSynchronized
  subst hsz
  have hD := mw_D (sz := s.heap.size) hD0
  have hS : va_S (xA 9 am s.heap.size) s.heap s.heap [] := va_S.rf
  have hA : ∀ q : Nat, s.heap.size ≤ q → (xA 9 am s.heap.size) q := fun q h => Or.inr h
  have hl := lv_entry ([.ref (am 0), .int co, .int b]) (n := 3) (Nat.le_of_ble_eq_true rfl)
  rw [lg_entry_eq]
  generalize (lg_sl ([.ref (am 0), .int co, .int b]) ++ List.replicate (3 - (lg_sl ([.ref (am 0), .int co, .int b])).length) Slot.unset).toArray = ls at hl ⊢
  have hl : lv_has ls 3 [(0, .ref (am 0)), (1, .int co), (2, .int b)] := hl
  refine lv_aload_n hx hb d_M_setProduct_0 rfl (lv_at hl 0 rfl) ?_
  refine lv_iconst (v := nI 1) hx hb d_M_setProduct_1 (by decide) ?_
  refine lv_iload_n hx hb d_M_setProduct_2 rfl (lv_at hl 1 rfl) ?_
  refine lv_iconst (v := nI 0) hx hb d_M_setProduct_3 (by decide) ?_
  refine lv_bipush (v := nI 39) hx hb d_M_setProduct_4 (by decide) ?_
  refine vp_callSi (va_runS (As := [.int co, .int (nI 0), .int (nI 39)]) (rest := [.int (nI 1), .ref (am 0)]) ⟨hx, hb, hml, hown, hts⟩ (c_M_isIn l dC dI co (nI 0) (nI 39) ) (cwS 3 hts (g_S t_781 t_782 t_6 t_783) rfl rfl rfl (by decide +kernel) ⟨by decide, by decide⟩) (xR_s (va_P.sub hP [] rfl) (hK.sub [] rfl)) rfl rfl hl.1 rfl (lv_room (Nat.le_of_ble_eq_true rfl)) d_M_setProduct_6 ⟨Nat.le_refl _, Nat.le_refl _⟩).run (fun r6 q6 => ?_)
  obtain ⟨rfl, -⟩ := q6.resolve_left (fun z => (hok) z.2)
  refine lv_if_ne (tgt := 16) hx hb d_M_setProduct_9 (by decide) (fun c9 => ?_) (fun c9 => ?_)
  ·
    exact absurd c9 (by decide)
  ·
    refine lv_iconst (v := nI 1) hx hb d_M_setProduct_12 (by decide) ?_
    refine lv_goto (tgt := 17) hx hb d_M_setProduct_13 (by decide) ?_
    have hSz := hS.1
    refine va_calli (va_runV (C := R_M) (As := [.int (nI 1), .int (nI 1)]) (rest := []) ⟨hx, hb, hml, hown, hts⟩ (c_M_fails_1 l dC dI am cm s.heap.size th mw mwr mfl mact (nI 1) (-1) (nI 0) mlog mlive had (nI 0) (-1) (nI 0) (nI 0) (nI 0) pg pla sou fou (nI 1) ) (cwV 2 hts (g_V t_784 t_786 s_22 t_6 t_787) rfl rfl rfl (by decide +kernel) ⟨by decide, by decide⟩) (xP_v hP hK hD 0 rfl rfl) rfl rfl hl.1 rfl (lv_room (Nat.le_of_ble_eq_true rfl)) d_M_setProduct_17 ⟨Nat.le_refl _, Nat.le_refl _⟩) hS (fun q _ h => xA_up hS.1 q h) (fun q h => xA_up hS.1 q h) (fun r17 u17 t H1 locs1 ht hvm q17 hB hz1 hk1 hS => ?_)
    obtain ⟨hP1, hK1, hD1⟩ := hB
    rw [ht] at hP1
    have hD : va_D (xA 9 am s.heap.size) (mw_ am cm (nI 1) mw mwr mfl mact (nI 1) (-1) (nI 0) mlog mlive had (nI 0) (-1) (nI 0) (nI 0) (nI 0) pg pla sou fou) := hD1.weaken (fun _ q _ h => xA_up hSz _ h)
    have hP : va_P (dC, dI) vwCl (mw_ am cm (nI 1) mw mwr mfl mact (nI 1) (-1) (nI 0) mlog mlive had (nI 0) (-1) (nI 0) (nI 0) (nI 0) pg pla sou fou) H1 := hP1
    generalize H1 = H at hP hS ⊢
    generalize locs1 = locs at hS ⊢
    subst q17
    refine lv_if_ne (tgt := 30) hx hb d_M_setProduct_20 (by decide) (fun c20 => ?_) (fun c20 => ?_)
    ·
      exact W.vret hx hb hr (fun t ht hW => ⟨⟨(), rfl, by first | rfl | trivial | omega, ⟨by rw [ht]; exact hP, va_K.moved hW.alike hK, hD⟩⟩, hS.F ht⟩) hS.2.2 d_M_setProduct_30
    ·
      exact absurd c20 (by decide)
set_option maxHeartbeats 4000000 in
set_option maxRecDepth 100000 in
theorem c_M_cutAfter_ok (l : Launch) (dC : Nat → ClassId) (dI : Nat → Nat → Nat) (am cm : Nat → Nat) (sz : Nat) (th : Int32) (mw mwr mfl mact : Nat → Int32) (on cut mrec : Int32) (mlog mlive had : Nat → Int32) (mser mcur mrd mwt worn : Int32) (pg : Nat → Int32) (pla sou fou : Int32) (n : Int32) (hok : nI 0 ≤ n ∧ n ≤ nI 300) : Met l y_M_cutAfter w_M_cutAfter ({ frames := 1, cells := 0, slots := 0, locals := 22 }) (xP (dC, dI) vwCl (mt cm) (mw_ am cm th mw mwr mfl mact (nI 1) (-1) (nI 0) mlog mlive had (nI 0) (-1) (nI 0) (nI 0) (nI 0) pg pla sou fou) sz [.ref (am 0), .int n]) (va_Qv (fun (u : Unit) => True) (fun (u : Unit) (t : State) => xB (dC, dI) vwCl (mt cm) (xA 9 am sz) (mw_ am cm (nI 0) mw mwr mfl mact (nI 1) n (nI 0) mlog mlive had (nI 0) (-1) (nI 0) (nI 0) (nI 0) pg pla sou fou) t) (xA 9 am sz)) 0 0 (xA 9 am sz) := by
  refine Met.ofW (cc := b_M_cutAfter) (maxL := 2) (ret := none) (by decide) rfl ?_
  intro P e s m args below meth c0 s₁ B hml hv
  obtain ⟨rfl, hsz, hP, hK, hD0⟩ := hv
  have hx := B.exec
  have hb := B.bytes
  have hr := B.returns
  have hts := atoms_spec (ws := w_M_cutAfter) B.pre
  have hown : s.vm.findClass R_M = some m.cls := findClass_of_methodNamed B.named
  have hlocks := B.notSynchronized
  subst hsz
  have hD := mw_D (sz := s.heap.size) hD0
  have hS : va_S (xA 9 am s.heap.size) s.heap s.heap [] := va_S.rf
  have hA : ∀ q : Nat, s.heap.size ≤ q → (xA 9 am s.heap.size) q := fun q h => Or.inr h
  have hl := lv_entry ([.ref (am 0), .int n]) (n := 2) (Nat.le_of_ble_eq_true rfl)
  rw [lg_entry_eq]
  generalize (lg_sl ([.ref (am 0), .int n]) ++ List.replicate (2 - (lg_sl ([.ref (am 0), .int n])).length) Slot.unset).toArray = ls at hl ⊢
  have hl : lv_has ls 2 [(0, .ref (am 0)), (1, .int n)] := hl
  refine lv_aload_n hx hb d_M_cutAfter_0 rfl (lv_at hl 0 rfl) ?_
  refine lv_iconst (v := nI 1) hx hb d_M_cutAfter_1 (by decide) ?_
  refine lv_iload_n hx hb d_M_cutAfter_2 rfl (lv_at hl 1 rfl) ?_
  refine lv_iconst (v := nI 0) hx hb d_M_cutAfter_3 (by decide) ?_
  refine lv_sipush (v := nI 300) hx hb d_M_cutAfter_4 (by decide) ?_
  refine vp_callSi (va_runS (As := [.int n, .int (nI 0), .int (nI 300)]) (rest := [.int (nI 1), .ref (am 0)]) ⟨hx, hb, hml, hown, hts⟩ (c_M_isIn l dC dI n (nI 0) (nI 300) ) (cwS 3 hts (g_S t_781 t_782 t_6 t_783) rfl rfl rfl (by decide +kernel) ⟨by decide, by decide⟩) (xR_s (va_P.sub hP [] rfl) (hK.sub [] rfl)) rfl rfl hl.1 rfl (lv_room (Nat.le_of_ble_eq_true rfl)) d_M_cutAfter_7 ⟨Nat.le_refl _, Nat.le_refl _⟩).run (fun r7 q7 => ?_)
  obtain ⟨rfl, -⟩ := q7.resolve_right (fun z => z.2 (hok))
  refine lv_if_ne (tgt := 17) hx hb d_M_cutAfter_10 (by decide) (fun c10 => ?_) (fun c10 => ?_)
  ·
    refine lv_iconst (v := nI 0) hx hb d_M_cutAfter_17 (by decide) ?_
    have hSz := hS.1
    refine va_calli (va_runV (C := R_M) (As := [.int (nI 1), .int (nI 0)]) (rest := []) ⟨hx, hb, hml, hown, hts⟩ (c_M_fails_0 l dC dI am cm s.heap.size th mw mwr mfl mact (nI 1) (-1) (nI 0) mlog mlive had (nI 0) (-1) (nI 0) (nI 0) (nI 0) pg pla sou fou (nI 1) ) (cwV 2 hts (g_V t_784 t_786 s_22 t_6 t_787) rfl rfl rfl (by decide +kernel) ⟨by decide, by decide⟩) (xP_v hP hK hD 0 rfl rfl) rfl rfl hl.1 rfl (lv_room (Nat.le_of_ble_eq_true rfl)) d_M_cutAfter_18 ⟨Nat.le_refl _, Nat.le_refl _⟩) hS (fun q _ h => xA_up hS.1 q h) (fun q h => xA_up hS.1 q h) (fun r18 u18 t H1 locs1 ht hvm q18 hB hz1 hk1 hS => ?_)
    obtain ⟨hP1, hK1, hD1⟩ := hB
    rw [ht] at hP1
    have hD : va_D (xA 9 am s.heap.size) (mw_ am cm (nI 0) mw mwr mfl mact (nI 1) (-1) (nI 0) mlog mlive had (nI 0) (-1) (nI 0) (nI 0) (nI 0) pg pla sou fou) := hD1.weaken (fun _ q _ h => xA_up hSz _ h)
    have hP : va_P (dC, dI) vwCl (mw_ am cm (nI 0) mw mwr mfl mact (nI 1) (-1) (nI 0) mlog mlive had (nI 0) (-1) (nI 0) (nI 0) (nI 0) pg pla sou fou) H1 := hP1
    generalize H1 = H at hP hS ⊢
    generalize locs1 = locs at hS ⊢
    subst q18
    refine lv_if_ne (tgt := 29) hx hb d_M_cutAfter_21 (by decide) (fun c21 => ?_) (fun c21 => ?_)
    ·
      exact absurd c21 (by decide)
    ·
      refine lv_aload_n hx hb d_M_cutAfter_24 rfl (lv_at hl 0 rfl) ?_
      refine lv_iload_n hx hb d_M_cutAfter_25 rfl (lv_at hl 1 rfl) ?_
      refine va_put (D := (dC, dI)) (ci := 5) (v := .int n) (ty := .int) (C := R_M) (T := F_M) (N := 20) hx hb hts (fun w h => List.mem_cons_of_mem _ (in_M w h)) t_M ok_M nm_M hown hK hP hD hS 0 rfl rfl 6 (by decide) (hts (.fieldLink R_M 27 R_M "cut" "I") (List.mem_cons_of_mem _ t_718)) (fun _ h9 => h9) rfl (by decide +kernel) rfl rfl (Nat.le_of_ble_eq_true rfl) d_M_cutAfter_26 (fun H locs hP hD hS => ?_)
      have hP : va_P (dC, dI) vwCl (mw_ am cm (nI 0) mw mwr mfl mact (nI 1) n (nI 0) mlog mlive had (nI 0) (-1) (nI 0) (nI 0) (nI 0) pg pla sou fou) H := hP
      have hD : va_D (xA 9 am s.heap.size) (mw_ am cm (nI 0) mw mwr mfl mact (nI 1) n (nI 0) mlog mlive had (nI 0) (-1) (nI 0) (nI 0) (nI 0) pg pla sou fou) := hD
      exact W.vret hx hb hr (fun t ht hW => ⟨⟨(), rfl, by first | rfl | trivial | omega, ⟨by rw [ht]; exact hP, va_K.moved hW.alike hK, hD⟩⟩, hS.F ht⟩) hS.2.2 d_M_cutAfter_29
  ·
    exact absurd c10 (by decide)
set_option maxHeartbeats 4000000 in
set_option maxRecDepth 100000 in
theorem c_M_cutAfter_bad (l : Launch) (dC : Nat → ClassId) (dI : Nat → Nat → Nat) (am cm : Nat → Nat) (sz : Nat) (th : Int32) (mw mwr mfl mact : Nat → Int32) (on cut mrec : Int32) (mlog mlive had : Nat → Int32) (mser mcur mrd mwt worn : Int32) (pg : Nat → Int32) (pla sou fou : Int32) (n : Int32) (hok : ¬ (nI 0 ≤ n ∧ n ≤ nI 300)) : Met l y_M_cutAfter w_M_cutAfter ({ frames := 1, cells := 0, slots := 0, locals := 22 }) (xP (dC, dI) vwCl (mt cm) (mw_ am cm th mw mwr mfl mact (nI 1) (-1) (nI 0) mlog mlive had (nI 0) (-1) (nI 0) (nI 0) (nI 0) pg pla sou fou) sz [.ref (am 0), .int n]) (va_Qv (fun (u : Unit) => True) (fun (u : Unit) (t : State) => xB (dC, dI) vwCl (mt cm) (xA 9 am sz) (mw_ am cm (nI 1) mw mwr mfl mact (nI 1) (-1) (nI 0) mlog mlive had (nI 0) (-1) (nI 0) (nI 0) (nI 0) pg pla sou fou) t) (xA 9 am sz)) 0 0 (xA 9 am sz) := by
  refine Met.ofW (cc := b_M_cutAfter) (maxL := 2) (ret := none) (by decide) rfl ?_
  intro P e s m args below meth c0 s₁ B hml hv
  obtain ⟨rfl, hsz, hP, hK, hD0⟩ := hv
  have hx := B.exec
  have hb := B.bytes
  have hr := B.returns
  have hts := atoms_spec (ws := w_M_cutAfter) B.pre
  have hown : s.vm.findClass R_M = some m.cls := findClass_of_methodNamed B.named
  have hlocks := B.notSynchronized
  subst hsz
  have hD := mw_D (sz := s.heap.size) hD0
  have hS : va_S (xA 9 am s.heap.size) s.heap s.heap [] := va_S.rf
  have hA : ∀ q : Nat, s.heap.size ≤ q → (xA 9 am s.heap.size) q := fun q h => Or.inr h
  have hl := lv_entry ([.ref (am 0), .int n]) (n := 2) (Nat.le_of_ble_eq_true rfl)
  rw [lg_entry_eq]
  generalize (lg_sl ([.ref (am 0), .int n]) ++ List.replicate (2 - (lg_sl ([.ref (am 0), .int n])).length) Slot.unset).toArray = ls at hl ⊢
  have hl : lv_has ls 2 [(0, .ref (am 0)), (1, .int n)] := hl
  refine lv_aload_n hx hb d_M_cutAfter_0 rfl (lv_at hl 0 rfl) ?_
  refine lv_iconst (v := nI 1) hx hb d_M_cutAfter_1 (by decide) ?_
  refine lv_iload_n hx hb d_M_cutAfter_2 rfl (lv_at hl 1 rfl) ?_
  refine lv_iconst (v := nI 0) hx hb d_M_cutAfter_3 (by decide) ?_
  refine lv_sipush (v := nI 300) hx hb d_M_cutAfter_4 (by decide) ?_
  refine vp_callSi (va_runS (As := [.int n, .int (nI 0), .int (nI 300)]) (rest := [.int (nI 1), .ref (am 0)]) ⟨hx, hb, hml, hown, hts⟩ (c_M_isIn l dC dI n (nI 0) (nI 300) ) (cwS 3 hts (g_S t_781 t_782 t_6 t_783) rfl rfl rfl (by decide +kernel) ⟨by decide, by decide⟩) (xR_s (va_P.sub hP [] rfl) (hK.sub [] rfl)) rfl rfl hl.1 rfl (lv_room (Nat.le_of_ble_eq_true rfl)) d_M_cutAfter_7 ⟨Nat.le_refl _, Nat.le_refl _⟩).run (fun r7 q7 => ?_)
  obtain ⟨rfl, -⟩ := q7.resolve_left (fun z => (hok) z.2)
  refine lv_if_ne (tgt := 17) hx hb d_M_cutAfter_10 (by decide) (fun c10 => ?_) (fun c10 => ?_)
  ·
    exact absurd c10 (by decide)
  ·
    refine lv_iconst (v := nI 1) hx hb d_M_cutAfter_13 (by decide) ?_
    refine lv_goto (tgt := 18) hx hb d_M_cutAfter_14 (by decide) ?_
    have hSz := hS.1
    refine va_calli (va_runV (C := R_M) (As := [.int (nI 1), .int (nI 1)]) (rest := []) ⟨hx, hb, hml, hown, hts⟩ (c_M_fails_1 l dC dI am cm s.heap.size th mw mwr mfl mact (nI 1) (-1) (nI 0) mlog mlive had (nI 0) (-1) (nI 0) (nI 0) (nI 0) pg pla sou fou (nI 1) ) (cwV 2 hts (g_V t_784 t_786 s_22 t_6 t_787) rfl rfl rfl (by decide +kernel) ⟨by decide, by decide⟩) (xP_v hP hK hD 0 rfl rfl) rfl rfl hl.1 rfl (lv_room (Nat.le_of_ble_eq_true rfl)) d_M_cutAfter_18 ⟨Nat.le_refl _, Nat.le_refl _⟩) hS (fun q _ h => xA_up hS.1 q h) (fun q h => xA_up hS.1 q h) (fun r18 u18 t H1 locs1 ht hvm q18 hB hz1 hk1 hS => ?_)
    obtain ⟨hP1, hK1, hD1⟩ := hB
    rw [ht] at hP1
    have hD : va_D (xA 9 am s.heap.size) (mw_ am cm (nI 1) mw mwr mfl mact (nI 1) (-1) (nI 0) mlog mlive had (nI 0) (-1) (nI 0) (nI 0) (nI 0) pg pla sou fou) := hD1.weaken (fun _ q _ h => xA_up hSz _ h)
    have hP : va_P (dC, dI) vwCl (mw_ am cm (nI 1) mw mwr mfl mact (nI 1) (-1) (nI 0) mlog mlive had (nI 0) (-1) (nI 0) (nI 0) (nI 0) pg pla sou fou) H1 := hP1
    generalize H1 = H at hP hS ⊢
    generalize locs1 = locs at hS ⊢
    subst q18
    refine lv_if_ne (tgt := 29) hx hb d_M_cutAfter_21 (by decide) (fun c21 => ?_) (fun c21 => ?_)
    ·
      exact W.vret hx hb hr (fun t ht hW => ⟨⟨(), rfl, by first | rfl | trivial | omega, ⟨by rw [ht]; exact hP, va_K.moved hW.alike hK, hD⟩⟩, hS.F ht⟩) hS.2.2 d_M_cutAfter_29
    ·
      exact absurd c21 (by decide)
set_option maxHeartbeats 4000000 in
set_option maxRecDepth 100000 in
theorem c_M_crash (l : Launch) (dC : Nat → ClassId) (dI : Nat → Nat → Nat) (am cm : Nat → Nat) (sz : Nat) (th : Int32) (mw mwr mfl mact : Nat → Int32) (on cut mrec : Int32) (mlog mlive had : Nat → Int32) (mser mcur mrd mwt worn : Int32) (pg : Nat → Int32) (pla sou fou : Int32)  : Met l y_M_crash w_M_crash ({ frames := 2, cells := 0, slots := 0, locals := 41 }) (xP (dC, dI) vwCl (mt cm) (mw_ am cm th mw mwr mfl mact (nI 1) (-1) (nI 0) mlog mlive had (nI 0) (-1) (nI 0) (nI 0) (nI 0) pg pla sou fou) sz [.ref (am 0)]) (va_Qv (fun (u : Nat → Int32) => ∀ i, i < 16 → u i = -1) (fun (u : Nat → Int32) (t : State) => xB (dC, dI) vwCl (mt cm) (xA 9 am sz) (mw_ am cm (nI 0) mw mwr mfl mact (nI 0) (-1) (nI 0) mlog u had (nI 0) (-1) (nI 0) (nI 0) (nI 0) pg pla sou fou) t) (xA 9 am sz)) 0 0 (xA 9 am sz) := by
  refine Met.ofW (cc := b_M_crash) (maxL := 1) (ret := none) (by decide) rfl ?_
  intro P e s m args below meth c0 s₁ B hml hv
  obtain ⟨rfl, hsz, hP, hK, hD0⟩ := hv
  have hx := B.exec
  have hb := B.bytes
  have hr := B.returns
  have hts := atoms_spec (ws := w_M_crash) B.pre
  have hown : s.vm.findClass R_M = some m.cls := findClass_of_methodNamed B.named
  have hlocks := B.notSynchronized
  subst hsz
  have hD := mw_D (sz := s.heap.size) hD0
  have hS : va_S (xA 9 am s.heap.size) s.heap s.heap [] := va_S.rf
  have hA : ∀ q : Nat, s.heap.size ≤ q → (xA 9 am s.heap.size) q := fun q h => Or.inr h
  have hl := lv_entry ([.ref (am 0)]) (n := 1) (Nat.le_of_ble_eq_true rfl)
  rw [lg_entry_eq]
  generalize (lg_sl ([.ref (am 0)]) ++ List.replicate (1 - (lg_sl ([.ref (am 0)])).length) Slot.unset).toArray = ls at hl ⊢
  have hl : lv_has ls 1 [(0, .ref (am 0))] := hl
  refine lv_aload_n hx hb d_M_crash_0 rfl (lv_at hl 0 rfl) ?_
  refine lv_iconst (v := nI 0) hx hb d_M_crash_1 (by decide) ?_
  refine va_put (D := (dC, dI)) (ci := 5) (v := .int (nI 0)) (ty := .int) (C := R_M) (T := F_M) (N := 20) hx hb hts (fun w h => List.mem_cons_of_mem _ (in_M w h)) t_M ok_M nm_M hown hK hP hD hS 0 rfl rfl 0 (by decide) (hts (.fieldLink R_M 49 R_M "thrown" "I") (List.mem_cons_of_mem _ t_712)) (fun _ h9 => h9) rfl (by decide +kernel) rfl rfl (Nat.le_of_ble_eq_true rfl) d_M_crash_2 (fun H locs hP hD hS => ?_)
  have hP : va_P (dC, dI) vwCl (mw_ am cm (nI 0) mw mwr mfl mact (nI 1) (-1) (nI 0) mlog mlive had (nI 0) (-1) (nI 0) (nI 0) (nI 0) pg pla sou fou) H := hP
  have hD : va_D (xA 9 am s.heap.size) (mw_ am cm (nI 0) mw mwr mfl mact (nI 1) (-1) (nI 0) mlog mlive had (nI 0) (-1) (nI 0) (nI 0) (nI 0) pg pla sou fou) := hD
  refine lv_aload_n hx hb d_M_crash_5 rfl (lv_at hl 0 rfl) ?_
  have hSz := hS.1
  refine va_callv (va_runV (C := R_M) (As := []) (rest := []) ⟨hx, hb, hml, hown, hts⟩ (c_M_off l dC dI am cm H.size (nI 0) mw mwr mfl mact (nI 1) (-1) (nI 0) mlog mlive had (nI 0) (-1) (nI 0) (nI 0) (nI 0) pg pla sou fou  ) (cwV 0 hts (g_V t_853 t_855 s_36 t_6 t_856) rfl rfl rfl (by decide +kernel) ⟨by decide, by decide⟩) (xP_v hP hK hD 0 rfl rfl) rfl rfl hl.1 rfl (lv_room (Nat.le_of_ble_eq_true rfl)) d_M_crash_6 ⟨Nat.le_refl _, Nat.le_refl _⟩) hS (fun q _ h => xA_up hS.1 q h) (fun q h => xA_up hS.1 q h) (fun u6 t H1 locs1 ht hvm q6 hB hz1 hk1 hS => ?_)
  obtain ⟨hP1, hK1, hD1⟩ := hB
  rw [ht] at hP1
  have hD : va_D (xA 9 am s.heap.size) (mw_ am cm (nI 0) mw mwr mfl mact (nI 0) (-1) (nI 0) mlog u6 had (nI 0) (-1) (nI 0) (nI 0) (nI 0) pg pla sou fou) := hD1.weaken (fun _ q _ h => xA_up hSz _ h)
  have hP : va_P (dC, dI) vwCl (mw_ am cm (nI 0) mw mwr mfl mact (nI 0) (-1) (nI 0) mlog u6 had (nI 0) (-1) (nI 0) (nI 0) (nI 0) pg pla sou fou) H1 := hP1
  generalize H1 = H at hP hS ⊢
  generalize locs1 = locs at hS ⊢
  exact W.vret hx hb hr (fun t ht hW => ⟨⟨u6, rfl, q6, ⟨by rw [ht]; exact hP, va_K.moved hW.alike hK, hD⟩⟩, hS.F ht⟩) hS.2.2 d_M_crash_9
set_option maxHeartbeats 4000000 in
set_option maxRecDepth 100000 in
theorem c_M_mount_f (l : Launch) (dC : Nat → ClassId) (dI : Nat → Nat → Nat) (am cm : Nat → Nat) (sz : Nat) (th : Int32) (mw mwr mfl mact : Nat → Int32) (on cut mrec : Int32) (mlog mlive had : Nat → Int32) (mser mcur mrd mwt worn : Int32) (pg : Nat → Int32) (pla sou fou : Int32)  (hmw : ∀ i, i < 512 → mw i = -1) : Met l y_M_mount w_M_mount ({ frames := 2, cells := 0, slots := 0, locals := 45 }) (xP (dC, dI) vwCl (mt cm) (mw_ am cm th mw mwr mfl mact (nI 1) (-1) (nI 0) mlog mlive had (nI 0) (-1) (nI 0) (nI 0) (nI 0) pg pla sou fou) sz [.ref (am 0)]) (va_Qi (fun r (u : Nat → Int32) => r = nI 0) (fun (u : Nat → Int32) (t : State) => xB (dC, dI) vwCl (mt cm) (xA 9 am sz) (mw_ am cm (nI 0) mw mwr mfl mact (nI 1) (-1) (nI 0) mlog u had (nI 0) (-1) (nI 0) (nI 0) (nI 0) pg pla sou fou) t) (xA 9 am sz)) 0 0 (xA 9 am sz) := by
  refine Met.ofW (cc := b_M_mount) (maxL := 6) (ret := (some (.int))) (by decide) rfl ?_
  intro P e s m args below meth c0 s₁ B hml hv
  obtain ⟨rfl, hsz, hP, hK, hD0⟩ := hv
  have hx := B.exec
  have hb := B.bytes
  have hr := B.returns
  have hts := atoms_spec (ws := w_M_mount) B.pre
  have hown : s.vm.findClass R_M = some m.cls := findClass_of_methodNamed B.named
  have hlocks := B.notSynchronized
  subst hsz
  have hD := mw_D (sz := s.heap.size) hD0
  have hS : va_S (xA 9 am s.heap.size) s.heap s.heap [] := va_S.rf
  have hA : ∀ q : Nat, s.heap.size ≤ q → (xA 9 am s.heap.size) q := fun q h => Or.inr h
  have hl := lv_entry ([.ref (am 0)]) (n := 6) (Nat.le_of_ble_eq_true rfl)
  rw [lg_entry_eq]
  generalize (lg_sl ([.ref (am 0)]) ++ List.replicate (6 - (lg_sl ([.ref (am 0)])).length) Slot.unset).toArray = ls at hl ⊢
  have hl : lv_has ls 6 [(0, .ref (am 0))] := hl
  refine lv_aload_n hx hb d_M_mount_0 rfl (lv_at hl 0 rfl) ?_
  refine lv_iconst (v := nI 0) hx hb d_M_mount_1 (by decide) ?_
  refine va_put (D := (dC, dI)) (ci := 5) (v := .int (nI 0)) (ty := .int) (C := R_M) (T := F_M) (N := 20) hx hb hts (fun w h => List.mem_cons_of_mem _ (in_M w h)) t_M ok_M nm_M hown hK hP hD hS 0 rfl rfl 0 (by decide) (hts (.fieldLink R_M 49 R_M "thrown" "I") (List.mem_cons_of_mem _ t_712)) (fun _ h9 => h9) rfl (by decide +kernel) rfl rfl (Nat.le_of_ble_eq_true rfl) d_M_mount_2 (fun H locs hP hD hS => ?_)
  have hP : va_P (dC, dI) vwCl (mw_ am cm (nI 0) mw mwr mfl mact (nI 1) (-1) (nI 0) mlog mlive had (nI 0) (-1) (nI 0) (nI 0) (nI 0) pg pla sou fou) H := hP
  have hD : va_D (xA 9 am s.heap.size) (mw_ am cm (nI 0) mw mwr mfl mact (nI 1) (-1) (nI 0) mlog mlive had (nI 0) (-1) (nI 0) (nI 0) (nI 0) pg pla sou fou) := hD
  refine lv_aload_n hx hb d_M_mount_5 rfl (lv_at hl 0 rfl) ?_
  have hSz := hS.1
  refine va_callv (va_runV (C := R_M) (As := []) (rest := []) ⟨hx, hb, hml, hown, hts⟩ (c_M_off l dC dI am cm H.size (nI 0) mw mwr mfl mact (nI 1) (-1) (nI 0) mlog mlive had (nI 0) (-1) (nI 0) (nI 0) (nI 0) pg pla sou fou  ) (cwV 0 hts (g_V t_853 t_855 s_36 t_6 t_856) rfl rfl rfl (by decide +kernel) ⟨by decide, by decide⟩) (xP_v hP hK hD 0 rfl rfl) rfl rfl hl.1 rfl (lv_room (Nat.le_of_ble_eq_true rfl)) d_M_mount_6 ⟨Nat.le_refl _, Nat.le_refl _⟩) hS (fun q _ h => xA_up hS.1 q h) (fun q h => xA_up hS.1 q h) (fun u6 t H1 locs1 ht hvm q6 hB hz1 hk1 hS => ?_)
  obtain ⟨hP1, hK1, hD1⟩ := hB
  rw [ht] at hP1
  have hD : va_D (xA 9 am s.heap.size) (mw_ am cm (nI 0) mw mwr mfl mact (nI 0) (-1) (nI 0) mlog u6 had (nI 0) (-1) (nI 0) (nI 0) (nI 0) pg pla sou fou) := hD1.weaken (fun _ q _ h => xA_up hSz _ h)
  have hP : va_P (dC, dI) vwCl (mw_ am cm (nI 0) mw mwr mfl mact (nI 0) (-1) (nI 0) mlog u6 had (nI 0) (-1) (nI 0) (nI 0) (nI 0) pg pla sou fou) H1 := hP1
  generalize H1 = H at hP hS ⊢
  generalize locs1 = locs at hS ⊢
  refine lv_aload_n hx hb d_M_mount_9 rfl (lv_at hl 0 rfl) ?_
  refine lv_iconst (v := nI 1) hx hb d_M_mount_10 (by decide) ?_
  refine va_put (D := (dC, dI)) (ci := 5) (v := .int (nI 1)) (ty := .boolean) (C := R_M) (T := F_M) (N := 20) hx hb hts (fun w h => List.mem_cons_of_mem _ (in_M w h)) t_M ok_M nm_M hown hK hP hD hS 0 rfl rfl 5 (by decide) (hts (.fieldLink R_M 23 R_M "on" "Z") (List.mem_cons_of_mem _ t_717)) (fun _ h9 => h9) rfl (by decide +kernel) (by first | rfl | decide | assumption) rfl (Nat.le_of_ble_eq_true rfl) d_M_mount_11 (fun H locs hP hD hS => ?_)
  have hP : va_P (dC, dI) vwCl (mw_ am cm (nI 0) mw mwr mfl mact (nI 1) (-1) (nI 0) mlog u6 had (nI 0) (-1) (nI 0) (nI 0) (nI 0) pg pla sou fou) H := hP
  have hD : va_D (xA 9 am s.heap.size) (mw_ am cm (nI 0) mw mwr mfl mact (nI 1) (-1) (nI 0) mlog u6 had (nI 0) (-1) (nI 0) (nI 0) (nI 0) pg pla sou fou) := hD
  refine lv_aload_n hx hb d_M_mount_14 rfl (lv_at hl 0 rfl) ?_
  refine lv_iconst (v := (-1)) hx hb d_M_mount_15 (by decide) ?_
  refine vp_callSi (va_runV (C := R_M) (As := [.int (-1)]) (rest := []) ⟨hx, hb, hml, hown, hts⟩ (c_M_latest_f l dC dI am cm (nI 0) mw mwr mfl mact (nI 1) (-1) (nI 0) mlog u6 had (nI 0) (-1) (nI 0) (nI 0) (nI 0) pg pla sou fou (-1) (hmw)) (cwV 1 hts (g_V t_966 t_968 s_51 t_6 t_969) rfl rfl rfl (by decide +kernel) ⟨by decide, by decide⟩) (xR_v hP hK 0 rfl rfl) rfl rfl hl.1 rfl (lv_room (Nat.le_of_ble_eq_true rfl)) d_M_mount_16 ⟨Nat.le_refl _, Nat.le_refl _⟩).run (fun r16 q16 => ?_)
  subst q16
  refine lv_istore_n hx hb d_M_mount_19 rfl hl (by decide) rfl (fun ls hl => ?_)
  have hl : lv_has ls 6 [(1, .int (-1)), (0, .ref (am 0))] := hl
  refine lv_aload_n hx hb d_M_mount_20 rfl (lv_at hl 1 rfl) ?_
  refine lv_iload_n hx hb d_M_mount_21 rfl (lv_at hl 0 rfl) ?_
  refine lv_if_ge (tgt := 29) hx hb d_M_mount_22 (by decide) (fun c22 => ?_) (fun c22 => ?_)
  ·
    exact absurd c22 (by decide)
  ·
    refine lv_iconst (v := nI 0) hx hb d_M_mount_25 (by decide) ?_
    refine lv_goto (tgt := 40) hx hb d_M_mount_26 (by decide) ?_
    refine va_put (D := (dC, dI)) (ci := 5) (v := .int (nI 0)) (ty := .int) (C := R_M) (T := F_M) (N := 20) hx hb hts (fun w h => List.mem_cons_of_mem _ (in_M w h)) t_M ok_M nm_M hown hK hP hD hS 0 rfl rfl 11 (by decide) (hts (.fieldLink R_M 55 R_M "serial" "I") (List.mem_cons_of_mem _ t_723)) (fun _ h9 => h9) rfl (by decide +kernel) rfl rfl (Nat.le_of_ble_eq_true rfl) d_M_mount_40 (fun H locs hP hD hS => ?_)
    have hP : va_P (dC, dI) vwCl (mw_ am cm (nI 0) mw mwr mfl mact (nI 1) (-1) (nI 0) mlog u6 had (nI 0) (-1) (nI 0) (nI 0) (nI 0) pg pla sou fou) H := hP
    have hD : va_D (xA 9 am s.heap.size) (mw_ am cm (nI 0) mw mwr mfl mact (nI 1) (-1) (nI 0) mlog u6 had (nI 0) (-1) (nI 0) (nI 0) (nI 0) pg pla sou fou) := hD
    refine lv_aload_n hx hb d_M_mount_43 rfl (lv_at hl 1 rfl) ?_
    refine lv_iload_n hx hb d_M_mount_44 rfl (lv_at hl 0 rfl) ?_
    refine lv_if_ge (tgt := 52) hx hb d_M_mount_45 (by decide) (fun c45 => ?_) (fun c45 => ?_)
    ·
      exact absurd c45 (by decide)
    ·
      refine lv_iconst (v := (-1)) hx hb d_M_mount_48 (by decide) ?_
      refine lv_goto (tgt := 55) hx hb d_M_mount_49 (by decide) ?_
      refine va_put (D := (dC, dI)) (ci := 5) (v := .int (-1)) (ty := .int) (C := R_M) (T := F_M) (N := 20) hx hb hts (fun w h => List.mem_cons_of_mem _ (in_M w h)) t_M ok_M nm_M hown hK hP hD hS 0 rfl rfl 12 (by decide) (hts (.fieldLink R_M 40 R_M "cursor" "I") (List.mem_cons_of_mem _ t_724)) (fun _ h9 => h9) rfl (by decide +kernel) rfl rfl (Nat.le_of_ble_eq_true rfl) d_M_mount_55 (fun H locs hP hD hS => ?_)
      have hP : va_P (dC, dI) vwCl (mw_ am cm (nI 0) mw mwr mfl mact (nI 1) (-1) (nI 0) mlog u6 had (nI 0) (-1) (nI 0) (nI 0) (nI 0) pg pla sou fou) H := hP
      have hD : va_D (xA 9 am s.heap.size) (mw_ am cm (nI 0) mw mwr mfl mact (nI 1) (-1) (nI 0) mlog u6 had (nI 0) (-1) (nI 0) (nI 0) (nI 0) pg pla sou fou) := hD
      refine lv_iconst (v := nI 1) hx hb d_M_mount_58 (by decide) ?_
      refine lv_istore_n hx hb d_M_mount_59 rfl hl (by decide) rfl (fun ls hl => ?_)
      have hl : lv_has ls 6 [(2, .int (nI 1)), (1, .int (-1)), (0, .ref (am 0))] := hl
      refine lv_iconst (v := nI 0) hx hb d_M_mount_60 (by decide) ?_
      refine lv_istore_n hx hb d_M_mount_61 rfl hl (by decide) rfl (fun ls hl => ?_)
      have hl : lv_has ls 6 [(3, .int (nI 0)), (2, .int (nI 1)), (1, .int (-1)), (0, .ref (am 0))] := hl
      refine lv_iload_n hx hb d_M_mount_62 rfl (lv_at hl 0 rfl) ?_
      refine lv_bipush (v := nI 16) hx hb d_M_mount_63 (by decide) ?_
      refine lv_icmp_ge (tgt := 199) hx hb d_M_mount_65 (by decide) (fun c65 => ?_) (fun c65 => ?_)
      ·
        exact absurd c65 (by decide)
      ·
        refine lv_iload_n hx hb d_M_mount_68 rfl (lv_at hl 1 rfl) ?_
        refine lv_if_eq (tgt := 199) hx hb d_M_mount_69 (by decide) (fun c69 => ?_) (fun c69 => ?_)
        ·
          exact absurd c69 (by decide)
        ·
          refine lv_aload_n hx hb d_M_mount_72 rfl (lv_at hl 3 rfl) ?_
          refine lv_iload_n hx hb d_M_mount_73 rfl (lv_at hl 0 rfl) ?_
          refine vp_callSi (va_runV (C := R_M) (As := [.int (nI 0)]) (rest := []) ⟨hx, hb, hml, hown, hts⟩ (c_M_latest_f l dC dI am cm (nI 0) mw mwr mfl mact (nI 1) (-1) (nI 0) mlog u6 had (nI 0) (-1) (nI 0) (nI 0) (nI 0) pg pla sou fou (nI 0) (hmw)) (cwV 1 hts (g_V t_966 t_968 s_51 t_6 t_969) rfl rfl rfl (by decide +kernel) ⟨by decide, by decide⟩) (xR_v hP hK 0 rfl rfl) rfl rfl hl.1 rfl (lv_room (Nat.le_of_ble_eq_true rfl)) d_M_mount_74 ⟨Nat.le_refl _, Nat.le_refl _⟩).run (fun r74 q74 => ?_)
          subst q74
          refine lv_istore hx hb d_M_mount_77 hl (by decide) rfl (fun ls hl => ?_)
          have hl : lv_has ls 6 [(4, .int (-1)), (3, .int (nI 0)), (2, .int (nI 1)), (1, .int (-1)), (0, .ref (am 0))] := hl
          refine lv_iload hx hb d_M_mount_79 (lv_at hl 0 rfl) ?_
          refine lv_if_ge (tgt := 87) hx hb d_M_mount_81 (by decide) (fun c81 => ?_) (fun c81 => ?_)
          ·
            exact absurd c81 (by decide)
          ·
            refine lv_goto (tgt := 199) hx hb d_M_mount_84 (by decide) ?_
            refine lv_aload_n hx hb d_M_mount_199 rfl (lv_at hl 4 rfl) ?_
            refine vp_callSi (va_runV (C := R_M) (As := []) (rest := []) ⟨hx, hb, hml, hown, hts⟩ (c_M_tickets_f l dC dI am cm (nI 0) mw mwr mfl mact (nI 1) (-1) (nI 0) mlog u6 had (nI 0) (-1) (nI 0) (nI 0) (nI 0) pg pla sou fou  ) (cwV 0 hts (g_V t_865 t_867 s_39 t_6 t_868) rfl rfl rfl (by decide +kernel) ⟨by decide, by decide⟩) (xR_v hP hK 0 rfl rfl) rfl rfl hl.1 rfl (lv_room (Nat.le_of_ble_eq_true rfl)) d_M_mount_200 ⟨Nat.le_refl _, Nat.le_refl _⟩).run (fun r200 q200 => ?_)
            subst q200
            exact W.iret (v := nI 0) hx hb hr (fun t ht hW => ⟨⟨nI 0, u6, rfl, by first | rfl | trivial | omega, ⟨by rw [ht]; exact hP, va_K.moved hW.alike hK, hD⟩⟩, hS.F ht⟩) hS.2.2 d_M_mount_203
set_option maxHeartbeats 4000000 in
set_option maxRecDepth 100000 in
theorem c_M_wearOf_ok (l : Launch) (dC : Nat → ClassId) (dI : Nat → Nat → Nat) (am cm : Nat → Nat) (sz : Nat) (th : Int32) (mw mwr mfl mact : Nat → Int32) (on cut mrec : Int32) (mlog mlive had : Nat → Int32) (mser mcur mrd mwt worn : Int32) (pg : Nat → Int32) (pla sou fou : Int32) (j : Nat) (hj : j < 8) : Met l y_M_wearOf w_M_wearOf ({ frames := 1, cells := 0, slots := 0, locals := 22 }) (xP (dC, dI) vwCl (mt cm) (mw_ am cm th mw mwr mfl mact (nI 1) (-1) (nI 0) mlog mlive had (nI 0) (-1) (nI 0) (nI 0) (nI 0) pg pla sou fou) sz [.ref (am 0), .int (nI j)]) (va_Qi (fun r (u : Unit) => r = mwr j) (fun (u : Unit) (t : State) => xB (dC, dI) vwCl (mt cm) (xA 9 am sz) (mw_ am cm (nI 0) mw mwr mfl mact (nI 1) (-1) (nI 0) mlog mlive had (nI 0) (-1) (nI 0) (nI 0) (nI 0) pg pla sou fou) t) (xA 9 am sz)) 0 0 (xA 9 am sz) := by
  refine Met.ofW (cc := b_M_wearOf) (maxL := 2) (ret := (some (.int))) (by decide) rfl ?_
  intro P e s m args below meth c0 s₁ B hml hv
  obtain ⟨rfl, hsz, hP, hK, hD0⟩ := hv
  have hx := B.exec
  have hb := B.bytes
  have hr := B.returns
  have hts := atoms_spec (ws := w_M_wearOf) B.pre
  have hown : s.vm.findClass R_M = some m.cls := findClass_of_methodNamed B.named
  have hlocks := B.notSynchronized
  subst hsz
  have hD := mw_D (sz := s.heap.size) hD0
  have hS : va_S (xA 9 am s.heap.size) s.heap s.heap [] := va_S.rf
  have hA : ∀ q : Nat, s.heap.size ≤ q → (xA 9 am s.heap.size) q := fun q h => Or.inr h
  have hl := lv_entry ([.ref (am 0), .int (nI j)]) (n := 2) (Nat.le_of_ble_eq_true rfl)
  rw [lg_entry_eq]
  generalize (lg_sl ([.ref (am 0), .int (nI j)]) ++ List.replicate (2 - (lg_sl ([.ref (am 0), .int (nI j)])).length) Slot.unset).toArray = ls at hl ⊢
  have hl : lv_has ls 2 [(0, .ref (am 0)), (1, .int (nI j))] := hl
  refine lv_aload_n hx hb d_M_wearOf_0 rfl (lv_at hl 0 rfl) ?_
  refine lv_iconst (v := nI 1) hx hb d_M_wearOf_1 (by decide) ?_
  refine lv_iload_n hx hb d_M_wearOf_2 rfl (lv_at hl 1 rfl) ?_
  refine lv_iconst (v := nI 0) hx hb d_M_wearOf_3 (by decide) ?_
  refine lv_bipush (v := nI 7) hx hb d_M_wearOf_4 (by decide) ?_
  refine vp_callSi (va_runS (As := [.int (nI j), .int (nI 0), .int (nI 7)]) (rest := [.int (nI 1), .ref (am 0)]) ⟨hx, hb, hml, hown, hts⟩ (c_M_isIn l dC dI (nI j) (nI 0) (nI 7) ) (cwS 3 hts (g_S t_781 t_782 t_6 t_783) rfl rfl rfl (by decide +kernel) ⟨by decide, by decide⟩) (xR_s (va_P.sub hP [] rfl) (hK.sub [] rfl)) rfl rfl hl.1 rfl (lv_room (Nat.le_of_ble_eq_true rfl)) d_M_wearOf_6 ⟨Nat.le_refl _, Nat.le_refl _⟩).run (fun r6 q6 => ?_)
  obtain ⟨rfl, -⟩ := q6.resolve_right (fun z => z.2 (⟨(nI_leI (by decide) (by omega)).mpr (Nat.zero_le _), (nI_leI (by omega) (by decide)).mpr (by omega)⟩))
  refine lv_if_ne (tgt := 16) hx hb d_M_wearOf_9 (by decide) (fun c9 => ?_) (fun c9 => ?_)
  ·
    refine lv_iconst (v := nI 0) hx hb d_M_wearOf_16 (by decide) ?_
    have hSz := hS.1
    refine va_calli (va_runV (C := R_M) (As := [.int (nI 1), .int (nI 0)]) (rest := []) ⟨hx, hb, hml, hown, hts⟩ (c_M_fails_0 l dC dI am cm s.heap.size th mw mwr mfl mact (nI 1) (-1) (nI 0) mlog mlive had (nI 0) (-1) (nI 0) (nI 0) (nI 0) pg pla sou fou (nI 1) ) (cwV 2 hts (g_V t_784 t_786 s_22 t_6 t_787) rfl rfl rfl (by decide +kernel) ⟨by decide, by decide⟩) (xP_v hP hK hD 0 rfl rfl) rfl rfl hl.1 rfl (lv_room (Nat.le_of_ble_eq_true rfl)) d_M_wearOf_17 ⟨Nat.le_refl _, Nat.le_refl _⟩) hS (fun q _ h => xA_up hS.1 q h) (fun q h => xA_up hS.1 q h) (fun r17 u17 t H1 locs1 ht hvm q17 hB hz1 hk1 hS => ?_)
    obtain ⟨hP1, hK1, hD1⟩ := hB
    rw [ht] at hP1
    have hD : va_D (xA 9 am s.heap.size) (mw_ am cm (nI 0) mw mwr mfl mact (nI 1) (-1) (nI 0) mlog mlive had (nI 0) (-1) (nI 0) (nI 0) (nI 0) pg pla sou fou) := hD1.weaken (fun _ q _ h => xA_up hSz _ h)
    have hP : va_P (dC, dI) vwCl (mw_ am cm (nI 0) mw mwr mfl mact (nI 1) (-1) (nI 0) mlog mlive had (nI 0) (-1) (nI 0) (nI 0) (nI 0) pg pla sou fou) H1 := hP1
    generalize H1 = H at hP hS ⊢
    generalize locs1 = locs at hS ⊢
    subst q17
    refine lv_if_eq (tgt := 27) hx hb d_M_wearOf_20 (by decide) (fun c20 => ?_) (fun c20 => ?_)
    ·
      refine lv_aload_n hx hb d_M_wearOf_27 rfl (lv_at hl 0 rfl) ?_
      refine va_get (D := (dC, dI)) (ci := 5) (v := .ref (am 2)) (C := R_M) (T := F_M) (N := 20) hx hb hts (fun w h => List.mem_cons_of_mem _ (in_M w h)) hown hK hP 0 rfl rfl 2 (by decide) (hts (.fieldLink R_M 13 R_M "wear" "[I") (List.mem_cons_of_mem _ t_714)) (fun _ h9 => h9) rfl d_M_wearOf_28 ?_
      refine lv_iload_n hx hb d_M_wearOf_31 rfl (lv_at hl 1 rfl) ?_
      refine va_iald hx hb hK hP 2 1 rfl rfl (vp_in_nI (by omega) (by decide)) d_M_wearOf_32 ?_
      refine tp_i (y := mwr j) (by rw [nI_clamp (by omega)]) ?_
      exact W.iret (v := mwr j) hx hb hr (fun t ht hW => ⟨⟨mwr j, (), rfl, by first | rfl | trivial | omega, ⟨by rw [ht]; exact hP, va_K.moved hW.alike hK, hD⟩⟩, hS.F ht⟩) hS.2.2 d_M_wearOf_33
    ·
      exact absurd c20 (by decide)
  ·
    exact absurd c9 (by decide)
set_option maxHeartbeats 4000000 in
set_option maxRecDepth 100000 in
theorem c_M_wearOf_bad (l : Launch) (dC : Nat → ClassId) (dI : Nat → Nat → Nat) (am cm : Nat → Nat) (sz : Nat) (th : Int32) (mw mwr mfl mact : Nat → Int32) (on cut mrec : Int32) (mlog mlive had : Nat → Int32) (mser mcur mrd mwt worn : Int32) (pg : Nat → Int32) (pla sou fou : Int32) (b : Int32) (hok : ¬ (nI 0 ≤ b ∧ b ≤ nI 7)) : Met l y_M_wearOf w_M_wearOf ({ frames := 1, cells := 0, slots := 0, locals := 22 }) (xP (dC, dI) vwCl (mt cm) (mw_ am cm th mw mwr mfl mact (nI 1) (-1) (nI 0) mlog mlive had (nI 0) (-1) (nI 0) (nI 0) (nI 0) pg pla sou fou) sz [.ref (am 0), .int b]) (va_Qi (fun r (u : Unit) => r = nI 0) (fun (u : Unit) (t : State) => xB (dC, dI) vwCl (mt cm) (xA 9 am sz) (mw_ am cm (nI 1) mw mwr mfl mact (nI 1) (-1) (nI 0) mlog mlive had (nI 0) (-1) (nI 0) (nI 0) (nI 0) pg pla sou fou) t) (xA 9 am sz)) 0 0 (xA 9 am sz) := by
  refine Met.ofW (cc := b_M_wearOf) (maxL := 2) (ret := (some (.int))) (by decide) rfl ?_
  intro P e s m args below meth c0 s₁ B hml hv
  obtain ⟨rfl, hsz, hP, hK, hD0⟩ := hv
  have hx := B.exec
  have hb := B.bytes
  have hr := B.returns
  have hts := atoms_spec (ws := w_M_wearOf) B.pre
  have hown : s.vm.findClass R_M = some m.cls := findClass_of_methodNamed B.named
  have hlocks := B.notSynchronized
  subst hsz
  have hD := mw_D (sz := s.heap.size) hD0
  have hS : va_S (xA 9 am s.heap.size) s.heap s.heap [] := va_S.rf
  have hA : ∀ q : Nat, s.heap.size ≤ q → (xA 9 am s.heap.size) q := fun q h => Or.inr h
  have hl := lv_entry ([.ref (am 0), .int b]) (n := 2) (Nat.le_of_ble_eq_true rfl)
  rw [lg_entry_eq]
  generalize (lg_sl ([.ref (am 0), .int b]) ++ List.replicate (2 - (lg_sl ([.ref (am 0), .int b])).length) Slot.unset).toArray = ls at hl ⊢
  have hl : lv_has ls 2 [(0, .ref (am 0)), (1, .int b)] := hl
  refine lv_aload_n hx hb d_M_wearOf_0 rfl (lv_at hl 0 rfl) ?_
  refine lv_iconst (v := nI 1) hx hb d_M_wearOf_1 (by decide) ?_
  refine lv_iload_n hx hb d_M_wearOf_2 rfl (lv_at hl 1 rfl) ?_
  refine lv_iconst (v := nI 0) hx hb d_M_wearOf_3 (by decide) ?_
  refine lv_bipush (v := nI 7) hx hb d_M_wearOf_4 (by decide) ?_
  refine vp_callSi (va_runS (As := [.int b, .int (nI 0), .int (nI 7)]) (rest := [.int (nI 1), .ref (am 0)]) ⟨hx, hb, hml, hown, hts⟩ (c_M_isIn l dC dI b (nI 0) (nI 7) ) (cwS 3 hts (g_S t_781 t_782 t_6 t_783) rfl rfl rfl (by decide +kernel) ⟨by decide, by decide⟩) (xR_s (va_P.sub hP [] rfl) (hK.sub [] rfl)) rfl rfl hl.1 rfl (lv_room (Nat.le_of_ble_eq_true rfl)) d_M_wearOf_6 ⟨Nat.le_refl _, Nat.le_refl _⟩).run (fun r6 q6 => ?_)
  obtain ⟨rfl, -⟩ := q6.resolve_left (fun z => (hok) z.2)
  refine lv_if_ne (tgt := 16) hx hb d_M_wearOf_9 (by decide) (fun c9 => ?_) (fun c9 => ?_)
  ·
    exact absurd c9 (by decide)
  ·
    refine lv_iconst (v := nI 1) hx hb d_M_wearOf_12 (by decide) ?_
    refine lv_goto (tgt := 17) hx hb d_M_wearOf_13 (by decide) ?_
    have hSz := hS.1
    refine va_calli (va_runV (C := R_M) (As := [.int (nI 1), .int (nI 1)]) (rest := []) ⟨hx, hb, hml, hown, hts⟩ (c_M_fails_1 l dC dI am cm s.heap.size th mw mwr mfl mact (nI 1) (-1) (nI 0) mlog mlive had (nI 0) (-1) (nI 0) (nI 0) (nI 0) pg pla sou fou (nI 1) ) (cwV 2 hts (g_V t_784 t_786 s_22 t_6 t_787) rfl rfl rfl (by decide +kernel) ⟨by decide, by decide⟩) (xP_v hP hK hD 0 rfl rfl) rfl rfl hl.1 rfl (lv_room (Nat.le_of_ble_eq_true rfl)) d_M_wearOf_17 ⟨Nat.le_refl _, Nat.le_refl _⟩) hS (fun q _ h => xA_up hS.1 q h) (fun q h => xA_up hS.1 q h) (fun r17 u17 t H1 locs1 ht hvm q17 hB hz1 hk1 hS => ?_)
    obtain ⟨hP1, hK1, hD1⟩ := hB
    rw [ht] at hP1
    have hD : va_D (xA 9 am s.heap.size) (mw_ am cm (nI 1) mw mwr mfl mact (nI 1) (-1) (nI 0) mlog mlive had (nI 0) (-1) (nI 0) (nI 0) (nI 0) pg pla sou fou) := hD1.weaken (fun _ q _ h => xA_up hSz _ h)
    have hP : va_P (dC, dI) vwCl (mw_ am cm (nI 1) mw mwr mfl mact (nI 1) (-1) (nI 0) mlog mlive had (nI 0) (-1) (nI 0) (nI 0) (nI 0) pg pla sou fou) H1 := hP1
    generalize H1 = H at hP hS ⊢
    generalize locs1 = locs at hS ⊢
    subst q17
    refine lv_if_eq (tgt := 27) hx hb d_M_wearOf_20 (by decide) (fun c20 => ?_) (fun c20 => ?_)
    ·
      exact absurd c20 (by decide)
    ·
      refine lv_iconst (v := nI 0) hx hb d_M_wearOf_23 (by decide) ?_
      refine lv_goto (tgt := 33) hx hb d_M_wearOf_24 (by decide) ?_
      exact W.iret (v := nI 0) hx hb hr (fun t ht hW => ⟨⟨nI 0, (), rfl, by first | rfl | trivial | omega, ⟨by rw [ht]; exact hP, va_K.moved hW.alike hK, hD⟩⟩, hS.F ht⟩) hS.2.2 d_M_wearOf_33
set_option maxHeartbeats 4000000 in
set_option maxRecDepth 100000 in
theorem c_M_failBlock_ok (l : Launch) (dC : Nat → ClassId) (dI : Nat → Nat → Nat) (am cm : Nat → Nat) (sz : Nat) (th : Int32) (mw mwr mfl mact : Nat → Int32) (on cut mrec : Int32) (mlog mlive had : Nat → Int32) (mser mcur mrd mwt worn : Int32) (pg : Nat → Int32) (pla sou fou : Int32) (j : Nat) (hj : j < 8) : Met l y_M_failBlock w_M_failBlock ({ frames := 1, cells := 0, slots := 0, locals := 22 }) (xP (dC, dI) vwCl (mt cm) (mw_ am cm th mw mwr mfl mact (nI 1) (-1) (nI 0) mlog mlive had (nI 0) (-1) (nI 0) (nI 0) (nI 0) pg pla sou fou) sz [.ref (am 0), .int (nI j)]) (va_Qv (fun (u : Unit) => True) (fun (u : Unit) (t : State) => xB (dC, dI) vwCl (mt cm) (xA 9 am sz) (mw_ am cm (nI 0) mw mwr (upd mfl j (vp_nar .boolean (nI 1))) mact (nI 1) (-1) (nI 0) mlog mlive had (nI 0) (-1) (nI 0) (nI 0) (nI 0) pg pla sou fou) t) (xA 9 am sz)) 0 0 (xA 9 am sz) := by
  refine Met.ofW (cc := b_M_failBlock) (maxL := 2) (ret := none) (by decide) rfl ?_
  intro P e s m args below meth c0 s₁ B hml hv
  obtain ⟨rfl, hsz, hP, hK, hD0⟩ := hv
  have hx := B.exec
  have hb := B.bytes
  have hr := B.returns
  have hts := atoms_spec (ws := w_M_failBlock) B.pre
  have hown : s.vm.findClass R_M = some m.cls := findClass_of_methodNamed B.named
  have hlocks := B.notSynchronized
  subst hsz
  have hD := mw_D (sz := s.heap.size) hD0
  have hS : va_S (xA 9 am s.heap.size) s.heap s.heap [] := va_S.rf
  have hA : ∀ q : Nat, s.heap.size ≤ q → (xA 9 am s.heap.size) q := fun q h => Or.inr h
  have hl := lv_entry ([.ref (am 0), .int (nI j)]) (n := 2) (Nat.le_of_ble_eq_true rfl)
  rw [lg_entry_eq]
  generalize (lg_sl ([.ref (am 0), .int (nI j)]) ++ List.replicate (2 - (lg_sl ([.ref (am 0), .int (nI j)])).length) Slot.unset).toArray = ls at hl ⊢
  have hl : lv_has ls 2 [(0, .ref (am 0)), (1, .int (nI j))] := hl
  refine lv_aload_n hx hb d_M_failBlock_0 rfl (lv_at hl 0 rfl) ?_
  refine lv_iconst (v := nI 1) hx hb d_M_failBlock_1 (by decide) ?_
  refine lv_iload_n hx hb d_M_failBlock_2 rfl (lv_at hl 1 rfl) ?_
  refine lv_iconst (v := nI 0) hx hb d_M_failBlock_3 (by decide) ?_
  refine lv_bipush (v := nI 7) hx hb d_M_failBlock_4 (by decide) ?_
  refine vp_callSi (va_runS (As := [.int (nI j), .int (nI 0), .int (nI 7)]) (rest := [.int (nI 1), .ref (am 0)]) ⟨hx, hb, hml, hown, hts⟩ (c_M_isIn l dC dI (nI j) (nI 0) (nI 7) ) (cwS 3 hts (g_S t_781 t_782 t_6 t_783) rfl rfl rfl (by decide +kernel) ⟨by decide, by decide⟩) (xR_s (va_P.sub hP [] rfl) (hK.sub [] rfl)) rfl rfl hl.1 rfl (lv_room (Nat.le_of_ble_eq_true rfl)) d_M_failBlock_6 ⟨Nat.le_refl _, Nat.le_refl _⟩).run (fun r6 q6 => ?_)
  obtain ⟨rfl, -⟩ := q6.resolve_right (fun z => z.2 (⟨(nI_leI (by decide) (by omega)).mpr (Nat.zero_le _), (nI_leI (by omega) (by decide)).mpr (by omega)⟩))
  refine lv_if_ne (tgt := 16) hx hb d_M_failBlock_9 (by decide) (fun c9 => ?_) (fun c9 => ?_)
  ·
    refine lv_iconst (v := nI 0) hx hb d_M_failBlock_16 (by decide) ?_
    have hSz := hS.1
    refine va_calli (va_runV (C := R_M) (As := [.int (nI 1), .int (nI 0)]) (rest := []) ⟨hx, hb, hml, hown, hts⟩ (c_M_fails_0 l dC dI am cm s.heap.size th mw mwr mfl mact (nI 1) (-1) (nI 0) mlog mlive had (nI 0) (-1) (nI 0) (nI 0) (nI 0) pg pla sou fou (nI 1) ) (cwV 2 hts (g_V t_784 t_786 s_22 t_6 t_787) rfl rfl rfl (by decide +kernel) ⟨by decide, by decide⟩) (xP_v hP hK hD 0 rfl rfl) rfl rfl hl.1 rfl (lv_room (Nat.le_of_ble_eq_true rfl)) d_M_failBlock_17 ⟨Nat.le_refl _, Nat.le_refl _⟩) hS (fun q _ h => xA_up hS.1 q h) (fun q h => xA_up hS.1 q h) (fun r17 u17 t H1 locs1 ht hvm q17 hB hz1 hk1 hS => ?_)
    obtain ⟨hP1, hK1, hD1⟩ := hB
    rw [ht] at hP1
    have hD : va_D (xA 9 am s.heap.size) (mw_ am cm (nI 0) mw mwr mfl mact (nI 1) (-1) (nI 0) mlog mlive had (nI 0) (-1) (nI 0) (nI 0) (nI 0) pg pla sou fou) := hD1.weaken (fun _ q _ h => xA_up hSz _ h)
    have hP : va_P (dC, dI) vwCl (mw_ am cm (nI 0) mw mwr mfl mact (nI 1) (-1) (nI 0) mlog mlive had (nI 0) (-1) (nI 0) (nI 0) (nI 0) pg pla sou fou) H1 := hP1
    generalize H1 = H at hP hS ⊢
    generalize locs1 = locs at hS ⊢
    subst q17
    refine lv_if_ne (tgt := 30) hx hb d_M_failBlock_20 (by decide) (fun c20 => ?_) (fun c20 => ?_)
    ·
      exact absurd c20 (by decide)
    ·
      refine lv_aload_n hx hb d_M_failBlock_23 rfl (lv_at hl 0 rfl) ?_
      refine va_get (D := (dC, dI)) (ci := 5) (v := .ref (am 3)) (C := R_M) (T := F_M) (N := 20) hx hb hts (fun w h => List.mem_cons_of_mem _ (in_M w h)) hown hK hP 0 rfl rfl 3 (by decide) (hts (.fieldLink R_M 16 R_M "failed" "[Z") (List.mem_cons_of_mem _ t_715)) (fun _ h9 => h9) rfl d_M_failBlock_24 ?_
      refine lv_iload_n hx hb d_M_failBlock_27 rfl (lv_at hl 1 rfl) ?_
      refine lv_iconst (v := nI 1) hx hb d_M_failBlock_28 (by decide) ?_
      refine va_zast hx hb hK hP hD hS 3 2 rfl rfl (vp_in_nI (by omega) (by decide)) d_M_failBlock_29 (fun H locs hP hD hS => ?_)
      rw [nI_clamp (by omega)] at hP hD
      have hP : va_P (dC, dI) vwCl (mw_ am cm (nI 0) mw mwr (upd mfl j (vp_nar .boolean (nI 1))) mact (nI 1) (-1) (nI 0) mlog mlive had (nI 0) (-1) (nI 0) (nI 0) (nI 0) pg pla sou fou) H := hP
      have hD : va_D (xA 9 am s.heap.size) (mw_ am cm (nI 0) mw mwr (upd mfl j (vp_nar .boolean (nI 1))) mact (nI 1) (-1) (nI 0) mlog mlive had (nI 0) (-1) (nI 0) (nI 0) (nI 0) pg pla sou fou) := hD
      exact W.vret hx hb hr (fun t ht hW => ⟨⟨(), rfl, by first | rfl | trivial | omega, ⟨by rw [ht]; exact hP, va_K.moved hW.alike hK, hD⟩⟩, hS.F ht⟩) hS.2.2 d_M_failBlock_30
  ·
    exact absurd c9 (by decide)
set_option maxHeartbeats 4000000 in
set_option maxRecDepth 100000 in
theorem c_M_failBlock_bad (l : Launch) (dC : Nat → ClassId) (dI : Nat → Nat → Nat) (am cm : Nat → Nat) (sz : Nat) (th : Int32) (mw mwr mfl mact : Nat → Int32) (on cut mrec : Int32) (mlog mlive had : Nat → Int32) (mser mcur mrd mwt worn : Int32) (pg : Nat → Int32) (pla sou fou : Int32) (b : Int32) (hok : ¬ (nI 0 ≤ b ∧ b ≤ nI 7)) : Met l y_M_failBlock w_M_failBlock ({ frames := 1, cells := 0, slots := 0, locals := 22 }) (xP (dC, dI) vwCl (mt cm) (mw_ am cm th mw mwr mfl mact (nI 1) (-1) (nI 0) mlog mlive had (nI 0) (-1) (nI 0) (nI 0) (nI 0) pg pla sou fou) sz [.ref (am 0), .int b]) (va_Qv (fun (u : Unit) => True) (fun (u : Unit) (t : State) => xB (dC, dI) vwCl (mt cm) (xA 9 am sz) (mw_ am cm (nI 1) mw mwr mfl mact (nI 1) (-1) (nI 0) mlog mlive had (nI 0) (-1) (nI 0) (nI 0) (nI 0) pg pla sou fou) t) (xA 9 am sz)) 0 0 (xA 9 am sz) := by
  refine Met.ofW (cc := b_M_failBlock) (maxL := 2) (ret := none) (by decide) rfl ?_
  intro P e s m args below meth c0 s₁ B hml hv
  obtain ⟨rfl, hsz, hP, hK, hD0⟩ := hv
  have hx := B.exec
  have hb := B.bytes
  have hr := B.returns
  have hts := atoms_spec (ws := w_M_failBlock) B.pre
  have hown : s.vm.findClass R_M = some m.cls := findClass_of_methodNamed B.named
  have hlocks := B.notSynchronized
  subst hsz
  have hD := mw_D (sz := s.heap.size) hD0
  have hS : va_S (xA 9 am s.heap.size) s.heap s.heap [] := va_S.rf
  have hA : ∀ q : Nat, s.heap.size ≤ q → (xA 9 am s.heap.size) q := fun q h => Or.inr h
  have hl := lv_entry ([.ref (am 0), .int b]) (n := 2) (Nat.le_of_ble_eq_true rfl)
  rw [lg_entry_eq]
  generalize (lg_sl ([.ref (am 0), .int b]) ++ List.replicate (2 - (lg_sl ([.ref (am 0), .int b])).length) Slot.unset).toArray = ls at hl ⊢
  have hl : lv_has ls 2 [(0, .ref (am 0)), (1, .int b)] := hl
  refine lv_aload_n hx hb d_M_failBlock_0 rfl (lv_at hl 0 rfl) ?_
  refine lv_iconst (v := nI 1) hx hb d_M_failBlock_1 (by decide) ?_
  refine lv_iload_n hx hb d_M_failBlock_2 rfl (lv_at hl 1 rfl) ?_
  refine lv_iconst (v := nI 0) hx hb d_M_failBlock_3 (by decide) ?_
  refine lv_bipush (v := nI 7) hx hb d_M_failBlock_4 (by decide) ?_
  refine vp_callSi (va_runS (As := [.int b, .int (nI 0), .int (nI 7)]) (rest := [.int (nI 1), .ref (am 0)]) ⟨hx, hb, hml, hown, hts⟩ (c_M_isIn l dC dI b (nI 0) (nI 7) ) (cwS 3 hts (g_S t_781 t_782 t_6 t_783) rfl rfl rfl (by decide +kernel) ⟨by decide, by decide⟩) (xR_s (va_P.sub hP [] rfl) (hK.sub [] rfl)) rfl rfl hl.1 rfl (lv_room (Nat.le_of_ble_eq_true rfl)) d_M_failBlock_6 ⟨Nat.le_refl _, Nat.le_refl _⟩).run (fun r6 q6 => ?_)
  obtain ⟨rfl, -⟩ := q6.resolve_left (fun z => (hok) z.2)
  refine lv_if_ne (tgt := 16) hx hb d_M_failBlock_9 (by decide) (fun c9 => ?_) (fun c9 => ?_)
  ·
    exact absurd c9 (by decide)
  ·
    refine lv_iconst (v := nI 1) hx hb d_M_failBlock_12 (by decide) ?_
    refine lv_goto (tgt := 17) hx hb d_M_failBlock_13 (by decide) ?_
    have hSz := hS.1
    refine va_calli (va_runV (C := R_M) (As := [.int (nI 1), .int (nI 1)]) (rest := []) ⟨hx, hb, hml, hown, hts⟩ (c_M_fails_1 l dC dI am cm s.heap.size th mw mwr mfl mact (nI 1) (-1) (nI 0) mlog mlive had (nI 0) (-1) (nI 0) (nI 0) (nI 0) pg pla sou fou (nI 1) ) (cwV 2 hts (g_V t_784 t_786 s_22 t_6 t_787) rfl rfl rfl (by decide +kernel) ⟨by decide, by decide⟩) (xP_v hP hK hD 0 rfl rfl) rfl rfl hl.1 rfl (lv_room (Nat.le_of_ble_eq_true rfl)) d_M_failBlock_17 ⟨Nat.le_refl _, Nat.le_refl _⟩) hS (fun q _ h => xA_up hS.1 q h) (fun q h => xA_up hS.1 q h) (fun r17 u17 t H1 locs1 ht hvm q17 hB hz1 hk1 hS => ?_)
    obtain ⟨hP1, hK1, hD1⟩ := hB
    rw [ht] at hP1
    have hD : va_D (xA 9 am s.heap.size) (mw_ am cm (nI 1) mw mwr mfl mact (nI 1) (-1) (nI 0) mlog mlive had (nI 0) (-1) (nI 0) (nI 0) (nI 0) pg pla sou fou) := hD1.weaken (fun _ q _ h => xA_up hSz _ h)
    have hP : va_P (dC, dI) vwCl (mw_ am cm (nI 1) mw mwr mfl mact (nI 1) (-1) (nI 0) mlog mlive had (nI 0) (-1) (nI 0) (nI 0) (nI 0) pg pla sou fou) H1 := hP1
    generalize H1 = H at hP hS ⊢
    generalize locs1 = locs at hS ⊢
    subst q17
    refine lv_if_ne (tgt := 30) hx hb d_M_failBlock_20 (by decide) (fun c20 => ?_) (fun c20 => ?_)
    ·
      exact W.vret hx hb hr (fun t ht hW => ⟨⟨(), rfl, by first | rfl | trivial | omega, ⟨by rw [ht]; exact hP, va_K.moved hW.alike hK, hD⟩⟩, hS.F ht⟩) hS.2.2 d_M_failBlock_30
    ·
      exact absurd c20 (by decide)
set_option maxHeartbeats 4000000 in
set_option maxRecDepth 100000 in
theorem c_M_poke_ok (l : Launch) (dC : Nat → ClassId) (dI : Nat → Nat → Nat) (am cm : Nat → Nat) (sz : Nat) (th : Int32) (mw mwr mfl mact : Nat → Int32) (on cut mrec : Int32) (mlog mlive had : Nat → Int32) (mser mcur mrd mwt worn : Int32) (pg : Nat → Int32) (pla sou fou : Int32) (j k : Nat) (mask : Int32) (hj : j < 32) (hk : k < 16) : Met l y_M_poke w_M_poke ({ frames := 1, cells := 0, slots := 0, locals := 22 }) (xP (dC, dI) vwCl (mt cm) (mw_ am cm th mw mwr mfl mact (nI 1) (-1) (nI 0) mlog mlive had (nI 0) (-1) (nI 0) (nI 0) (nI 0) pg pla sou fou) sz [.ref (am 0), .int (nI j), .int (nI k), .int mask]) (va_Qv (fun (u : Unit) => True) (fun (u : Unit) (t : State) => xB (dC, dI) vwCl (mt cm) (xA 9 am sz) (mw_ am cm (nI 0) (upd mw (16 * j + k) (mw (16 * j + k) ^^^ mask)) mwr mfl mact (nI 1) (-1) (nI 0) mlog mlive had (nI 0) (-1) (nI 0) (nI 0) (nI 0) pg pla sou fou) t) (xA 9 am sz)) 0 0 (xA 9 am sz) := by
  refine Met.ofW (cc := b_M_poke) (maxL := 4) (ret := none) (by decide) rfl ?_
  intro P e s m args below meth c0 s₁ B hml hv
  obtain ⟨rfl, hsz, hP, hK, hD0⟩ := hv
  have hx := B.exec
  have hb := B.bytes
  have hr := B.returns
  have hts := atoms_spec (ws := w_M_poke) B.pre
  have hown : s.vm.findClass R_M = some m.cls := findClass_of_methodNamed B.named
  have hlocks := B.notSynchronized
  subst hsz
  have hD := mw_D (sz := s.heap.size) hD0
  have hS : va_S (xA 9 am s.heap.size) s.heap s.heap [] := va_S.rf
  have hA : ∀ q : Nat, s.heap.size ≤ q → (xA 9 am s.heap.size) q := fun q h => Or.inr h
  have hl := lv_entry ([.ref (am 0), .int (nI j), .int (nI k), .int mask]) (n := 4) (Nat.le_of_ble_eq_true rfl)
  rw [lg_entry_eq]
  generalize (lg_sl ([.ref (am 0), .int (nI j), .int (nI k), .int mask]) ++ List.replicate (4 - (lg_sl ([.ref (am 0), .int (nI j), .int (nI k), .int mask])).length) Slot.unset).toArray = ls at hl ⊢
  have hl : lv_has ls 4 [(0, .ref (am 0)), (1, .int (nI j)), (2, .int (nI k)), (3, .int mask)] := hl
  refine lv_aload_n hx hb d_M_poke_0 rfl (lv_at hl 0 rfl) ?_
  refine lv_iconst (v := nI 1) hx hb d_M_poke_1 (by decide) ?_
  refine lv_iload_n hx hb d_M_poke_2 rfl (lv_at hl 1 rfl) ?_
  refine lv_iconst (v := nI 0) hx hb d_M_poke_3 (by decide) ?_
  refine lv_bipush (v := nI 31) hx hb d_M_poke_4 (by decide) ?_
  refine vp_callSi (va_runS (As := [.int (nI j), .int (nI 0), .int (nI 31)]) (rest := [.int (nI 1), .ref (am 0)]) ⟨hx, hb, hml, hown, hts⟩ (c_M_isIn l dC dI (nI j) (nI 0) (nI 31) ) (cwS 3 hts (g_S t_781 t_782 t_6 t_783) rfl rfl rfl (by decide +kernel) ⟨by decide, by decide⟩) (xR_s (va_P.sub hP [] rfl) (hK.sub [] rfl)) rfl rfl hl.1 rfl (lv_room (Nat.le_of_ble_eq_true rfl)) d_M_poke_6 ⟨Nat.le_refl _, Nat.le_refl _⟩).run (fun r6 q6 => ?_)
  obtain ⟨rfl, -⟩ := q6.resolve_right (fun z => z.2 (⟨(nI_leI (by decide) (by omega)).mpr (Nat.zero_le _), (nI_leI (by omega) (by decide)).mpr (by omega)⟩))
  refine lv_if_eq (tgt := 22) hx hb d_M_poke_9 (by decide) (fun c9 => ?_) (fun c9 => ?_)
  ·
    exact absurd c9 (by decide)
  ·
    refine lv_iload_n hx hb d_M_poke_12 rfl (lv_at hl 2 rfl) ?_
    refine lv_iconst (v := nI 0) hx hb d_M_poke_13 (by decide) ?_
    refine lv_bipush (v := nI 15) hx hb d_M_poke_14 (by decide) ?_
    refine vp_callSi (va_runS (As := [.int (nI k), .int (nI 0), .int (nI 15)]) (rest := [.int (nI 1), .ref (am 0)]) ⟨hx, hb, hml, hown, hts⟩ (c_M_isIn l dC dI (nI k) (nI 0) (nI 15) ) (cwS 3 hts (g_S t_781 t_782 t_6 t_783) rfl rfl rfl (by decide +kernel) ⟨by decide, by decide⟩) (xR_s (va_P.sub hP [] rfl) (hK.sub [] rfl)) rfl rfl hl.1 rfl (lv_room (Nat.le_of_ble_eq_true rfl)) d_M_poke_16 ⟨Nat.le_refl _, Nat.le_refl _⟩).run (fun r16 q16 => ?_)
    obtain ⟨rfl, -⟩ := q16.resolve_right (fun z => z.2 (⟨(nI_leI (by decide) (by omega)).mpr (Nat.zero_le _), (nI_leI (by omega) (by decide)).mpr (by omega)⟩))
    refine lv_if_ne (tgt := 26) hx hb d_M_poke_19 (by decide) (fun c19 => ?_) (fun c19 => ?_)
    ·
      refine lv_iconst (v := nI 0) hx hb d_M_poke_26 (by decide) ?_
      have hSz := hS.1
      refine va_calli (va_runV (C := R_M) (As := [.int (nI 1), .int (nI 0)]) (rest := []) ⟨hx, hb, hml, hown, hts⟩ (c_M_fails_0 l dC dI am cm s.heap.size th mw mwr mfl mact (nI 1) (-1) (nI 0) mlog mlive had (nI 0) (-1) (nI 0) (nI 0) (nI 0) pg pla sou fou (nI 1) ) (cwV 2 hts (g_V t_784 t_786 s_22 t_6 t_787) rfl rfl rfl (by decide +kernel) ⟨by decide, by decide⟩) (xP_v hP hK hD 0 rfl rfl) rfl rfl hl.1 rfl (lv_room (Nat.le_of_ble_eq_true rfl)) d_M_poke_27 ⟨Nat.le_refl _, Nat.le_refl _⟩) hS (fun q _ h => xA_up hS.1 q h) (fun q h => xA_up hS.1 q h) (fun r27 u27 t H1 locs1 ht hvm q27 hB hz1 hk1 hS => ?_)
      obtain ⟨hP1, hK1, hD1⟩ := hB
      rw [ht] at hP1
      have hD : va_D (xA 9 am s.heap.size) (mw_ am cm (nI 0) mw mwr mfl mact (nI 1) (-1) (nI 0) mlog mlive had (nI 0) (-1) (nI 0) (nI 0) (nI 0) pg pla sou fou) := hD1.weaken (fun _ q _ h => xA_up hSz _ h)
      have hP : va_P (dC, dI) vwCl (mw_ am cm (nI 0) mw mwr mfl mact (nI 1) (-1) (nI 0) mlog mlive had (nI 0) (-1) (nI 0) (nI 0) (nI 0) pg pla sou fou) H1 := hP1
      generalize H1 = H at hP hS ⊢
      generalize locs1 = locs at hS ⊢
      subst q27
      refine lv_if_ne (tgt := 48) hx hb d_M_poke_30 (by decide) (fun c30 => ?_) (fun c30 => ?_)
      ·
        exact absurd c30 (by decide)
      ·
        refine lv_aload_n hx hb d_M_poke_33 rfl (lv_at hl 0 rfl) ?_
        refine va_get (D := (dC, dI)) (ci := 5) (v := .ref (am 1)) (C := R_M) (T := F_M) (N := 20) hx hb hts (fun w h => List.mem_cons_of_mem _ (in_M w h)) hown hK hP 0 rfl rfl 1 (by decide) (hts (.fieldLink R_M 7 R_M "chip" "[I") (List.mem_cons_of_mem _ t_713)) (fun _ h9 => h9) rfl d_M_poke_34 ?_
        refine lv_bipush (v := nI 16) hx hb d_M_poke_37 (by decide) ?_
        refine lv_iload_n hx hb d_M_poke_39 rfl (lv_at hl 1 rfl) ?_
        refine lv_imul hx hb d_M_poke_40 ?_
        refine tp_i (y := nI (16 * j)) (pk_mul _ _) ?_
        refine lv_iload_n hx hb d_M_poke_41 rfl (lv_at hl 2 rfl) ?_
        refine lv_iadd hx hb d_M_poke_42 ?_
        refine tp_i (y := nI ((16 * j) + k)) (nI_add _ _) ?_
        refine lv_dup2_11 hx hb d_M_poke_43 rfl rfl ?_
        refine va_iald hx hb hK hP 1 0 rfl rfl (vp_in_nI (by omega) (by decide)) d_M_poke_44 ?_
        refine tp_i (y := mw ((16 * j) + k)) (by rw [nI_clamp (by omega)]) ?_
        refine lv_iload_n hx hb d_M_poke_45 rfl (lv_at hl 3 rfl) ?_
        refine lv_ixor hx hb d_M_poke_46 ?_
        refine va_iast hx hb hK hP hD hS 1 0 rfl rfl (vp_in_nI (by omega) (by decide)) d_M_poke_47 (fun H locs hP hD hS => ?_)
        rw [nI_clamp (by omega)] at hP hD
        have hP : va_P (dC, dI) vwCl (mw_ am cm (nI 0) (upd mw ((16 * j) + k) ((mw ((16 * j) + k)) ^^^ mask)) mwr mfl mact (nI 1) (-1) (nI 0) mlog mlive had (nI 0) (-1) (nI 0) (nI 0) (nI 0) pg pla sou fou) H := hP
        have hD : va_D (xA 9 am s.heap.size) (mw_ am cm (nI 0) (upd mw ((16 * j) + k) ((mw ((16 * j) + k)) ^^^ mask)) mwr mfl mact (nI 1) (-1) (nI 0) mlog mlive had (nI 0) (-1) (nI 0) (nI 0) (nI 0) pg pla sou fou) := hD
        exact W.vret hx hb hr (fun t ht hW => ⟨⟨(), rfl, by first | rfl | trivial | omega, ⟨by rw [ht]; exact hP, va_K.moved hW.alike hK, hD⟩⟩, hS.F ht⟩) hS.2.2 d_M_poke_48
    ·
      exact absurd c19 (by decide)
set_option maxHeartbeats 4000000 in
set_option maxRecDepth 100000 in
theorem c_M_poke_bad (l : Launch) (dC : Nat → ClassId) (dI : Nat → Nat → Nat) (am cm : Nat → Nat) (sz : Nat) (th : Int32) (mw mwr mfl mact : Nat → Int32) (on cut mrec : Int32) (mlog mlive had : Nat → Int32) (mser mcur mrd mwt worn : Int32) (pg : Nat → Int32) (pla sou fou : Int32) (pa wo_ mask : Int32) (hbad : ¬ ((nI 0 ≤ pa ∧ pa ≤ nI 31) ∧ (nI 0 ≤ wo_ ∧ wo_ ≤ nI 15))) : Met l y_M_poke w_M_poke ({ frames := 1, cells := 0, slots := 0, locals := 22 }) (xP (dC, dI) vwCl (mt cm) (mw_ am cm th mw mwr mfl mact (nI 1) (-1) (nI 0) mlog mlive had (nI 0) (-1) (nI 0) (nI 0) (nI 0) pg pla sou fou) sz [.ref (am 0), .int pa, .int wo_, .int mask]) (va_Qv (fun (u : Unit) => True) (fun (u : Unit) (t : State) => xB (dC, dI) vwCl (mt cm) (xA 9 am sz) (mw_ am cm (nI 1) mw mwr mfl mact (nI 1) (-1) (nI 0) mlog mlive had (nI 0) (-1) (nI 0) (nI 0) (nI 0) pg pla sou fou) t) (xA 9 am sz)) 0 0 (xA 9 am sz) := by
  refine Met.ofW (cc := b_M_poke) (maxL := 4) (ret := none) (by decide) rfl ?_
  intro P e s m args below meth c0 s₁ B hml hv
  obtain ⟨rfl, hsz, hP, hK, hD0⟩ := hv
  have hx := B.exec
  have hb := B.bytes
  have hr := B.returns
  have hts := atoms_spec (ws := w_M_poke) B.pre
  have hown : s.vm.findClass R_M = some m.cls := findClass_of_methodNamed B.named
  have hlocks := B.notSynchronized
  subst hsz
  have hD := mw_D (sz := s.heap.size) hD0
  have hS : va_S (xA 9 am s.heap.size) s.heap s.heap [] := va_S.rf
  have hA : ∀ q : Nat, s.heap.size ≤ q → (xA 9 am s.heap.size) q := fun q h => Or.inr h
  have hl := lv_entry ([.ref (am 0), .int pa, .int wo_, .int mask]) (n := 4) (Nat.le_of_ble_eq_true rfl)
  rw [lg_entry_eq]
  generalize (lg_sl ([.ref (am 0), .int pa, .int wo_, .int mask]) ++ List.replicate (4 - (lg_sl ([.ref (am 0), .int pa, .int wo_, .int mask])).length) Slot.unset).toArray = ls at hl ⊢
  have hl : lv_has ls 4 [(0, .ref (am 0)), (1, .int pa), (2, .int wo_), (3, .int mask)] := hl
  refine lv_aload_n hx hb d_M_poke_0 rfl (lv_at hl 0 rfl) ?_
  refine lv_iconst (v := nI 1) hx hb d_M_poke_1 (by decide) ?_
  refine lv_iload_n hx hb d_M_poke_2 rfl (lv_at hl 1 rfl) ?_
  refine lv_iconst (v := nI 0) hx hb d_M_poke_3 (by decide) ?_
  refine lv_bipush (v := nI 31) hx hb d_M_poke_4 (by decide) ?_
  refine vp_callSi (va_runS (As := [.int pa, .int (nI 0), .int (nI 31)]) (rest := [.int (nI 1), .ref (am 0)]) ⟨hx, hb, hml, hown, hts⟩ (c_M_isIn l dC dI pa (nI 0) (nI 31) ) (cwS 3 hts (g_S t_781 t_782 t_6 t_783) rfl rfl rfl (by decide +kernel) ⟨by decide, by decide⟩) (xR_s (va_P.sub hP [] rfl) (hK.sub [] rfl)) rfl rfl hl.1 rfl (lv_room (Nat.le_of_ble_eq_true rfl)) d_M_poke_6 ⟨Nat.le_refl _, Nat.le_refl _⟩).run (fun r6 q6 => ?_)
  rcases q6 with ⟨rfl, h6⟩ | ⟨rfl, h6⟩
  ·
    refine lv_if_eq (tgt := 22) hx hb d_M_poke_9 (by decide) (fun c9 => ?_) (fun c9 => ?_)
    ·
      exact absurd c9 (by decide)
    ·
      refine lv_iload_n hx hb d_M_poke_12 rfl (lv_at hl 2 rfl) ?_
      refine lv_iconst (v := nI 0) hx hb d_M_poke_13 (by decide) ?_
      refine lv_bipush (v := nI 15) hx hb d_M_poke_14 (by decide) ?_
      refine vp_callSi (va_runS (As := [.int wo_, .int (nI 0), .int (nI 15)]) (rest := [.int (nI 1), .ref (am 0)]) ⟨hx, hb, hml, hown, hts⟩ (c_M_isIn l dC dI wo_ (nI 0) (nI 15) ) (cwS 3 hts (g_S t_781 t_782 t_6 t_783) rfl rfl rfl (by decide +kernel) ⟨by decide, by decide⟩) (xR_s (va_P.sub hP [] rfl) (hK.sub [] rfl)) rfl rfl hl.1 rfl (lv_room (Nat.le_of_ble_eq_true rfl)) d_M_poke_16 ⟨Nat.le_refl _, Nat.le_refl _⟩).run (fun r16 q16 => ?_)
      rcases q16 with ⟨rfl, h16⟩ | ⟨rfl, h16⟩
      ·
        refine lv_if_ne (tgt := 26) hx hb d_M_poke_19 (by decide) (fun c19 => ?_) (fun c19 => ?_)
        ·
          exact absurd ⟨h6, h16⟩ hbad
        ·
          exact absurd c19 (by decide)
      ·
        refine lv_if_ne (tgt := 26) hx hb d_M_poke_19 (by decide) (fun c19 => ?_) (fun c19 => ?_)
        ·
          exact absurd c19 (by decide)
        ·
          refine lv_iconst (v := nI 1) hx hb d_M_poke_22 (by decide) ?_
          refine lv_goto (tgt := 27) hx hb d_M_poke_23 (by decide) ?_
          have hSz := hS.1
          refine va_calli (va_runV (C := R_M) (As := [.int (nI 1), .int (nI 1)]) (rest := []) ⟨hx, hb, hml, hown, hts⟩ (c_M_fails_1 l dC dI am cm s.heap.size th mw mwr mfl mact (nI 1) (-1) (nI 0) mlog mlive had (nI 0) (-1) (nI 0) (nI 0) (nI 0) pg pla sou fou (nI 1) ) (cwV 2 hts (g_V t_784 t_786 s_22 t_6 t_787) rfl rfl rfl (by decide +kernel) ⟨by decide, by decide⟩) (xP_v hP hK hD 0 rfl rfl) rfl rfl hl.1 rfl (lv_room (Nat.le_of_ble_eq_true rfl)) d_M_poke_27 ⟨Nat.le_refl _, Nat.le_refl _⟩) hS (fun q _ h => xA_up hS.1 q h) (fun q h => xA_up hS.1 q h) (fun r27 u27 t H1 locs1 ht hvm q27 hB hz1 hk1 hS => ?_)
          obtain ⟨hP1, hK1, hD1⟩ := hB
          rw [ht] at hP1
          have hD : va_D (xA 9 am s.heap.size) (mw_ am cm (nI 1) mw mwr mfl mact (nI 1) (-1) (nI 0) mlog mlive had (nI 0) (-1) (nI 0) (nI 0) (nI 0) pg pla sou fou) := hD1.weaken (fun _ q _ h => xA_up hSz _ h)
          have hP : va_P (dC, dI) vwCl (mw_ am cm (nI 1) mw mwr mfl mact (nI 1) (-1) (nI 0) mlog mlive had (nI 0) (-1) (nI 0) (nI 0) (nI 0) pg pla sou fou) H1 := hP1
          generalize H1 = H at hP hS ⊢
          generalize locs1 = locs at hS ⊢
          subst q27
          refine lv_if_ne (tgt := 48) hx hb d_M_poke_30 (by decide) (fun c30 => ?_) (fun c30 => ?_)
          ·
            exact W.vret hx hb hr (fun t ht hW => ⟨⟨(), rfl, by first | rfl | trivial | omega, ⟨by rw [ht]; exact hP, va_K.moved hW.alike hK, hD⟩⟩, hS.F ht⟩) hS.2.2 d_M_poke_48
          ·
            exact absurd c30 (by decide)
  ·
    refine lv_if_eq (tgt := 22) hx hb d_M_poke_9 (by decide) (fun c9 => ?_) (fun c9 => ?_)
    ·
      refine lv_iconst (v := nI 1) hx hb d_M_poke_22 (by decide) ?_
      refine lv_goto (tgt := 27) hx hb d_M_poke_23 (by decide) ?_
      have hSz := hS.1
      refine va_calli (va_runV (C := R_M) (As := [.int (nI 1), .int (nI 1)]) (rest := []) ⟨hx, hb, hml, hown, hts⟩ (c_M_fails_1 l dC dI am cm s.heap.size th mw mwr mfl mact (nI 1) (-1) (nI 0) mlog mlive had (nI 0) (-1) (nI 0) (nI 0) (nI 0) pg pla sou fou (nI 1) ) (cwV 2 hts (g_V t_784 t_786 s_22 t_6 t_787) rfl rfl rfl (by decide +kernel) ⟨by decide, by decide⟩) (xP_v hP hK hD 0 rfl rfl) rfl rfl hl.1 rfl (lv_room (Nat.le_of_ble_eq_true rfl)) d_M_poke_27 ⟨Nat.le_refl _, Nat.le_refl _⟩) hS (fun q _ h => xA_up hS.1 q h) (fun q h => xA_up hS.1 q h) (fun r27 u27 t H1 locs1 ht hvm q27 hB hz1 hk1 hS => ?_)
      obtain ⟨hP1, hK1, hD1⟩ := hB
      rw [ht] at hP1
      have hD : va_D (xA 9 am s.heap.size) (mw_ am cm (nI 1) mw mwr mfl mact (nI 1) (-1) (nI 0) mlog mlive had (nI 0) (-1) (nI 0) (nI 0) (nI 0) pg pla sou fou) := hD1.weaken (fun _ q _ h => xA_up hSz _ h)
      have hP : va_P (dC, dI) vwCl (mw_ am cm (nI 1) mw mwr mfl mact (nI 1) (-1) (nI 0) mlog mlive had (nI 0) (-1) (nI 0) (nI 0) (nI 0) pg pla sou fou) H1 := hP1
      generalize H1 = H at hP hS ⊢
      generalize locs1 = locs at hS ⊢
      subst q27
      refine lv_if_ne (tgt := 48) hx hb d_M_poke_30 (by decide) (fun c30 => ?_) (fun c30 => ?_)
      ·
        exact W.vret hx hb hr (fun t ht hW => ⟨⟨(), rfl, by first | rfl | trivial | omega, ⟨by rw [ht]; exact hP, va_K.moved hW.alike hK, hD⟩⟩, hS.F ht⟩) hS.2.2 d_M_poke_48
      ·
        exact absurd c30 (by decide)
    ·
      exact absurd c9 (by decide)
set_option maxHeartbeats 4000000 in
set_option maxRecDepth 100000 in
theorem c_M_word_ok (l : Launch) (dC : Nat → ClassId) (dI : Nat → Nat → Nat) (am cm : Nat → Nat) (sz : Nat) (th : Int32) (mw mwr mfl mact : Nat → Int32) (on cut mrec : Int32) (mlog mlive had : Nat → Int32) (mser mcur mrd mwt worn : Int32) (pg : Nat → Int32) (pla sou fou : Int32) (j k : Nat) (hj : j < 32) (hk : k < 16) : Met l y_M_word w_M_word ({ frames := 1, cells := 0, slots := 0, locals := 22 }) (xP (dC, dI) vwCl (mt cm) (mw_ am cm th mw mwr mfl mact (nI 1) (-1) (nI 0) mlog mlive had (nI 0) (-1) (nI 0) (nI 0) (nI 0) pg pla sou fou) sz [.ref (am 0), .int (nI j), .int (nI k)]) (va_Qi (fun r (u : Unit) => r = mw (16 * j + k)) (fun (u : Unit) (t : State) => xB (dC, dI) vwCl (mt cm) (xA 9 am sz) (mw_ am cm (nI 0) mw mwr mfl mact (nI 1) (-1) (nI 0) mlog mlive had (nI 0) (-1) (nI 0) (nI 0) (nI 0) pg pla sou fou) t) (xA 9 am sz)) 0 0 (xA 9 am sz) := by
  refine Met.ofW (cc := b_M_word) (maxL := 3) (ret := (some (.int))) (by decide) rfl ?_
  intro P e s m args below meth c0 s₁ B hml hv
  obtain ⟨rfl, hsz, hP, hK, hD0⟩ := hv
  have hx := B.exec
  have hb := B.bytes
  have hr := B.returns
  have hts := atoms_spec (ws := w_M_word) B.pre
  have hown : s.vm.findClass R_M = some m.cls := findClass_of_methodNamed B.named
  have hlocks := B.notSynchronized
  subst hsz
  have hD := mw_D (sz := s.heap.size) hD0
  have hS : va_S (xA 9 am s.heap.size) s.heap s.heap [] := va_S.rf
  have hA : ∀ q : Nat, s.heap.size ≤ q → (xA 9 am s.heap.size) q := fun q h => Or.inr h
  have hl := lv_entry ([.ref (am 0), .int (nI j), .int (nI k)]) (n := 3) (Nat.le_of_ble_eq_true rfl)
  rw [lg_entry_eq]
  generalize (lg_sl ([.ref (am 0), .int (nI j), .int (nI k)]) ++ List.replicate (3 - (lg_sl ([.ref (am 0), .int (nI j), .int (nI k)])).length) Slot.unset).toArray = ls at hl ⊢
  have hl : lv_has ls 3 [(0, .ref (am 0)), (1, .int (nI j)), (2, .int (nI k))] := hl
  refine lv_aload_n hx hb d_M_word_0 rfl (lv_at hl 0 rfl) ?_
  refine lv_iconst (v := nI 1) hx hb d_M_word_1 (by decide) ?_
  refine lv_iload_n hx hb d_M_word_2 rfl (lv_at hl 1 rfl) ?_
  refine lv_iconst (v := nI 0) hx hb d_M_word_3 (by decide) ?_
  refine lv_bipush (v := nI 31) hx hb d_M_word_4 (by decide) ?_
  refine vp_callSi (va_runS (As := [.int (nI j), .int (nI 0), .int (nI 31)]) (rest := [.int (nI 1), .ref (am 0)]) ⟨hx, hb, hml, hown, hts⟩ (c_M_isIn l dC dI (nI j) (nI 0) (nI 31) ) (cwS 3 hts (g_S t_781 t_782 t_6 t_783) rfl rfl rfl (by decide +kernel) ⟨by decide, by decide⟩) (xR_s (va_P.sub hP [] rfl) (hK.sub [] rfl)) rfl rfl hl.1 rfl (lv_room (Nat.le_of_ble_eq_true rfl)) d_M_word_6 ⟨Nat.le_refl _, Nat.le_refl _⟩).run (fun r6 q6 => ?_)
  obtain ⟨rfl, -⟩ := q6.resolve_right (fun z => z.2 (⟨(nI_leI (by decide) (by omega)).mpr (Nat.zero_le _), (nI_leI (by omega) (by decide)).mpr (by omega)⟩))
  refine lv_if_eq (tgt := 22) hx hb d_M_word_9 (by decide) (fun c9 => ?_) (fun c9 => ?_)
  ·
    exact absurd c9 (by decide)
  ·
    refine lv_iload_n hx hb d_M_word_12 rfl (lv_at hl 2 rfl) ?_
    refine lv_iconst (v := nI 0) hx hb d_M_word_13 (by decide) ?_
    refine lv_bipush (v := nI 15) hx hb d_M_word_14 (by decide) ?_
    refine vp_callSi (va_runS (As := [.int (nI k), .int (nI 0), .int (nI 15)]) (rest := [.int (nI 1), .ref (am 0)]) ⟨hx, hb, hml, hown, hts⟩ (c_M_isIn l dC dI (nI k) (nI 0) (nI 15) ) (cwS 3 hts (g_S t_781 t_782 t_6 t_783) rfl rfl rfl (by decide +kernel) ⟨by decide, by decide⟩) (xR_s (va_P.sub hP [] rfl) (hK.sub [] rfl)) rfl rfl hl.1 rfl (lv_room (Nat.le_of_ble_eq_true rfl)) d_M_word_16 ⟨Nat.le_refl _, Nat.le_refl _⟩).run (fun r16 q16 => ?_)
    obtain ⟨rfl, -⟩ := q16.resolve_right (fun z => z.2 (⟨(nI_leI (by decide) (by omega)).mpr (Nat.zero_le _), (nI_leI (by omega) (by decide)).mpr (by omega)⟩))
    refine lv_if_ne (tgt := 26) hx hb d_M_word_19 (by decide) (fun c19 => ?_) (fun c19 => ?_)
    ·
      refine lv_iconst (v := nI 0) hx hb d_M_word_26 (by decide) ?_
      have hSz := hS.1
      refine va_calli (va_runV (C := R_M) (As := [.int (nI 1), .int (nI 0)]) (rest := []) ⟨hx, hb, hml, hown, hts⟩ (c_M_fails_0 l dC dI am cm s.heap.size th mw mwr mfl mact (nI 1) (-1) (nI 0) mlog mlive had (nI 0) (-1) (nI 0) (nI 0) (nI 0) pg pla sou fou (nI 1) ) (cwV 2 hts (g_V t_784 t_786 s_22 t_6 t_787) rfl rfl rfl (by decide +kernel) ⟨by decide, by decide⟩) (xP_v hP hK hD 0 rfl rfl) rfl rfl hl.1 rfl (lv_room (Nat.le_of_ble_eq_true rfl)) d_M_word_27 ⟨Nat.le_refl _, Nat.le_refl _⟩) hS (fun q _ h => xA_up hS.1 q h) (fun q h => xA_up hS.1 q h) (fun r27 u27 t H1 locs1 ht hvm q27 hB hz1 hk1 hS => ?_)
      obtain ⟨hP1, hK1, hD1⟩ := hB
      rw [ht] at hP1
      have hD : va_D (xA 9 am s.heap.size) (mw_ am cm (nI 0) mw mwr mfl mact (nI 1) (-1) (nI 0) mlog mlive had (nI 0) (-1) (nI 0) (nI 0) (nI 0) pg pla sou fou) := hD1.weaken (fun _ q _ h => xA_up hSz _ h)
      have hP : va_P (dC, dI) vwCl (mw_ am cm (nI 0) mw mwr mfl mact (nI 1) (-1) (nI 0) mlog mlive had (nI 0) (-1) (nI 0) (nI 0) (nI 0) pg pla sou fou) H1 := hP1
      generalize H1 = H at hP hS ⊢
      generalize locs1 = locs at hS ⊢
      subst q27
      refine lv_if_eq (tgt := 37) hx hb d_M_word_30 (by decide) (fun c30 => ?_) (fun c30 => ?_)
      ·
        refine lv_aload_n hx hb d_M_word_37 rfl (lv_at hl 0 rfl) ?_
        refine va_get (D := (dC, dI)) (ci := 5) (v := .ref (am 1)) (C := R_M) (T := F_M) (N := 20) hx hb hts (fun w h => List.mem_cons_of_mem _ (in_M w h)) hown hK hP 0 rfl rfl 1 (by decide) (hts (.fieldLink R_M 7 R_M "chip" "[I") (List.mem_cons_of_mem _ t_713)) (fun _ h9 => h9) rfl d_M_word_38 ?_
        refine lv_bipush (v := nI 16) hx hb d_M_word_41 (by decide) ?_
        refine lv_iload_n hx hb d_M_word_43 rfl (lv_at hl 1 rfl) ?_
        refine lv_imul hx hb d_M_word_44 ?_
        refine tp_i (y := nI (16 * j)) (pk_mul _ _) ?_
        refine lv_iload_n hx hb d_M_word_45 rfl (lv_at hl 2 rfl) ?_
        refine lv_iadd hx hb d_M_word_46 ?_
        refine tp_i (y := nI ((16 * j) + k)) (nI_add _ _) ?_
        refine va_iald hx hb hK hP 1 0 rfl rfl (vp_in_nI (by omega) (by decide)) d_M_word_47 ?_
        refine tp_i (y := mw ((16 * j) + k)) (by rw [nI_clamp (by omega)]) ?_
        exact W.iret (v := mw ((16 * j) + k)) hx hb hr (fun t ht hW => ⟨⟨mw ((16 * j) + k), (), rfl, by first | rfl | trivial | omega, ⟨by rw [ht]; exact hP, va_K.moved hW.alike hK, hD⟩⟩, hS.F ht⟩) hS.2.2 d_M_word_48
      ·
        exact absurd c30 (by decide)
    ·
      exact absurd c19 (by decide)
set_option maxHeartbeats 4000000 in
set_option maxRecDepth 100000 in
theorem c_M_word_bad (l : Launch) (dC : Nat → ClassId) (dI : Nat → Nat → Nat) (am cm : Nat → Nat) (sz : Nat) (th : Int32) (mw mwr mfl mact : Nat → Int32) (on cut mrec : Int32) (mlog mlive had : Nat → Int32) (mser mcur mrd mwt worn : Int32) (pg : Nat → Int32) (pla sou fou : Int32) (pa wo_ : Int32) (hbad : ¬ ((nI 0 ≤ pa ∧ pa ≤ nI 31) ∧ (nI 0 ≤ wo_ ∧ wo_ ≤ nI 15))) : Met l y_M_word w_M_word ({ frames := 1, cells := 0, slots := 0, locals := 22 }) (xP (dC, dI) vwCl (mt cm) (mw_ am cm th mw mwr mfl mact (nI 1) (-1) (nI 0) mlog mlive had (nI 0) (-1) (nI 0) (nI 0) (nI 0) pg pla sou fou) sz [.ref (am 0), .int pa, .int wo_]) (va_Qi (fun r (u : Unit) => r = nI 0) (fun (u : Unit) (t : State) => xB (dC, dI) vwCl (mt cm) (xA 9 am sz) (mw_ am cm (nI 1) mw mwr mfl mact (nI 1) (-1) (nI 0) mlog mlive had (nI 0) (-1) (nI 0) (nI 0) (nI 0) pg pla sou fou) t) (xA 9 am sz)) 0 0 (xA 9 am sz) := by
  refine Met.ofW (cc := b_M_word) (maxL := 3) (ret := (some (.int))) (by decide) rfl ?_
  intro P e s m args below meth c0 s₁ B hml hv
  obtain ⟨rfl, hsz, hP, hK, hD0⟩ := hv
  have hx := B.exec
  have hb := B.bytes
  have hr := B.returns
  have hts := atoms_spec (ws := w_M_word) B.pre
  have hown : s.vm.findClass R_M = some m.cls := findClass_of_methodNamed B.named
  have hlocks := B.notSynchronized
  subst hsz
  have hD := mw_D (sz := s.heap.size) hD0
  have hS : va_S (xA 9 am s.heap.size) s.heap s.heap [] := va_S.rf
  have hA : ∀ q : Nat, s.heap.size ≤ q → (xA 9 am s.heap.size) q := fun q h => Or.inr h
  have hl := lv_entry ([.ref (am 0), .int pa, .int wo_]) (n := 3) (Nat.le_of_ble_eq_true rfl)
  rw [lg_entry_eq]
  generalize (lg_sl ([.ref (am 0), .int pa, .int wo_]) ++ List.replicate (3 - (lg_sl ([.ref (am 0), .int pa, .int wo_])).length) Slot.unset).toArray = ls at hl ⊢
  have hl : lv_has ls 3 [(0, .ref (am 0)), (1, .int pa), (2, .int wo_)] := hl
  refine lv_aload_n hx hb d_M_word_0 rfl (lv_at hl 0 rfl) ?_
  refine lv_iconst (v := nI 1) hx hb d_M_word_1 (by decide) ?_
  refine lv_iload_n hx hb d_M_word_2 rfl (lv_at hl 1 rfl) ?_
  refine lv_iconst (v := nI 0) hx hb d_M_word_3 (by decide) ?_
  refine lv_bipush (v := nI 31) hx hb d_M_word_4 (by decide) ?_
  refine vp_callSi (va_runS (As := [.int pa, .int (nI 0), .int (nI 31)]) (rest := [.int (nI 1), .ref (am 0)]) ⟨hx, hb, hml, hown, hts⟩ (c_M_isIn l dC dI pa (nI 0) (nI 31) ) (cwS 3 hts (g_S t_781 t_782 t_6 t_783) rfl rfl rfl (by decide +kernel) ⟨by decide, by decide⟩) (xR_s (va_P.sub hP [] rfl) (hK.sub [] rfl)) rfl rfl hl.1 rfl (lv_room (Nat.le_of_ble_eq_true rfl)) d_M_word_6 ⟨Nat.le_refl _, Nat.le_refl _⟩).run (fun r6 q6 => ?_)
  rcases q6 with ⟨rfl, h6⟩ | ⟨rfl, h6⟩
  ·
    refine lv_if_eq (tgt := 22) hx hb d_M_word_9 (by decide) (fun c9 => ?_) (fun c9 => ?_)
    ·
      exact absurd c9 (by decide)
    ·
      refine lv_iload_n hx hb d_M_word_12 rfl (lv_at hl 2 rfl) ?_
      refine lv_iconst (v := nI 0) hx hb d_M_word_13 (by decide) ?_
      refine lv_bipush (v := nI 15) hx hb d_M_word_14 (by decide) ?_
      refine vp_callSi (va_runS (As := [.int wo_, .int (nI 0), .int (nI 15)]) (rest := [.int (nI 1), .ref (am 0)]) ⟨hx, hb, hml, hown, hts⟩ (c_M_isIn l dC dI wo_ (nI 0) (nI 15) ) (cwS 3 hts (g_S t_781 t_782 t_6 t_783) rfl rfl rfl (by decide +kernel) ⟨by decide, by decide⟩) (xR_s (va_P.sub hP [] rfl) (hK.sub [] rfl)) rfl rfl hl.1 rfl (lv_room (Nat.le_of_ble_eq_true rfl)) d_M_word_16 ⟨Nat.le_refl _, Nat.le_refl _⟩).run (fun r16 q16 => ?_)
      rcases q16 with ⟨rfl, h16⟩ | ⟨rfl, h16⟩
      ·
        refine lv_if_ne (tgt := 26) hx hb d_M_word_19 (by decide) (fun c19 => ?_) (fun c19 => ?_)
        ·
          exact absurd ⟨h6, h16⟩ hbad
        ·
          exact absurd c19 (by decide)
      ·
        refine lv_if_ne (tgt := 26) hx hb d_M_word_19 (by decide) (fun c19 => ?_) (fun c19 => ?_)
        ·
          exact absurd c19 (by decide)
        ·
          refine lv_iconst (v := nI 1) hx hb d_M_word_22 (by decide) ?_
          refine lv_goto (tgt := 27) hx hb d_M_word_23 (by decide) ?_
          have hSz := hS.1
          refine va_calli (va_runV (C := R_M) (As := [.int (nI 1), .int (nI 1)]) (rest := []) ⟨hx, hb, hml, hown, hts⟩ (c_M_fails_1 l dC dI am cm s.heap.size th mw mwr mfl mact (nI 1) (-1) (nI 0) mlog mlive had (nI 0) (-1) (nI 0) (nI 0) (nI 0) pg pla sou fou (nI 1) ) (cwV 2 hts (g_V t_784 t_786 s_22 t_6 t_787) rfl rfl rfl (by decide +kernel) ⟨by decide, by decide⟩) (xP_v hP hK hD 0 rfl rfl) rfl rfl hl.1 rfl (lv_room (Nat.le_of_ble_eq_true rfl)) d_M_word_27 ⟨Nat.le_refl _, Nat.le_refl _⟩) hS (fun q _ h => xA_up hS.1 q h) (fun q h => xA_up hS.1 q h) (fun r27 u27 t H1 locs1 ht hvm q27 hB hz1 hk1 hS => ?_)
          obtain ⟨hP1, hK1, hD1⟩ := hB
          rw [ht] at hP1
          have hD : va_D (xA 9 am s.heap.size) (mw_ am cm (nI 1) mw mwr mfl mact (nI 1) (-1) (nI 0) mlog mlive had (nI 0) (-1) (nI 0) (nI 0) (nI 0) pg pla sou fou) := hD1.weaken (fun _ q _ h => xA_up hSz _ h)
          have hP : va_P (dC, dI) vwCl (mw_ am cm (nI 1) mw mwr mfl mact (nI 1) (-1) (nI 0) mlog mlive had (nI 0) (-1) (nI 0) (nI 0) (nI 0) pg pla sou fou) H1 := hP1
          generalize H1 = H at hP hS ⊢
          generalize locs1 = locs at hS ⊢
          subst q27
          refine lv_if_eq (tgt := 37) hx hb d_M_word_30 (by decide) (fun c30 => ?_) (fun c30 => ?_)
          ·
            exact absurd c30 (by decide)
          ·
            refine lv_iconst (v := nI 0) hx hb d_M_word_33 (by decide) ?_
            refine lv_goto (tgt := 48) hx hb d_M_word_34 (by decide) ?_
            exact W.iret (v := nI 0) hx hb hr (fun t ht hW => ⟨⟨nI 0, (), rfl, by first | rfl | trivial | omega, ⟨by rw [ht]; exact hP, va_K.moved hW.alike hK, hD⟩⟩, hS.F ht⟩) hS.2.2 d_M_word_48
  ·
    refine lv_if_eq (tgt := 22) hx hb d_M_word_9 (by decide) (fun c9 => ?_) (fun c9 => ?_)
    ·
      refine lv_iconst (v := nI 1) hx hb d_M_word_22 (by decide) ?_
      refine lv_goto (tgt := 27) hx hb d_M_word_23 (by decide) ?_
      have hSz := hS.1
      refine va_calli (va_runV (C := R_M) (As := [.int (nI 1), .int (nI 1)]) (rest := []) ⟨hx, hb, hml, hown, hts⟩ (c_M_fails_1 l dC dI am cm s.heap.size th mw mwr mfl mact (nI 1) (-1) (nI 0) mlog mlive had (nI 0) (-1) (nI 0) (nI 0) (nI 0) pg pla sou fou (nI 1) ) (cwV 2 hts (g_V t_784 t_786 s_22 t_6 t_787) rfl rfl rfl (by decide +kernel) ⟨by decide, by decide⟩) (xP_v hP hK hD 0 rfl rfl) rfl rfl hl.1 rfl (lv_room (Nat.le_of_ble_eq_true rfl)) d_M_word_27 ⟨Nat.le_refl _, Nat.le_refl _⟩) hS (fun q _ h => xA_up hS.1 q h) (fun q h => xA_up hS.1 q h) (fun r27 u27 t H1 locs1 ht hvm q27 hB hz1 hk1 hS => ?_)
      obtain ⟨hP1, hK1, hD1⟩ := hB
      rw [ht] at hP1
      have hD : va_D (xA 9 am s.heap.size) (mw_ am cm (nI 1) mw mwr mfl mact (nI 1) (-1) (nI 0) mlog mlive had (nI 0) (-1) (nI 0) (nI 0) (nI 0) pg pla sou fou) := hD1.weaken (fun _ q _ h => xA_up hSz _ h)
      have hP : va_P (dC, dI) vwCl (mw_ am cm (nI 1) mw mwr mfl mact (nI 1) (-1) (nI 0) mlog mlive had (nI 0) (-1) (nI 0) (nI 0) (nI 0) pg pla sou fou) H1 := hP1
      generalize H1 = H at hP hS ⊢
      generalize locs1 = locs at hS ⊢
      subst q27
      refine lv_if_eq (tgt := 37) hx hb d_M_word_30 (by decide) (fun c30 => ?_) (fun c30 => ?_)
      ·
        exact absurd c30 (by decide)
      ·
        refine lv_iconst (v := nI 0) hx hb d_M_word_33 (by decide) ?_
        refine lv_goto (tgt := 48) hx hb d_M_word_34 (by decide) ?_
        exact W.iret (v := nI 0) hx hb hr (fun t ht hW => ⟨⟨nI 0, (), rfl, by first | rfl | trivial | omega, ⟨by rw [ht]; exact hP, va_K.moved hW.alike hK, hD⟩⟩, hS.F ht⟩) hS.2.2 d_M_word_48
    ·
      exact absurd c9 (by decide)
set_option maxHeartbeats 4000000 in
set_option maxRecDepth 100000 in
theorem c_M_state_f (l : Launch) (dC : Nat → ClassId) (dI : Nat → Nat → Nat) (am cm : Nat → Nat) (sz : Nat) (th : Int32) (mw mwr mfl mact : Nat → Int32) (on cut mrec : Int32) (mlog mlive had : Nat → Int32) (mser mcur mrd mwt worn : Int32) (pg : Nat → Int32) (pla sou fou : Int32) (what : Int32) (hmw : ∀ i, i < 512 → mw i = -1) (hmv : ∀ i, i < 16 → mlive i = -1) (hmf : ∀ i, i < 8 → mfl i = 0) : Met l y_M_state w_M_state ({ frames := 2, cells := 0, slots := 0, locals := 45 }) (xP (dC, dI) vwCl (mt cm) (mw_ am cm th mw mwr mfl mact (nI 1) (-1) (nI 0) mlog mlive had (nI 0) (-1) (nI 0) (nI 0) (nI 0) pg pla sou fou) sz [.ref (am 0), .int what]) (va_Qi (fun r (u : Unit) => r = stv what) (fun (u : Unit) (t : State) => xB (dC, dI) vwCl (mt cm) (xA 9 am sz) (mw_ am cm (nI 0) mw mwr mfl mact (nI 1) (-1) (nI 0) mlog mlive had (nI 0) (-1) (nI 0) (nI 0) (nI 0) pg pla sou fou) t) (xA 9 am sz)) 0 0 (xA 9 am sz) := by
  refine Met.ofW (cc := b_M_state) (maxL := 2) (ret := (some (.int))) (by decide) rfl ?_
  intro P e s m args below meth c0 s₁ B hml hv
  obtain ⟨rfl, hsz, hP, hK, hD0⟩ := hv
  have hx := B.exec
  have hb := B.bytes
  have hr := B.returns
  have hts := atoms_spec (ws := w_M_state) B.pre
  have hown : s.vm.findClass R_M = some m.cls := findClass_of_methodNamed B.named
  have hlocks := B.notSynchronized
  subst hsz
  have hD := mw_D (sz := s.heap.size) hD0
  have hS : va_S (xA 9 am s.heap.size) s.heap s.heap [] := va_S.rf
  have hA : ∀ q : Nat, s.heap.size ≤ q → (xA 9 am s.heap.size) q := fun q h => Or.inr h
  have hl := lv_entry ([.ref (am 0), .int what]) (n := 2) (Nat.le_of_ble_eq_true rfl)
  rw [lg_entry_eq]
  generalize (lg_sl ([.ref (am 0), .int what]) ++ List.replicate (2 - (lg_sl ([.ref (am 0), .int what])).length) Slot.unset).toArray = ls at hl ⊢
  have hl : lv_has ls 2 [(0, .ref (am 0)), (1, .int what)] := hl
  refine lv_aload_n hx hb d_M_state_0 rfl (lv_at hl 0 rfl) ?_
  refine lv_iconst (v := nI 0) hx hb d_M_state_1 (by decide) ?_
  refine va_put (D := (dC, dI)) (ci := 5) (v := .int (nI 0)) (ty := .int) (C := R_M) (T := F_M) (N := 20) hx hb hts (fun w h => List.mem_cons_of_mem _ (in_M w h)) t_M ok_M nm_M hown hK hP hD hS 0 rfl rfl 0 (by decide) (hts (.fieldLink R_M 49 R_M "thrown" "I") (List.mem_cons_of_mem _ t_712)) (fun _ h9 => h9) rfl (by decide +kernel) rfl rfl (Nat.le_of_ble_eq_true rfl) d_M_state_2 (fun H locs hP hD hS => ?_)
  have hP : va_P (dC, dI) vwCl (mw_ am cm (nI 0) mw mwr mfl mact (nI 1) (-1) (nI 0) mlog mlive had (nI 0) (-1) (nI 0) (nI 0) (nI 0) pg pla sou fou) H := hP
  have hD : va_D (xA 9 am s.heap.size) (mw_ am cm (nI 0) mw mwr mfl mact (nI 1) (-1) (nI 0) mlog mlive had (nI 0) (-1) (nI 0) (nI 0) (nI 0) pg pla sou fou) := hD
  refine lv_iload_n hx hb d_M_state_5 rfl (lv_at hl 1 rfl) ?_
  refine lv_topi (fun sx esx => ?_)
  rcases sw_in sx 8 with hsw | ⟨j, hj, ej⟩
  ·
    refine lv_tableOut (tgt := 109) hx hb d_M_state_6 hsw (by decide) ?_
    refine lv_iconst (v := (-1)) hx hb d_M_state_109 (by decide) ?_
    exact W.iret (v := (-1)) hx hb hr (fun t ht hW => ⟨⟨(-1), (), rfl, by rw [← esx]; exact (stv_out hsw).symm, ⟨by rw [ht]; exact hP, va_K.moved hW.alike hK, hD⟩⟩, hS.F ht⟩) hS.2.2 d_M_state_110
  ·
    rcases (show j = 0 ∨ j = 1 ∨ j = 2 ∨ j = 3 ∨ j = 4 ∨ j = 5 ∨ j = 6 ∨ j = 7 ∨ j = 8 by omega) with rfl | rfl | rfl | rfl | rfl | rfl | rfl | rfl | rfl
    ·
      subst ej
      refine lv_tableIn (off := 50) (tgt := 56) hx hb d_M_state_6 (by decide) (by decide) rfl (by decide) ?_
      refine lv_aload_n hx hb d_M_state_56 rfl (lv_at hl 0 rfl) ?_
      refine va_get (D := (dC, dI)) (ci := 5) (v := .int (nI 0)) (C := R_M) (T := F_M) (N := 20) hx hb hts (fun w h => List.mem_cons_of_mem _ (in_M w h)) hown hK hP 0 rfl rfl 7 (by decide) (hts (.fieldLink R_M 52 R_M "records" "I") (List.mem_cons_of_mem _ t_719)) (fun _ h9 => h9) rfl d_M_state_57 ?_
      exact W.iret (v := nI 0) hx hb hr (fun t ht hW => ⟨⟨nI 0, (), rfl, by rw [← esx]; decide, ⟨by rw [ht]; exact hP, va_K.moved hW.alike hK, hD⟩⟩, hS.F ht⟩) hS.2.2 d_M_state_60
    ·
      subst ej
      refine lv_tableIn (off := 55) (tgt := 61) hx hb d_M_state_6 (by decide) (by decide) rfl (by decide) ?_
      refine lv_aload_n hx hb d_M_state_61 rfl (lv_at hl 0 rfl) ?_
      refine vp_callSi (va_runV (C := R_M) (As := []) (rest := []) ⟨hx, hb, hml, hown, hts⟩ (c_M_durable_f l dC dI am cm (nI 0) mw mwr mfl mact (nI 1) (-1) (nI 0) mlog mlive had (nI 0) (-1) (nI 0) (nI 0) (nI 0) pg pla sou fou  (hmv)) (cwV 0 hts (g_V t_894 t_896 s_44 t_6 t_897) rfl rfl rfl (by decide +kernel) ⟨by decide, by decide⟩) (xR_v hP hK 0 rfl rfl) rfl rfl hl.1 rfl (lv_room (Nat.le_of_ble_eq_true rfl)) d_M_state_62 ⟨Nat.le_refl _, Nat.le_refl _⟩).run (fun r62 q62 => ?_)
      subst q62
      exact W.iret (v := nI 0) hx hb hr (fun t ht hW => ⟨⟨nI 0, (), rfl, by rw [← esx]; decide, ⟨by rw [ht]; exact hP, va_K.moved hW.alike hK, hD⟩⟩, hS.F ht⟩) hS.2.2 d_M_state_65
    ·
      subst ej
      refine lv_tableIn (off := 60) (tgt := 66) hx hb d_M_state_6 (by decide) (by decide) rfl (by decide) ?_
      refine lv_aload_n hx hb d_M_state_66 rfl (lv_at hl 0 rfl) ?_
      refine vp_callSi (va_runV (C := R_M) (As := []) (rest := []) ⟨hx, hb, hml, hown, hts⟩ (c_M_tickets_f l dC dI am cm (nI 0) mw mwr mfl mact (nI 1) (-1) (nI 0) mlog mlive had (nI 0) (-1) (nI 0) (nI 0) (nI 0) pg pla sou fou  ) (cwV 0 hts (g_V t_865 t_867 s_39 t_6 t_868) rfl rfl rfl (by decide +kernel) ⟨by decide, by decide⟩) (xR_v hP hK 0 rfl rfl) rfl rfl hl.1 rfl (lv_room (Nat.le_of_ble_eq_true rfl)) d_M_state_67 ⟨Nat.le_refl _, Nat.le_refl _⟩).run (fun r67 q67 => ?_)
      subst q67
      exact W.iret (v := nI 0) hx hb hr (fun t ht hW => ⟨⟨nI 0, (), rfl, by rw [← esx]; decide, ⟨by rw [ht]; exact hP, va_K.moved hW.alike hK, hD⟩⟩, hS.F ht⟩) hS.2.2 d_M_state_70
    ·
      subst ej
      refine lv_tableIn (off := 65) (tgt := 71) hx hb d_M_state_6 (by decide) (by decide) rfl (by decide) ?_
      refine lv_aload_n hx hb d_M_state_71 rfl (lv_at hl 0 rfl) ?_
      refine vp_callSi (va_runV (C := R_M) (As := []) (rest := []) ⟨hx, hb, hml, hown, hts⟩ (c_M_liveCount_f l dC dI am cm (nI 0) mw mwr mfl mact (nI 1) (-1) (nI 0) mlog mlive had (nI 0) (-1) (nI 0) (nI 0) (nI 0) pg pla sou fou  (hmv)) (cwV 0 hts (g_V t_990 t_992 s_52 t_6 t_993) rfl rfl rfl (by decide +kernel) ⟨by decide, by decide⟩) (xR_v hP hK 0 rfl rfl) rfl rfl hl.1 rfl (lv_room (Nat.le_of_ble_eq_true rfl)) d_M_state_72 ⟨Nat.le_refl _, Nat.le_refl _⟩).run (fun r72 q72 => ?_)
      subst q72
      exact W.iret (v := nI 0) hx hb hr (fun t ht hW => ⟨⟨nI 0, (), rfl, by rw [← esx]; decide, ⟨by rw [ht]; exact hP, va_K.moved hW.alike hK, hD⟩⟩, hS.F ht⟩) hS.2.2 d_M_state_75
    ·
      subst ej
      refine lv_tableIn (off := 70) (tgt := 76) hx hb d_M_state_6 (by decide) (by decide) rfl (by decide) ?_
      refine lv_aload_n hx hb d_M_state_76 rfl (lv_at hl 0 rfl) ?_
      refine va_get (D := (dC, dI)) (ci := 5) (v := .int (nI 0)) (C := R_M) (T := F_M) (N := 20) hx hb hts (fun w h => List.mem_cons_of_mem _ (in_M w h)) hown hK hP 0 rfl rfl 13 (by decide) (hts (.fieldLink R_M 58 R_M "readings" "I") (List.mem_cons_of_mem _ t_725)) (fun _ h9 => h9) rfl d_M_state_77 ?_
      exact W.iret (v := nI 0) hx hb hr (fun t ht hW => ⟨⟨nI 0, (), rfl, by rw [← esx]; decide, ⟨by rw [ht]; exact hP, va_K.moved hW.alike hK, hD⟩⟩, hS.F ht⟩) hS.2.2 d_M_state_80
    ·
      subst ej
      refine lv_tableIn (off := 75) (tgt := 81) hx hb d_M_state_6 (by decide) (by decide) rfl (by decide) ?_
      refine lv_aload_n hx hb d_M_state_81 rfl (lv_at hl 0 rfl) ?_
      refine va_get (D := (dC, dI)) (ci := 5) (v := .int (nI 0)) (C := R_M) (T := F_M) (N := 20) hx hb hts (fun w h => List.mem_cons_of_mem _ (in_M w h)) hown hK hP 0 rfl rfl 11 (by decide) (hts (.fieldLink R_M 55 R_M "serial" "I") (List.mem_cons_of_mem _ t_723)) (fun _ h9 => h9) rfl d_M_state_82 ?_
      exact W.iret (v := nI 0) hx hb hr (fun t ht hW => ⟨⟨nI 0, (), rfl, by rw [← esx]; decide, ⟨by rw [ht]; exact hP, va_K.moved hW.alike hK, hD⟩⟩, hS.F ht⟩) hS.2.2 d_M_state_85
    ·
      subst ej
      refine lv_tableIn (off := 80) (tgt := 86) hx hb d_M_state_6 (by decide) (by decide) rfl (by decide) ?_
      refine lv_aload_n hx hb d_M_state_86 rfl (lv_at hl 0 rfl) ?_
      refine va_get (D := (dC, dI)) (ci := 5) (v := .int (-1)) (C := R_M) (T := F_M) (N := 20) hx hb hts (fun w h => List.mem_cons_of_mem _ (in_M w h)) hown hK hP 0 rfl rfl 12 (by decide) (hts (.fieldLink R_M 40 R_M "cursor" "I") (List.mem_cons_of_mem _ t_724)) (fun _ h9 => h9) rfl d_M_state_87 ?_
      exact W.iret (v := (-1)) hx hb hr (fun t ht hW => ⟨⟨(-1), (), rfl, by rw [← esx]; decide, ⟨by rw [ht]; exact hP, va_K.moved hW.alike hK, hD⟩⟩, hS.F ht⟩) hS.2.2 d_M_state_90
    ·
      subst ej
      refine lv_tableIn (off := 85) (tgt := 91) hx hb d_M_state_6 (by decide) (by decide) rfl (by decide) ?_
      refine lv_aload_n hx hb d_M_state_91 rfl (lv_at hl 0 rfl) ?_
      refine vp_callSi (va_runV (C := R_M) (As := []) (rest := []) ⟨hx, hb, hml, hown, hts⟩ (c_M_freePages_f l dC dI am cm (nI 0) mw mwr mfl mact (nI 1) (-1) (nI 0) mlog mlive had (nI 0) (-1) (nI 0) (nI 0) (nI 0) pg pla sou fou  (hmw) (hmf)) (cwV 0 hts (g_V t_994 t_996 s_53 t_6 t_997) rfl rfl rfl (by decide +kernel) ⟨by decide, by decide⟩) (xR_v hP hK 0 rfl rfl) rfl rfl hl.1 rfl (lv_room (Nat.le_of_ble_eq_true rfl)) d_M_state_92 ⟨Nat.le_refl _, Nat.le_refl _⟩).run (fun r92 q92 => ?_)
      subst q92
      exact W.iret (v := nI 32) hx hb hr (fun t ht hW => ⟨⟨nI 32, (), rfl, by rw [← esx]; decide, ⟨by rw [ht]; exact hP, va_K.moved hW.alike hK, hD⟩⟩, hS.F ht⟩) hS.2.2 d_M_state_95
    ·
      subst ej
      refine lv_tableIn (off := 90) (tgt := 96) hx hb d_M_state_6 (by decide) (by decide) rfl (by decide) ?_
      refine lv_aload_n hx hb d_M_state_96 rfl (lv_at hl 0 rfl) ?_
      refine va_get (D := (dC, dI)) (ci := 5) (v := .int (nI 1)) (C := R_M) (T := F_M) (N := 20) hx hb hts (fun w h => List.mem_cons_of_mem _ (in_M w h)) hown hK hP 0 rfl rfl 5 (by decide) (hts (.fieldLink R_M 23 R_M "on" "Z") (List.mem_cons_of_mem _ t_717)) (fun _ h9 => h9) rfl d_M_state_97 ?_
      refine lv_if_eq (tgt := 107) hx hb d_M_state_100 (by decide) (fun c100 => ?_) (fun c100 => ?_)
      ·
        exact absurd c100 (by decide)
      ·
        refine lv_iconst (v := nI 1) hx hb d_M_state_103 (by decide) ?_
        refine lv_goto (tgt := 108) hx hb d_M_state_104 (by decide) ?_
        exact W.iret (v := nI 1) hx hb hr (fun t ht hW => ⟨⟨nI 1, (), rfl, by rw [← esx]; decide, ⟨by rw [ht]; exact hP, va_K.moved hW.alike hK, hD⟩⟩, hS.F ht⟩) hS.2.2 d_M_state_108
