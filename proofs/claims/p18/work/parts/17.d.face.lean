set_option maxHeartbeats 4000000 in
set_option maxRecDepth 100000 in
theorem c_M_setProduct (l : Launch) (dC : Nat → ClassId) (dI : Nat → Nat → Nat) (am cm : Nat → Nat) (sz : Nat) (th : Int32) (mw mwr mfl mact : Nat → Int32) (on cut mrec : Int32) (mlog mlive had : Nat → Int32) (mser mcur mrd mwt worn : Int32) (pg : Nat → Int32) (pla sou fou : Int32) (co : Int32) (b : Int32) : Met l y_M_setProduct w_M_setProduct ({ frames := 1, cells := 0, slots := 0, locals := 22 }) (xP (dC, dI) vwCl (mt cm) (mw_ am cm th mw mwr mfl mact on cut mrec mlog mlive had mser mcur mrd mwt worn pg pla sou fou) sz [.ref (am 0), .int co, .int b]) (va_Qv (fun (u : (Nat → Nat → Int32) × (Nat → Int32) × (Nat → Nat)) => ((u.2.1 0) = nI 0 ∧ (nI 0 ≤ co ∧ co ≤ nI 39)) ∨ ((u.2.1 0) = nI 1 ∧ ¬ (nI 0 ≤ co ∧ co ≤ nI 39))) (fun (u : (Nat → Nat → Int32) × (Nat → Int32) × (Nat → Nat)) (t : State) => xB (dC, dI) vwCl (mt cm) (xA 9 am sz) (mw_ am cm (u.2.1 0) mw mwr mfl (u.1 0) on cut mrec mlog mlive had mser mcur mrd mwt worn pg pla sou fou) t) (xA 9 am sz)) 0 0 (xA 9 am sz) := by
  refine Met.ofW (cc := b_M_setProduct) (maxL := 3) (ret := none) (by decide) rfl ?_
  intro P e s m args below meth c0 s₁ B hml hv
  obtain ⟨rfl, hsz, hP, hK, hD0, hN⟩ := hv
  have hx := B.exec
  have hb := B.bytes
  have hr := B.returns
  have hts := atoms_spec (ws := w_M_setProduct) B.pre
  have hown : s.vm.findClass R_M = some m.cls := findClass_of_methodNamed B.named
  have hlocks := B.notSynchronized
  subst hsz
  have hD := mw_D (sz := s.heap.size) hD0
  have hS : va_S (xA 9 am s.heap.size) s.heap s.heap [] := va_S.rf
  have hA : ∀ q : Nat, s.heap.size ≤ q → (xA 9 am s.heap.size) q := fun q h => Or.inr h
  have hl := lv_entry ([.ref (am 0), .int co, .int b]) (n := 3) (Nat.le_of_ble_eq_true rfl)
  rw [lg_entry_eq]
  generalize (lg_sl ([.ref (am 0), .int co, .int b]) ++ List.replicate (3 - (lg_sl ([.ref (am 0), .int co, .int b])).length) Slot.unset).toArray = ls at hl ⊢
  have hl : lv_has ls 3 [(0, .ref (am 0)), (1, .int co), (2, .int b)] := hl
  refine lv_aload_n hx hb d_M_setProduct_0 rfl (lv_at hl 0 rfl) ?_
  refine lv_iconst (v := nI 1) hx hb d_M_setProduct_1 (by decide) ?_
  refine lv_iload_n hx hb d_M_setProduct_2 rfl (lv_at hl 1 rfl) ?_
  refine lv_iconst (v := nI 0) hx hb d_M_setProduct_3 (by decide) ?_
  refine lv_bipush (v := nI 39) hx hb d_M_setProduct_4 (by decide) ?_
  refine vp_callSi (va_runS (As := [.int co, .int (nI 0), .int (nI 39)]) (rest := [.int (nI 1), .ref (am 0)]) ⟨hx, hb, hml, hown, hts⟩ (c_M_isIn l dC dI co (nI 0) (nI 39) ) (cwS 3 hts (g_S t_781 t_782 t_6 t_783) rfl rfl rfl (by decide +kernel) ⟨by decide, by decide⟩) (xR_s (va_P.sub hP [] rfl) (hK.sub [] rfl) hN) rfl rfl hl.1 rfl (lv_room (Nat.le_of_ble_eq_true rfl)) d_M_setProduct_6 ⟨Nat.le_refl _, Nat.le_refl _⟩).run (fun r6 q6 => ?_)
  rcases q6 with ⟨rfl, hin6⟩ | ⟨rfl, hin6⟩
  ·
    refine lv_if_ne (tgt := 16) hx hb d_M_setProduct_9 (by decide) (fun c9 => ?_) (fun c9 => ?_)
    ·
      refine lv_iconst (v := nI 0) hx hb d_M_setProduct_16 (by decide) ?_
      have hSz := hS.1
      refine va_calli (va_runV (C := R_M) (As := [.int (nI 1), .int (nI 0)]) (rest := []) ⟨hx, hb, hml, hown, hts⟩ (c_M_fails_0 l dC dI am cm s.heap.size th mw mwr mfl mact on cut mrec mlog mlive had mser mcur mrd mwt worn pg pla sou fou (nI 1) ) (cwV 2 hts (g_V t_784 t_786 s_22 t_6 t_787) rfl rfl rfl (by decide +kernel) ⟨by decide, by decide⟩) (xP_v hP hK hD hN 0 rfl rfl) rfl rfl hl.1 rfl (lv_room (Nat.le_of_ble_eq_true rfl)) d_M_setProduct_17 ⟨Nat.le_refl _, Nat.le_refl _⟩) hS (fun q _ h => xA_up hS.1 q h) (fun q h => xA_up hS.1 q h) (fun r17 u17 t H1 locs1 ht hvm q17 hB hz1 hk1 hS => ?_)
      obtain ⟨hP1, hK1, hD1⟩ := hB
      rw [ht] at hP1
      have hD : va_D (xA 9 am s.heap.size) (mw_ am cm (nI 0) mw mwr mfl mact on cut mrec mlog mlive had mser mcur mrd mwt worn pg pla sou fou) := hD1.weaken (fun _ q _ h => xA_up hSz _ h)
      have hP : va_P (dC, dI) vwCl (mw_ am cm (nI 0) mw mwr mfl mact on cut mrec mlog mlive had mser mcur mrd mwt worn pg pla sou fou) H1 := hP1
      generalize H1 = H at hP hS ⊢
      generalize locs1 = locs at hS ⊢
      have q17 := q17.symm
      subst q17
      refine lv_if_ne (tgt := 30) hx hb d_M_setProduct_20 (by decide) (fun c20 => ?_) (fun c20 => ?_)
      ·
        exact absurd c20 (by decide)
      ·
        obtain ⟨j, hj, rfl⟩ := in_nt (n := 39) (id hin6)
        refine lv_aload_n hx hb d_M_setProduct_23 rfl (lv_at hl 0 rfl) ?_
        refine va_get (D := (dC, dI)) (ci := 5) (v := .ref (am 4)) (C := R_M) (T := F_M) (N := 20) hx hb hts (fun w h => List.mem_cons_of_mem _ (in_M w h)) hown hK hP 0 rfl rfl 4 (by decide) (hts (.fieldLink R_M 20 R_M "active" "[Z") (List.mem_cons_of_mem _ t_716)) (fun _ h9 => h9) rfl d_M_setProduct_24 ?_
        refine lv_iload_n hx hb d_M_setProduct_27 rfl (lv_at hl 1 rfl) ?_
        refine lv_iload_n hx hb d_M_setProduct_28 rfl (lv_at hl 2 rfl) ?_
        refine va_zast hx hb hK hP hD hS 4 3 rfl rfl (vp_in_nI (by omega) (by decide)) d_M_setProduct_29 (fun H locs hP hD hS => ?_)
        rw [nI_clamp (by omega)] at hP hD
        have hP : va_P (dC, dI) vwCl (mw_ am cm (nI 0) mw mwr mfl (upd mact j (vp_nar .boolean b)) on cut mrec mlog mlive had mser mcur mrd mwt worn pg pla sou fou) H := hP
        have hD : va_D (xA 9 am s.heap.size) (mw_ am cm (nI 0) mw mwr mfl (upd mact j (vp_nar .boolean b)) on cut mrec mlog mlive had mser mcur mrd mwt worn pg pla sou fou) := hD
        exact W.vret hx hb hr (fun t ht hW => ⟨⟨(fun i => [upd mact j (vp_nar .boolean b)].getD i (fun _ => 0), fun i => [nI 0].getD i 0, fun i => [].getD i 0), rfl, by first | exact Or.inl ⟨rfl, hin6⟩ | exact Or.inr ⟨rfl, hin6⟩, ⟨by rw [ht]; exact hP, va_K.moved hW.alike hK, hD⟩⟩, hS.F ht⟩) hS.2.2 d_M_setProduct_30
    ·
      exact absurd c9 (by decide)
  ·
    refine lv_if_ne (tgt := 16) hx hb d_M_setProduct_9 (by decide) (fun c9 => ?_) (fun c9 => ?_)
    ·
      exact absurd c9 (by decide)
    ·
      refine lv_iconst (v := nI 1) hx hb d_M_setProduct_12 (by decide) ?_
      refine lv_goto (tgt := 17) hx hb d_M_setProduct_13 (by decide) ?_
      have hSz := hS.1
      refine va_calli (va_runV (C := R_M) (As := [.int (nI 1), .int (nI 1)]) (rest := []) ⟨hx, hb, hml, hown, hts⟩ (c_M_fails_1 l dC dI am cm s.heap.size th mw mwr mfl mact on cut mrec mlog mlive had mser mcur mrd mwt worn pg pla sou fou (nI 1) ) (cwV 2 hts (g_V t_784 t_786 s_22 t_6 t_787) rfl rfl rfl (by decide +kernel) ⟨by decide, by decide⟩) (xP_v hP hK hD hN 0 rfl rfl) rfl rfl hl.1 rfl (lv_room (Nat.le_of_ble_eq_true rfl)) d_M_setProduct_17 ⟨Nat.le_refl _, Nat.le_refl _⟩) hS (fun q _ h => xA_up hS.1 q h) (fun q h => xA_up hS.1 q h) (fun r17 u17 t H1 locs1 ht hvm q17 hB hz1 hk1 hS => ?_)
      obtain ⟨hP1, hK1, hD1⟩ := hB
      rw [ht] at hP1
      have hD : va_D (xA 9 am s.heap.size) (mw_ am cm (nI 1) mw mwr mfl mact on cut mrec mlog mlive had mser mcur mrd mwt worn pg pla sou fou) := hD1.weaken (fun _ q _ h => xA_up hSz _ h)
      have hP : va_P (dC, dI) vwCl (mw_ am cm (nI 1) mw mwr mfl mact on cut mrec mlog mlive had mser mcur mrd mwt worn pg pla sou fou) H1 := hP1
      generalize H1 = H at hP hS ⊢
      generalize locs1 = locs at hS ⊢
      have q17 := q17.symm
      subst q17
      refine lv_if_ne (tgt := 30) hx hb d_M_setProduct_20 (by decide) (fun c20 => ?_) (fun c20 => ?_)
      ·
        exact W.vret hx hb hr (fun t ht hW => ⟨⟨(fun i => [mact].getD i (fun _ => 0), fun i => [nI 1].getD i 0, fun i => [].getD i 0), rfl, by first | exact Or.inl ⟨rfl, hin6⟩ | exact Or.inr ⟨rfl, hin6⟩, ⟨by rw [ht]; exact hP, va_K.moved hW.alike hK, hD⟩⟩, hS.F ht⟩) hS.2.2 d_M_setProduct_30
      ·
        exact absurd c20 (by decide)
set_option maxHeartbeats 4000000 in
set_option maxRecDepth 100000 in
theorem c_M_cutAfter (l : Launch) (dC : Nat → ClassId) (dI : Nat → Nat → Nat) (am cm : Nat → Nat) (sz : Nat) (th : Int32) (mw mwr mfl mact : Nat → Int32) (on cut mrec : Int32) (mlog mlive had : Nat → Int32) (mser mcur mrd mwt worn : Int32) (pg : Nat → Int32) (pla sou fou : Int32) (n : Int32) : Met l y_M_cutAfter w_M_cutAfter ({ frames := 1, cells := 0, slots := 0, locals := 22 }) (xP (dC, dI) vwCl (mt cm) (mw_ am cm th mw mwr mfl mact on cut mrec mlog mlive had mser mcur mrd mwt worn pg pla sou fou) sz [.ref (am 0), .int n]) (va_Qv (fun (u : (Nat → Nat → Int32) × (Nat → Int32) × (Nat → Nat)) => ((u.2.1 0) = nI 0 ∧ (nI 0 ≤ n ∧ n ≤ nI 300)) ∨ ((u.2.1 0) = nI 1 ∧ ¬ (nI 0 ≤ n ∧ n ≤ nI 300))) (fun (u : (Nat → Nat → Int32) × (Nat → Int32) × (Nat → Nat)) (t : State) => xB (dC, dI) vwCl (mt cm) (xA 9 am sz) (mw_ am cm (u.2.1 0) mw mwr mfl mact on (u.2.1 1) mrec mlog mlive had mser mcur mrd mwt worn pg pla sou fou) t) (xA 9 am sz)) 0 0 (xA 9 am sz) := by
  refine Met.ofW (cc := b_M_cutAfter) (maxL := 2) (ret := none) (by decide) rfl ?_
  intro P e s m args below meth c0 s₁ B hml hv
  obtain ⟨rfl, hsz, hP, hK, hD0, hN⟩ := hv
  have hx := B.exec
  have hb := B.bytes
  have hr := B.returns
  have hts := atoms_spec (ws := w_M_cutAfter) B.pre
  have hown : s.vm.findClass R_M = some m.cls := findClass_of_methodNamed B.named
  have hlocks := B.notSynchronized
  subst hsz
  have hD := mw_D (sz := s.heap.size) hD0
  have hS : va_S (xA 9 am s.heap.size) s.heap s.heap [] := va_S.rf
  have hA : ∀ q : Nat, s.heap.size ≤ q → (xA 9 am s.heap.size) q := fun q h => Or.inr h
  have hl := lv_entry ([.ref (am 0), .int n]) (n := 2) (Nat.le_of_ble_eq_true rfl)
  rw [lg_entry_eq]
  generalize (lg_sl ([.ref (am 0), .int n]) ++ List.replicate (2 - (lg_sl ([.ref (am 0), .int n])).length) Slot.unset).toArray = ls at hl ⊢
  have hl : lv_has ls 2 [(0, .ref (am 0)), (1, .int n)] := hl
  refine lv_aload_n hx hb d_M_cutAfter_0 rfl (lv_at hl 0 rfl) ?_
  refine lv_iconst (v := nI 1) hx hb d_M_cutAfter_1 (by decide) ?_
  refine lv_iload_n hx hb d_M_cutAfter_2 rfl (lv_at hl 1 rfl) ?_
  refine lv_iconst (v := nI 0) hx hb d_M_cutAfter_3 (by decide) ?_
  refine lv_sipush (v := nI 300) hx hb d_M_cutAfter_4 (by decide) ?_
  refine vp_callSi (va_runS (As := [.int n, .int (nI 0), .int (nI 300)]) (rest := [.int (nI 1), .ref (am 0)]) ⟨hx, hb, hml, hown, hts⟩ (c_M_isIn l dC dI n (nI 0) (nI 300) ) (cwS 3 hts (g_S t_781 t_782 t_6 t_783) rfl rfl rfl (by decide +kernel) ⟨by decide, by decide⟩) (xR_s (va_P.sub hP [] rfl) (hK.sub [] rfl) hN) rfl rfl hl.1 rfl (lv_room (Nat.le_of_ble_eq_true rfl)) d_M_cutAfter_7 ⟨Nat.le_refl _, Nat.le_refl _⟩).run (fun r7 q7 => ?_)
  rcases q7 with ⟨rfl, hin7⟩ | ⟨rfl, hin7⟩
  ·
    refine lv_if_ne (tgt := 17) hx hb d_M_cutAfter_10 (by decide) (fun c10 => ?_) (fun c10 => ?_)
    ·
      refine lv_iconst (v := nI 0) hx hb d_M_cutAfter_17 (by decide) ?_
      have hSz := hS.1
      refine va_calli (va_runV (C := R_M) (As := [.int (nI 1), .int (nI 0)]) (rest := []) ⟨hx, hb, hml, hown, hts⟩ (c_M_fails_0 l dC dI am cm s.heap.size th mw mwr mfl mact on cut mrec mlog mlive had mser mcur mrd mwt worn pg pla sou fou (nI 1) ) (cwV 2 hts (g_V t_784 t_786 s_22 t_6 t_787) rfl rfl rfl (by decide +kernel) ⟨by decide, by decide⟩) (xP_v hP hK hD hN 0 rfl rfl) rfl rfl hl.1 rfl (lv_room (Nat.le_of_ble_eq_true rfl)) d_M_cutAfter_18 ⟨Nat.le_refl _, Nat.le_refl _⟩) hS (fun q _ h => xA_up hS.1 q h) (fun q h => xA_up hS.1 q h) (fun r18 u18 t H1 locs1 ht hvm q18 hB hz1 hk1 hS => ?_)
      obtain ⟨hP1, hK1, hD1⟩ := hB
      rw [ht] at hP1
      have hD : va_D (xA 9 am s.heap.size) (mw_ am cm (nI 0) mw mwr mfl mact on cut mrec mlog mlive had mser mcur mrd mwt worn pg pla sou fou) := hD1.weaken (fun _ q _ h => xA_up hSz _ h)
      have hP : va_P (dC, dI) vwCl (mw_ am cm (nI 0) mw mwr mfl mact on cut mrec mlog mlive had mser mcur mrd mwt worn pg pla sou fou) H1 := hP1
      generalize H1 = H at hP hS ⊢
      generalize locs1 = locs at hS ⊢
      have q18 := q18.symm
      subst q18
      refine lv_if_ne (tgt := 29) hx hb d_M_cutAfter_21 (by decide) (fun c21 => ?_) (fun c21 => ?_)
      ·
        exact absurd c21 (by decide)
      ·
        refine lv_aload_n hx hb d_M_cutAfter_24 rfl (lv_at hl 0 rfl) ?_
        refine lv_iload_n hx hb d_M_cutAfter_25 rfl (lv_at hl 1 rfl) ?_
        refine va_put (D := (dC, dI)) (ci := 5) (v := .int n) (ty := .int) (C := R_M) (T := F_M) (N := 20) hx hb hts (fun w h => List.mem_cons_of_mem _ (in_M w h)) t_M ok_M nm_M hown hK hP hD hS 0 rfl rfl 6 (by decide) (hts (.fieldLink R_M 27 R_M "cut" "I") (List.mem_cons_of_mem _ t_718)) (fun _ h9 => h9) rfl (by decide +kernel) rfl rfl (Nat.le_of_ble_eq_true rfl) d_M_cutAfter_26 (fun H locs hP hD hS => ?_)
        have hP : va_P (dC, dI) vwCl (mw_ am cm (nI 0) mw mwr mfl mact on n mrec mlog mlive had mser mcur mrd mwt worn pg pla sou fou) H := hP
        have hD : va_D (xA 9 am s.heap.size) (mw_ am cm (nI 0) mw mwr mfl mact on n mrec mlog mlive had mser mcur mrd mwt worn pg pla sou fou) := hD
        exact W.vret hx hb hr (fun t ht hW => ⟨⟨(fun i => [].getD i (fun _ => 0), fun i => [nI 0, n].getD i 0, fun i => [].getD i 0), rfl, by first | exact Or.inl ⟨rfl, hin7⟩ | exact Or.inr ⟨rfl, hin7⟩, ⟨by rw [ht]; exact hP, va_K.moved hW.alike hK, hD⟩⟩, hS.F ht⟩) hS.2.2 d_M_cutAfter_29
    ·
      exact absurd c10 (by decide)
  ·
    refine lv_if_ne (tgt := 17) hx hb d_M_cutAfter_10 (by decide) (fun c10 => ?_) (fun c10 => ?_)
    ·
      exact absurd c10 (by decide)
    ·
      refine lv_iconst (v := nI 1) hx hb d_M_cutAfter_13 (by decide) ?_
      refine lv_goto (tgt := 18) hx hb d_M_cutAfter_14 (by decide) ?_
      have hSz := hS.1
      refine va_calli (va_runV (C := R_M) (As := [.int (nI 1), .int (nI 1)]) (rest := []) ⟨hx, hb, hml, hown, hts⟩ (c_M_fails_1 l dC dI am cm s.heap.size th mw mwr mfl mact on cut mrec mlog mlive had mser mcur mrd mwt worn pg pla sou fou (nI 1) ) (cwV 2 hts (g_V t_784 t_786 s_22 t_6 t_787) rfl rfl rfl (by decide +kernel) ⟨by decide, by decide⟩) (xP_v hP hK hD hN 0 rfl rfl) rfl rfl hl.1 rfl (lv_room (Nat.le_of_ble_eq_true rfl)) d_M_cutAfter_18 ⟨Nat.le_refl _, Nat.le_refl _⟩) hS (fun q _ h => xA_up hS.1 q h) (fun q h => xA_up hS.1 q h) (fun r18 u18 t H1 locs1 ht hvm q18 hB hz1 hk1 hS => ?_)
      obtain ⟨hP1, hK1, hD1⟩ := hB
      rw [ht] at hP1
      have hD : va_D (xA 9 am s.heap.size) (mw_ am cm (nI 1) mw mwr mfl mact on cut mrec mlog mlive had mser mcur mrd mwt worn pg pla sou fou) := hD1.weaken (fun _ q _ h => xA_up hSz _ h)
      have hP : va_P (dC, dI) vwCl (mw_ am cm (nI 1) mw mwr mfl mact on cut mrec mlog mlive had mser mcur mrd mwt worn pg pla sou fou) H1 := hP1
      generalize H1 = H at hP hS ⊢
      generalize locs1 = locs at hS ⊢
      have q18 := q18.symm
      subst q18
      refine lv_if_ne (tgt := 29) hx hb d_M_cutAfter_21 (by decide) (fun c21 => ?_) (fun c21 => ?_)
      ·
        exact W.vret hx hb hr (fun t ht hW => ⟨⟨(fun i => [].getD i (fun _ => 0), fun i => [nI 1, cut].getD i 0, fun i => [].getD i 0), rfl, by first | exact Or.inl ⟨rfl, hin7⟩ | exact Or.inr ⟨rfl, hin7⟩, ⟨by rw [ht]; exact hP, va_K.moved hW.alike hK, hD⟩⟩, hS.F ht⟩) hS.2.2 d_M_cutAfter_29
      ·
        exact absurd c21 (by decide)
set_option maxHeartbeats 4000000 in
set_option maxRecDepth 100000 in
theorem c_M_crash (l : Launch) (dC : Nat → ClassId) (dI : Nat → Nat → Nat) (am cm : Nat → Nat) (sz : Nat) (th : Int32) (mw mwr mfl mact : Nat → Int32) (on cut mrec : Int32) (mlog mlive had : Nat → Int32) (mser mcur mrd mwt worn : Int32) (pg : Nat → Int32) (pla sou fou : Int32)  : Met l y_M_crash w_M_crash ({ frames := 2, cells := 0, slots := 0, locals := 41 }) (xP (dC, dI) vwCl (mt cm) (mw_ am cm th mw mwr mfl mact on cut mrec mlog mlive had mser mcur mrd mwt worn pg pla sou fou) sz [.ref (am 0)]) (va_Qv (fun (u : (Nat → Nat → Int32) × (Nat → Int32) × (Nat → Nat)) => MI (u.2.2 0) (u.1 0) (u.2.1 1)) (fun (u : (Nat → Nat → Int32) × (Nat → Int32) × (Nat → Nat)) (t : State) => xB (dC, dI) vwCl (mt cm) (xA 9 am sz) (mw_ am cm (u.2.1 7) mw mwr mfl mact (u.2.1 6) (u.2.1 5) (nI (u.2.2 0)) mlog (u.1 0) had (u.2.1 0) (u.2.1 1) (u.2.1 2) (u.2.1 3) (u.2.1 4) pg pla sou fou) t) (xA 9 am sz)) 0 0 (xA 9 am sz) := by
  refine Met.ofW (cc := b_M_crash) (maxL := 1) (ret := none) (by decide) rfl ?_
  intro P e s m args below meth c0 s₁ B hml hv
  obtain ⟨rfl, hsz, hP, hK, hD0, hN⟩ := hv
  have hx := B.exec
  have hb := B.bytes
  have hr := B.returns
  have hts := atoms_spec (ws := w_M_crash) B.pre
  have hown : s.vm.findClass R_M = some m.cls := findClass_of_methodNamed B.named
  have hlocks := B.notSynchronized
  subst hsz
  have hD := mw_D (sz := s.heap.size) hD0
  have hS : va_S (xA 9 am s.heap.size) s.heap s.heap [] := va_S.rf
  have hA : ∀ q : Nat, s.heap.size ≤ q → (xA 9 am s.heap.size) q := fun q h => Or.inr h
  have hl := lv_entry ([.ref (am 0)]) (n := 1) (Nat.le_of_ble_eq_true rfl)
  rw [lg_entry_eq]
  generalize (lg_sl ([.ref (am 0)]) ++ List.replicate (1 - (lg_sl ([.ref (am 0)])).length) Slot.unset).toArray = ls at hl ⊢
  have hl : lv_has ls 1 [(0, .ref (am 0))] := hl
  refine lv_aload_n hx hb d_M_crash_0 rfl (lv_at hl 0 rfl) ?_
  refine lv_iconst (v := nI 0) hx hb d_M_crash_1 (by decide) ?_
  refine va_put (D := (dC, dI)) (ci := 5) (v := .int (nI 0)) (ty := .int) (C := R_M) (T := F_M) (N := 20) hx hb hts (fun w h => List.mem_cons_of_mem _ (in_M w h)) t_M ok_M nm_M hown hK hP hD hS 0 rfl rfl 0 (by decide) (hts (.fieldLink R_M 49 R_M "thrown" "I") (List.mem_cons_of_mem _ t_712)) (fun _ h9 => h9) rfl (by decide +kernel) rfl rfl (Nat.le_of_ble_eq_true rfl) d_M_crash_2 (fun H locs hP hD hS => ?_)
  have hP : va_P (dC, dI) vwCl (mw_ am cm (nI 0) mw mwr mfl mact on cut mrec mlog mlive had mser mcur mrd mwt worn pg pla sou fou) H := hP
  have hD : va_D (xA 9 am s.heap.size) (mw_ am cm (nI 0) mw mwr mfl mact on cut mrec mlog mlive had mser mcur mrd mwt worn pg pla sou fou) := hD
  refine lv_aload_n hx hb d_M_crash_5 rfl (lv_at hl 0 rfl) ?_
  have hSz := hS.1
  refine va_callv (va_runV (C := R_M) (As := []) (rest := []) ⟨hx, hb, hml, hown, hts⟩ (c_M_off l dC dI am cm H.size (nI 0) mw mwr mfl mact on cut mrec mlog mlive had mser mcur mrd mwt worn pg pla sou fou  ) (cwV 0 hts (g_V t_853 t_855 s_36 t_6 t_856) rfl rfl rfl (by decide +kernel) ⟨by decide, by decide⟩) (xP_v hP hK hD hN 0 rfl rfl) rfl rfl hl.1 rfl (lv_room (Nat.le_of_ble_eq_true rfl)) d_M_crash_6 ⟨Nat.le_refl _, Nat.le_refl _⟩) hS (fun q _ h => xA_up hS.1 q h) (fun q h => xA_up hS.1 q h) (fun u6 t H1 locs1 ht hvm q6 hB hz1 hk1 hS => ?_)
  obtain ⟨hP1, hK1, hD1⟩ := hB
  rw [ht] at hP1
  have hD : va_D (xA 9 am s.heap.size) (mw_ am cm (nI 0) mw mwr mfl mact (u6.2.1 6) (u6.2.1 5) (nI (u6.2.2 0)) mlog (u6.1 0) had (u6.2.1 0) (u6.2.1 1) (u6.2.1 2) (u6.2.1 3) (u6.2.1 4) pg pla sou fou) := hD1.weaken (fun _ q _ h => xA_up hSz _ h)
  have hP : va_P (dC, dI) vwCl (mw_ am cm (nI 0) mw mwr mfl mact (u6.2.1 6) (u6.2.1 5) (nI (u6.2.2 0)) mlog (u6.1 0) had (u6.2.1 0) (u6.2.1 1) (u6.2.1 2) (u6.2.1 3) (u6.2.1 4) pg pla sou fou) H1 := hP1
  generalize H1 = H at hP hS ⊢
  generalize locs1 = locs at hS ⊢
  obtain ⟨hr0, hl0, hc0⟩ := q6
  exact W.vret hx hb hr (fun t ht hW => ⟨⟨(fun i => [u6.1 0].getD i (fun _ => 0), fun i => [u6.2.1 0, u6.2.1 1, u6.2.1 2, u6.2.1 3, u6.2.1 4, u6.2.1 5, u6.2.1 6, nI 0].getD i 0, fun i => [u6.2.2 0].getD i 0), rfl, MI.offE hr0 hl0 hc0, ⟨by rw [ht]; exact hP, va_K.moved hW.alike hK, hD⟩⟩, hS.F ht⟩) hS.2.2 d_M_crash_9
set_option maxHeartbeats 4000000 in
set_option maxRecDepth 100000 in
theorem c_M_latest (l : Launch) (dC : Nat → ClassId) (dI : Nat → Nat → Nat) (am cm : Nat → Nat) (th : Int32) (mw mwr mfl mact : Nat → Int32) (on cut mrec : Int32) (mlog mlive had : Nat → Int32) (mser mcur mrd mwt worn : Int32) (pg : Nat → Int32) (pla sou fou : Int32) (lf : Int32) : Met l y_M_latest w_M_latest ({ frames := 3, cells := 0, slots := 0, locals := 69 }) (xR (dC, dI) vwCl (mt cm) (mw_ am cm th mw mwr mfl mact on cut mrec mlog mlive had mser mcur mrd mwt worn pg pla sou fou) [.ref (am 0), .int lf]) (vp_Si (fun r => RTP mw r)) 0 0 (fun _ => False) := by
  refine Met.ofW (cc := b_M_latest) (maxL := 4) (ret := (some (.int))) (by decide) rfl ?_
  intro P e s m args below meth c0 s₁ B hml hv
  obtain ⟨rfl, hP, hK, hN⟩ := hv
  have hx := B.exec
  have hb := B.bytes
  have hr := B.returns
  have hts := atoms_spec (ws := w_M_latest) B.pre
  have hown : s.vm.findClass R_M = some m.cls := findClass_of_methodNamed B.named
  have hlocks := B.notSynchronized
  have hl := lv_entry ([.ref (am 0), .int lf]) (n := 4) (Nat.le_of_ble_eq_true rfl)
  rw [lg_entry_eq]
  generalize (lg_sl ([.ref (am 0), .int lf]) ++ List.replicate (4 - (lg_sl ([.ref (am 0), .int lf])).length) Slot.unset).toArray = ls at hl ⊢
  have hl : lv_has ls 4 [(0, .ref (am 0)), (1, .int lf)] := hl
  refine lv_iconst (v := (-1)) hx hb d_M_latest_0 (by decide) ?_
  refine lv_istore_n hx hb d_M_latest_1 rfl hl (by decide) rfl (fun ls hl => ?_)
  have hl : lv_has ls 4 [(2, .int (-1)), (0, .ref (am 0)), (1, .int lf)] := hl
  refine lv_iconst (v := nI 0) hx hb d_M_latest_2 (by decide) ?_
  refine lv_istore_n hx hb d_M_latest_3 rfl hl (by decide) rfl (fun ls hl => ?_)
  have hl : lv_has ls 4 [(3, .int (nI 0)), (2, .int (-1)), (0, .ref (am 0)), (1, .int lf)] := hl
  have lp4 : ∀ (n : Nat) (k : Nat) (bv : Int32) (ls : Array Slot), (32 - k) < n → (k ≤ 32) → (RTP mw bv) → lv_has ls 4 [(0, .ref (am 0)), (1, .int lf), (2, .int bv), (3, .int (nI k))] → W P l e (headSpec w_M_latest ({ frames := 3, cells := 0, slots := 0, locals := 69 })).room s m (([.ref (am 0), .int lf] : List Value).toArray) below meth c0 s.heap [] 0 0 (MQ below (vp_Si (fun r => RTP mw r)) (([.ref (am 0), .int lf] : List Value).toArray) s 0 0 (fun _ => False)) (F0 m 4 ls []) := by
    intro n
    induction n with
    | zero => intro k bv ls hm; intros; omega
    | succ n ih4 =>
      intro k bv ls hm hk hbv hl
      refine lv_iload_n hx hb d_M_latest_4 rfl (lv_at hl 3 rfl) ?_
      refine lv_bipush (v := nI 32) hx hb d_M_latest_5 (by decide) ?_
      refine lv_icmp_ge (tgt := 74) hx hb d_M_latest_7 (by decide) (fun c7 => ?_) (fun c7 => ?_)
      ·
        have c7 := cd_ge_t (by omega) (by omega) c7
        refine lv_iload_n hx hb d_M_latest_74 rfl (lv_at hl 2 rfl) ?_
        exact W.iret (v := bv) hx hb hr (fun t ht hW => ⟨bv, rfl, hbv, ht⟩) (fun q hq => by cases hq) d_M_latest_75
      ·
        have c7 := cd_ge_f (by omega) (by omega) c7
        refine lv_aload_n hx hb d_M_latest_10 rfl (lv_at hl 0 rfl) ?_
        refine lv_iload_n hx hb d_M_latest_11 rfl (lv_at hl 3 rfl) ?_
        refine vp_callSi (va_runV (C := R_M) (As := [.int (nI k)]) (rest := []) ⟨hx, hb, hml, hown, hts⟩ (c_M_isRight l dC dI am cm th mw mwr mfl mact on cut mrec mlog mlive had mser mcur mrd mwt worn pg pla sou fou k (by first | omega | rfl | assumption | decide)) (cwV 1 hts (g_V t_927 t_929 s_47 t_6 t_930) rfl rfl rfl (by decide +kernel) ⟨by decide, by decide⟩) (xR_v hP hK hN 0 rfl rfl) rfl rfl hl.1 rfl (lv_room (Nat.le_of_ble_eq_true rfl)) d_M_latest_12 ⟨Nat.le_refl _, Nat.le_refl _⟩).run (fun r12 q12 => ?_)
        rcases q12 with ⟨rfl, hrt12⟩ | rfl
        ·
          refine lv_if_eq (tgt := 68) hx hb d_M_latest_15 (by decide) (fun c15 => ?_) (fun c15 => ?_)
          ·
            exact absurd c15 (by decide)
          ·
            refine lv_iload_n hx hb d_M_latest_18 rfl (lv_at hl 1 rfl) ?_
            refine lv_if_lt (tgt := 37) hx hb d_M_latest_19 (by decide) (fun c19 => ?_) (fun c19 => ?_)
            ·
              rcases hbv with rfl | ⟨d1, hd1, rfl, hdr⟩
              ·
                refine lv_iload_n hx hb d_M_latest_37 rfl (lv_at hl 2 rfl) ?_
                refine lv_if_lt (tgt := 66) hx hb d_M_latest_38 (by decide) (fun c38 => ?_) (fun c38 => ?_)
                ·
                  refine lv_iload_n hx hb d_M_latest_66 rfl (lv_at hl 3 rfl) ?_
                  refine lv_istore_n hx hb d_M_latest_67 rfl hl (by decide) rfl (fun ls hl => ?_)
                  have hl : lv_has ls 4 [(2, .int (nI k)), (0, .ref (am 0)), (1, .int lf), (3, .int (nI k))] := hl
                  refine lv_iinc (k := 3) (v := nI (k + 1)) hx hb d_M_latest_68 hl rfl (nI_1 _) (by decide) rfl (fun ls hl => ?_)
                  have hl : lv_has ls 4 [(3, .int (nI (k + 1))), (2, .int (nI k)), (0, .ref (am 0)), (1, .int lf)] := hl
                  refine lv_goto (tgt := 4) hx hb d_M_latest_71 (by decide) ?_
                  exact ih4 (k + 1) (nI k) ls (by omega) (by omega) (Or.inr ⟨k, by omega, rfl, hrt12⟩) (lv_sub hl [2, 3, 1, 0] rfl)
                ·
                  exact absurd c38 (by decide)
              ·
                refine lv_iload_n hx hb d_M_latest_37 rfl (lv_at hl 2 rfl) ?_
                refine lv_if_lt (tgt := 66) hx hb d_M_latest_38 (by decide) (fun c38 => ?_) (fun c38 => ?_)
                ·
                  exact (cz_lt_t (by omega) c38).elim
                ·
                  have c38 := cz_lt_f (by omega) c38
                  refine lv_aload_n hx hb d_M_latest_41 rfl (lv_at hl 0 rfl) ?_
                  refine va_get (D := (dC, dI)) (ci := 5) (v := .ref (am 1)) (C := R_M) (T := F_M) (N := 20) hx hb hts (fun w h => List.mem_cons_of_mem _ (in_M w h)) hown hK hP 0 rfl rfl 1 (by decide) (hts (.fieldLink R_M 7 R_M "chip" "[I") (List.mem_cons_of_mem _ t_713)) (fun _ h9 => h9) rfl d_M_latest_42 ?_
                  refine lv_bipush (v := nI 16) hx hb d_M_latest_45 (by decide) ?_
                  refine lv_iload_n hx hb d_M_latest_47 rfl (lv_at hl 3 rfl) ?_
                  refine lv_imul hx hb d_M_latest_48 ?_
                  refine tp_i (y := nI (16 * k)) (pk_mul _ _) ?_
                  refine lv_iconst (v := nI 1) hx hb d_M_latest_49 (by decide) ?_
                  refine lv_iadd hx hb d_M_latest_50 ?_
                  refine tp_i (y := nI ((16 * k) + 1)) (nI_add _ _) ?_
                  refine va_iald hx hb hK hP 1 0 rfl rfl (vp_in_nI (by omega) (by decide)) d_M_latest_51 ?_
                  refine tp_i (y := mw ((16 * k) + 1)) (by rw [nI_clamp (by omega)]) ?_
                  refine lv_aload_n hx hb d_M_latest_52 rfl (lv_at hl 0 rfl) ?_
                  refine va_get (D := (dC, dI)) (ci := 5) (v := .ref (am 1)) (C := R_M) (T := F_M) (N := 20) hx hb hts (fun w h => List.mem_cons_of_mem _ (in_M w h)) hown hK hP 0 rfl rfl 1 (by decide) (hts (.fieldLink R_M 7 R_M "chip" "[I") (List.mem_cons_of_mem _ t_713)) (fun _ h9 => h9) rfl d_M_latest_53 ?_
                  refine lv_bipush (v := nI 16) hx hb d_M_latest_56 (by decide) ?_
                  refine lv_iload_n hx hb d_M_latest_58 rfl (lv_at hl 2 rfl) ?_
                  refine lv_imul hx hb d_M_latest_59 ?_
                  refine tp_i (y := nI (16 * d1)) (pk_mul _ _) ?_
                  refine lv_iconst (v := nI 1) hx hb d_M_latest_60 (by decide) ?_
                  refine lv_iadd hx hb d_M_latest_61 ?_
                  refine tp_i (y := nI ((16 * d1) + 1)) (nI_add _ _) ?_
                  refine va_iald hx hb hK hP 1 0 rfl rfl (vp_in_nI (by omega) (by decide)) d_M_latest_62 ?_
                  refine tp_i (y := mw ((16 * d1) + 1)) (by rw [nI_clamp (by omega)]) ?_
                  refine lv_icmp_le (tgt := 68) hx hb d_M_latest_63 (by decide) (fun c63 => ?_) (fun c63 => ?_)
                  ·
                    refine lv_iinc (k := 3) (v := nI (k + 1)) hx hb d_M_latest_68 hl rfl (nI_1 _) (by decide) rfl (fun ls hl => ?_)
                    have hl : lv_has ls 4 [(3, .int (nI (k + 1))), (0, .ref (am 0)), (1, .int lf), (2, .int (nI d1))] := hl
                    refine lv_goto (tgt := 4) hx hb d_M_latest_71 (by decide) ?_
                    exact ih4 (k + 1) (nI d1) ls (by omega) (by omega) (by first | exact hbv | exact Or.inl rfl | exact Or.inr ⟨d1, hd1, rfl, hdr⟩) (lv_sub hl [1, 2, 3, 0] rfl)
                  ·
                    refine lv_iload_n hx hb d_M_latest_66 rfl (lv_at hl 3 rfl) ?_
                    refine lv_istore_n hx hb d_M_latest_67 rfl hl (by decide) rfl (fun ls hl => ?_)
                    have hl : lv_has ls 4 [(2, .int (nI k)), (0, .ref (am 0)), (1, .int lf), (3, .int (nI k))] := hl
                    refine lv_iinc (k := 3) (v := nI (k + 1)) hx hb d_M_latest_68 hl rfl (nI_1 _) (by decide) rfl (fun ls hl => ?_)
                    have hl : lv_has ls 4 [(3, .int (nI (k + 1))), (2, .int (nI k)), (0, .ref (am 0)), (1, .int lf)] := hl
                    refine lv_goto (tgt := 4) hx hb d_M_latest_71 (by decide) ?_
                    exact ih4 (k + 1) (nI k) ls (by omega) (by omega) (Or.inr ⟨k, by omega, rfl, hrt12⟩) (lv_sub hl [2, 3, 1, 0] rfl)
            ·
              refine lv_aload_n hx hb d_M_latest_22 rfl (lv_at hl 0 rfl) ?_
              refine va_get (D := (dC, dI)) (ci := 5) (v := .ref (am 1)) (C := R_M) (T := F_M) (N := 20) hx hb hts (fun w h => List.mem_cons_of_mem _ (in_M w h)) hown hK hP 0 rfl rfl 1 (by decide) (hts (.fieldLink R_M 7 R_M "chip" "[I") (List.mem_cons_of_mem _ t_713)) (fun _ h9 => h9) rfl d_M_latest_23 ?_
              refine lv_bipush (v := nI 16) hx hb d_M_latest_26 (by decide) ?_
              refine lv_iload_n hx hb d_M_latest_28 rfl (lv_at hl 3 rfl) ?_
              refine lv_imul hx hb d_M_latest_29 ?_
              refine tp_i (y := nI (16 * k)) (pk_mul _ _) ?_
              refine va_iald hx hb hK hP 1 0 rfl rfl (vp_in_nI (by omega) (by decide)) d_M_latest_30 ?_
              refine tp_i (y := mw (16 * k)) (by rw [nI_clamp (by omega)]) ?_
              refine lv_iconst (v := nI 4) hx hb d_M_latest_31 (by decide) ?_
              refine lv_idiv hx hb d_M_latest_32 (by decide) ?_
              refine lv_iload_n hx hb d_M_latest_33 rfl (lv_at hl 1 rfl) ?_
              refine lv_icmp_ne (tgt := 68) hx hb d_M_latest_34 (by decide) (fun c34 => ?_) (fun c34 => ?_)
              ·
                refine lv_iinc (k := 3) (v := nI (k + 1)) hx hb d_M_latest_68 hl rfl (nI_1 _) (by decide) rfl (fun ls hl => ?_)
                have hl : lv_has ls 4 [(3, .int (nI (k + 1))), (0, .ref (am 0)), (1, .int lf), (2, .int bv)] := hl
                refine lv_goto (tgt := 4) hx hb d_M_latest_71 (by decide) ?_
                exact ih4 (k + 1) bv ls (by omega) (by omega) (by first | exact hbv | exact Or.inl rfl | exact Or.inr ⟨d1, hd1, rfl, hdr⟩) (lv_sub hl [1, 2, 3, 0] rfl)
              ·
                rcases hbv with rfl | ⟨d1, hd1, rfl, hdr⟩
                ·
                  refine lv_iload_n hx hb d_M_latest_37 rfl (lv_at hl 2 rfl) ?_
                  refine lv_if_lt (tgt := 66) hx hb d_M_latest_38 (by decide) (fun c38 => ?_) (fun c38 => ?_)
                  ·
                    refine lv_iload_n hx hb d_M_latest_66 rfl (lv_at hl 3 rfl) ?_
                    refine lv_istore_n hx hb d_M_latest_67 rfl hl (by decide) rfl (fun ls hl => ?_)
                    have hl : lv_has ls 4 [(2, .int (nI k)), (0, .ref (am 0)), (1, .int lf), (3, .int (nI k))] := hl
                    refine lv_iinc (k := 3) (v := nI (k + 1)) hx hb d_M_latest_68 hl rfl (nI_1 _) (by decide) rfl (fun ls hl => ?_)
                    have hl : lv_has ls 4 [(3, .int (nI (k + 1))), (2, .int (nI k)), (0, .ref (am 0)), (1, .int lf)] := hl
                    refine lv_goto (tgt := 4) hx hb d_M_latest_71 (by decide) ?_
                    exact ih4 (k + 1) (nI k) ls (by omega) (by omega) (Or.inr ⟨k, by omega, rfl, hrt12⟩) (lv_sub hl [2, 3, 1, 0] rfl)
                  ·
                    exact absurd c38 (by decide)
                ·
                  refine lv_iload_n hx hb d_M_latest_37 rfl (lv_at hl 2 rfl) ?_
                  refine lv_if_lt (tgt := 66) hx hb d_M_latest_38 (by decide) (fun c38 => ?_) (fun c38 => ?_)
                  ·
                    exact (cz_lt_t (by omega) c38).elim
                  ·
                    have c38 := cz_lt_f (by omega) c38
                    refine lv_aload_n hx hb d_M_latest_41 rfl (lv_at hl 0 rfl) ?_
                    refine va_get (D := (dC, dI)) (ci := 5) (v := .ref (am 1)) (C := R_M) (T := F_M) (N := 20) hx hb hts (fun w h => List.mem_cons_of_mem _ (in_M w h)) hown hK hP 0 rfl rfl 1 (by decide) (hts (.fieldLink R_M 7 R_M "chip" "[I") (List.mem_cons_of_mem _ t_713)) (fun _ h9 => h9) rfl d_M_latest_42 ?_
                    refine lv_bipush (v := nI 16) hx hb d_M_latest_45 (by decide) ?_
                    refine lv_iload_n hx hb d_M_latest_47 rfl (lv_at hl 3 rfl) ?_
                    refine lv_imul hx hb d_M_latest_48 ?_
                    refine tp_i (y := nI (16 * k)) (pk_mul _ _) ?_
                    refine lv_iconst (v := nI 1) hx hb d_M_latest_49 (by decide) ?_
                    refine lv_iadd hx hb d_M_latest_50 ?_
                    refine tp_i (y := nI ((16 * k) + 1)) (nI_add _ _) ?_
                    refine va_iald hx hb hK hP 1 0 rfl rfl (vp_in_nI (by omega) (by decide)) d_M_latest_51 ?_
                    refine tp_i (y := mw ((16 * k) + 1)) (by rw [nI_clamp (by omega)]) ?_
                    refine lv_aload_n hx hb d_M_latest_52 rfl (lv_at hl 0 rfl) ?_
                    refine va_get (D := (dC, dI)) (ci := 5) (v := .ref (am 1)) (C := R_M) (T := F_M) (N := 20) hx hb hts (fun w h => List.mem_cons_of_mem _ (in_M w h)) hown hK hP 0 rfl rfl 1 (by decide) (hts (.fieldLink R_M 7 R_M "chip" "[I") (List.mem_cons_of_mem _ t_713)) (fun _ h9 => h9) rfl d_M_latest_53 ?_
                    refine lv_bipush (v := nI 16) hx hb d_M_latest_56 (by decide) ?_
                    refine lv_iload_n hx hb d_M_latest_58 rfl (lv_at hl 2 rfl) ?_
                    refine lv_imul hx hb d_M_latest_59 ?_
                    refine tp_i (y := nI (16 * d1)) (pk_mul _ _) ?_
                    refine lv_iconst (v := nI 1) hx hb d_M_latest_60 (by decide) ?_
                    refine lv_iadd hx hb d_M_latest_61 ?_
                    refine tp_i (y := nI ((16 * d1) + 1)) (nI_add _ _) ?_
                    refine va_iald hx hb hK hP 1 0 rfl rfl (vp_in_nI (by omega) (by decide)) d_M_latest_62 ?_
                    refine tp_i (y := mw ((16 * d1) + 1)) (by rw [nI_clamp (by omega)]) ?_
                    refine lv_icmp_le (tgt := 68) hx hb d_M_latest_63 (by decide) (fun c63 => ?_) (fun c63 => ?_)
                    ·
                      refine lv_iinc (k := 3) (v := nI (k + 1)) hx hb d_M_latest_68 hl rfl (nI_1 _) (by decide) rfl (fun ls hl => ?_)
                      have hl : lv_has ls 4 [(3, .int (nI (k + 1))), (0, .ref (am 0)), (1, .int lf), (2, .int (nI d1))] := hl
                      refine lv_goto (tgt := 4) hx hb d_M_latest_71 (by decide) ?_
                      exact ih4 (k + 1) (nI d1) ls (by omega) (by omega) (by first | exact hbv | exact Or.inl rfl | exact Or.inr ⟨d1, hd1, rfl, hdr⟩) (lv_sub hl [1, 2, 3, 0] rfl)
                    ·
                      refine lv_iload_n hx hb d_M_latest_66 rfl (lv_at hl 3 rfl) ?_
                      refine lv_istore_n hx hb d_M_latest_67 rfl hl (by decide) rfl (fun ls hl => ?_)
                      have hl : lv_has ls 4 [(2, .int (nI k)), (0, .ref (am 0)), (1, .int lf), (3, .int (nI k))] := hl
                      refine lv_iinc (k := 3) (v := nI (k + 1)) hx hb d_M_latest_68 hl rfl (nI_1 _) (by decide) rfl (fun ls hl => ?_)
                      have hl : lv_has ls 4 [(3, .int (nI (k + 1))), (2, .int (nI k)), (0, .ref (am 0)), (1, .int lf)] := hl
                      refine lv_goto (tgt := 4) hx hb d_M_latest_71 (by decide) ?_
                      exact ih4 (k + 1) (nI k) ls (by omega) (by omega) (Or.inr ⟨k, by omega, rfl, hrt12⟩) (lv_sub hl [2, 3, 1, 0] rfl)
        ·
          refine lv_if_eq (tgt := 68) hx hb d_M_latest_15 (by decide) (fun c15 => ?_) (fun c15 => ?_)
          ·
            refine lv_iinc (k := 3) (v := nI (k + 1)) hx hb d_M_latest_68 hl rfl (nI_1 _) (by decide) rfl (fun ls hl => ?_)
            have hl : lv_has ls 4 [(3, .int (nI (k + 1))), (0, .ref (am 0)), (1, .int lf), (2, .int bv)] := hl
            refine lv_goto (tgt := 4) hx hb d_M_latest_71 (by decide) ?_
            exact ih4 (k + 1) bv ls (by omega) (by omega) (by first | exact hbv | exact Or.inl rfl | exact Or.inr ⟨d1, hd1, rfl, hdr⟩) (lv_sub hl [1, 2, 3, 0] rfl)
          ·
            exact absurd c15 (by decide)
  exact lp4 _ 0 (-1) ls (Nat.lt_succ_self _) (by omega) (Or.inl rfl) (lv_sub hl [2, 3, 1, 0] rfl)
set_option maxHeartbeats 4000000 in
set_option maxRecDepth 100000 in
theorem c_M_mount (l : Launch) (dC : Nat → ClassId) (dI : Nat → Nat → Nat) (am cm : Nat → Nat) (sz : Nat) (th : Int32) (mw mwr mfl mact : Nat → Int32) (on cut mrec : Int32) (mlog mlive had : Nat → Int32) (mser mcur mrd mwt worn : Int32) (pg : Nat → Int32) (pla sou fou : Int32)  : Met l y_M_mount w_M_mount ({ frames := 4, cells := 0, slots := 0, locals := 92 }) (xP (dC, dI) vwCl (mt cm) (mw_ am cm th mw mwr mfl mact on cut mrec mlog mlive had mser mcur mrd mwt worn pg pla sou fou) sz [.ref (am 0)]) (va_Qi (fun r (u : (Nat → Nat → Int32) × (Nat → Int32) × (Nat → Nat)) => MI (u.2.2 0) (u.1 0) (u.2.1 1)) (fun (u : (Nat → Nat → Int32) × (Nat → Int32) × (Nat → Nat)) (t : State) => xB (dC, dI) vwCl (mt cm) (xA 9 am sz) (mw_ am cm (u.2.1 7) mw mwr mfl mact (u.2.1 6) (u.2.1 5) (nI (u.2.2 0)) (u.1 1) (u.1 0) (u.1 2) (u.2.1 0) (u.2.1 1) (u.2.1 2) (u.2.1 3) (u.2.1 4) pg pla sou fou) t) (xA 9 am sz)) 0 0 (xA 9 am sz) := by
  refine Met.ofW (cc := b_M_mount) (maxL := 6) (ret := (some (.int))) (by decide) rfl ?_
  intro P e s m args below meth c0 s₁ B hml hv
  obtain ⟨rfl, hsz, hP, hK, hD0, hN⟩ := hv
  have hx := B.exec
  have hb := B.bytes
  have hr := B.returns
  have hts := atoms_spec (ws := w_M_mount) B.pre
  have hown : s.vm.findClass R_M = some m.cls := findClass_of_methodNamed B.named
  have hlocks := B.notSynchronized
  subst hsz
  have hD := mw_D (sz := s.heap.size) hD0
  have hS : va_S (xA 9 am s.heap.size) s.heap s.heap [] := va_S.rf
  have hA : ∀ q : Nat, s.heap.size ≤ q → (xA 9 am s.heap.size) q := fun q h => Or.inr h
  have hl := lv_entry ([.ref (am 0)]) (n := 6) (Nat.le_of_ble_eq_true rfl)
  rw [lg_entry_eq]
  generalize (lg_sl ([.ref (am 0)]) ++ List.replicate (6 - (lg_sl ([.ref (am 0)])).length) Slot.unset).toArray = ls at hl ⊢
  have hl : lv_has ls 6 [(0, .ref (am 0))] := hl
  refine lv_aload_n hx hb d_M_mount_0 rfl (lv_at hl 0 rfl) ?_
  refine lv_iconst (v := nI 0) hx hb d_M_mount_1 (by decide) ?_
  refine va_put (D := (dC, dI)) (ci := 5) (v := .int (nI 0)) (ty := .int) (C := R_M) (T := F_M) (N := 20) hx hb hts (fun w h => List.mem_cons_of_mem _ (in_M w h)) t_M ok_M nm_M hown hK hP hD hS 0 rfl rfl 0 (by decide) (hts (.fieldLink R_M 49 R_M "thrown" "I") (List.mem_cons_of_mem _ t_712)) (fun _ h9 => h9) rfl (by decide +kernel) rfl rfl (Nat.le_of_ble_eq_true rfl) d_M_mount_2 (fun H locs hP hD hS => ?_)
  have hP : va_P (dC, dI) vwCl (mw_ am cm (nI 0) mw mwr mfl mact on cut mrec mlog mlive had mser mcur mrd mwt worn pg pla sou fou) H := hP
  have hD : va_D (xA 9 am s.heap.size) (mw_ am cm (nI 0) mw mwr mfl mact on cut mrec mlog mlive had mser mcur mrd mwt worn pg pla sou fou) := hD
  refine lv_aload_n hx hb d_M_mount_5 rfl (lv_at hl 0 rfl) ?_
  have hSz := hS.1
  refine va_callv (va_runV (C := R_M) (As := []) (rest := []) ⟨hx, hb, hml, hown, hts⟩ (c_M_off l dC dI am cm H.size (nI 0) mw mwr mfl mact on cut mrec mlog mlive had mser mcur mrd mwt worn pg pla sou fou  ) (cwV 0 hts (g_V t_853 t_855 s_36 t_6 t_856) rfl rfl rfl (by decide +kernel) ⟨by decide, by decide⟩) (xP_v hP hK hD hN 0 rfl rfl) rfl rfl hl.1 rfl (lv_room (Nat.le_of_ble_eq_true rfl)) d_M_mount_6 ⟨Nat.le_refl _, Nat.le_refl _⟩) hS (fun q _ h => xA_up hS.1 q h) (fun q h => xA_up hS.1 q h) (fun u6 t H1 locs1 ht hvm q6 hB hz1 hk1 hS => ?_)
  obtain ⟨hP1, hK1, hD1⟩ := hB
  rw [ht] at hP1
  have hD : va_D (xA 9 am s.heap.size) (mw_ am cm (nI 0) mw mwr mfl mact (u6.2.1 6) (u6.2.1 5) (nI (u6.2.2 0)) mlog (u6.1 0) had (u6.2.1 0) (u6.2.1 1) (u6.2.1 2) (u6.2.1 3) (u6.2.1 4) pg pla sou fou) := hD1.weaken (fun _ q _ h => xA_up hSz _ h)
  have hP : va_P (dC, dI) vwCl (mw_ am cm (nI 0) mw mwr mfl mact (u6.2.1 6) (u6.2.1 5) (nI (u6.2.2 0)) mlog (u6.1 0) had (u6.2.1 0) (u6.2.1 1) (u6.2.1 2) (u6.2.1 3) (u6.2.1 4) pg pla sou fou) H1 := hP1
  generalize H1 = H at hP hS ⊢
  generalize locs1 = locs at hS ⊢
  obtain ⟨hr0, hl0, hc0⟩ := q6
  refine lv_aload_n hx hb d_M_mount_9 rfl (lv_at hl 0 rfl) ?_
  refine lv_iconst (v := nI 1) hx hb d_M_mount_10 (by decide) ?_
  refine va_put (D := (dC, dI)) (ci := 5) (v := .int (nI 1)) (ty := .boolean) (C := R_M) (T := F_M) (N := 20) hx hb hts (fun w h => List.mem_cons_of_mem _ (in_M w h)) t_M ok_M nm_M hown hK hP hD hS 0 rfl rfl 5 (by decide) (hts (.fieldLink R_M 23 R_M "on" "Z") (List.mem_cons_of_mem _ t_717)) (fun _ h9 => h9) rfl (by decide +kernel) (by first | rfl | decide | assumption) rfl (Nat.le_of_ble_eq_true rfl) d_M_mount_11 (fun H locs hP hD hS => ?_)
  have hP : va_P (dC, dI) vwCl (mw_ am cm (nI 0) mw mwr mfl mact (nI 1) (u6.2.1 5) (nI (u6.2.2 0)) mlog (u6.1 0) had (u6.2.1 0) (u6.2.1 1) (u6.2.1 2) (u6.2.1 3) (u6.2.1 4) pg pla sou fou) H := hP
  have hD : va_D (xA 9 am s.heap.size) (mw_ am cm (nI 0) mw mwr mfl mact (nI 1) (u6.2.1 5) (nI (u6.2.2 0)) mlog (u6.1 0) had (u6.2.1 0) (u6.2.1 1) (u6.2.1 2) (u6.2.1 3) (u6.2.1 4) pg pla sou fou) := hD
  refine lv_aload_n hx hb d_M_mount_14 rfl (lv_at hl 0 rfl) ?_
  refine lv_iconst (v := (-1)) hx hb d_M_mount_15 (by decide) ?_
  refine vp_callSi (va_runV (C := R_M) (As := [.int (-1)]) (rest := []) ⟨hx, hb, hml, hown, hts⟩ (c_M_latest l dC dI am cm (nI 0) mw mwr mfl mact (nI 1) (u6.2.1 5) (nI (u6.2.2 0)) mlog (u6.1 0) had (u6.2.1 0) (u6.2.1 1) (u6.2.1 2) (u6.2.1 3) (u6.2.1 4) pg pla sou fou (-1) ) (cwV 1 hts (g_V t_966 t_968 s_51 t_6 t_969) rfl rfl rfl (by decide +kernel) ⟨by decide, by decide⟩) (xR_v hP hK hN 0 rfl rfl) rfl rfl hl.1 rfl (lv_room (Nat.le_of_ble_eq_true rfl)) d_M_mount_16 ⟨Nat.le_refl _, Nat.le_refl _⟩).run (fun r16 q16 => ?_)
  rcases q16 with rfl | ⟨p16, hp16, rfl, hrt16⟩
  ·
    refine lv_istore_n hx hb d_M_mount_19 rfl hl (by decide) rfl (fun ls hl => ?_)
    have hl : lv_has ls 6 [(1, .int (-1)), (0, .ref (am 0))] := hl
    refine lv_aload_n hx hb d_M_mount_20 rfl (lv_at hl 1 rfl) ?_
    refine lv_iload_n hx hb d_M_mount_21 rfl (lv_at hl 0 rfl) ?_
    refine lv_if_ge (tgt := 29) hx hb d_M_mount_22 (by decide) (fun c22 => ?_) (fun c22 => ?_)
    ·
      exact absurd c22 (by decide)
    ·
      refine lv_iconst (v := nI 0) hx hb d_M_mount_25 (by decide) ?_
      refine lv_goto (tgt := 40) hx hb d_M_mount_26 (by decide) ?_
      refine va_put (D := (dC, dI)) (ci := 5) (v := .int (nI 0)) (ty := .int) (C := R_M) (T := F_M) (N := 20) hx hb hts (fun w h => List.mem_cons_of_mem _ (in_M w h)) t_M ok_M nm_M hown hK hP hD hS 0 rfl rfl 11 (by decide) (hts (.fieldLink R_M 55 R_M "serial" "I") (List.mem_cons_of_mem _ t_723)) (fun _ h9 => h9) rfl (by decide +kernel) rfl rfl (Nat.le_of_ble_eq_true rfl) d_M_mount_40 (fun H locs hP hD hS => ?_)
      have hP : va_P (dC, dI) vwCl (mw_ am cm (nI 0) mw mwr mfl mact (nI 1) (u6.2.1 5) (nI (u6.2.2 0)) mlog (u6.1 0) had (nI 0) (u6.2.1 1) (u6.2.1 2) (u6.2.1 3) (u6.2.1 4) pg pla sou fou) H := hP
      have hD : va_D (xA 9 am s.heap.size) (mw_ am cm (nI 0) mw mwr mfl mact (nI 1) (u6.2.1 5) (nI (u6.2.2 0)) mlog (u6.1 0) had (nI 0) (u6.2.1 1) (u6.2.1 2) (u6.2.1 3) (u6.2.1 4) pg pla sou fou) := hD
      refine lv_aload_n hx hb d_M_mount_43 rfl (lv_at hl 1 rfl) ?_
      refine lv_iload_n hx hb d_M_mount_44 rfl (lv_at hl 0 rfl) ?_
      refine lv_if_ge (tgt := 52) hx hb d_M_mount_45 (by decide) (fun c45 => ?_) (fun c45 => ?_)
      ·
        exact absurd c45 (by decide)
      ·
        refine lv_iconst (v := (-1)) hx hb d_M_mount_48 (by decide) ?_
        refine lv_goto (tgt := 55) hx hb d_M_mount_49 (by decide) ?_
        refine va_put (D := (dC, dI)) (ci := 5) (v := .int (-1)) (ty := .int) (C := R_M) (T := F_M) (N := 20) hx hb hts (fun w h => List.mem_cons_of_mem _ (in_M w h)) t_M ok_M nm_M hown hK hP hD hS 0 rfl rfl 12 (by decide) (hts (.fieldLink R_M 40 R_M "cursor" "I") (List.mem_cons_of_mem _ t_724)) (fun _ h9 => h9) rfl (by decide +kernel) rfl rfl (Nat.le_of_ble_eq_true rfl) d_M_mount_55 (fun H locs hP hD hS => ?_)
        have hP : va_P (dC, dI) vwCl (mw_ am cm (nI 0) mw mwr mfl mact (nI 1) (u6.2.1 5) (nI (u6.2.2 0)) mlog (u6.1 0) had (nI 0) (-1) (u6.2.1 2) (u6.2.1 3) (u6.2.1 4) pg pla sou fou) H := hP
        have hD : va_D (xA 9 am s.heap.size) (mw_ am cm (nI 0) mw mwr mfl mact (nI 1) (u6.2.1 5) (nI (u6.2.2 0)) mlog (u6.1 0) had (nI 0) (-1) (u6.2.1 2) (u6.2.1 3) (u6.2.1 4) pg pla sou fou) := hD
        refine lv_iconst (v := nI 1) hx hb d_M_mount_58 (by decide) ?_
        refine lv_istore_n hx hb d_M_mount_59 rfl hl (by decide) rfl (fun ls hl => ?_)
        have hl : lv_has ls 6 [(2, .int (nI 1)), (1, .int (-1)), (0, .ref (am 0))] := hl
        refine lv_iconst (v := nI 0) hx hb d_M_mount_60 (by decide) ?_
        refine lv_istore_n hx hb d_M_mount_61 rfl hl (by decide) rfl (fun ls hl => ?_)
        have hl : lv_has ls 6 [(3, .int (nI 0)), (2, .int (nI 1)), (1, .int (-1)), (0, .ref (am 0))] := hl
        have lp62 : ∀ (n : Nat) (k : Nat) (gv : Int32) (gv_ : Nat → Int32) (lv : Nat → Int32) (hv_ : Nat → Int32) (rv : Nat) (H : Heap) (locs : List Loc) (ls : Array Slot), (16 - k) < n → (k ≤ 16) → (rv ≤ 3 * k) → (∀ i, i < k → lv i ≠ -1) → (∀ i, i < 16 → PG 32 (lv i)) → lv_has ls 6 [(0, .ref (am 0)), (2, .int gv), (3, .int (nI k))] → va_P (dC, dI) vwCl (mw_ am cm (nI 0) mw mwr mfl mact (nI 1) (u6.2.1 5) (nI rv) gv_ lv hv_ (nI 0) (-1) (u6.2.1 2) (u6.2.1 3) (u6.2.1 4) pg pla sou fou) H → va_D (xA 9 am s.heap.size) (mw_ am cm (nI 0) mw mwr mfl mact (nI 1) (u6.2.1 5) (nI rv) gv_ lv hv_ (nI 0) (-1) (u6.2.1 2) (u6.2.1 3) (u6.2.1 4) pg pla sou fou) → va_S (xA 9 am s.heap.size) s.heap H locs → W P l e (headSpec w_M_mount ({ frames := 4, cells := 0, slots := 0, locals := 92 })).room s m (([.ref (am 0)] : List Value).toArray) below meth c0 H locs 0 0 (MQ below (va_Qi (fun r (u : (Nat → Nat → Int32) × (Nat → Int32) × (Nat → Nat)) => MI (u.2.2 0) (u.1 0) (u.2.1 1)) (fun (u : (Nat → Nat → Int32) × (Nat → Int32) × (Nat → Nat)) (t : State) => xB (dC, dI) vwCl (mt cm) (xA 9 am s.heap.size) (mw_ am cm (u.2.1 7) mw mwr mfl mact (u.2.1 6) (u.2.1 5) (nI (u.2.2 0)) (u.1 1) (u.1 0) (u.1 2) (u.2.1 0) (u.2.1 1) (u.2.1 2) (u.2.1 3) (u.2.1 4) pg pla sou fou) t) (xA 9 am s.heap.size)) (([.ref (am 0)] : List Value).toArray) s 0 0 (xA 9 am s.heap.size)) (F0 m 62 ls []) := by
          intro n
          induction n with
          | zero => intro k gv gv_ lv hv_ rv H locs ls hm; intros; omega
          | succ n ih62 =>
            intro k gv gv_ lv hv_ rv H locs ls hm hk hrk hlk hlp hl hP hD hS
            refine lv_iload_n hx hb d_M_mount_62 rfl (lv_at hl 2 rfl) ?_
            refine lv_bipush (v := nI 16) hx hb d_M_mount_63 (by decide) ?_
            refine lv_icmp_ge (tgt := 199) hx hb d_M_mount_65 (by decide) (fun c65 => ?_) (fun c65 => ?_)
            ·
              have c65 := cd_ge_t (by omega) (by omega) c65
              refine lv_aload_n hx hb d_M_mount_199 rfl (lv_at hl 0 rfl) ?_
              refine vp_callSi (va_runV (C := R_M) (As := []) (rest := []) ⟨hx, hb, hml, hown, hts⟩ (c_M_tickets l dC dI am cm (nI 0) mw mwr mfl mact (nI 1) (u6.2.1 5) (nI rv) gv_ lv hv_ (nI 0) (-1) (u6.2.1 2) (u6.2.1 3) (u6.2.1 4) pg pla sou fou rv (by omega)) (cwV 0 hts (g_V t_865 t_867 s_39 t_6 t_868) rfl rfl rfl (by decide +kernel) ⟨by decide, by decide⟩) (xR_v hP hK hN 0 rfl rfl) rfl rfl hl.1 rfl (lv_room (Nat.le_of_ble_eq_true rfl)) d_M_mount_200 ⟨Nat.le_refl _, Nat.le_refl _⟩).run (fun r200 q200 => ?_)
              have q200 := q200.symm
              subst q200
              have hnv200 := nv_le gv_ rv
              exact W.iret (v := nI (nv gv_ rv)) hx hb hr (fun t ht hW => ⟨⟨nI (nv gv_ rv), (fun i => [lv, gv_, hv_].getD i (fun _ => 0), fun i => [nI 0, (-1), u6.2.1 2, u6.2.1 3, u6.2.1 4, u6.2.1 5, nI 1, nI 0].getD i 0, fun i => [rv].getD i 0), rfl, MI.mk (rn := rv) (lv := lv) (c := (-1)) (by omega) hlp (by first | exact PG.m1 | exact PG.of (by omega)) (fun i hi h3 => hlk i (by omega)), ⟨by rw [ht]; exact hP, va_K.moved hW.alike hK, hD⟩⟩, hS.F ht⟩) hS.2.2 d_M_mount_203
            ·
              have c65 := cd_ge_f (by omega) (by omega) c65
              refine lv_iload_n hx hb d_M_mount_68 rfl (lv_at hl 1 rfl) ?_
              refine lv_if_eq (tgt := 199) hx hb d_M_mount_69 (by decide) (fun c69 => ?_) (fun c69 => ?_)
              ·
                refine lv_aload_n hx hb d_M_mount_199 rfl (lv_at hl 0 rfl) ?_
                refine vp_callSi (va_runV (C := R_M) (As := []) (rest := []) ⟨hx, hb, hml, hown, hts⟩ (c_M_tickets l dC dI am cm (nI 0) mw mwr mfl mact (nI 1) (u6.2.1 5) (nI rv) gv_ lv hv_ (nI 0) (-1) (u6.2.1 2) (u6.2.1 3) (u6.2.1 4) pg pla sou fou rv (by omega)) (cwV 0 hts (g_V t_865 t_867 s_39 t_6 t_868) rfl rfl rfl (by decide +kernel) ⟨by decide, by decide⟩) (xR_v hP hK hN 0 rfl rfl) rfl rfl hl.1 rfl (lv_room (Nat.le_of_ble_eq_true rfl)) d_M_mount_200 ⟨Nat.le_refl _, Nat.le_refl _⟩).run (fun r200 q200 => ?_)
                have q200 := q200.symm
                subst q200
                have hnv200 := nv_le gv_ rv
                exact W.iret (v := nI (nv gv_ rv)) hx hb hr (fun t ht hW => ⟨⟨nI (nv gv_ rv), (fun i => [lv, gv_, hv_].getD i (fun _ => 0), fun i => [nI 0, (-1), u6.2.1 2, u6.2.1 3, u6.2.1 4, u6.2.1 5, nI 1, nI 0].getD i 0, fun i => [rv].getD i 0), rfl, MI.mk (rn := rv) (lv := lv) (c := (-1)) (by omega) hlp (by first | exact PG.m1 | exact PG.of (by omega)) (fun i hi h3 => hlk i (by omega)), ⟨by rw [ht]; exact hP, va_K.moved hW.alike hK, hD⟩⟩, hS.F ht⟩) hS.2.2 d_M_mount_203
              ·
                refine lv_aload_n hx hb d_M_mount_72 rfl (lv_at hl 0 rfl) ?_
                refine lv_iload_n hx hb d_M_mount_73 rfl (lv_at hl 2 rfl) ?_
                refine vp_callSi (va_runV (C := R_M) (As := [.int (nI k)]) (rest := []) ⟨hx, hb, hml, hown, hts⟩ (c_M_latest l dC dI am cm (nI 0) mw mwr mfl mact (nI 1) (u6.2.1 5) (nI rv) gv_ lv hv_ (nI 0) (-1) (u6.2.1 2) (u6.2.1 3) (u6.2.1 4) pg pla sou fou (nI k) ) (cwV 1 hts (g_V t_966 t_968 s_51 t_6 t_969) rfl rfl rfl (by decide +kernel) ⟨by decide, by decide⟩) (xR_v hP hK hN 0 rfl rfl) rfl rfl hl.1 rfl (lv_room (Nat.le_of_ble_eq_true rfl)) d_M_mount_74 ⟨Nat.le_refl _, Nat.le_refl _⟩).run (fun r74 q74 => ?_)
                rcases q74 with rfl | ⟨p74, hp74, rfl, hrt74⟩
                ·
                  refine lv_istore hx hb d_M_mount_77 hl (by decide) rfl (fun ls hl => ?_)
                  have hl : lv_has ls 6 [(4, .int (-1)), (0, .ref (am 0)), (2, .int gv), (3, .int (nI k))] := hl
                  refine lv_iload hx hb d_M_mount_79 (lv_at hl 0 rfl) ?_
                  refine lv_if_ge (tgt := 87) hx hb d_M_mount_81 (by decide) (fun c81 => ?_) (fun c81 => ?_)
                  ·
                    exact absurd c81 (by decide)
                  ·
                    refine lv_goto (tgt := 199) hx hb d_M_mount_84 (by decide) ?_
                    refine lv_aload_n hx hb d_M_mount_199 rfl (lv_at hl 1 rfl) ?_
                    refine vp_callSi (va_runV (C := R_M) (As := []) (rest := []) ⟨hx, hb, hml, hown, hts⟩ (c_M_tickets l dC dI am cm (nI 0) mw mwr mfl mact (nI 1) (u6.2.1 5) (nI rv) gv_ lv hv_ (nI 0) (-1) (u6.2.1 2) (u6.2.1 3) (u6.2.1 4) pg pla sou fou rv (by omega)) (cwV 0 hts (g_V t_865 t_867 s_39 t_6 t_868) rfl rfl rfl (by decide +kernel) ⟨by decide, by decide⟩) (xR_v hP hK hN 0 rfl rfl) rfl rfl hl.1 rfl (lv_room (Nat.le_of_ble_eq_true rfl)) d_M_mount_200 ⟨Nat.le_refl _, Nat.le_refl _⟩).run (fun r200 q200 => ?_)
                    have q200 := q200.symm
                    subst q200
                    have hnv200 := nv_le gv_ rv
                    exact W.iret (v := nI (nv gv_ rv)) hx hb hr (fun t ht hW => ⟨⟨nI (nv gv_ rv), (fun i => [lv, gv_, hv_].getD i (fun _ => 0), fun i => [nI 0, (-1), u6.2.1 2, u6.2.1 3, u6.2.1 4, u6.2.1 5, nI 1, nI 0].getD i 0, fun i => [rv].getD i 0), rfl, MI.mk (rn := rv) (lv := lv) (c := (-1)) (by omega) hlp (by first | exact PG.m1 | exact PG.of (by omega)) (fun i hi h3 => hlk i (by omega)), ⟨by rw [ht]; exact hP, va_K.moved hW.alike hK, hD⟩⟩, hS.F ht⟩) hS.2.2 d_M_mount_203
                ·
                  refine lv_istore hx hb d_M_mount_77 hl (by decide) rfl (fun ls hl => ?_)
                  have hl : lv_has ls 6 [(4, .int (nI p74)), (0, .ref (am 0)), (2, .int gv), (3, .int (nI k))] := hl
                  refine lv_iload hx hb d_M_mount_79 (lv_at hl 0 rfl) ?_
                  refine lv_if_ge (tgt := 87) hx hb d_M_mount_81 (by decide) (fun c81 => ?_) (fun c81 => ?_)
                  ·
                    have c81 := cz_ge_t (by omega) c81
                    refine lv_aload_n hx hb d_M_mount_87 rfl (lv_at hl 1 rfl) ?_
                    refine va_get (D := (dC, dI)) (ci := 5) (v := .ref (am 6)) (C := R_M) (T := F_M) (N := 20) hx hb hts (fun w h => List.mem_cons_of_mem _ (in_M w h)) hown hK hP 0 rfl rfl 9 (by decide) (hts (.fieldLink R_M 34 R_M "live" "[I") (List.mem_cons_of_mem _ t_721)) (fun _ h9 => h9) rfl d_M_mount_88 ?_
                    refine lv_iload_n hx hb d_M_mount_91 rfl (lv_at hl 3 rfl) ?_
                    refine lv_iload hx hb d_M_mount_92 (lv_at hl 0 rfl) ?_
                    refine va_iast hx hb hK hP hD hS 6 5 rfl rfl (vp_in_nI (by omega) (by decide)) d_M_mount_94 (fun H locs hP hD hS => ?_)
                    rw [nI_clamp (by omega)] at hP hD
                    have hP : va_P (dC, dI) vwCl (mw_ am cm (nI 0) mw mwr mfl mact (nI 1) (u6.2.1 5) (nI rv) gv_ (upd lv k (nI p74)) hv_ (nI 0) (-1) (u6.2.1 2) (u6.2.1 3) (u6.2.1 4) pg pla sou fou) H := hP
                    have hD : va_D (xA 9 am s.heap.size) (mw_ am cm (nI 0) mw mwr mfl mact (nI 1) (u6.2.1 5) (nI rv) gv_ (upd lv k (nI p74)) hv_ (nI 0) (-1) (u6.2.1 2) (u6.2.1 3) (u6.2.1 4) pg pla sou fou) := hD
                    refine lv_aload_n hx hb d_M_mount_95 rfl (lv_at hl 1 rfl) ?_
                    refine va_get (D := (dC, dI)) (ci := 5) (v := .ref (am 7)) (C := R_M) (T := F_M) (N := 20) hx hb hts (fun w h => List.mem_cons_of_mem _ (in_M w h)) hown hK hP 0 rfl rfl 10 (by decide) (hts (.fieldLink R_M 37 R_M "had" "[I") (List.mem_cons_of_mem _ t_722)) (fun _ h9 => h9) rfl d_M_mount_96 ?_
                    refine lv_iload_n hx hb d_M_mount_99 rfl (lv_at hl 3 rfl) ?_
                    refine lv_aload_n hx hb d_M_mount_100 rfl (lv_at hl 1 rfl) ?_
                    refine va_get (D := (dC, dI)) (ci := 5) (v := .ref (am 1)) (C := R_M) (T := F_M) (N := 20) hx hb hts (fun w h => List.mem_cons_of_mem _ (in_M w h)) hown hK hP 0 rfl rfl 1 (by decide) (hts (.fieldLink R_M 7 R_M "chip" "[I") (List.mem_cons_of_mem _ t_713)) (fun _ h9 => h9) rfl d_M_mount_101 ?_
                    refine lv_bipush (v := nI 16) hx hb d_M_mount_104 (by decide) ?_
                    refine lv_iload hx hb d_M_mount_106 (lv_at hl 0 rfl) ?_
                    refine lv_imul hx hb d_M_mount_108 ?_
                    refine tp_i (y := nI (16 * p74)) (pk_mul _ _) ?_
                    refine va_iald hx hb hK hP 1 0 rfl rfl (vp_in_nI (by omega) (by decide)) d_M_mount_109 ?_
                    refine tp_i (y := mw (16 * p74)) (by rw [nI_clamp (by omega)]) ?_
                    obtain ⟨h, hh, h4, eh⟩ := hrt74
                    refine tp_i (y := nI h) (eh) ?_
                    refine lv_iconst (v := nI 4) hx hb d_M_mount_110 (by decide) ?_
                    refine lv_irem hx hb d_M_mount_111 (by decide) ?_
                    refine tp_i (y := nI (h % 4)) (pk_rem (by omega) (by omega) (by omega)) ?_
                    refine va_iast hx hb hK hP hD hS 7 6 rfl rfl (vp_in_nI (by omega) (by decide)) d_M_mount_112 (fun H locs hP hD hS => ?_)
                    rw [nI_clamp (by omega)] at hP hD
                    have hP : va_P (dC, dI) vwCl (mw_ am cm (nI 0) mw mwr mfl mact (nI 1) (u6.2.1 5) (nI rv) gv_ (upd lv k (nI p74)) (upd hv_ k (nI (h % 4))) (nI 0) (-1) (u6.2.1 2) (u6.2.1 3) (u6.2.1 4) pg pla sou fou) H := hP
                    have hD : va_D (xA 9 am s.heap.size) (mw_ am cm (nI 0) mw mwr mfl mact (nI 1) (u6.2.1 5) (nI rv) gv_ (upd lv k (nI p74)) (upd hv_ k (nI (h % 4))) (nI 0) (-1) (u6.2.1 2) (u6.2.1 3) (u6.2.1 4) pg pla sou fou) := hD
                    refine lv_iconst (v := nI 0) hx hb d_M_mount_113 (by decide) ?_
                    refine lv_istore hx hb d_M_mount_114 hl (by decide) rfl (fun ls hl => ?_)
                    have hl : lv_has ls 6 [(5, .int (nI 0)), (4, .int (nI p74)), (0, .ref (am 0)), (2, .int gv), (3, .int (nI k))] := hl
                    have lp116 : ∀ (n : Nat) (tq : Nat) (gw_ : Nat → Int32) (H : Heap) (locs : List Loc) (ls : Array Slot), (4 * (h % 4) - tq) < n → (tq ≤ 4 * (h % 4)) → lv_has ls 6 [(0, .ref (am 0)), (2, .int gv), (3, .int (nI k)), (4, .int (nI p74)), (5, .int (nI tq))] → va_P (dC, dI) vwCl (mw_ am cm (nI 0) mw mwr mfl mact (nI 1) (u6.2.1 5) (nI rv) gw_ (upd lv k (nI p74)) (upd hv_ k (nI (h % 4))) (nI 0) (-1) (u6.2.1 2) (u6.2.1 3) (u6.2.1 4) pg pla sou fou) H → va_D (xA 9 am s.heap.size) (mw_ am cm (nI 0) mw mwr mfl mact (nI 1) (u6.2.1 5) (nI rv) gw_ (upd lv k (nI p74)) (upd hv_ k (nI (h % 4))) (nI 0) (-1) (u6.2.1 2) (u6.2.1 3) (u6.2.1 4) pg pla sou fou) → va_S (xA 9 am s.heap.size) s.heap H locs → W P l e (headSpec w_M_mount ({ frames := 4, cells := 0, slots := 0, locals := 92 })).room s m (([.ref (am 0)] : List Value).toArray) below meth c0 H locs 0 0 (MQ below (va_Qi (fun r (u : (Nat → Nat → Int32) × (Nat → Int32) × (Nat → Nat)) => MI (u.2.2 0) (u.1 0) (u.2.1 1)) (fun (u : (Nat → Nat → Int32) × (Nat → Int32) × (Nat → Nat)) (t : State) => xB (dC, dI) vwCl (mt cm) (xA 9 am s.heap.size) (mw_ am cm (u.2.1 7) mw mwr mfl mact (u.2.1 6) (u.2.1 5) (nI (u.2.2 0)) (u.1 1) (u.1 0) (u.1 2) (u.2.1 0) (u.2.1 1) (u.2.1 2) (u.2.1 3) (u.2.1 4) pg pla sou fou) t) (xA 9 am s.heap.size)) (([.ref (am 0)] : List Value).toArray) s 0 0 (xA 9 am s.heap.size)) (F0 m 116 ls []) := by
                      intro n
                      induction n with
                      | zero => intro tq gw_ H locs ls hm; intros; omega
                      | succ n ih116 =>
                        intro tq gw_ H locs ls hm ht12 hl hP hD hS
                        refine lv_iload hx hb d_M_mount_116 (lv_at hl 4 rfl) ?_
                        refine lv_iconst (v := nI 4) hx hb d_M_mount_118 (by decide) ?_
                        refine lv_aload_n hx hb d_M_mount_119 rfl (lv_at hl 0 rfl) ?_
                        refine va_get (D := (dC, dI)) (ci := 5) (v := .ref (am 7)) (C := R_M) (T := F_M) (N := 20) hx hb hts (fun w h => List.mem_cons_of_mem _ (in_M w h)) hown hK hP 0 rfl rfl 10 (by decide) (hts (.fieldLink R_M 37 R_M "had" "[I") (List.mem_cons_of_mem _ t_722)) (fun _ h9 => h9) rfl d_M_mount_120 ?_
                        refine lv_iload_n hx hb d_M_mount_123 rfl (lv_at hl 2 rfl) ?_
                        refine va_iald hx hb hK hP 7 6 rfl rfl (vp_in_nI (by omega) (by decide)) d_M_mount_124 ?_
                        refine tp_i (y := (upd hv_ k (nI (h % 4))) k) (by rw [nI_clamp (by omega)]) ?_
                        refine tp_i (y := nI (h % 4)) (pk_us) ?_
                        refine lv_imul hx hb d_M_mount_125 ?_
                        refine tp_i (y := nI (4 * (h % 4))) (pk_mul _ _) ?_
                        refine lv_icmp_ge (tgt := 162) hx hb d_M_mount_126 (by decide) (fun c126 => ?_) (fun c126 => ?_)
                        ·
                          have c126 := cd_ge_t (by omega) (by omega) c126
                          refine lv_aload_n hx hb d_M_mount_162 rfl (lv_at hl 0 rfl) ?_
                          refine lv_dup hx hb d_M_mount_163 rfl ?_
                          refine va_get (D := (dC, dI)) (ci := 5) (v := .int (nI rv)) (C := R_M) (T := F_M) (N := 20) hx hb hts (fun w h => List.mem_cons_of_mem _ (in_M w h)) hown hK hP 0 rfl rfl 7 (by decide) (hts (.fieldLink R_M 52 R_M "records" "I") (List.mem_cons_of_mem _ t_719)) (fun _ h9 => h9) rfl d_M_mount_164 ?_
                          refine lv_aload_n hx hb d_M_mount_167 rfl (lv_at hl 0 rfl) ?_
                          refine va_get (D := (dC, dI)) (ci := 5) (v := .ref (am 7)) (C := R_M) (T := F_M) (N := 20) hx hb hts (fun w h => List.mem_cons_of_mem _ (in_M w h)) hown hK hP 0 rfl rfl 10 (by decide) (hts (.fieldLink R_M 37 R_M "had" "[I") (List.mem_cons_of_mem _ t_722)) (fun _ h9 => h9) rfl d_M_mount_168 ?_
                          refine lv_iload_n hx hb d_M_mount_171 rfl (lv_at hl 2 rfl) ?_
                          refine va_iald hx hb hK hP 7 6 rfl rfl (vp_in_nI (by omega) (by decide)) d_M_mount_172 ?_
                          refine tp_i (y := (upd hv_ k (nI (h % 4))) k) (by rw [nI_clamp (by omega)]) ?_
                          refine tp_i (y := nI (h % 4)) (pk_us) ?_
                          refine lv_iadd hx hb d_M_mount_173 ?_
                          refine tp_i (y := nI (rv + (h % 4))) (nI_add _ _) ?_
                          refine va_put (D := (dC, dI)) (ci := 5) (v := .int (nI (rv + (h % 4)))) (ty := .int) (C := R_M) (T := F_M) (N := 20) hx hb hts (fun w h => List.mem_cons_of_mem _ (in_M w h)) t_M ok_M nm_M hown hK hP hD hS 0 rfl rfl 7 (by decide) (hts (.fieldLink R_M 52 R_M "records" "I") (List.mem_cons_of_mem _ t_719)) (fun _ h9 => h9) rfl (by decide +kernel) rfl rfl (Nat.le_of_ble_eq_true rfl) d_M_mount_174 (fun H locs hP hD hS => ?_)
                          have hP : va_P (dC, dI) vwCl (mw_ am cm (nI 0) mw mwr mfl mact (nI 1) (u6.2.1 5) (nI (rv + (h % 4))) gw_ (upd lv k (nI p74)) (upd hv_ k (nI (h % 4))) (nI 0) (-1) (u6.2.1 2) (u6.2.1 3) (u6.2.1 4) pg pla sou fou) H := hP
                          have hD : va_D (xA 9 am s.heap.size) (mw_ am cm (nI 0) mw mwr mfl mact (nI 1) (u6.2.1 5) (nI (rv + (h % 4))) gw_ (upd lv k (nI p74)) (upd hv_ k (nI (h % 4))) (nI 0) (-1) (u6.2.1 2) (u6.2.1 3) (u6.2.1 4) pg pla sou fou) := hD
                          refine lv_aload_n hx hb d_M_mount_177 rfl (lv_at hl 0 rfl) ?_
                          refine va_get (D := (dC, dI)) (ci := 5) (v := .ref (am 7)) (C := R_M) (T := F_M) (N := 20) hx hb hts (fun w h => List.mem_cons_of_mem _ (in_M w h)) hown hK hP 0 rfl rfl 10 (by decide) (hts (.fieldLink R_M 37 R_M "had" "[I") (List.mem_cons_of_mem _ t_722)) (fun _ h9 => h9) rfl d_M_mount_178 ?_
                          refine lv_iload_n hx hb d_M_mount_181 rfl (lv_at hl 2 rfl) ?_
                          refine va_iald hx hb hK hP 7 6 rfl rfl (vp_in_nI (by omega) (by decide)) d_M_mount_182 ?_
                          refine tp_i (y := (upd hv_ k (nI (h % 4))) k) (by rw [nI_clamp (by omega)]) ?_
                          refine tp_i (y := nI (h % 4)) (pk_us) ?_
                          refine lv_iconst (v := nI 3) hx hb d_M_mount_183 (by decide) ?_
                          refine lv_icmp_ne (tgt := 191) hx hb d_M_mount_184 (by decide) (fun c184 => ?_) (fun c184 => ?_)
                          ·
                            have c184 := cd_ne_t (by omega) (by omega) c184
                            refine lv_iconst (v := nI 0) hx hb d_M_mount_191 (by decide) ?_
                            refine lv_istore_n hx hb d_M_mount_192 rfl hl (by decide) rfl (fun ls hl => ?_)
                            have hl : lv_has ls 6 [(2, .int (nI 0)), (0, .ref (am 0)), (3, .int (nI k)), (4, .int (nI p74)), (5, .int (nI tq))] := hl
                            refine lv_iinc (k := 2) (v := nI (k + 1)) hx hb d_M_mount_193 hl rfl (nI_1 _) (by decide) rfl (fun ls hl => ?_)
                            have hl : lv_has ls 6 [(3, .int (nI (k + 1))), (2, .int (nI 0)), (0, .ref (am 0)), (4, .int (nI p74)), (5, .int (nI tq))] := hl
                            refine lv_goto (tgt := 62) hx hb d_M_mount_196 (by decide) ?_
                            exact ih62 (k + 1) (nI 0) gw_ (upd lv k (nI p74)) (upd hv_ k (nI (h % 4))) (rv + (h % 4)) H locs ls (by omega) (by omega) (by omega) (put_nes hlk hp74) (PG_upd hlp (PG.of hp74)) (lv_sub hl [2, 1, 0] rfl) hP hD hS
                          ·
                            have c184 := cd_ne_f (by omega) (by omega) c184
                            refine lv_iconst (v := nI 1) hx hb d_M_mount_187 (by decide) ?_
                            refine lv_goto (tgt := 192) hx hb d_M_mount_188 (by decide) ?_
                            refine lv_istore_n hx hb d_M_mount_192 rfl hl (by decide) rfl (fun ls hl => ?_)
                            have hl : lv_has ls 6 [(2, .int (nI 1)), (0, .ref (am 0)), (3, .int (nI k)), (4, .int (nI p74)), (5, .int (nI tq))] := hl
                            refine lv_iinc (k := 2) (v := nI (k + 1)) hx hb d_M_mount_193 hl rfl (nI_1 _) (by decide) rfl (fun ls hl => ?_)
                            have hl : lv_has ls 6 [(3, .int (nI (k + 1))), (2, .int (nI 1)), (0, .ref (am 0)), (4, .int (nI p74)), (5, .int (nI tq))] := hl
                            refine lv_goto (tgt := 62) hx hb d_M_mount_196 (by decide) ?_
                            exact ih62 (k + 1) (nI 1) gw_ (upd lv k (nI p74)) (upd hv_ k (nI (h % 4))) (rv + (h % 4)) H locs ls (by omega) (by omega) (by omega) (put_nes hlk hp74) (PG_upd hlp (PG.of hp74)) (lv_sub hl [2, 1, 0] rfl) hP hD hS
                        ·
                          have c126 := cd_ge_f (by omega) (by omega) c126
                          refine lv_aload_n hx hb d_M_mount_129 rfl (lv_at hl 0 rfl) ?_
                          refine va_get (D := (dC, dI)) (ci := 5) (v := .ref (am 5)) (C := R_M) (T := F_M) (N := 20) hx hb hts (fun w h => List.mem_cons_of_mem _ (in_M w h)) hown hK hP 0 rfl rfl 8 (by decide) (hts (.fieldLink R_M 31 R_M "log" "[I") (List.mem_cons_of_mem _ t_720)) (fun _ h9 => h9) rfl d_M_mount_130 ?_
                          refine lv_bipush (v := nI 12) hx hb d_M_mount_133 (by decide) ?_
                          refine lv_iload_n hx hb d_M_mount_135 rfl (lv_at hl 2 rfl) ?_
                          refine lv_imul hx hb d_M_mount_136 ?_
                          refine tp_i (y := nI (12 * k)) (pk_mul _ _) ?_
                          refine lv_iload hx hb d_M_mount_137 (lv_at hl 4 rfl) ?_
                          refine lv_iadd hx hb d_M_mount_139 ?_
                          refine tp_i (y := nI ((12 * k) + tq)) (nI_add _ _) ?_
                          refine lv_aload_n hx hb d_M_mount_140 rfl (lv_at hl 0 rfl) ?_
                          refine va_get (D := (dC, dI)) (ci := 5) (v := .ref (am 1)) (C := R_M) (T := F_M) (N := 20) hx hb hts (fun w h => List.mem_cons_of_mem _ (in_M w h)) hown hK hP 0 rfl rfl 1 (by decide) (hts (.fieldLink R_M 7 R_M "chip" "[I") (List.mem_cons_of_mem _ t_713)) (fun _ h9 => h9) rfl d_M_mount_141 ?_
                          refine lv_bipush (v := nI 16) hx hb d_M_mount_144 (by decide) ?_
                          refine lv_iload hx hb d_M_mount_146 (lv_at hl 3 rfl) ?_
                          refine lv_imul hx hb d_M_mount_148 ?_
                          refine tp_i (y := nI (16 * p74)) (pk_mul _ _) ?_
                          refine lv_iconst (v := nI 2) hx hb d_M_mount_149 (by decide) ?_
                          refine lv_iadd hx hb d_M_mount_150 ?_
                          refine tp_i (y := nI ((16 * p74) + 2)) (nI_add _ _) ?_
                          refine lv_iload hx hb d_M_mount_151 (lv_at hl 4 rfl) ?_
                          refine lv_iadd hx hb d_M_mount_153 ?_
                          refine tp_i (y := nI (((16 * p74) + 2) + tq)) (nI_add _ _) ?_
                          refine va_iald hx hb hK hP 1 0 rfl rfl (vp_in_nI (by omega) (by decide)) d_M_mount_154 ?_
                          refine tp_i (y := mw (((16 * p74) + 2) + tq)) (by rw [nI_clamp (by omega)]) ?_
                          refine va_iast hx hb hK hP hD hS 5 4 rfl rfl (vp_in_nI (by omega) (by decide)) d_M_mount_155 (fun H locs hP hD hS => ?_)
                          rw [nI_clamp (by omega)] at hP hD
                          have hP : va_P (dC, dI) vwCl (mw_ am cm (nI 0) mw mwr mfl mact (nI 1) (u6.2.1 5) (nI rv) (upd gw_ ((12 * k) + tq) (mw (((16 * p74) + 2) + tq))) (upd lv k (nI p74)) (upd hv_ k (nI (h % 4))) (nI 0) (-1) (u6.2.1 2) (u6.2.1 3) (u6.2.1 4) pg pla sou fou) H := hP
                          have hD : va_D (xA 9 am s.heap.size) (mw_ am cm (nI 0) mw mwr mfl mact (nI 1) (u6.2.1 5) (nI rv) (upd gw_ ((12 * k) + tq) (mw (((16 * p74) + 2) + tq))) (upd lv k (nI p74)) (upd hv_ k (nI (h % 4))) (nI 0) (-1) (u6.2.1 2) (u6.2.1 3) (u6.2.1 4) pg pla sou fou) := hD
                          refine lv_iinc (k := 4) (v := nI (tq + 1)) hx hb d_M_mount_156 hl rfl (nI_1 _) (by decide) rfl (fun ls hl => ?_)
                          have hl : lv_has ls 6 [(5, .int (nI (tq + 1))), (0, .ref (am 0)), (2, .int gv), (3, .int (nI k)), (4, .int (nI p74))] := hl
                          refine lv_goto (tgt := 116) hx hb d_M_mount_159 (by decide) ?_
                          exact ih116 (tq + 1) (upd gw_ ((12 * k) + tq) (mw (((16 * p74) + 2) + tq))) H locs ls (by omega) (by omega) (lv_sub hl [1, 2, 3, 4, 0] rfl) hP hD hS
                    exact lp116 _ 0 gv_ H locs ls (Nat.lt_succ_self _) (by omega) (lv_sub hl [2, 3, 4, 1, 0] rfl) hP hD hS
                  ·
                    exact (cz_ge_f (by omega) c81).elim
        exact lp62 _ 0 (nI 1) mlog (u6.1 0) had (u6.2.2 0) H locs ls (Nat.lt_succ_self _) (by omega) (by omega) (fun i hi => absurd hi (Nat.not_lt_zero i)) (fun i hi => Or.inl (hl0 i hi)) (lv_sub hl [3, 1, 0] rfl) hP hD hS
  ·
    refine lv_istore_n hx hb d_M_mount_19 rfl hl (by decide) rfl (fun ls hl => ?_)
    have hl : lv_has ls 6 [(1, .int (nI p16)), (0, .ref (am 0))] := hl
    refine lv_aload_n hx hb d_M_mount_20 rfl (lv_at hl 1 rfl) ?_
    refine lv_iload_n hx hb d_M_mount_21 rfl (lv_at hl 0 rfl) ?_
    refine lv_if_ge (tgt := 29) hx hb d_M_mount_22 (by decide) (fun c22 => ?_) (fun c22 => ?_)
    ·
      have c22 := cz_ge_t (by omega) c22
      refine lv_aload_n hx hb d_M_mount_29 rfl (lv_at hl 1 rfl) ?_
      refine va_get (D := (dC, dI)) (ci := 5) (v := .ref (am 1)) (C := R_M) (T := F_M) (N := 20) hx hb hts (fun w h => List.mem_cons_of_mem _ (in_M w h)) hown hK hP 0 rfl rfl 1 (by decide) (hts (.fieldLink R_M 7 R_M "chip" "[I") (List.mem_cons_of_mem _ t_713)) (fun _ h9 => h9) rfl d_M_mount_30 ?_
      refine lv_bipush (v := nI 16) hx hb d_M_mount_33 (by decide) ?_
      refine lv_iload_n hx hb d_M_mount_35 rfl (lv_at hl 0 rfl) ?_
      refine lv_imul hx hb d_M_mount_36 ?_
      refine tp_i (y := nI (16 * p16)) (pk_mul _ _) ?_
      refine lv_iconst (v := nI 1) hx hb d_M_mount_37 (by decide) ?_
      refine lv_iadd hx hb d_M_mount_38 ?_
      refine tp_i (y := nI ((16 * p16) + 1)) (nI_add _ _) ?_
      refine va_iald hx hb hK hP 1 0 rfl rfl (vp_in_nI (by omega) (by decide)) d_M_mount_39 ?_
      refine tp_i (y := mw ((16 * p16) + 1)) (by rw [nI_clamp (by omega)]) ?_
      refine va_put (D := (dC, dI)) (ci := 5) (v := .int (mw ((16 * p16) + 1))) (ty := .int) (C := R_M) (T := F_M) (N := 20) hx hb hts (fun w h => List.mem_cons_of_mem _ (in_M w h)) t_M ok_M nm_M hown hK hP hD hS 0 rfl rfl 11 (by decide) (hts (.fieldLink R_M 55 R_M "serial" "I") (List.mem_cons_of_mem _ t_723)) (fun _ h9 => h9) rfl (by decide +kernel) rfl rfl (Nat.le_of_ble_eq_true rfl) d_M_mount_40 (fun H locs hP hD hS => ?_)
      have hP : va_P (dC, dI) vwCl (mw_ am cm (nI 0) mw mwr mfl mact (nI 1) (u6.2.1 5) (nI (u6.2.2 0)) mlog (u6.1 0) had (mw ((16 * p16) + 1)) (u6.2.1 1) (u6.2.1 2) (u6.2.1 3) (u6.2.1 4) pg pla sou fou) H := hP
      have hD : va_D (xA 9 am s.heap.size) (mw_ am cm (nI 0) mw mwr mfl mact (nI 1) (u6.2.1 5) (nI (u6.2.2 0)) mlog (u6.1 0) had (mw ((16 * p16) + 1)) (u6.2.1 1) (u6.2.1 2) (u6.2.1 3) (u6.2.1 4) pg pla sou fou) := hD
      refine lv_aload_n hx hb d_M_mount_43 rfl (lv_at hl 1 rfl) ?_
      refine lv_iload_n hx hb d_M_mount_44 rfl (lv_at hl 0 rfl) ?_
      refine lv_if_ge (tgt := 52) hx hb d_M_mount_45 (by decide) (fun c45 => ?_) (fun c45 => ?_)
      ·
        have c45 := cz_ge_t (by omega) c45
        refine lv_iload_n hx hb d_M_mount_52 rfl (lv_at hl 0 rfl) ?_
        refine lv_iconst (v := nI 4) hx hb d_M_mount_53 (by decide) ?_
        refine lv_idiv hx hb d_M_mount_54 (by decide) ?_
        refine tp_i (y := nI (p16 / 4)) (pk_div (by omega) (by omega) (by omega)) ?_
        refine va_put (D := (dC, dI)) (ci := 5) (v := .int (nI (p16 / 4))) (ty := .int) (C := R_M) (T := F_M) (N := 20) hx hb hts (fun w h => List.mem_cons_of_mem _ (in_M w h)) t_M ok_M nm_M hown hK hP hD hS 0 rfl rfl 12 (by decide) (hts (.fieldLink R_M 40 R_M "cursor" "I") (List.mem_cons_of_mem _ t_724)) (fun _ h9 => h9) rfl (by decide +kernel) rfl rfl (Nat.le_of_ble_eq_true rfl) d_M_mount_55 (fun H locs hP hD hS => ?_)
        have hP : va_P (dC, dI) vwCl (mw_ am cm (nI 0) mw mwr mfl mact (nI 1) (u6.2.1 5) (nI (u6.2.2 0)) mlog (u6.1 0) had (mw ((16 * p16) + 1)) (nI (p16 / 4)) (u6.2.1 2) (u6.2.1 3) (u6.2.1 4) pg pla sou fou) H := hP
        have hD : va_D (xA 9 am s.heap.size) (mw_ am cm (nI 0) mw mwr mfl mact (nI 1) (u6.2.1 5) (nI (u6.2.2 0)) mlog (u6.1 0) had (mw ((16 * p16) + 1)) (nI (p16 / 4)) (u6.2.1 2) (u6.2.1 3) (u6.2.1 4) pg pla sou fou) := hD
        refine lv_iconst (v := nI 1) hx hb d_M_mount_58 (by decide) ?_
        refine lv_istore_n hx hb d_M_mount_59 rfl hl (by decide) rfl (fun ls hl => ?_)
        have hl : lv_has ls 6 [(2, .int (nI 1)), (1, .int (nI p16)), (0, .ref (am 0))] := hl
        refine lv_iconst (v := nI 0) hx hb d_M_mount_60 (by decide) ?_
        refine lv_istore_n hx hb d_M_mount_61 rfl hl (by decide) rfl (fun ls hl => ?_)
        have hl : lv_has ls 6 [(3, .int (nI 0)), (2, .int (nI 1)), (1, .int (nI p16)), (0, .ref (am 0))] := hl
        have lp62 : ∀ (n : Nat) (k : Nat) (gv : Int32) (gv_ : Nat → Int32) (lv : Nat → Int32) (hv_ : Nat → Int32) (rv : Nat) (H : Heap) (locs : List Loc) (ls : Array Slot), (16 - k) < n → (k ≤ 16) → (rv ≤ 3 * k) → (∀ i, i < k → lv i ≠ -1) → (∀ i, i < 16 → PG 32 (lv i)) → lv_has ls 6 [(0, .ref (am 0)), (2, .int gv), (3, .int (nI k))] → va_P (dC, dI) vwCl (mw_ am cm (nI 0) mw mwr mfl mact (nI 1) (u6.2.1 5) (nI rv) gv_ lv hv_ (mw ((16 * p16) + 1)) (nI (p16 / 4)) (u6.2.1 2) (u6.2.1 3) (u6.2.1 4) pg pla sou fou) H → va_D (xA 9 am s.heap.size) (mw_ am cm (nI 0) mw mwr mfl mact (nI 1) (u6.2.1 5) (nI rv) gv_ lv hv_ (mw ((16 * p16) + 1)) (nI (p16 / 4)) (u6.2.1 2) (u6.2.1 3) (u6.2.1 4) pg pla sou fou) → va_S (xA 9 am s.heap.size) s.heap H locs → W P l e (headSpec w_M_mount ({ frames := 4, cells := 0, slots := 0, locals := 92 })).room s m (([.ref (am 0)] : List Value).toArray) below meth c0 H locs 0 0 (MQ below (va_Qi (fun r (u : (Nat → Nat → Int32) × (Nat → Int32) × (Nat → Nat)) => MI (u.2.2 0) (u.1 0) (u.2.1 1)) (fun (u : (Nat → Nat → Int32) × (Nat → Int32) × (Nat → Nat)) (t : State) => xB (dC, dI) vwCl (mt cm) (xA 9 am s.heap.size) (mw_ am cm (u.2.1 7) mw mwr mfl mact (u.2.1 6) (u.2.1 5) (nI (u.2.2 0)) (u.1 1) (u.1 0) (u.1 2) (u.2.1 0) (u.2.1 1) (u.2.1 2) (u.2.1 3) (u.2.1 4) pg pla sou fou) t) (xA 9 am s.heap.size)) (([.ref (am 0)] : List Value).toArray) s 0 0 (xA 9 am s.heap.size)) (F0 m 62 ls []) := by
          intro n
          induction n with
          | zero => intro k gv gv_ lv hv_ rv H locs ls hm; intros; omega
          | succ n ih62 =>
            intro k gv gv_ lv hv_ rv H locs ls hm hk hrk hlk hlp hl hP hD hS
            refine lv_iload_n hx hb d_M_mount_62 rfl (lv_at hl 2 rfl) ?_
            refine lv_bipush (v := nI 16) hx hb d_M_mount_63 (by decide) ?_
            refine lv_icmp_ge (tgt := 199) hx hb d_M_mount_65 (by decide) (fun c65 => ?_) (fun c65 => ?_)
            ·
              have c65 := cd_ge_t (by omega) (by omega) c65
              refine lv_aload_n hx hb d_M_mount_199 rfl (lv_at hl 0 rfl) ?_
              refine vp_callSi (va_runV (C := R_M) (As := []) (rest := []) ⟨hx, hb, hml, hown, hts⟩ (c_M_tickets l dC dI am cm (nI 0) mw mwr mfl mact (nI 1) (u6.2.1 5) (nI rv) gv_ lv hv_ (mw ((16 * p16) + 1)) (nI (p16 / 4)) (u6.2.1 2) (u6.2.1 3) (u6.2.1 4) pg pla sou fou rv (by omega)) (cwV 0 hts (g_V t_865 t_867 s_39 t_6 t_868) rfl rfl rfl (by decide +kernel) ⟨by decide, by decide⟩) (xR_v hP hK hN 0 rfl rfl) rfl rfl hl.1 rfl (lv_room (Nat.le_of_ble_eq_true rfl)) d_M_mount_200 ⟨Nat.le_refl _, Nat.le_refl _⟩).run (fun r200 q200 => ?_)
              have q200 := q200.symm
              subst q200
              have hnv200 := nv_le gv_ rv
              exact W.iret (v := nI (nv gv_ rv)) hx hb hr (fun t ht hW => ⟨⟨nI (nv gv_ rv), (fun i => [lv, gv_, hv_].getD i (fun _ => 0), fun i => [mw ((16 * p16) + 1), nI (p16 / 4), u6.2.1 2, u6.2.1 3, u6.2.1 4, u6.2.1 5, nI 1, nI 0].getD i 0, fun i => [rv].getD i 0), rfl, MI.mk (rn := rv) (lv := lv) (c := nI (p16 / 4)) (by omega) hlp (by first | exact PG.m1 | exact PG.of (by omega)) (fun i hi h3 => hlk i (by omega)), ⟨by rw [ht]; exact hP, va_K.moved hW.alike hK, hD⟩⟩, hS.F ht⟩) hS.2.2 d_M_mount_203
            ·
              have c65 := cd_ge_f (by omega) (by omega) c65
              refine lv_iload_n hx hb d_M_mount_68 rfl (lv_at hl 1 rfl) ?_
              refine lv_if_eq (tgt := 199) hx hb d_M_mount_69 (by decide) (fun c69 => ?_) (fun c69 => ?_)
              ·
                refine lv_aload_n hx hb d_M_mount_199 rfl (lv_at hl 0 rfl) ?_
                refine vp_callSi (va_runV (C := R_M) (As := []) (rest := []) ⟨hx, hb, hml, hown, hts⟩ (c_M_tickets l dC dI am cm (nI 0) mw mwr mfl mact (nI 1) (u6.2.1 5) (nI rv) gv_ lv hv_ (mw ((16 * p16) + 1)) (nI (p16 / 4)) (u6.2.1 2) (u6.2.1 3) (u6.2.1 4) pg pla sou fou rv (by omega)) (cwV 0 hts (g_V t_865 t_867 s_39 t_6 t_868) rfl rfl rfl (by decide +kernel) ⟨by decide, by decide⟩) (xR_v hP hK hN 0 rfl rfl) rfl rfl hl.1 rfl (lv_room (Nat.le_of_ble_eq_true rfl)) d_M_mount_200 ⟨Nat.le_refl _, Nat.le_refl _⟩).run (fun r200 q200 => ?_)
                have q200 := q200.symm
                subst q200
                have hnv200 := nv_le gv_ rv
                exact W.iret (v := nI (nv gv_ rv)) hx hb hr (fun t ht hW => ⟨⟨nI (nv gv_ rv), (fun i => [lv, gv_, hv_].getD i (fun _ => 0), fun i => [mw ((16 * p16) + 1), nI (p16 / 4), u6.2.1 2, u6.2.1 3, u6.2.1 4, u6.2.1 5, nI 1, nI 0].getD i 0, fun i => [rv].getD i 0), rfl, MI.mk (rn := rv) (lv := lv) (c := nI (p16 / 4)) (by omega) hlp (by first | exact PG.m1 | exact PG.of (by omega)) (fun i hi h3 => hlk i (by omega)), ⟨by rw [ht]; exact hP, va_K.moved hW.alike hK, hD⟩⟩, hS.F ht⟩) hS.2.2 d_M_mount_203
              ·
                refine lv_aload_n hx hb d_M_mount_72 rfl (lv_at hl 0 rfl) ?_
                refine lv_iload_n hx hb d_M_mount_73 rfl (lv_at hl 2 rfl) ?_
                refine vp_callSi (va_runV (C := R_M) (As := [.int (nI k)]) (rest := []) ⟨hx, hb, hml, hown, hts⟩ (c_M_latest l dC dI am cm (nI 0) mw mwr mfl mact (nI 1) (u6.2.1 5) (nI rv) gv_ lv hv_ (mw ((16 * p16) + 1)) (nI (p16 / 4)) (u6.2.1 2) (u6.2.1 3) (u6.2.1 4) pg pla sou fou (nI k) ) (cwV 1 hts (g_V t_966 t_968 s_51 t_6 t_969) rfl rfl rfl (by decide +kernel) ⟨by decide, by decide⟩) (xR_v hP hK hN 0 rfl rfl) rfl rfl hl.1 rfl (lv_room (Nat.le_of_ble_eq_true rfl)) d_M_mount_74 ⟨Nat.le_refl _, Nat.le_refl _⟩).run (fun r74 q74 => ?_)
                rcases q74 with rfl | ⟨p74, hp74, rfl, hrt74⟩
                ·
                  refine lv_istore hx hb d_M_mount_77 hl (by decide) rfl (fun ls hl => ?_)
                  have hl : lv_has ls 6 [(4, .int (-1)), (0, .ref (am 0)), (2, .int gv), (3, .int (nI k))] := hl
                  refine lv_iload hx hb d_M_mount_79 (lv_at hl 0 rfl) ?_
                  refine lv_if_ge (tgt := 87) hx hb d_M_mount_81 (by decide) (fun c81 => ?_) (fun c81 => ?_)
                  ·
                    exact absurd c81 (by decide)
                  ·
                    refine lv_goto (tgt := 199) hx hb d_M_mount_84 (by decide) ?_
                    refine lv_aload_n hx hb d_M_mount_199 rfl (lv_at hl 1 rfl) ?_
                    refine vp_callSi (va_runV (C := R_M) (As := []) (rest := []) ⟨hx, hb, hml, hown, hts⟩ (c_M_tickets l dC dI am cm (nI 0) mw mwr mfl mact (nI 1) (u6.2.1 5) (nI rv) gv_ lv hv_ (mw ((16 * p16) + 1)) (nI (p16 / 4)) (u6.2.1 2) (u6.2.1 3) (u6.2.1 4) pg pla sou fou rv (by omega)) (cwV 0 hts (g_V t_865 t_867 s_39 t_6 t_868) rfl rfl rfl (by decide +kernel) ⟨by decide, by decide⟩) (xR_v hP hK hN 0 rfl rfl) rfl rfl hl.1 rfl (lv_room (Nat.le_of_ble_eq_true rfl)) d_M_mount_200 ⟨Nat.le_refl _, Nat.le_refl _⟩).run (fun r200 q200 => ?_)
                    have q200 := q200.symm
                    subst q200
                    have hnv200 := nv_le gv_ rv
                    exact W.iret (v := nI (nv gv_ rv)) hx hb hr (fun t ht hW => ⟨⟨nI (nv gv_ rv), (fun i => [lv, gv_, hv_].getD i (fun _ => 0), fun i => [mw ((16 * p16) + 1), nI (p16 / 4), u6.2.1 2, u6.2.1 3, u6.2.1 4, u6.2.1 5, nI 1, nI 0].getD i 0, fun i => [rv].getD i 0), rfl, MI.mk (rn := rv) (lv := lv) (c := nI (p16 / 4)) (by omega) hlp (by first | exact PG.m1 | exact PG.of (by omega)) (fun i hi h3 => hlk i (by omega)), ⟨by rw [ht]; exact hP, va_K.moved hW.alike hK, hD⟩⟩, hS.F ht⟩) hS.2.2 d_M_mount_203
                ·
                  refine lv_istore hx hb d_M_mount_77 hl (by decide) rfl (fun ls hl => ?_)
                  have hl : lv_has ls 6 [(4, .int (nI p74)), (0, .ref (am 0)), (2, .int gv), (3, .int (nI k))] := hl
                  refine lv_iload hx hb d_M_mount_79 (lv_at hl 0 rfl) ?_
                  refine lv_if_ge (tgt := 87) hx hb d_M_mount_81 (by decide) (fun c81 => ?_) (fun c81 => ?_)
                  ·
                    have c81 := cz_ge_t (by omega) c81
                    refine lv_aload_n hx hb d_M_mount_87 rfl (lv_at hl 1 rfl) ?_
                    refine va_get (D := (dC, dI)) (ci := 5) (v := .ref (am 6)) (C := R_M) (T := F_M) (N := 20) hx hb hts (fun w h => List.mem_cons_of_mem _ (in_M w h)) hown hK hP 0 rfl rfl 9 (by decide) (hts (.fieldLink R_M 34 R_M "live" "[I") (List.mem_cons_of_mem _ t_721)) (fun _ h9 => h9) rfl d_M_mount_88 ?_
                    refine lv_iload_n hx hb d_M_mount_91 rfl (lv_at hl 3 rfl) ?_
                    refine lv_iload hx hb d_M_mount_92 (lv_at hl 0 rfl) ?_
                    refine va_iast hx hb hK hP hD hS 6 5 rfl rfl (vp_in_nI (by omega) (by decide)) d_M_mount_94 (fun H locs hP hD hS => ?_)
                    rw [nI_clamp (by omega)] at hP hD
                    have hP : va_P (dC, dI) vwCl (mw_ am cm (nI 0) mw mwr mfl mact (nI 1) (u6.2.1 5) (nI rv) gv_ (upd lv k (nI p74)) hv_ (mw ((16 * p16) + 1)) (nI (p16 / 4)) (u6.2.1 2) (u6.2.1 3) (u6.2.1 4) pg pla sou fou) H := hP
                    have hD : va_D (xA 9 am s.heap.size) (mw_ am cm (nI 0) mw mwr mfl mact (nI 1) (u6.2.1 5) (nI rv) gv_ (upd lv k (nI p74)) hv_ (mw ((16 * p16) + 1)) (nI (p16 / 4)) (u6.2.1 2) (u6.2.1 3) (u6.2.1 4) pg pla sou fou) := hD
                    refine lv_aload_n hx hb d_M_mount_95 rfl (lv_at hl 1 rfl) ?_
                    refine va_get (D := (dC, dI)) (ci := 5) (v := .ref (am 7)) (C := R_M) (T := F_M) (N := 20) hx hb hts (fun w h => List.mem_cons_of_mem _ (in_M w h)) hown hK hP 0 rfl rfl 10 (by decide) (hts (.fieldLink R_M 37 R_M "had" "[I") (List.mem_cons_of_mem _ t_722)) (fun _ h9 => h9) rfl d_M_mount_96 ?_
                    refine lv_iload_n hx hb d_M_mount_99 rfl (lv_at hl 3 rfl) ?_
                    refine lv_aload_n hx hb d_M_mount_100 rfl (lv_at hl 1 rfl) ?_
                    refine va_get (D := (dC, dI)) (ci := 5) (v := .ref (am 1)) (C := R_M) (T := F_M) (N := 20) hx hb hts (fun w h => List.mem_cons_of_mem _ (in_M w h)) hown hK hP 0 rfl rfl 1 (by decide) (hts (.fieldLink R_M 7 R_M "chip" "[I") (List.mem_cons_of_mem _ t_713)) (fun _ h9 => h9) rfl d_M_mount_101 ?_
                    refine lv_bipush (v := nI 16) hx hb d_M_mount_104 (by decide) ?_
                    refine lv_iload hx hb d_M_mount_106 (lv_at hl 0 rfl) ?_
                    refine lv_imul hx hb d_M_mount_108 ?_
                    refine tp_i (y := nI (16 * p74)) (pk_mul _ _) ?_
                    refine va_iald hx hb hK hP 1 0 rfl rfl (vp_in_nI (by omega) (by decide)) d_M_mount_109 ?_
                    refine tp_i (y := mw (16 * p74)) (by rw [nI_clamp (by omega)]) ?_
                    obtain ⟨h, hh, h4, eh⟩ := hrt74
                    refine tp_i (y := nI h) (eh) ?_
                    refine lv_iconst (v := nI 4) hx hb d_M_mount_110 (by decide) ?_
                    refine lv_irem hx hb d_M_mount_111 (by decide) ?_
                    refine tp_i (y := nI (h % 4)) (pk_rem (by omega) (by omega) (by omega)) ?_
                    refine va_iast hx hb hK hP hD hS 7 6 rfl rfl (vp_in_nI (by omega) (by decide)) d_M_mount_112 (fun H locs hP hD hS => ?_)
                    rw [nI_clamp (by omega)] at hP hD
                    have hP : va_P (dC, dI) vwCl (mw_ am cm (nI 0) mw mwr mfl mact (nI 1) (u6.2.1 5) (nI rv) gv_ (upd lv k (nI p74)) (upd hv_ k (nI (h % 4))) (mw ((16 * p16) + 1)) (nI (p16 / 4)) (u6.2.1 2) (u6.2.1 3) (u6.2.1 4) pg pla sou fou) H := hP
                    have hD : va_D (xA 9 am s.heap.size) (mw_ am cm (nI 0) mw mwr mfl mact (nI 1) (u6.2.1 5) (nI rv) gv_ (upd lv k (nI p74)) (upd hv_ k (nI (h % 4))) (mw ((16 * p16) + 1)) (nI (p16 / 4)) (u6.2.1 2) (u6.2.1 3) (u6.2.1 4) pg pla sou fou) := hD
                    refine lv_iconst (v := nI 0) hx hb d_M_mount_113 (by decide) ?_
                    refine lv_istore hx hb d_M_mount_114 hl (by decide) rfl (fun ls hl => ?_)
                    have hl : lv_has ls 6 [(5, .int (nI 0)), (4, .int (nI p74)), (0, .ref (am 0)), (2, .int gv), (3, .int (nI k))] := hl
                    have lp116 : ∀ (n : Nat) (tq : Nat) (gw_ : Nat → Int32) (H : Heap) (locs : List Loc) (ls : Array Slot), (4 * (h % 4) - tq) < n → (tq ≤ 4 * (h % 4)) → lv_has ls 6 [(0, .ref (am 0)), (2, .int gv), (3, .int (nI k)), (4, .int (nI p74)), (5, .int (nI tq))] → va_P (dC, dI) vwCl (mw_ am cm (nI 0) mw mwr mfl mact (nI 1) (u6.2.1 5) (nI rv) gw_ (upd lv k (nI p74)) (upd hv_ k (nI (h % 4))) (mw ((16 * p16) + 1)) (nI (p16 / 4)) (u6.2.1 2) (u6.2.1 3) (u6.2.1 4) pg pla sou fou) H → va_D (xA 9 am s.heap.size) (mw_ am cm (nI 0) mw mwr mfl mact (nI 1) (u6.2.1 5) (nI rv) gw_ (upd lv k (nI p74)) (upd hv_ k (nI (h % 4))) (mw ((16 * p16) + 1)) (nI (p16 / 4)) (u6.2.1 2) (u6.2.1 3) (u6.2.1 4) pg pla sou fou) → va_S (xA 9 am s.heap.size) s.heap H locs → W P l e (headSpec w_M_mount ({ frames := 4, cells := 0, slots := 0, locals := 92 })).room s m (([.ref (am 0)] : List Value).toArray) below meth c0 H locs 0 0 (MQ below (va_Qi (fun r (u : (Nat → Nat → Int32) × (Nat → Int32) × (Nat → Nat)) => MI (u.2.2 0) (u.1 0) (u.2.1 1)) (fun (u : (Nat → Nat → Int32) × (Nat → Int32) × (Nat → Nat)) (t : State) => xB (dC, dI) vwCl (mt cm) (xA 9 am s.heap.size) (mw_ am cm (u.2.1 7) mw mwr mfl mact (u.2.1 6) (u.2.1 5) (nI (u.2.2 0)) (u.1 1) (u.1 0) (u.1 2) (u.2.1 0) (u.2.1 1) (u.2.1 2) (u.2.1 3) (u.2.1 4) pg pla sou fou) t) (xA 9 am s.heap.size)) (([.ref (am 0)] : List Value).toArray) s 0 0 (xA 9 am s.heap.size)) (F0 m 116 ls []) := by
                      intro n
                      induction n with
                      | zero => intro tq gw_ H locs ls hm; intros; omega
                      | succ n ih116 =>
                        intro tq gw_ H locs ls hm ht12 hl hP hD hS
                        refine lv_iload hx hb d_M_mount_116 (lv_at hl 4 rfl) ?_
                        refine lv_iconst (v := nI 4) hx hb d_M_mount_118 (by decide) ?_
                        refine lv_aload_n hx hb d_M_mount_119 rfl (lv_at hl 0 rfl) ?_
                        refine va_get (D := (dC, dI)) (ci := 5) (v := .ref (am 7)) (C := R_M) (T := F_M) (N := 20) hx hb hts (fun w h => List.mem_cons_of_mem _ (in_M w h)) hown hK hP 0 rfl rfl 10 (by decide) (hts (.fieldLink R_M 37 R_M "had" "[I") (List.mem_cons_of_mem _ t_722)) (fun _ h9 => h9) rfl d_M_mount_120 ?_
                        refine lv_iload_n hx hb d_M_mount_123 rfl (lv_at hl 2 rfl) ?_
                        refine va_iald hx hb hK hP 7 6 rfl rfl (vp_in_nI (by omega) (by decide)) d_M_mount_124 ?_
                        refine tp_i (y := (upd hv_ k (nI (h % 4))) k) (by rw [nI_clamp (by omega)]) ?_
                        refine tp_i (y := nI (h % 4)) (pk_us) ?_
                        refine lv_imul hx hb d_M_mount_125 ?_
                        refine tp_i (y := nI (4 * (h % 4))) (pk_mul _ _) ?_
                        refine lv_icmp_ge (tgt := 162) hx hb d_M_mount_126 (by decide) (fun c126 => ?_) (fun c126 => ?_)
                        ·
                          have c126 := cd_ge_t (by omega) (by omega) c126
                          refine lv_aload_n hx hb d_M_mount_162 rfl (lv_at hl 0 rfl) ?_
                          refine lv_dup hx hb d_M_mount_163 rfl ?_
                          refine va_get (D := (dC, dI)) (ci := 5) (v := .int (nI rv)) (C := R_M) (T := F_M) (N := 20) hx hb hts (fun w h => List.mem_cons_of_mem _ (in_M w h)) hown hK hP 0 rfl rfl 7 (by decide) (hts (.fieldLink R_M 52 R_M "records" "I") (List.mem_cons_of_mem _ t_719)) (fun _ h9 => h9) rfl d_M_mount_164 ?_
                          refine lv_aload_n hx hb d_M_mount_167 rfl (lv_at hl 0 rfl) ?_
                          refine va_get (D := (dC, dI)) (ci := 5) (v := .ref (am 7)) (C := R_M) (T := F_M) (N := 20) hx hb hts (fun w h => List.mem_cons_of_mem _ (in_M w h)) hown hK hP 0 rfl rfl 10 (by decide) (hts (.fieldLink R_M 37 R_M "had" "[I") (List.mem_cons_of_mem _ t_722)) (fun _ h9 => h9) rfl d_M_mount_168 ?_
                          refine lv_iload_n hx hb d_M_mount_171 rfl (lv_at hl 2 rfl) ?_
                          refine va_iald hx hb hK hP 7 6 rfl rfl (vp_in_nI (by omega) (by decide)) d_M_mount_172 ?_
                          refine tp_i (y := (upd hv_ k (nI (h % 4))) k) (by rw [nI_clamp (by omega)]) ?_
                          refine tp_i (y := nI (h % 4)) (pk_us) ?_
                          refine lv_iadd hx hb d_M_mount_173 ?_
                          refine tp_i (y := nI (rv + (h % 4))) (nI_add _ _) ?_
                          refine va_put (D := (dC, dI)) (ci := 5) (v := .int (nI (rv + (h % 4)))) (ty := .int) (C := R_M) (T := F_M) (N := 20) hx hb hts (fun w h => List.mem_cons_of_mem _ (in_M w h)) t_M ok_M nm_M hown hK hP hD hS 0 rfl rfl 7 (by decide) (hts (.fieldLink R_M 52 R_M "records" "I") (List.mem_cons_of_mem _ t_719)) (fun _ h9 => h9) rfl (by decide +kernel) rfl rfl (Nat.le_of_ble_eq_true rfl) d_M_mount_174 (fun H locs hP hD hS => ?_)
                          have hP : va_P (dC, dI) vwCl (mw_ am cm (nI 0) mw mwr mfl mact (nI 1) (u6.2.1 5) (nI (rv + (h % 4))) gw_ (upd lv k (nI p74)) (upd hv_ k (nI (h % 4))) (mw ((16 * p16) + 1)) (nI (p16 / 4)) (u6.2.1 2) (u6.2.1 3) (u6.2.1 4) pg pla sou fou) H := hP
                          have hD : va_D (xA 9 am s.heap.size) (mw_ am cm (nI 0) mw mwr mfl mact (nI 1) (u6.2.1 5) (nI (rv + (h % 4))) gw_ (upd lv k (nI p74)) (upd hv_ k (nI (h % 4))) (mw ((16 * p16) + 1)) (nI (p16 / 4)) (u6.2.1 2) (u6.2.1 3) (u6.2.1 4) pg pla sou fou) := hD
                          refine lv_aload_n hx hb d_M_mount_177 rfl (lv_at hl 0 rfl) ?_
                          refine va_get (D := (dC, dI)) (ci := 5) (v := .ref (am 7)) (C := R_M) (T := F_M) (N := 20) hx hb hts (fun w h => List.mem_cons_of_mem _ (in_M w h)) hown hK hP 0 rfl rfl 10 (by decide) (hts (.fieldLink R_M 37 R_M "had" "[I") (List.mem_cons_of_mem _ t_722)) (fun _ h9 => h9) rfl d_M_mount_178 ?_
                          refine lv_iload_n hx hb d_M_mount_181 rfl (lv_at hl 2 rfl) ?_
                          refine va_iald hx hb hK hP 7 6 rfl rfl (vp_in_nI (by omega) (by decide)) d_M_mount_182 ?_
                          refine tp_i (y := (upd hv_ k (nI (h % 4))) k) (by rw [nI_clamp (by omega)]) ?_
                          refine tp_i (y := nI (h % 4)) (pk_us) ?_
                          refine lv_iconst (v := nI 3) hx hb d_M_mount_183 (by decide) ?_
                          refine lv_icmp_ne (tgt := 191) hx hb d_M_mount_184 (by decide) (fun c184 => ?_) (fun c184 => ?_)
                          ·
                            have c184 := cd_ne_t (by omega) (by omega) c184
                            refine lv_iconst (v := nI 0) hx hb d_M_mount_191 (by decide) ?_
                            refine lv_istore_n hx hb d_M_mount_192 rfl hl (by decide) rfl (fun ls hl => ?_)
                            have hl : lv_has ls 6 [(2, .int (nI 0)), (0, .ref (am 0)), (3, .int (nI k)), (4, .int (nI p74)), (5, .int (nI tq))] := hl
                            refine lv_iinc (k := 2) (v := nI (k + 1)) hx hb d_M_mount_193 hl rfl (nI_1 _) (by decide) rfl (fun ls hl => ?_)
                            have hl : lv_has ls 6 [(3, .int (nI (k + 1))), (2, .int (nI 0)), (0, .ref (am 0)), (4, .int (nI p74)), (5, .int (nI tq))] := hl
                            refine lv_goto (tgt := 62) hx hb d_M_mount_196 (by decide) ?_
                            exact ih62 (k + 1) (nI 0) gw_ (upd lv k (nI p74)) (upd hv_ k (nI (h % 4))) (rv + (h % 4)) H locs ls (by omega) (by omega) (by omega) (put_nes hlk hp74) (PG_upd hlp (PG.of hp74)) (lv_sub hl [2, 1, 0] rfl) hP hD hS
                          ·
                            have c184 := cd_ne_f (by omega) (by omega) c184
                            refine lv_iconst (v := nI 1) hx hb d_M_mount_187 (by decide) ?_
                            refine lv_goto (tgt := 192) hx hb d_M_mount_188 (by decide) ?_
                            refine lv_istore_n hx hb d_M_mount_192 rfl hl (by decide) rfl (fun ls hl => ?_)
                            have hl : lv_has ls 6 [(2, .int (nI 1)), (0, .ref (am 0)), (3, .int (nI k)), (4, .int (nI p74)), (5, .int (nI tq))] := hl
                            refine lv_iinc (k := 2) (v := nI (k + 1)) hx hb d_M_mount_193 hl rfl (nI_1 _) (by decide) rfl (fun ls hl => ?_)
                            have hl : lv_has ls 6 [(3, .int (nI (k + 1))), (2, .int (nI 1)), (0, .ref (am 0)), (4, .int (nI p74)), (5, .int (nI tq))] := hl
                            refine lv_goto (tgt := 62) hx hb d_M_mount_196 (by decide) ?_
                            exact ih62 (k + 1) (nI 1) gw_ (upd lv k (nI p74)) (upd hv_ k (nI (h % 4))) (rv + (h % 4)) H locs ls (by omega) (by omega) (by omega) (put_nes hlk hp74) (PG_upd hlp (PG.of hp74)) (lv_sub hl [2, 1, 0] rfl) hP hD hS
                        ·
                          have c126 := cd_ge_f (by omega) (by omega) c126
                          refine lv_aload_n hx hb d_M_mount_129 rfl (lv_at hl 0 rfl) ?_
                          refine va_get (D := (dC, dI)) (ci := 5) (v := .ref (am 5)) (C := R_M) (T := F_M) (N := 20) hx hb hts (fun w h => List.mem_cons_of_mem _ (in_M w h)) hown hK hP 0 rfl rfl 8 (by decide) (hts (.fieldLink R_M 31 R_M "log" "[I") (List.mem_cons_of_mem _ t_720)) (fun _ h9 => h9) rfl d_M_mount_130 ?_
                          refine lv_bipush (v := nI 12) hx hb d_M_mount_133 (by decide) ?_
                          refine lv_iload_n hx hb d_M_mount_135 rfl (lv_at hl 2 rfl) ?_
                          refine lv_imul hx hb d_M_mount_136 ?_
                          refine tp_i (y := nI (12 * k)) (pk_mul _ _) ?_
                          refine lv_iload hx hb d_M_mount_137 (lv_at hl 4 rfl) ?_
                          refine lv_iadd hx hb d_M_mount_139 ?_
                          refine tp_i (y := nI ((12 * k) + tq)) (nI_add _ _) ?_
                          refine lv_aload_n hx hb d_M_mount_140 rfl (lv_at hl 0 rfl) ?_
                          refine va_get (D := (dC, dI)) (ci := 5) (v := .ref (am 1)) (C := R_M) (T := F_M) (N := 20) hx hb hts (fun w h => List.mem_cons_of_mem _ (in_M w h)) hown hK hP 0 rfl rfl 1 (by decide) (hts (.fieldLink R_M 7 R_M "chip" "[I") (List.mem_cons_of_mem _ t_713)) (fun _ h9 => h9) rfl d_M_mount_141 ?_
                          refine lv_bipush (v := nI 16) hx hb d_M_mount_144 (by decide) ?_
                          refine lv_iload hx hb d_M_mount_146 (lv_at hl 3 rfl) ?_
                          refine lv_imul hx hb d_M_mount_148 ?_
                          refine tp_i (y := nI (16 * p74)) (pk_mul _ _) ?_
                          refine lv_iconst (v := nI 2) hx hb d_M_mount_149 (by decide) ?_
                          refine lv_iadd hx hb d_M_mount_150 ?_
                          refine tp_i (y := nI ((16 * p74) + 2)) (nI_add _ _) ?_
                          refine lv_iload hx hb d_M_mount_151 (lv_at hl 4 rfl) ?_
                          refine lv_iadd hx hb d_M_mount_153 ?_
                          refine tp_i (y := nI (((16 * p74) + 2) + tq)) (nI_add _ _) ?_
                          refine va_iald hx hb hK hP 1 0 rfl rfl (vp_in_nI (by omega) (by decide)) d_M_mount_154 ?_
                          refine tp_i (y := mw (((16 * p74) + 2) + tq)) (by rw [nI_clamp (by omega)]) ?_
                          refine va_iast hx hb hK hP hD hS 5 4 rfl rfl (vp_in_nI (by omega) (by decide)) d_M_mount_155 (fun H locs hP hD hS => ?_)
                          rw [nI_clamp (by omega)] at hP hD
                          have hP : va_P (dC, dI) vwCl (mw_ am cm (nI 0) mw mwr mfl mact (nI 1) (u6.2.1 5) (nI rv) (upd gw_ ((12 * k) + tq) (mw (((16 * p74) + 2) + tq))) (upd lv k (nI p74)) (upd hv_ k (nI (h % 4))) (mw ((16 * p16) + 1)) (nI (p16 / 4)) (u6.2.1 2) (u6.2.1 3) (u6.2.1 4) pg pla sou fou) H := hP
                          have hD : va_D (xA 9 am s.heap.size) (mw_ am cm (nI 0) mw mwr mfl mact (nI 1) (u6.2.1 5) (nI rv) (upd gw_ ((12 * k) + tq) (mw (((16 * p74) + 2) + tq))) (upd lv k (nI p74)) (upd hv_ k (nI (h % 4))) (mw ((16 * p16) + 1)) (nI (p16 / 4)) (u6.2.1 2) (u6.2.1 3) (u6.2.1 4) pg pla sou fou) := hD
                          refine lv_iinc (k := 4) (v := nI (tq + 1)) hx hb d_M_mount_156 hl rfl (nI_1 _) (by decide) rfl (fun ls hl => ?_)
                          have hl : lv_has ls 6 [(5, .int (nI (tq + 1))), (0, .ref (am 0)), (2, .int gv), (3, .int (nI k)), (4, .int (nI p74))] := hl
                          refine lv_goto (tgt := 116) hx hb d_M_mount_159 (by decide) ?_
                          exact ih116 (tq + 1) (upd gw_ ((12 * k) + tq) (mw (((16 * p74) + 2) + tq))) H locs ls (by omega) (by omega) (lv_sub hl [1, 2, 3, 4, 0] rfl) hP hD hS
                    exact lp116 _ 0 gv_ H locs ls (Nat.lt_succ_self _) (by omega) (lv_sub hl [2, 3, 4, 1, 0] rfl) hP hD hS
                  ·
                    exact (cz_ge_f (by omega) c81).elim
        exact lp62 _ 0 (nI 1) mlog (u6.1 0) had (u6.2.2 0) H locs ls (Nat.lt_succ_self _) (by omega) (by omega) (fun i hi => absurd hi (Nat.not_lt_zero i)) (fun i hi => Or.inl (hl0 i hi)) (lv_sub hl [3, 1, 0] rfl) hP hD hS
      ·
        exact (cz_ge_f (by omega) c45).elim
    ·
      exact (cz_ge_f (by omega) c22).elim
set_option maxHeartbeats 4000000 in
set_option maxRecDepth 100000 in
theorem c_M_wearOf (l : Launch) (dC : Nat → ClassId) (dI : Nat → Nat → Nat) (am cm : Nat → Nat) (sz : Nat) (th : Int32) (mw mwr mfl mact : Nat → Int32) (on cut mrec : Int32) (mlog mlive had : Nat → Int32) (mser mcur mrd mwt worn : Int32) (pg : Nat → Int32) (pla sou fou : Int32) (b : Int32) : Met l y_M_wearOf w_M_wearOf ({ frames := 1, cells := 0, slots := 0, locals := 22 }) (xP (dC, dI) vwCl (mt cm) (mw_ am cm th mw mwr mfl mact on cut mrec mlog mlive had mser mcur mrd mwt worn pg pla sou fou) sz [.ref (am 0), .int b]) (va_Qi (fun r (u : (Nat → Nat → Int32) × (Nat → Int32) × (Nat → Nat)) => True) (fun (u : (Nat → Nat → Int32) × (Nat → Int32) × (Nat → Nat)) (t : State) => xB (dC, dI) vwCl (mt cm) (xA 9 am sz) (mw_ am cm (u.2.1 0) mw mwr mfl mact on cut mrec mlog mlive had mser mcur mrd mwt worn pg pla sou fou) t) (xA 9 am sz)) 0 0 (xA 9 am sz) := by
  refine Met.ofW (cc := b_M_wearOf) (maxL := 2) (ret := (some (.int))) (by decide) rfl ?_
  intro P e s m args below meth c0 s₁ B hml hv
  obtain ⟨rfl, hsz, hP, hK, hD0, hN⟩ := hv
  have hx := B.exec
  have hb := B.bytes
  have hr := B.returns
  have hts := atoms_spec (ws := w_M_wearOf) B.pre
  have hown : s.vm.findClass R_M = some m.cls := findClass_of_methodNamed B.named
  have hlocks := B.notSynchronized
  subst hsz
  have hD := mw_D (sz := s.heap.size) hD0
  have hS : va_S (xA 9 am s.heap.size) s.heap s.heap [] := va_S.rf
  have hA : ∀ q : Nat, s.heap.size ≤ q → (xA 9 am s.heap.size) q := fun q h => Or.inr h
  have hl := lv_entry ([.ref (am 0), .int b]) (n := 2) (Nat.le_of_ble_eq_true rfl)
  rw [lg_entry_eq]
  generalize (lg_sl ([.ref (am 0), .int b]) ++ List.replicate (2 - (lg_sl ([.ref (am 0), .int b])).length) Slot.unset).toArray = ls at hl ⊢
  have hl : lv_has ls 2 [(0, .ref (am 0)), (1, .int b)] := hl
  refine lv_aload_n hx hb d_M_wearOf_0 rfl (lv_at hl 0 rfl) ?_
  refine lv_iconst (v := nI 1) hx hb d_M_wearOf_1 (by decide) ?_
  refine lv_iload_n hx hb d_M_wearOf_2 rfl (lv_at hl 1 rfl) ?_
  refine lv_iconst (v := nI 0) hx hb d_M_wearOf_3 (by decide) ?_
  refine lv_bipush (v := nI 7) hx hb d_M_wearOf_4 (by decide) ?_
  refine vp_callSi (va_runS (As := [.int b, .int (nI 0), .int (nI 7)]) (rest := [.int (nI 1), .ref (am 0)]) ⟨hx, hb, hml, hown, hts⟩ (c_M_isIn l dC dI b (nI 0) (nI 7) ) (cwS 3 hts (g_S t_781 t_782 t_6 t_783) rfl rfl rfl (by decide +kernel) ⟨by decide, by decide⟩) (xR_s (va_P.sub hP [] rfl) (hK.sub [] rfl) hN) rfl rfl hl.1 rfl (lv_room (Nat.le_of_ble_eq_true rfl)) d_M_wearOf_6 ⟨Nat.le_refl _, Nat.le_refl _⟩).run (fun r6 q6 => ?_)
  rcases q6 with ⟨rfl, hin6⟩ | ⟨rfl, hin6⟩
  ·
    refine lv_if_ne (tgt := 16) hx hb d_M_wearOf_9 (by decide) (fun c9 => ?_) (fun c9 => ?_)
    ·
      refine lv_iconst (v := nI 0) hx hb d_M_wearOf_16 (by decide) ?_
      have hSz := hS.1
      refine va_calli (va_runV (C := R_M) (As := [.int (nI 1), .int (nI 0)]) (rest := []) ⟨hx, hb, hml, hown, hts⟩ (c_M_fails_0 l dC dI am cm s.heap.size th mw mwr mfl mact on cut mrec mlog mlive had mser mcur mrd mwt worn pg pla sou fou (nI 1) ) (cwV 2 hts (g_V t_784 t_786 s_22 t_6 t_787) rfl rfl rfl (by decide +kernel) ⟨by decide, by decide⟩) (xP_v hP hK hD hN 0 rfl rfl) rfl rfl hl.1 rfl (lv_room (Nat.le_of_ble_eq_true rfl)) d_M_wearOf_17 ⟨Nat.le_refl _, Nat.le_refl _⟩) hS (fun q _ h => xA_up hS.1 q h) (fun q h => xA_up hS.1 q h) (fun r17 u17 t H1 locs1 ht hvm q17 hB hz1 hk1 hS => ?_)
      obtain ⟨hP1, hK1, hD1⟩ := hB
      rw [ht] at hP1
      have hD : va_D (xA 9 am s.heap.size) (mw_ am cm (nI 0) mw mwr mfl mact on cut mrec mlog mlive had mser mcur mrd mwt worn pg pla sou fou) := hD1.weaken (fun _ q _ h => xA_up hSz _ h)
      have hP : va_P (dC, dI) vwCl (mw_ am cm (nI 0) mw mwr mfl mact on cut mrec mlog mlive had mser mcur mrd mwt worn pg pla sou fou) H1 := hP1
      generalize H1 = H at hP hS ⊢
      generalize locs1 = locs at hS ⊢
      have q17 := q17.symm
      subst q17
      refine lv_if_eq (tgt := 27) hx hb d_M_wearOf_20 (by decide) (fun c20 => ?_) (fun c20 => ?_)
      ·
        obtain ⟨j, hj, rfl⟩ := in_nt (n := 7) (id hin6)
        refine lv_aload_n hx hb d_M_wearOf_27 rfl (lv_at hl 0 rfl) ?_
        refine va_get (D := (dC, dI)) (ci := 5) (v := .ref (am 2)) (C := R_M) (T := F_M) (N := 20) hx hb hts (fun w h => List.mem_cons_of_mem _ (in_M w h)) hown hK hP 0 rfl rfl 2 (by decide) (hts (.fieldLink R_M 13 R_M "wear" "[I") (List.mem_cons_of_mem _ t_714)) (fun _ h9 => h9) rfl d_M_wearOf_28 ?_
        refine lv_iload_n hx hb d_M_wearOf_31 rfl (lv_at hl 1 rfl) ?_
        refine va_iald hx hb hK hP 2 1 rfl rfl (vp_in_nI (by omega) (by decide)) d_M_wearOf_32 ?_
        refine tp_i (y := mwr j) (by rw [nI_clamp (by omega)]) ?_
        exact W.iret (v := mwr j) hx hb hr (fun t ht hW => ⟨⟨mwr j, (fun i => [].getD i (fun _ => 0), fun i => [nI 0].getD i 0, fun i => [].getD i 0), rfl, by first | rfl | trivial | omega, ⟨by rw [ht]; exact hP, va_K.moved hW.alike hK, hD⟩⟩, hS.F ht⟩) hS.2.2 d_M_wearOf_33
      ·
        exact absurd c20 (by decide)
    ·
      exact absurd c9 (by decide)
  ·
    refine lv_if_ne (tgt := 16) hx hb d_M_wearOf_9 (by decide) (fun c9 => ?_) (fun c9 => ?_)
    ·
      exact absurd c9 (by decide)
    ·
      refine lv_iconst (v := nI 1) hx hb d_M_wearOf_12 (by decide) ?_
      refine lv_goto (tgt := 17) hx hb d_M_wearOf_13 (by decide) ?_
      have hSz := hS.1
      refine va_calli (va_runV (C := R_M) (As := [.int (nI 1), .int (nI 1)]) (rest := []) ⟨hx, hb, hml, hown, hts⟩ (c_M_fails_1 l dC dI am cm s.heap.size th mw mwr mfl mact on cut mrec mlog mlive had mser mcur mrd mwt worn pg pla sou fou (nI 1) ) (cwV 2 hts (g_V t_784 t_786 s_22 t_6 t_787) rfl rfl rfl (by decide +kernel) ⟨by decide, by decide⟩) (xP_v hP hK hD hN 0 rfl rfl) rfl rfl hl.1 rfl (lv_room (Nat.le_of_ble_eq_true rfl)) d_M_wearOf_17 ⟨Nat.le_refl _, Nat.le_refl _⟩) hS (fun q _ h => xA_up hS.1 q h) (fun q h => xA_up hS.1 q h) (fun r17 u17 t H1 locs1 ht hvm q17 hB hz1 hk1 hS => ?_)
      obtain ⟨hP1, hK1, hD1⟩ := hB
      rw [ht] at hP1
      have hD : va_D (xA 9 am s.heap.size) (mw_ am cm (nI 1) mw mwr mfl mact on cut mrec mlog mlive had mser mcur mrd mwt worn pg pla sou fou) := hD1.weaken (fun _ q _ h => xA_up hSz _ h)
      have hP : va_P (dC, dI) vwCl (mw_ am cm (nI 1) mw mwr mfl mact on cut mrec mlog mlive had mser mcur mrd mwt worn pg pla sou fou) H1 := hP1
      generalize H1 = H at hP hS ⊢
      generalize locs1 = locs at hS ⊢
      have q17 := q17.symm
      subst q17
      refine lv_if_eq (tgt := 27) hx hb d_M_wearOf_20 (by decide) (fun c20 => ?_) (fun c20 => ?_)
      ·
        exact absurd c20 (by decide)
      ·
        refine lv_iconst (v := nI 0) hx hb d_M_wearOf_23 (by decide) ?_
        refine lv_goto (tgt := 33) hx hb d_M_wearOf_24 (by decide) ?_
        exact W.iret (v := nI 0) hx hb hr (fun t ht hW => ⟨⟨nI 0, (fun i => [].getD i (fun _ => 0), fun i => [nI 1].getD i 0, fun i => [].getD i 0), rfl, by first | rfl | trivial | omega, ⟨by rw [ht]; exact hP, va_K.moved hW.alike hK, hD⟩⟩, hS.F ht⟩) hS.2.2 d_M_wearOf_33
set_option maxHeartbeats 4000000 in
set_option maxRecDepth 100000 in
theorem c_M_failBlock (l : Launch) (dC : Nat → ClassId) (dI : Nat → Nat → Nat) (am cm : Nat → Nat) (sz : Nat) (th : Int32) (mw mwr mfl mact : Nat → Int32) (on cut mrec : Int32) (mlog mlive had : Nat → Int32) (mser mcur mrd mwt worn : Int32) (pg : Nat → Int32) (pla sou fou : Int32) (b : Int32) : Met l y_M_failBlock w_M_failBlock ({ frames := 1, cells := 0, slots := 0, locals := 22 }) (xP (dC, dI) vwCl (mt cm) (mw_ am cm th mw mwr mfl mact on cut mrec mlog mlive had mser mcur mrd mwt worn pg pla sou fou) sz [.ref (am 0), .int b]) (va_Qv (fun (u : (Nat → Nat → Int32) × (Nat → Int32) × (Nat → Nat)) => ((u.2.1 0) = nI 0 ∧ (nI 0 ≤ b ∧ b ≤ nI 7)) ∨ ((u.2.1 0) = nI 1 ∧ ¬ (nI 0 ≤ b ∧ b ≤ nI 7))) (fun (u : (Nat → Nat → Int32) × (Nat → Int32) × (Nat → Nat)) (t : State) => xB (dC, dI) vwCl (mt cm) (xA 9 am sz) (mw_ am cm (u.2.1 0) mw mwr (u.1 0) mact on cut mrec mlog mlive had mser mcur mrd mwt worn pg pla sou fou) t) (xA 9 am sz)) 0 0 (xA 9 am sz) := by
  refine Met.ofW (cc := b_M_failBlock) (maxL := 2) (ret := none) (by decide) rfl ?_
  intro P e s m args below meth c0 s₁ B hml hv
  obtain ⟨rfl, hsz, hP, hK, hD0, hN⟩ := hv
  have hx := B.exec
  have hb := B.bytes
  have hr := B.returns
  have hts := atoms_spec (ws := w_M_failBlock) B.pre
  have hown : s.vm.findClass R_M = some m.cls := findClass_of_methodNamed B.named
  have hlocks := B.notSynchronized
  subst hsz
  have hD := mw_D (sz := s.heap.size) hD0
  have hS : va_S (xA 9 am s.heap.size) s.heap s.heap [] := va_S.rf
  have hA : ∀ q : Nat, s.heap.size ≤ q → (xA 9 am s.heap.size) q := fun q h => Or.inr h
  have hl := lv_entry ([.ref (am 0), .int b]) (n := 2) (Nat.le_of_ble_eq_true rfl)
  rw [lg_entry_eq]
  generalize (lg_sl ([.ref (am 0), .int b]) ++ List.replicate (2 - (lg_sl ([.ref (am 0), .int b])).length) Slot.unset).toArray = ls at hl ⊢
  have hl : lv_has ls 2 [(0, .ref (am 0)), (1, .int b)] := hl
  refine lv_aload_n hx hb d_M_failBlock_0 rfl (lv_at hl 0 rfl) ?_
  refine lv_iconst (v := nI 1) hx hb d_M_failBlock_1 (by decide) ?_
  refine lv_iload_n hx hb d_M_failBlock_2 rfl (lv_at hl 1 rfl) ?_
  refine lv_iconst (v := nI 0) hx hb d_M_failBlock_3 (by decide) ?_
  refine lv_bipush (v := nI 7) hx hb d_M_failBlock_4 (by decide) ?_
  refine vp_callSi (va_runS (As := [.int b, .int (nI 0), .int (nI 7)]) (rest := [.int (nI 1), .ref (am 0)]) ⟨hx, hb, hml, hown, hts⟩ (c_M_isIn l dC dI b (nI 0) (nI 7) ) (cwS 3 hts (g_S t_781 t_782 t_6 t_783) rfl rfl rfl (by decide +kernel) ⟨by decide, by decide⟩) (xR_s (va_P.sub hP [] rfl) (hK.sub [] rfl) hN) rfl rfl hl.1 rfl (lv_room (Nat.le_of_ble_eq_true rfl)) d_M_failBlock_6 ⟨Nat.le_refl _, Nat.le_refl _⟩).run (fun r6 q6 => ?_)
  rcases q6 with ⟨rfl, hin6⟩ | ⟨rfl, hin6⟩
  ·
    refine lv_if_ne (tgt := 16) hx hb d_M_failBlock_9 (by decide) (fun c9 => ?_) (fun c9 => ?_)
    ·
      refine lv_iconst (v := nI 0) hx hb d_M_failBlock_16 (by decide) ?_
      have hSz := hS.1
      refine va_calli (va_runV (C := R_M) (As := [.int (nI 1), .int (nI 0)]) (rest := []) ⟨hx, hb, hml, hown, hts⟩ (c_M_fails_0 l dC dI am cm s.heap.size th mw mwr mfl mact on cut mrec mlog mlive had mser mcur mrd mwt worn pg pla sou fou (nI 1) ) (cwV 2 hts (g_V t_784 t_786 s_22 t_6 t_787) rfl rfl rfl (by decide +kernel) ⟨by decide, by decide⟩) (xP_v hP hK hD hN 0 rfl rfl) rfl rfl hl.1 rfl (lv_room (Nat.le_of_ble_eq_true rfl)) d_M_failBlock_17 ⟨Nat.le_refl _, Nat.le_refl _⟩) hS (fun q _ h => xA_up hS.1 q h) (fun q h => xA_up hS.1 q h) (fun r17 u17 t H1 locs1 ht hvm q17 hB hz1 hk1 hS => ?_)
      obtain ⟨hP1, hK1, hD1⟩ := hB
      rw [ht] at hP1
      have hD : va_D (xA 9 am s.heap.size) (mw_ am cm (nI 0) mw mwr mfl mact on cut mrec mlog mlive had mser mcur mrd mwt worn pg pla sou fou) := hD1.weaken (fun _ q _ h => xA_up hSz _ h)
      have hP : va_P (dC, dI) vwCl (mw_ am cm (nI 0) mw mwr mfl mact on cut mrec mlog mlive had mser mcur mrd mwt worn pg pla sou fou) H1 := hP1
      generalize H1 = H at hP hS ⊢
      generalize locs1 = locs at hS ⊢
      have q17 := q17.symm
      subst q17
      refine lv_if_ne (tgt := 30) hx hb d_M_failBlock_20 (by decide) (fun c20 => ?_) (fun c20 => ?_)
      ·
        exact absurd c20 (by decide)
      ·
        obtain ⟨j, hj, rfl⟩ := in_nt (n := 7) (id hin6)
        refine lv_aload_n hx hb d_M_failBlock_23 rfl (lv_at hl 0 rfl) ?_
        refine va_get (D := (dC, dI)) (ci := 5) (v := .ref (am 3)) (C := R_M) (T := F_M) (N := 20) hx hb hts (fun w h => List.mem_cons_of_mem _ (in_M w h)) hown hK hP 0 rfl rfl 3 (by decide) (hts (.fieldLink R_M 16 R_M "failed" "[Z") (List.mem_cons_of_mem _ t_715)) (fun _ h9 => h9) rfl d_M_failBlock_24 ?_
        refine lv_iload_n hx hb d_M_failBlock_27 rfl (lv_at hl 1 rfl) ?_
        refine lv_iconst (v := nI 1) hx hb d_M_failBlock_28 (by decide) ?_
        refine va_zast hx hb hK hP hD hS 3 2 rfl rfl (vp_in_nI (by omega) (by decide)) d_M_failBlock_29 (fun H locs hP hD hS => ?_)
        rw [nI_clamp (by omega)] at hP hD
        have hP : va_P (dC, dI) vwCl (mw_ am cm (nI 0) mw mwr (upd mfl j (vp_nar .boolean (nI 1))) mact on cut mrec mlog mlive had mser mcur mrd mwt worn pg pla sou fou) H := hP
        have hD : va_D (xA 9 am s.heap.size) (mw_ am cm (nI 0) mw mwr (upd mfl j (vp_nar .boolean (nI 1))) mact on cut mrec mlog mlive had mser mcur mrd mwt worn pg pla sou fou) := hD
        exact W.vret hx hb hr (fun t ht hW => ⟨⟨(fun i => [upd mfl j (vp_nar .boolean (nI 1))].getD i (fun _ => 0), fun i => [nI 0].getD i 0, fun i => [].getD i 0), rfl, by first | exact Or.inl ⟨rfl, hin6⟩ | exact Or.inr ⟨rfl, hin6⟩, ⟨by rw [ht]; exact hP, va_K.moved hW.alike hK, hD⟩⟩, hS.F ht⟩) hS.2.2 d_M_failBlock_30
    ·
      exact absurd c9 (by decide)
  ·
    refine lv_if_ne (tgt := 16) hx hb d_M_failBlock_9 (by decide) (fun c9 => ?_) (fun c9 => ?_)
    ·
      exact absurd c9 (by decide)
    ·
      refine lv_iconst (v := nI 1) hx hb d_M_failBlock_12 (by decide) ?_
      refine lv_goto (tgt := 17) hx hb d_M_failBlock_13 (by decide) ?_
      have hSz := hS.1
      refine va_calli (va_runV (C := R_M) (As := [.int (nI 1), .int (nI 1)]) (rest := []) ⟨hx, hb, hml, hown, hts⟩ (c_M_fails_1 l dC dI am cm s.heap.size th mw mwr mfl mact on cut mrec mlog mlive had mser mcur mrd mwt worn pg pla sou fou (nI 1) ) (cwV 2 hts (g_V t_784 t_786 s_22 t_6 t_787) rfl rfl rfl (by decide +kernel) ⟨by decide, by decide⟩) (xP_v hP hK hD hN 0 rfl rfl) rfl rfl hl.1 rfl (lv_room (Nat.le_of_ble_eq_true rfl)) d_M_failBlock_17 ⟨Nat.le_refl _, Nat.le_refl _⟩) hS (fun q _ h => xA_up hS.1 q h) (fun q h => xA_up hS.1 q h) (fun r17 u17 t H1 locs1 ht hvm q17 hB hz1 hk1 hS => ?_)
      obtain ⟨hP1, hK1, hD1⟩ := hB
      rw [ht] at hP1
      have hD : va_D (xA 9 am s.heap.size) (mw_ am cm (nI 1) mw mwr mfl mact on cut mrec mlog mlive had mser mcur mrd mwt worn pg pla sou fou) := hD1.weaken (fun _ q _ h => xA_up hSz _ h)
      have hP : va_P (dC, dI) vwCl (mw_ am cm (nI 1) mw mwr mfl mact on cut mrec mlog mlive had mser mcur mrd mwt worn pg pla sou fou) H1 := hP1
      generalize H1 = H at hP hS ⊢
      generalize locs1 = locs at hS ⊢
      have q17 := q17.symm
      subst q17
      refine lv_if_ne (tgt := 30) hx hb d_M_failBlock_20 (by decide) (fun c20 => ?_) (fun c20 => ?_)
      ·
        exact W.vret hx hb hr (fun t ht hW => ⟨⟨(fun i => [mfl].getD i (fun _ => 0), fun i => [nI 1].getD i 0, fun i => [].getD i 0), rfl, by first | exact Or.inl ⟨rfl, hin6⟩ | exact Or.inr ⟨rfl, hin6⟩, ⟨by rw [ht]; exact hP, va_K.moved hW.alike hK, hD⟩⟩, hS.F ht⟩) hS.2.2 d_M_failBlock_30
      ·
        exact absurd c20 (by decide)
set_option maxHeartbeats 4000000 in
set_option maxRecDepth 100000 in
theorem c_M_poke (l : Launch) (dC : Nat → ClassId) (dI : Nat → Nat → Nat) (am cm : Nat → Nat) (sz : Nat) (th : Int32) (mw mwr mfl mact : Nat → Int32) (on cut mrec : Int32) (mlog mlive had : Nat → Int32) (mser mcur mrd mwt worn : Int32) (pg : Nat → Int32) (pla sou fou : Int32) (pa : Int32) (wo_ : Int32) (mask : Int32) : Met l y_M_poke w_M_poke ({ frames := 1, cells := 0, slots := 0, locals := 22 }) (xP (dC, dI) vwCl (mt cm) (mw_ am cm th mw mwr mfl mact on cut mrec mlog mlive had mser mcur mrd mwt worn pg pla sou fou) sz [.ref (am 0), .int pa, .int wo_, .int mask]) (va_Qv (fun (u : (Nat → Nat → Int32) × (Nat → Int32) × (Nat → Nat)) => ((u.2.1 0) = nI 0 ∧ ((nI 0 ≤ pa ∧ pa ≤ nI 31) ∧ (nI 0 ≤ wo_ ∧ wo_ ≤ nI 15))) ∨ ((u.2.1 0) = nI 1 ∧ ¬ ((nI 0 ≤ pa ∧ pa ≤ nI 31) ∧ (nI 0 ≤ wo_ ∧ wo_ ≤ nI 15)))) (fun (u : (Nat → Nat → Int32) × (Nat → Int32) × (Nat → Nat)) (t : State) => xB (dC, dI) vwCl (mt cm) (xA 9 am sz) (mw_ am cm (u.2.1 0) (u.1 0) mwr mfl mact on cut mrec mlog mlive had mser mcur mrd mwt worn pg pla sou fou) t) (xA 9 am sz)) 0 0 (xA 9 am sz) := by
  refine Met.ofW (cc := b_M_poke) (maxL := 4) (ret := none) (by decide) rfl ?_
  intro P e s m args below meth c0 s₁ B hml hv
  obtain ⟨rfl, hsz, hP, hK, hD0, hN⟩ := hv
  have hx := B.exec
  have hb := B.bytes
  have hr := B.returns
  have hts := atoms_spec (ws := w_M_poke) B.pre
  have hown : s.vm.findClass R_M = some m.cls := findClass_of_methodNamed B.named
  have hlocks := B.notSynchronized
  subst hsz
  have hD := mw_D (sz := s.heap.size) hD0
  have hS : va_S (xA 9 am s.heap.size) s.heap s.heap [] := va_S.rf
  have hA : ∀ q : Nat, s.heap.size ≤ q → (xA 9 am s.heap.size) q := fun q h => Or.inr h
  have hl := lv_entry ([.ref (am 0), .int pa, .int wo_, .int mask]) (n := 4) (Nat.le_of_ble_eq_true rfl)
  rw [lg_entry_eq]
  generalize (lg_sl ([.ref (am 0), .int pa, .int wo_, .int mask]) ++ List.replicate (4 - (lg_sl ([.ref (am 0), .int pa, .int wo_, .int mask])).length) Slot.unset).toArray = ls at hl ⊢
  have hl : lv_has ls 4 [(0, .ref (am 0)), (1, .int pa), (2, .int wo_), (3, .int mask)] := hl
  refine lv_aload_n hx hb d_M_poke_0 rfl (lv_at hl 0 rfl) ?_
  refine lv_iconst (v := nI 1) hx hb d_M_poke_1 (by decide) ?_
  refine lv_iload_n hx hb d_M_poke_2 rfl (lv_at hl 1 rfl) ?_
  refine lv_iconst (v := nI 0) hx hb d_M_poke_3 (by decide) ?_
  refine lv_bipush (v := nI 31) hx hb d_M_poke_4 (by decide) ?_
  refine vp_callSi (va_runS (As := [.int pa, .int (nI 0), .int (nI 31)]) (rest := [.int (nI 1), .ref (am 0)]) ⟨hx, hb, hml, hown, hts⟩ (c_M_isIn l dC dI pa (nI 0) (nI 31) ) (cwS 3 hts (g_S t_781 t_782 t_6 t_783) rfl rfl rfl (by decide +kernel) ⟨by decide, by decide⟩) (xR_s (va_P.sub hP [] rfl) (hK.sub [] rfl) hN) rfl rfl hl.1 rfl (lv_room (Nat.le_of_ble_eq_true rfl)) d_M_poke_6 ⟨Nat.le_refl _, Nat.le_refl _⟩).run (fun r6 q6 => ?_)
  rcases q6 with ⟨rfl, hin6⟩ | ⟨rfl, hin6⟩
  ·
    refine lv_if_eq (tgt := 22) hx hb d_M_poke_9 (by decide) (fun c9 => ?_) (fun c9 => ?_)
    ·
      exact absurd c9 (by decide)
    ·
      refine lv_iload_n hx hb d_M_poke_12 rfl (lv_at hl 2 rfl) ?_
      refine lv_iconst (v := nI 0) hx hb d_M_poke_13 (by decide) ?_
      refine lv_bipush (v := nI 15) hx hb d_M_poke_14 (by decide) ?_
      refine vp_callSi (va_runS (As := [.int wo_, .int (nI 0), .int (nI 15)]) (rest := [.int (nI 1), .ref (am 0)]) ⟨hx, hb, hml, hown, hts⟩ (c_M_isIn l dC dI wo_ (nI 0) (nI 15) ) (cwS 3 hts (g_S t_781 t_782 t_6 t_783) rfl rfl rfl (by decide +kernel) ⟨by decide, by decide⟩) (xR_s (va_P.sub hP [] rfl) (hK.sub [] rfl) hN) rfl rfl hl.1 rfl (lv_room (Nat.le_of_ble_eq_true rfl)) d_M_poke_16 ⟨Nat.le_refl _, Nat.le_refl _⟩).run (fun r16 q16 => ?_)
      rcases q16 with ⟨rfl, hin16⟩ | ⟨rfl, hin16⟩
      ·
        refine lv_if_ne (tgt := 26) hx hb d_M_poke_19 (by decide) (fun c19 => ?_) (fun c19 => ?_)
        ·
          refine lv_iconst (v := nI 0) hx hb d_M_poke_26 (by decide) ?_
          have hSz := hS.1
          refine va_calli (va_runV (C := R_M) (As := [.int (nI 1), .int (nI 0)]) (rest := []) ⟨hx, hb, hml, hown, hts⟩ (c_M_fails_0 l dC dI am cm s.heap.size th mw mwr mfl mact on cut mrec mlog mlive had mser mcur mrd mwt worn pg pla sou fou (nI 1) ) (cwV 2 hts (g_V t_784 t_786 s_22 t_6 t_787) rfl rfl rfl (by decide +kernel) ⟨by decide, by decide⟩) (xP_v hP hK hD hN 0 rfl rfl) rfl rfl hl.1 rfl (lv_room (Nat.le_of_ble_eq_true rfl)) d_M_poke_27 ⟨Nat.le_refl _, Nat.le_refl _⟩) hS (fun q _ h => xA_up hS.1 q h) (fun q h => xA_up hS.1 q h) (fun r27 u27 t H1 locs1 ht hvm q27 hB hz1 hk1 hS => ?_)
          obtain ⟨hP1, hK1, hD1⟩ := hB
          rw [ht] at hP1
          have hD : va_D (xA 9 am s.heap.size) (mw_ am cm (nI 0) mw mwr mfl mact on cut mrec mlog mlive had mser mcur mrd mwt worn pg pla sou fou) := hD1.weaken (fun _ q _ h => xA_up hSz _ h)
          have hP : va_P (dC, dI) vwCl (mw_ am cm (nI 0) mw mwr mfl mact on cut mrec mlog mlive had mser mcur mrd mwt worn pg pla sou fou) H1 := hP1
          generalize H1 = H at hP hS ⊢
          generalize locs1 = locs at hS ⊢
          have q27 := q27.symm
          subst q27
          refine lv_if_ne (tgt := 48) hx hb d_M_poke_30 (by decide) (fun c30 => ?_) (fun c30 => ?_)
          ·
            exact absurd c30 (by decide)
          ·
            obtain ⟨j, hj, rfl⟩ := in_nt (n := 31) (id hin6)
            obtain ⟨k, hk, rfl⟩ := in_nt (n := 15) (id hin16)
            refine lv_aload_n hx hb d_M_poke_33 rfl (lv_at hl 0 rfl) ?_
            refine va_get (D := (dC, dI)) (ci := 5) (v := .ref (am 1)) (C := R_M) (T := F_M) (N := 20) hx hb hts (fun w h => List.mem_cons_of_mem _ (in_M w h)) hown hK hP 0 rfl rfl 1 (by decide) (hts (.fieldLink R_M 7 R_M "chip" "[I") (List.mem_cons_of_mem _ t_713)) (fun _ h9 => h9) rfl d_M_poke_34 ?_
            refine lv_bipush (v := nI 16) hx hb d_M_poke_37 (by decide) ?_
            refine lv_iload_n hx hb d_M_poke_39 rfl (lv_at hl 1 rfl) ?_
            refine lv_imul hx hb d_M_poke_40 ?_
            refine tp_i (y := nI (16 * j)) (pk_mul _ _) ?_
            refine lv_iload_n hx hb d_M_poke_41 rfl (lv_at hl 2 rfl) ?_
            refine lv_iadd hx hb d_M_poke_42 ?_
            refine tp_i (y := nI ((16 * j) + k)) (nI_add _ _) ?_
            refine lv_dup2_11 hx hb d_M_poke_43 rfl rfl ?_
            refine va_iald hx hb hK hP 1 0 rfl rfl (vp_in_nI (by omega) (by decide)) d_M_poke_44 ?_
            refine tp_i (y := mw ((16 * j) + k)) (by rw [nI_clamp (by omega)]) ?_
            refine lv_iload_n hx hb d_M_poke_45 rfl (lv_at hl 3 rfl) ?_
            refine lv_ixor hx hb d_M_poke_46 ?_
            refine va_iast hx hb hK hP hD hS 1 0 rfl rfl (vp_in_nI (by omega) (by decide)) d_M_poke_47 (fun H locs hP hD hS => ?_)
            rw [nI_clamp (by omega)] at hP hD
            have hP : va_P (dC, dI) vwCl (mw_ am cm (nI 0) (upd mw ((16 * j) + k) ((mw ((16 * j) + k)) ^^^ mask)) mwr mfl mact on cut mrec mlog mlive had mser mcur mrd mwt worn pg pla sou fou) H := hP
            have hD : va_D (xA 9 am s.heap.size) (mw_ am cm (nI 0) (upd mw ((16 * j) + k) ((mw ((16 * j) + k)) ^^^ mask)) mwr mfl mact on cut mrec mlog mlive had mser mcur mrd mwt worn pg pla sou fou) := hD
            exact W.vret hx hb hr (fun t ht hW => ⟨⟨(fun i => [upd mw ((16 * j) + k) ((mw ((16 * j) + k)) ^^^ mask)].getD i (fun _ => 0), fun i => [nI 0].getD i 0, fun i => [].getD i 0), rfl, by first | exact Or.inl ⟨rfl, hin6, hin16⟩ | exact Or.inr ⟨rfl, fun z => hin6 z.1⟩ | exact Or.inr ⟨rfl, fun z => hin16 z.2⟩, ⟨by rw [ht]; exact hP, va_K.moved hW.alike hK, hD⟩⟩, hS.F ht⟩) hS.2.2 d_M_poke_48
        ·
          exact absurd c19 (by decide)
      ·
        refine lv_if_ne (tgt := 26) hx hb d_M_poke_19 (by decide) (fun c19 => ?_) (fun c19 => ?_)
        ·
          exact absurd c19 (by decide)
        ·
          refine lv_iconst (v := nI 1) hx hb d_M_poke_22 (by decide) ?_
          refine lv_goto (tgt := 27) hx hb d_M_poke_23 (by decide) ?_
          have hSz := hS.1
          refine va_calli (va_runV (C := R_M) (As := [.int (nI 1), .int (nI 1)]) (rest := []) ⟨hx, hb, hml, hown, hts⟩ (c_M_fails_1 l dC dI am cm s.heap.size th mw mwr mfl mact on cut mrec mlog mlive had mser mcur mrd mwt worn pg pla sou fou (nI 1) ) (cwV 2 hts (g_V t_784 t_786 s_22 t_6 t_787) rfl rfl rfl (by decide +kernel) ⟨by decide, by decide⟩) (xP_v hP hK hD hN 0 rfl rfl) rfl rfl hl.1 rfl (lv_room (Nat.le_of_ble_eq_true rfl)) d_M_poke_27 ⟨Nat.le_refl _, Nat.le_refl _⟩) hS (fun q _ h => xA_up hS.1 q h) (fun q h => xA_up hS.1 q h) (fun r27 u27 t H1 locs1 ht hvm q27 hB hz1 hk1 hS => ?_)
          obtain ⟨hP1, hK1, hD1⟩ := hB
          rw [ht] at hP1
          have hD : va_D (xA 9 am s.heap.size) (mw_ am cm (nI 1) mw mwr mfl mact on cut mrec mlog mlive had mser mcur mrd mwt worn pg pla sou fou) := hD1.weaken (fun _ q _ h => xA_up hSz _ h)
          have hP : va_P (dC, dI) vwCl (mw_ am cm (nI 1) mw mwr mfl mact on cut mrec mlog mlive had mser mcur mrd mwt worn pg pla sou fou) H1 := hP1
          generalize H1 = H at hP hS ⊢
          generalize locs1 = locs at hS ⊢
          have q27 := q27.symm
          subst q27
          refine lv_if_ne (tgt := 48) hx hb d_M_poke_30 (by decide) (fun c30 => ?_) (fun c30 => ?_)
          ·
            exact W.vret hx hb hr (fun t ht hW => ⟨⟨(fun i => [mw].getD i (fun _ => 0), fun i => [nI 1].getD i 0, fun i => [].getD i 0), rfl, by first | exact Or.inl ⟨rfl, hin6, hin16⟩ | exact Or.inr ⟨rfl, fun z => hin6 z.1⟩ | exact Or.inr ⟨rfl, fun z => hin16 z.2⟩, ⟨by rw [ht]; exact hP, va_K.moved hW.alike hK, hD⟩⟩, hS.F ht⟩) hS.2.2 d_M_poke_48
          ·
            exact absurd c30 (by decide)
  ·
    refine lv_if_eq (tgt := 22) hx hb d_M_poke_9 (by decide) (fun c9 => ?_) (fun c9 => ?_)
    ·
      refine lv_iconst (v := nI 1) hx hb d_M_poke_22 (by decide) ?_
      refine lv_goto (tgt := 27) hx hb d_M_poke_23 (by decide) ?_
      have hSz := hS.1
      refine va_calli (va_runV (C := R_M) (As := [.int (nI 1), .int (nI 1)]) (rest := []) ⟨hx, hb, hml, hown, hts⟩ (c_M_fails_1 l dC dI am cm s.heap.size th mw mwr mfl mact on cut mrec mlog mlive had mser mcur mrd mwt worn pg pla sou fou (nI 1) ) (cwV 2 hts (g_V t_784 t_786 s_22 t_6 t_787) rfl rfl rfl (by decide +kernel) ⟨by decide, by decide⟩) (xP_v hP hK hD hN 0 rfl rfl) rfl rfl hl.1 rfl (lv_room (Nat.le_of_ble_eq_true rfl)) d_M_poke_27 ⟨Nat.le_refl _, Nat.le_refl _⟩) hS (fun q _ h => xA_up hS.1 q h) (fun q h => xA_up hS.1 q h) (fun r27 u27 t H1 locs1 ht hvm q27 hB hz1 hk1 hS => ?_)
      obtain ⟨hP1, hK1, hD1⟩ := hB
      rw [ht] at hP1
      have hD : va_D (xA 9 am s.heap.size) (mw_ am cm (nI 1) mw mwr mfl mact on cut mrec mlog mlive had mser mcur mrd mwt worn pg pla sou fou) := hD1.weaken (fun _ q _ h => xA_up hSz _ h)
      have hP : va_P (dC, dI) vwCl (mw_ am cm (nI 1) mw mwr mfl mact on cut mrec mlog mlive had mser mcur mrd mwt worn pg pla sou fou) H1 := hP1
      generalize H1 = H at hP hS ⊢
      generalize locs1 = locs at hS ⊢
      have q27 := q27.symm
      subst q27
      refine lv_if_ne (tgt := 48) hx hb d_M_poke_30 (by decide) (fun c30 => ?_) (fun c30 => ?_)
      ·
        exact W.vret hx hb hr (fun t ht hW => ⟨⟨(fun i => [mw].getD i (fun _ => 0), fun i => [nI 1].getD i 0, fun i => [].getD i 0), rfl, by first | exact Or.inl ⟨rfl, hin6, hin16⟩ | exact Or.inr ⟨rfl, fun z => hin6 z.1⟩ | exact Or.inr ⟨rfl, fun z => hin16 z.2⟩, ⟨by rw [ht]; exact hP, va_K.moved hW.alike hK, hD⟩⟩, hS.F ht⟩) hS.2.2 d_M_poke_48
      ·
        exact absurd c30 (by decide)
    ·
      exact absurd c9 (by decide)
set_option maxHeartbeats 4000000 in
set_option maxRecDepth 100000 in
theorem c_M_word (l : Launch) (dC : Nat → ClassId) (dI : Nat → Nat → Nat) (am cm : Nat → Nat) (sz : Nat) (th : Int32) (mw mwr mfl mact : Nat → Int32) (on cut mrec : Int32) (mlog mlive had : Nat → Int32) (mser mcur mrd mwt worn : Int32) (pg : Nat → Int32) (pla sou fou : Int32) (pa : Int32) (wo_ : Int32) : Met l y_M_word w_M_word ({ frames := 1, cells := 0, slots := 0, locals := 22 }) (xP (dC, dI) vwCl (mt cm) (mw_ am cm th mw mwr mfl mact on cut mrec mlog mlive had mser mcur mrd mwt worn pg pla sou fou) sz [.ref (am 0), .int pa, .int wo_]) (va_Qi (fun r (u : (Nat → Nat → Int32) × (Nat → Int32) × (Nat → Nat)) => True) (fun (u : (Nat → Nat → Int32) × (Nat → Int32) × (Nat → Nat)) (t : State) => xB (dC, dI) vwCl (mt cm) (xA 9 am sz) (mw_ am cm (u.2.1 0) mw mwr mfl mact on cut mrec mlog mlive had mser mcur mrd mwt worn pg pla sou fou) t) (xA 9 am sz)) 0 0 (xA 9 am sz) := by
  refine Met.ofW (cc := b_M_word) (maxL := 3) (ret := (some (.int))) (by decide) rfl ?_
  intro P e s m args below meth c0 s₁ B hml hv
  obtain ⟨rfl, hsz, hP, hK, hD0, hN⟩ := hv
  have hx := B.exec
  have hb := B.bytes
  have hr := B.returns
  have hts := atoms_spec (ws := w_M_word) B.pre
  have hown : s.vm.findClass R_M = some m.cls := findClass_of_methodNamed B.named
  have hlocks := B.notSynchronized
  subst hsz
  have hD := mw_D (sz := s.heap.size) hD0
  have hS : va_S (xA 9 am s.heap.size) s.heap s.heap [] := va_S.rf
  have hA : ∀ q : Nat, s.heap.size ≤ q → (xA 9 am s.heap.size) q := fun q h => Or.inr h
  have hl := lv_entry ([.ref (am 0), .int pa, .int wo_]) (n := 3) (Nat.le_of_ble_eq_true rfl)
  rw [lg_entry_eq]
  generalize (lg_sl ([.ref (am 0), .int pa, .int wo_]) ++ List.replicate (3 - (lg_sl ([.ref (am 0), .int pa, .int wo_])).length) Slot.unset).toArray = ls at hl ⊢
  have hl : lv_has ls 3 [(0, .ref (am 0)), (1, .int pa), (2, .int wo_)] := hl
  refine lv_aload_n hx hb d_M_word_0 rfl (lv_at hl 0 rfl) ?_
  refine lv_iconst (v := nI 1) hx hb d_M_word_1 (by decide) ?_
  refine lv_iload_n hx hb d_M_word_2 rfl (lv_at hl 1 rfl) ?_
  refine lv_iconst (v := nI 0) hx hb d_M_word_3 (by decide) ?_
  refine lv_bipush (v := nI 31) hx hb d_M_word_4 (by decide) ?_
  refine vp_callSi (va_runS (As := [.int pa, .int (nI 0), .int (nI 31)]) (rest := [.int (nI 1), .ref (am 0)]) ⟨hx, hb, hml, hown, hts⟩ (c_M_isIn l dC dI pa (nI 0) (nI 31) ) (cwS 3 hts (g_S t_781 t_782 t_6 t_783) rfl rfl rfl (by decide +kernel) ⟨by decide, by decide⟩) (xR_s (va_P.sub hP [] rfl) (hK.sub [] rfl) hN) rfl rfl hl.1 rfl (lv_room (Nat.le_of_ble_eq_true rfl)) d_M_word_6 ⟨Nat.le_refl _, Nat.le_refl _⟩).run (fun r6 q6 => ?_)
  rcases q6 with ⟨rfl, hin6⟩ | ⟨rfl, hin6⟩
  ·
    refine lv_if_eq (tgt := 22) hx hb d_M_word_9 (by decide) (fun c9 => ?_) (fun c9 => ?_)
    ·
      exact absurd c9 (by decide)
    ·
      refine lv_iload_n hx hb d_M_word_12 rfl (lv_at hl 2 rfl) ?_
      refine lv_iconst (v := nI 0) hx hb d_M_word_13 (by decide) ?_
      refine lv_bipush (v := nI 15) hx hb d_M_word_14 (by decide) ?_
      refine vp_callSi (va_runS (As := [.int wo_, .int (nI 0), .int (nI 15)]) (rest := [.int (nI 1), .ref (am 0)]) ⟨hx, hb, hml, hown, hts⟩ (c_M_isIn l dC dI wo_ (nI 0) (nI 15) ) (cwS 3 hts (g_S t_781 t_782 t_6 t_783) rfl rfl rfl (by decide +kernel) ⟨by decide, by decide⟩) (xR_s (va_P.sub hP [] rfl) (hK.sub [] rfl) hN) rfl rfl hl.1 rfl (lv_room (Nat.le_of_ble_eq_true rfl)) d_M_word_16 ⟨Nat.le_refl _, Nat.le_refl _⟩).run (fun r16 q16 => ?_)
      rcases q16 with ⟨rfl, hin16⟩ | ⟨rfl, hin16⟩
      ·
        refine lv_if_ne (tgt := 26) hx hb d_M_word_19 (by decide) (fun c19 => ?_) (fun c19 => ?_)
        ·
          refine lv_iconst (v := nI 0) hx hb d_M_word_26 (by decide) ?_
          have hSz := hS.1
          refine va_calli (va_runV (C := R_M) (As := [.int (nI 1), .int (nI 0)]) (rest := []) ⟨hx, hb, hml, hown, hts⟩ (c_M_fails_0 l dC dI am cm s.heap.size th mw mwr mfl mact on cut mrec mlog mlive had mser mcur mrd mwt worn pg pla sou fou (nI 1) ) (cwV 2 hts (g_V t_784 t_786 s_22 t_6 t_787) rfl rfl rfl (by decide +kernel) ⟨by decide, by decide⟩) (xP_v hP hK hD hN 0 rfl rfl) rfl rfl hl.1 rfl (lv_room (Nat.le_of_ble_eq_true rfl)) d_M_word_27 ⟨Nat.le_refl _, Nat.le_refl _⟩) hS (fun q _ h => xA_up hS.1 q h) (fun q h => xA_up hS.1 q h) (fun r27 u27 t H1 locs1 ht hvm q27 hB hz1 hk1 hS => ?_)
          obtain ⟨hP1, hK1, hD1⟩ := hB
          rw [ht] at hP1
          have hD : va_D (xA 9 am s.heap.size) (mw_ am cm (nI 0) mw mwr mfl mact on cut mrec mlog mlive had mser mcur mrd mwt worn pg pla sou fou) := hD1.weaken (fun _ q _ h => xA_up hSz _ h)
          have hP : va_P (dC, dI) vwCl (mw_ am cm (nI 0) mw mwr mfl mact on cut mrec mlog mlive had mser mcur mrd mwt worn pg pla sou fou) H1 := hP1
          generalize H1 = H at hP hS ⊢
          generalize locs1 = locs at hS ⊢
          have q27 := q27.symm
          subst q27
          refine lv_if_eq (tgt := 37) hx hb d_M_word_30 (by decide) (fun c30 => ?_) (fun c30 => ?_)
          ·
            obtain ⟨j, hj, rfl⟩ := in_nt (n := 31) (id hin6)
            obtain ⟨k, hk, rfl⟩ := in_nt (n := 15) (id hin16)
            refine lv_aload_n hx hb d_M_word_37 rfl (lv_at hl 0 rfl) ?_
            refine va_get (D := (dC, dI)) (ci := 5) (v := .ref (am 1)) (C := R_M) (T := F_M) (N := 20) hx hb hts (fun w h => List.mem_cons_of_mem _ (in_M w h)) hown hK hP 0 rfl rfl 1 (by decide) (hts (.fieldLink R_M 7 R_M "chip" "[I") (List.mem_cons_of_mem _ t_713)) (fun _ h9 => h9) rfl d_M_word_38 ?_
            refine lv_bipush (v := nI 16) hx hb d_M_word_41 (by decide) ?_
            refine lv_iload_n hx hb d_M_word_43 rfl (lv_at hl 1 rfl) ?_
            refine lv_imul hx hb d_M_word_44 ?_
            refine tp_i (y := nI (16 * j)) (pk_mul _ _) ?_
            refine lv_iload_n hx hb d_M_word_45 rfl (lv_at hl 2 rfl) ?_
            refine lv_iadd hx hb d_M_word_46 ?_
            refine tp_i (y := nI ((16 * j) + k)) (nI_add _ _) ?_
            refine va_iald hx hb hK hP 1 0 rfl rfl (vp_in_nI (by omega) (by decide)) d_M_word_47 ?_
            refine tp_i (y := mw ((16 * j) + k)) (by rw [nI_clamp (by omega)]) ?_
            exact W.iret (v := mw ((16 * j) + k)) hx hb hr (fun t ht hW => ⟨⟨mw ((16 * j) + k), (fun i => [].getD i (fun _ => 0), fun i => [nI 0].getD i 0, fun i => [].getD i 0), rfl, by first | rfl | trivial | omega, ⟨by rw [ht]; exact hP, va_K.moved hW.alike hK, hD⟩⟩, hS.F ht⟩) hS.2.2 d_M_word_48
          ·
            exact absurd c30 (by decide)
        ·
          exact absurd c19 (by decide)
      ·
        refine lv_if_ne (tgt := 26) hx hb d_M_word_19 (by decide) (fun c19 => ?_) (fun c19 => ?_)
        ·
          exact absurd c19 (by decide)
        ·
          refine lv_iconst (v := nI 1) hx hb d_M_word_22 (by decide) ?_
          refine lv_goto (tgt := 27) hx hb d_M_word_23 (by decide) ?_
          have hSz := hS.1
          refine va_calli (va_runV (C := R_M) (As := [.int (nI 1), .int (nI 1)]) (rest := []) ⟨hx, hb, hml, hown, hts⟩ (c_M_fails_1 l dC dI am cm s.heap.size th mw mwr mfl mact on cut mrec mlog mlive had mser mcur mrd mwt worn pg pla sou fou (nI 1) ) (cwV 2 hts (g_V t_784 t_786 s_22 t_6 t_787) rfl rfl rfl (by decide +kernel) ⟨by decide, by decide⟩) (xP_v hP hK hD hN 0 rfl rfl) rfl rfl hl.1 rfl (lv_room (Nat.le_of_ble_eq_true rfl)) d_M_word_27 ⟨Nat.le_refl _, Nat.le_refl _⟩) hS (fun q _ h => xA_up hS.1 q h) (fun q h => xA_up hS.1 q h) (fun r27 u27 t H1 locs1 ht hvm q27 hB hz1 hk1 hS => ?_)
          obtain ⟨hP1, hK1, hD1⟩ := hB
          rw [ht] at hP1
          have hD : va_D (xA 9 am s.heap.size) (mw_ am cm (nI 1) mw mwr mfl mact on cut mrec mlog mlive had mser mcur mrd mwt worn pg pla sou fou) := hD1.weaken (fun _ q _ h => xA_up hSz _ h)
          have hP : va_P (dC, dI) vwCl (mw_ am cm (nI 1) mw mwr mfl mact on cut mrec mlog mlive had mser mcur mrd mwt worn pg pla sou fou) H1 := hP1
          generalize H1 = H at hP hS ⊢
          generalize locs1 = locs at hS ⊢
          have q27 := q27.symm
          subst q27
          refine lv_if_eq (tgt := 37) hx hb d_M_word_30 (by decide) (fun c30 => ?_) (fun c30 => ?_)
          ·
            exact absurd c30 (by decide)
          ·
            refine lv_iconst (v := nI 0) hx hb d_M_word_33 (by decide) ?_
            refine lv_goto (tgt := 48) hx hb d_M_word_34 (by decide) ?_
            exact W.iret (v := nI 0) hx hb hr (fun t ht hW => ⟨⟨nI 0, (fun i => [].getD i (fun _ => 0), fun i => [nI 1].getD i 0, fun i => [].getD i 0), rfl, by first | rfl | trivial | omega, ⟨by rw [ht]; exact hP, va_K.moved hW.alike hK, hD⟩⟩, hS.F ht⟩) hS.2.2 d_M_word_48
  ·
    refine lv_if_eq (tgt := 22) hx hb d_M_word_9 (by decide) (fun c9 => ?_) (fun c9 => ?_)
    ·
      refine lv_iconst (v := nI 1) hx hb d_M_word_22 (by decide) ?_
      refine lv_goto (tgt := 27) hx hb d_M_word_23 (by decide) ?_
      have hSz := hS.1
      refine va_calli (va_runV (C := R_M) (As := [.int (nI 1), .int (nI 1)]) (rest := []) ⟨hx, hb, hml, hown, hts⟩ (c_M_fails_1 l dC dI am cm s.heap.size th mw mwr mfl mact on cut mrec mlog mlive had mser mcur mrd mwt worn pg pla sou fou (nI 1) ) (cwV 2 hts (g_V t_784 t_786 s_22 t_6 t_787) rfl rfl rfl (by decide +kernel) ⟨by decide, by decide⟩) (xP_v hP hK hD hN 0 rfl rfl) rfl rfl hl.1 rfl (lv_room (Nat.le_of_ble_eq_true rfl)) d_M_word_27 ⟨Nat.le_refl _, Nat.le_refl _⟩) hS (fun q _ h => xA_up hS.1 q h) (fun q h => xA_up hS.1 q h) (fun r27 u27 t H1 locs1 ht hvm q27 hB hz1 hk1 hS => ?_)
      obtain ⟨hP1, hK1, hD1⟩ := hB
      rw [ht] at hP1
      have hD : va_D (xA 9 am s.heap.size) (mw_ am cm (nI 1) mw mwr mfl mact on cut mrec mlog mlive had mser mcur mrd mwt worn pg pla sou fou) := hD1.weaken (fun _ q _ h => xA_up hSz _ h)
      have hP : va_P (dC, dI) vwCl (mw_ am cm (nI 1) mw mwr mfl mact on cut mrec mlog mlive had mser mcur mrd mwt worn pg pla sou fou) H1 := hP1
      generalize H1 = H at hP hS ⊢
      generalize locs1 = locs at hS ⊢
      have q27 := q27.symm
      subst q27
      refine lv_if_eq (tgt := 37) hx hb d_M_word_30 (by decide) (fun c30 => ?_) (fun c30 => ?_)
      ·
        exact absurd c30 (by decide)
      ·
        refine lv_iconst (v := nI 0) hx hb d_M_word_33 (by decide) ?_
        refine lv_goto (tgt := 48) hx hb d_M_word_34 (by decide) ?_
        exact W.iret (v := nI 0) hx hb hr (fun t ht hW => ⟨⟨nI 0, (fun i => [].getD i (fun _ => 0), fun i => [nI 1].getD i 0, fun i => [].getD i 0), rfl, by first | rfl | trivial | omega, ⟨by rw [ht]; exact hP, va_K.moved hW.alike hK, hD⟩⟩, hS.F ht⟩) hS.2.2 d_M_word_48
    ·
      exact absurd c9 (by decide)
set_option maxHeartbeats 4000000 in
set_option maxRecDepth 100000 in
theorem c_M_state (l : Launch) (dC : Nat → ClassId) (dI : Nat → Nat → Nat) (am cm : Nat → Nat) (sz : Nat) (th : Int32) (mw mwr mfl mact : Nat → Int32) (on cut mrec : Int32) (mlog mlive had : Nat → Int32) (mser mcur mrd mwt worn : Int32) (pg : Nat → Int32) (pla sou fou : Int32) (rn : Nat) (what : Int32) (hr48 : rn ≤ 48) : Met l y_M_state w_M_state ({ frames := 3, cells := 0, slots := 0, locals := 65 }) (xP (dC, dI) vwCl (mt cm) (mw_ am cm th mw mwr mfl mact on cut (nI rn) mlog mlive had mser mcur mrd mwt worn pg pla sou fou) sz [.ref (am 0), .int what]) (va_Qi (fun r (u : (Nat → Nat → Int32) × (Nat → Int32) × (Nat → Nat)) => True) (fun (u : (Nat → Nat → Int32) × (Nat → Int32) × (Nat → Nat)) (t : State) => xB (dC, dI) vwCl (mt cm) (xA 9 am sz) (mw_ am cm (u.2.1 0) mw mwr mfl mact on cut (nI rn) mlog mlive had mser mcur mrd mwt worn pg pla sou fou) t) (xA 9 am sz)) 0 0 (xA 9 am sz) := by
  refine Met.ofW (cc := b_M_state) (maxL := 2) (ret := (some (.int))) (by decide) rfl ?_
  intro P e s m args below meth c0 s₁ B hml hv
  obtain ⟨rfl, hsz, hP, hK, hD0, hN⟩ := hv
  have hx := B.exec
  have hb := B.bytes
  have hr := B.returns
  have hts := atoms_spec (ws := w_M_state) B.pre
  have hown : s.vm.findClass R_M = some m.cls := findClass_of_methodNamed B.named
  have hlocks := B.notSynchronized
  subst hsz
  have hD := mw_D (sz := s.heap.size) hD0
  have hS : va_S (xA 9 am s.heap.size) s.heap s.heap [] := va_S.rf
  have hA : ∀ q : Nat, s.heap.size ≤ q → (xA 9 am s.heap.size) q := fun q h => Or.inr h
  have hl := lv_entry ([.ref (am 0), .int what]) (n := 2) (Nat.le_of_ble_eq_true rfl)
  rw [lg_entry_eq]
  generalize (lg_sl ([.ref (am 0), .int what]) ++ List.replicate (2 - (lg_sl ([.ref (am 0), .int what])).length) Slot.unset).toArray = ls at hl ⊢
  have hl : lv_has ls 2 [(0, .ref (am 0)), (1, .int what)] := hl
  refine lv_aload_n hx hb d_M_state_0 rfl (lv_at hl 0 rfl) ?_
  refine lv_iconst (v := nI 0) hx hb d_M_state_1 (by decide) ?_
  refine va_put (D := (dC, dI)) (ci := 5) (v := .int (nI 0)) (ty := .int) (C := R_M) (T := F_M) (N := 20) hx hb hts (fun w h => List.mem_cons_of_mem _ (in_M w h)) t_M ok_M nm_M hown hK hP hD hS 0 rfl rfl 0 (by decide) (hts (.fieldLink R_M 49 R_M "thrown" "I") (List.mem_cons_of_mem _ t_712)) (fun _ h9 => h9) rfl (by decide +kernel) rfl rfl (Nat.le_of_ble_eq_true rfl) d_M_state_2 (fun H locs hP hD hS => ?_)
  have hP : va_P (dC, dI) vwCl (mw_ am cm (nI 0) mw mwr mfl mact on cut (nI rn) mlog mlive had mser mcur mrd mwt worn pg pla sou fou) H := hP
  have hD : va_D (xA 9 am s.heap.size) (mw_ am cm (nI 0) mw mwr mfl mact on cut (nI rn) mlog mlive had mser mcur mrd mwt worn pg pla sou fou) := hD
  refine lv_iload_n hx hb d_M_state_5 rfl (lv_at hl 1 rfl) ?_
  refine lv_topi (fun sx esx => ?_)
  rcases sw_in sx 8 with hsw | ⟨j, hj, ej⟩
  ·
    refine lv_tableOut (tgt := 109) hx hb d_M_state_6 hsw (by decide) ?_
    refine lv_iconst (v := (-1)) hx hb d_M_state_109 (by decide) ?_
    exact W.iret (v := (-1)) hx hb hr (fun t ht hW => ⟨⟨(-1), (fun i => [].getD i (fun _ => 0), fun i => [nI 0].getD i 0, fun i => [].getD i 0), rfl, by first | rfl | trivial | omega, ⟨by rw [ht]; exact hP, va_K.moved hW.alike hK, hD⟩⟩, hS.F ht⟩) hS.2.2 d_M_state_110
  ·
    rcases (show j = 0 ∨ j = 1 ∨ j = 2 ∨ j = 3 ∨ j = 4 ∨ j = 5 ∨ j = 6 ∨ j = 7 ∨ j = 8 by omega) with rfl | rfl | rfl | rfl | rfl | rfl | rfl | rfl | rfl
    ·
      subst ej
      refine lv_tableIn (off := 50) (tgt := 56) hx hb d_M_state_6 (by decide) (by decide) rfl (by decide) ?_
      refine lv_aload_n hx hb d_M_state_56 rfl (lv_at hl 0 rfl) ?_
      refine va_get (D := (dC, dI)) (ci := 5) (v := .int (nI rn)) (C := R_M) (T := F_M) (N := 20) hx hb hts (fun w h => List.mem_cons_of_mem _ (in_M w h)) hown hK hP 0 rfl rfl 7 (by decide) (hts (.fieldLink R_M 52 R_M "records" "I") (List.mem_cons_of_mem _ t_719)) (fun _ h9 => h9) rfl d_M_state_57 ?_
      exact W.iret (v := nI rn) hx hb hr (fun t ht hW => ⟨⟨nI rn, (fun i => [].getD i (fun _ => 0), fun i => [nI 0].getD i 0, fun i => [].getD i 0), rfl, by first | rfl | trivial | omega, ⟨by rw [ht]; exact hP, va_K.moved hW.alike hK, hD⟩⟩, hS.F ht⟩) hS.2.2 d_M_state_60
    ·
      subst ej
      refine lv_tableIn (off := 55) (tgt := 61) hx hb d_M_state_6 (by decide) (by decide) rfl (by decide) ?_
      refine lv_aload_n hx hb d_M_state_61 rfl (lv_at hl 0 rfl) ?_
      refine vp_callSi (va_runV (C := R_M) (As := []) (rest := []) ⟨hx, hb, hml, hown, hts⟩ (c_M_durable l dC dI am cm (nI 0) mw mwr mfl mact on cut (nI rn) mlog mlive had mser mcur mrd mwt worn pg pla sou fou  ) (cwV 0 hts (g_V t_894 t_896 s_44 t_6 t_897) rfl rfl rfl (by decide +kernel) ⟨by decide, by decide⟩) (xR_v hP hK hN 0 rfl rfl) rfl rfl hl.1 rfl (lv_room (Nat.le_of_ble_eq_true rfl)) d_M_state_62 ⟨Nat.le_refl _, Nat.le_refl _⟩).run (fun r62 q62 => ?_)
      have hk62 := q62
      exact W.iret (v := r62) hx hb hr (fun t ht hW => ⟨⟨r62, (fun i => [].getD i (fun _ => 0), fun i => [nI 0].getD i 0, fun i => [].getD i 0), rfl, by first | rfl | trivial | omega, ⟨by rw [ht]; exact hP, va_K.moved hW.alike hK, hD⟩⟩, hS.F ht⟩) hS.2.2 d_M_state_65
    ·
      subst ej
      refine lv_tableIn (off := 60) (tgt := 66) hx hb d_M_state_6 (by decide) (by decide) rfl (by decide) ?_
      refine lv_aload_n hx hb d_M_state_66 rfl (lv_at hl 0 rfl) ?_
      refine vp_callSi (va_runV (C := R_M) (As := []) (rest := []) ⟨hx, hb, hml, hown, hts⟩ (c_M_tickets l dC dI am cm (nI 0) mw mwr mfl mact on cut (nI rn) mlog mlive had mser mcur mrd mwt worn pg pla sou fou rn (by first | omega | rfl | assumption | decide)) (cwV 0 hts (g_V t_865 t_867 s_39 t_6 t_868) rfl rfl rfl (by decide +kernel) ⟨by decide, by decide⟩) (xR_v hP hK hN 0 rfl rfl) rfl rfl hl.1 rfl (lv_room (Nat.le_of_ble_eq_true rfl)) d_M_state_67 ⟨Nat.le_refl _, Nat.le_refl _⟩).run (fun r67 q67 => ?_)
      have q67 := q67.symm
      subst q67
      have hnv67 := nv_le mlog rn
      exact W.iret (v := nI (nv mlog rn)) hx hb hr (fun t ht hW => ⟨⟨nI (nv mlog rn), (fun i => [].getD i (fun _ => 0), fun i => [nI 0].getD i 0, fun i => [].getD i 0), rfl, by first | rfl | trivial | omega, ⟨by rw [ht]; exact hP, va_K.moved hW.alike hK, hD⟩⟩, hS.F ht⟩) hS.2.2 d_M_state_70
    ·
      subst ej
      refine lv_tableIn (off := 65) (tgt := 71) hx hb d_M_state_6 (by decide) (by decide) rfl (by decide) ?_
      refine lv_aload_n hx hb d_M_state_71 rfl (lv_at hl 0 rfl) ?_
      refine vp_callSi (va_runV (C := R_M) (As := []) (rest := []) ⟨hx, hb, hml, hown, hts⟩ (c_M_liveCount l dC dI am cm (nI 0) mw mwr mfl mact on cut (nI rn) mlog mlive had mser mcur mrd mwt worn pg pla sou fou  ) (cwV 0 hts (g_V t_990 t_992 s_52 t_6 t_993) rfl rfl rfl (by decide +kernel) ⟨by decide, by decide⟩) (xR_v hP hK hN 0 rfl rfl) rfl rfl hl.1 rfl (lv_room (Nat.le_of_ble_eq_true rfl)) d_M_state_72 ⟨Nat.le_refl _, Nat.le_refl _⟩).run (fun r72 q72 => ?_)
      have hk72 := q72
      exact W.iret (v := r72) hx hb hr (fun t ht hW => ⟨⟨r72, (fun i => [].getD i (fun _ => 0), fun i => [nI 0].getD i 0, fun i => [].getD i 0), rfl, by first | rfl | trivial | omega, ⟨by rw [ht]; exact hP, va_K.moved hW.alike hK, hD⟩⟩, hS.F ht⟩) hS.2.2 d_M_state_75
    ·
      subst ej
      refine lv_tableIn (off := 70) (tgt := 76) hx hb d_M_state_6 (by decide) (by decide) rfl (by decide) ?_
      refine lv_aload_n hx hb d_M_state_76 rfl (lv_at hl 0 rfl) ?_
      refine va_get (D := (dC, dI)) (ci := 5) (v := .int mrd) (C := R_M) (T := F_M) (N := 20) hx hb hts (fun w h => List.mem_cons_of_mem _ (in_M w h)) hown hK hP 0 rfl rfl 13 (by decide) (hts (.fieldLink R_M 58 R_M "readings" "I") (List.mem_cons_of_mem _ t_725)) (fun _ h9 => h9) rfl d_M_state_77 ?_
      exact W.iret (v := mrd) hx hb hr (fun t ht hW => ⟨⟨mrd, (fun i => [].getD i (fun _ => 0), fun i => [nI 0].getD i 0, fun i => [].getD i 0), rfl, by first | rfl | trivial | omega, ⟨by rw [ht]; exact hP, va_K.moved hW.alike hK, hD⟩⟩, hS.F ht⟩) hS.2.2 d_M_state_80
    ·
      subst ej
      refine lv_tableIn (off := 75) (tgt := 81) hx hb d_M_state_6 (by decide) (by decide) rfl (by decide) ?_
      refine lv_aload_n hx hb d_M_state_81 rfl (lv_at hl 0 rfl) ?_
      refine va_get (D := (dC, dI)) (ci := 5) (v := .int mser) (C := R_M) (T := F_M) (N := 20) hx hb hts (fun w h => List.mem_cons_of_mem _ (in_M w h)) hown hK hP 0 rfl rfl 11 (by decide) (hts (.fieldLink R_M 55 R_M "serial" "I") (List.mem_cons_of_mem _ t_723)) (fun _ h9 => h9) rfl d_M_state_82 ?_
      exact W.iret (v := mser) hx hb hr (fun t ht hW => ⟨⟨mser, (fun i => [].getD i (fun _ => 0), fun i => [nI 0].getD i 0, fun i => [].getD i 0), rfl, by first | rfl | trivial | omega, ⟨by rw [ht]; exact hP, va_K.moved hW.alike hK, hD⟩⟩, hS.F ht⟩) hS.2.2 d_M_state_85
    ·
      subst ej
      refine lv_tableIn (off := 80) (tgt := 86) hx hb d_M_state_6 (by decide) (by decide) rfl (by decide) ?_
      refine lv_aload_n hx hb d_M_state_86 rfl (lv_at hl 0 rfl) ?_
      refine va_get (D := (dC, dI)) (ci := 5) (v := .int mcur) (C := R_M) (T := F_M) (N := 20) hx hb hts (fun w h => List.mem_cons_of_mem _ (in_M w h)) hown hK hP 0 rfl rfl 12 (by decide) (hts (.fieldLink R_M 40 R_M "cursor" "I") (List.mem_cons_of_mem _ t_724)) (fun _ h9 => h9) rfl d_M_state_87 ?_
      exact W.iret (v := mcur) hx hb hr (fun t ht hW => ⟨⟨mcur, (fun i => [].getD i (fun _ => 0), fun i => [nI 0].getD i 0, fun i => [].getD i 0), rfl, by first | rfl | trivial | omega, ⟨by rw [ht]; exact hP, va_K.moved hW.alike hK, hD⟩⟩, hS.F ht⟩) hS.2.2 d_M_state_90
    ·
      subst ej
      refine lv_tableIn (off := 85) (tgt := 91) hx hb d_M_state_6 (by decide) (by decide) rfl (by decide) ?_
      refine lv_aload_n hx hb d_M_state_91 rfl (lv_at hl 0 rfl) ?_
      refine vp_callSi (va_runV (C := R_M) (As := []) (rest := []) ⟨hx, hb, hml, hown, hts⟩ (c_M_freePages l dC dI am cm (nI 0) mw mwr mfl mact on cut (nI rn) mlog mlive had mser mcur mrd mwt worn pg pla sou fou  ) (cwV 0 hts (g_V t_994 t_996 s_53 t_6 t_997) rfl rfl rfl (by decide +kernel) ⟨by decide, by decide⟩) (xR_v hP hK hN 0 rfl rfl) rfl rfl hl.1 rfl (lv_room (Nat.le_of_ble_eq_true rfl)) d_M_state_92 ⟨Nat.le_refl _, Nat.le_refl _⟩).run (fun r92 q92 => ?_)
      have hk92 := q92
      exact W.iret (v := r92) hx hb hr (fun t ht hW => ⟨⟨r92, (fun i => [].getD i (fun _ => 0), fun i => [nI 0].getD i 0, fun i => [].getD i 0), rfl, by first | rfl | trivial | omega, ⟨by rw [ht]; exact hP, va_K.moved hW.alike hK, hD⟩⟩, hS.F ht⟩) hS.2.2 d_M_state_95
    ·
      subst ej
      refine lv_tableIn (off := 90) (tgt := 96) hx hb d_M_state_6 (by decide) (by decide) rfl (by decide) ?_
      refine lv_aload_n hx hb d_M_state_96 rfl (lv_at hl 0 rfl) ?_
      refine va_get (D := (dC, dI)) (ci := 5) (v := .int on) (C := R_M) (T := F_M) (N := 20) hx hb hts (fun w h => List.mem_cons_of_mem _ (in_M w h)) hown hK hP 0 rfl rfl 5 (by decide) (hts (.fieldLink R_M 23 R_M "on" "Z") (List.mem_cons_of_mem _ t_717)) (fun _ h9 => h9) rfl d_M_state_97 ?_
      refine lv_if_eq (tgt := 107) hx hb d_M_state_100 (by decide) (fun c100 => ?_) (fun c100 => ?_)
      ·
        refine lv_iconst (v := nI 0) hx hb d_M_state_107 (by decide) ?_
        exact W.iret (v := nI 0) hx hb hr (fun t ht hW => ⟨⟨nI 0, (fun i => [].getD i (fun _ => 0), fun i => [nI 0].getD i 0, fun i => [].getD i 0), rfl, by first | rfl | trivial | omega, ⟨by rw [ht]; exact hP, va_K.moved hW.alike hK, hD⟩⟩, hS.F ht⟩) hS.2.2 d_M_state_108
      ·
        refine lv_iconst (v := nI 1) hx hb d_M_state_103 (by decide) ?_
        refine lv_goto (tgt := 108) hx hb d_M_state_104 (by decide) ?_
        exact W.iret (v := nI 1) hx hb hr (fun t ht hW => ⟨⟨nI 1, (fun i => [].getD i (fun _ => 0), fun i => [nI 0].getD i 0, fun i => [].getD i 0), rfl, by first | rfl | trivial | omega, ⟨by rw [ht]; exact hP, va_K.moved hW.alike hK, hD⟩⟩, hS.F ht⟩) hS.2.2 d_M_state_108
