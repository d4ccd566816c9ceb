set_option maxHeartbeats 4000000 in
set_option maxRecDepth 100000 in
theorem c_M_axle_ok (l : Launch) (dC : Nat → ClassId) (dI : Nat → Nat → Nat) (am cm : Nat → Nat) (sz : Nat) (th : Int32) (mw mwr mfl mact : Nat → Int32) (on cut mrec : Int32) (mlog mlive had : Nat → Int32) (mser mcur mrd mwt worn : Int32) (pg : Nat → Int32) (pla sou fou : Int32) (st : Int32) (hok : (nI 1 ≤ st ∧ st ≤ nI 1200)) : Met l y_M_axle w_M_axle ({ frames := 1, cells := 0, slots := 0, locals := 22 }) (xP (dC, dI) vwCl (mt cm) (mw_ am cm th mw mwr mfl mact (nI 1) (-1) (nI 0) mlog mlive had (nI 0) (-1) (nI 0) (nI 0) (nI 0) pg pla sou fou) sz [.ref (am 0), .int st]) (va_Qi (fun r (u : Unit) => r = nI 1) (fun (u : Unit) (t : State) => xB (dC, dI) vwCl (mt cm) (xA 9 am sz) (mw_ am cm (nI 0) mw mwr mfl mact (nI 1) (-1) (nI 0) mlog mlive had (nI 0) (-1) (nI (0 + 1)) (nI 0 + st) (nI 0) pg pla sou fou) t) (xA 9 am sz)) 0 0 (xA 9 am sz) := by
  refine Met.ofW (cc := b_M_axle) (maxL := 2) (ret := (some (.int))) (by decide) rfl ?_
  intro P e s m args below meth c0 s₁ B hml hv
  obtain ⟨rfl, hsz, hP, hK, hD0⟩ := hv
  have hx := B.exec
  have hb := B.bytes
  have hr := B.returns
  have hts := atoms_spec (ws := w_M_axle) B.pre
  have hown : s.vm.findClass R_M = some m.cls := findClass_of_methodNamed B.named
  have hlocks := B.notSynchronized
  subst hsz
  have hD := mw_D (sz := s.heap.size) hD0
  have hS : va_S (xA 9 am s.heap.size) s.heap s.heap [] := va_S.rf
  have hA : ∀ q : Nat, s.heap.size ≤ q → (xA 9 am s.heap.size) q := fun q h => Or.inr h
  have hl := lv_entry ([.ref (am 0), .int st]) (n := 2) (Nat.le_of_ble_eq_true rfl)
  rw [lg_entry_eq]
  generalize (lg_sl ([.ref (am 0), .int st]) ++ List.replicate (2 - (lg_sl ([.ref (am 0), .int st])).length) Slot.unset).toArray = ls at hl ⊢
  have hl : lv_has ls 2 [(0, .ref (am 0)), (1, .int st)] := hl
  refine lv_aload_n hx hb d_M_axle_0 rfl (lv_at hl 0 rfl) ?_
  refine lv_iconst (v := nI 1) hx hb d_M_axle_1 (by decide) ?_
  refine lv_iload_n hx hb d_M_axle_2 rfl (lv_at hl 1 rfl) ?_
  refine lv_iconst (v := nI 1) hx hb d_M_axle_3 (by decide) ?_
  refine lv_sipush (v := nI 1200) hx hb d_M_axle_4 (by decide) ?_
  refine vp_callSi (va_runS (As := [.int st, .int (nI 1), .int (nI 1200)]) (rest := [.int (nI 1), .ref (am 0)]) ⟨hx, hb, hml, hown, hts⟩ (c_M_isIn l dC dI st (nI 1) (nI 1200) ) (cwS 3 hts (g_S t_781 t_782 t_6 t_783) rfl rfl rfl (by decide +kernel) ⟨by decide, by decide⟩) (xR_s (va_P.sub hP [] rfl) (hK.sub [] rfl)) rfl rfl hl.1 rfl (lv_room (Nat.le_of_ble_eq_true rfl)) d_M_axle_7 ⟨Nat.le_refl _, Nat.le_refl _⟩).run (fun r7 q7 => ?_)
  obtain ⟨rfl, -⟩ := q7.resolve_right (fun z => z.2 (hok))
  refine lv_if_ne (tgt := 17) hx hb d_M_axle_10 (by decide) (fun c10 => ?_) (fun c10 => ?_)
  ·
    refine lv_iconst (v := nI 0) hx hb d_M_axle_17 (by decide) ?_
    have hSz := hS.1
    refine va_calli (va_runV (C := R_M) (As := [.int (nI 1), .int (nI 0)]) (rest := []) ⟨hx, hb, hml, hown, hts⟩ (c_M_fails_0 l dC dI am cm s.heap.size th mw mwr mfl mact (nI 1) (-1) (nI 0) mlog mlive had (nI 0) (-1) (nI 0) (nI 0) (nI 0) pg pla sou fou (nI 1) ) (cwV 2 hts (g_V t_784 t_786 s_22 t_6 t_787) rfl rfl rfl (by decide +kernel) ⟨by decide, by decide⟩) (xP_v hP hK hD 0 rfl rfl) rfl rfl hl.1 rfl (lv_room (Nat.le_of_ble_eq_true rfl)) d_M_axle_18 ⟨Nat.le_refl _, Nat.le_refl _⟩) hS (fun q _ h => xA_up hS.1 q h) (fun q h => xA_up hS.1 q h) (fun r18 u18 t H1 locs1 ht hvm q18 hB hz1 hk1 hS => ?_)
    obtain ⟨hP1, hK1, hD1⟩ := hB
    rw [ht] at hP1
    have hD : va_D (xA 9 am s.heap.size) (mw_ am cm (nI 0) mw mwr mfl mact (nI 1) (-1) (nI 0) mlog mlive had (nI 0) (-1) (nI 0) (nI 0) (nI 0) pg pla sou fou) := hD1.weaken (fun _ q _ h => xA_up hSz _ h)
    have hP : va_P (dC, dI) vwCl (mw_ am cm (nI 0) mw mwr mfl mact (nI 1) (-1) (nI 0) mlog mlive had (nI 0) (-1) (nI 0) (nI 0) (nI 0) pg pla sou fou) H1 := hP1
    generalize H1 = H at hP hS ⊢
    generalize locs1 = locs at hS ⊢
    subst q18
    refine lv_if_ne (tgt := 53) hx hb d_M_axle_21 (by decide) (fun c21 => ?_) (fun c21 => ?_)
    ·
      exact absurd c21 (by decide)
    ·
      refine lv_aload_n hx hb d_M_axle_24 rfl (lv_at hl 0 rfl) ?_
      refine lv_iconst (v := nI 2) hx hb d_M_axle_25 (by decide) ?_
      refine lv_aload_n hx hb d_M_axle_26 rfl (lv_at hl 0 rfl) ?_
      refine va_get (D := (dC, dI)) (ci := 5) (v := .int (nI 1)) (C := R_M) (T := F_M) (N := 20) hx hb hts (fun w h => List.mem_cons_of_mem _ (in_M w h)) hown hK hP 0 rfl rfl 5 (by decide) (hts (.fieldLink R_M 23 R_M "on" "Z") (List.mem_cons_of_mem _ t_717)) (fun _ h9 => h9) rfl d_M_axle_27 ?_
      refine lv_if_eq (tgt := 42) hx hb d_M_axle_30 (by decide) (fun c30 => ?_) (fun c30 => ?_)
      ·
        exact absurd c30 (by decide)
      ·
        refine lv_aload_n hx hb d_M_axle_33 rfl (lv_at hl 0 rfl) ?_
        refine va_get (D := (dC, dI)) (ci := 5) (v := .int (nI 0)) (C := R_M) (T := F_M) (N := 20) hx hb hts (fun w h => List.mem_cons_of_mem _ (in_M w h)) hown hK hP 0 rfl rfl 13 (by decide) (hts (.fieldLink R_M 58 R_M "readings" "I") (List.mem_cons_of_mem _ t_725)) (fun _ h9 => h9) rfl d_M_axle_34 ?_
        refine lv_bipush (v := nI 9) hx hb d_M_axle_37 (by decide) ?_
        refine lv_icmp_ne (tgt := 46) hx hb d_M_axle_39 (by decide) (fun c39 => ?_) (fun c39 => ?_)
        ·
          refine lv_iconst (v := nI 0) hx hb d_M_axle_46 (by decide) ?_
          have hSz := hS.1
          refine va_calli (va_runV (C := R_M) (As := [.int (nI 2), .int (nI 0)]) (rest := []) ⟨hx, hb, hml, hown, hts⟩ (c_M_fails_0 l dC dI am cm H.size (nI 0) mw mwr mfl mact (nI 1) (-1) (nI 0) mlog mlive had (nI 0) (-1) (nI 0) (nI 0) (nI 0) pg pla sou fou (nI 2) ) (cwV 2 hts (g_V t_784 t_786 s_22 t_6 t_787) rfl rfl rfl (by decide +kernel) ⟨by decide, by decide⟩) (xP_v hP hK hD 0 rfl rfl) rfl rfl hl.1 rfl (lv_room (Nat.le_of_ble_eq_true rfl)) d_M_axle_47 ⟨Nat.le_refl _, Nat.le_refl _⟩) hS (fun q _ h => xA_up hS.1 q h) (fun q h => xA_up hS.1 q h) (fun r47 u47 t H1 locs1 ht hvm q47 hB hz1 hk1 hS => ?_)
          obtain ⟨hP1, hK1, hD1⟩ := hB
          rw [ht] at hP1
          have hD : va_D (xA 9 am s.heap.size) (mw_ am cm (nI 0) mw mwr mfl mact (nI 1) (-1) (nI 0) mlog mlive had (nI 0) (-1) (nI 0) (nI 0) (nI 0) pg pla sou fou) := hD1.weaken (fun _ q _ h => xA_up hSz _ h)
          have hP : va_P (dC, dI) vwCl (mw_ am cm (nI 0) mw mwr mfl mact (nI 1) (-1) (nI 0) mlog mlive had (nI 0) (-1) (nI 0) (nI 0) (nI 0) pg pla sou fou) H1 := hP1
          generalize H1 = H at hP hS ⊢
          generalize locs1 = locs at hS ⊢
          subst q47
          refine lv_if_eq (tgt := 55) hx hb d_M_axle_50 (by decide) (fun c50 => ?_) (fun c50 => ?_)
          ·
            refine lv_aload_n hx hb d_M_axle_55 rfl (lv_at hl 0 rfl) ?_
            refine lv_dup hx hb d_M_axle_56 rfl ?_
            refine va_get (D := (dC, dI)) (ci := 5) (v := .int (nI 0)) (C := R_M) (T := F_M) (N := 20) hx hb hts (fun w h => List.mem_cons_of_mem _ (in_M w h)) hown hK hP 0 rfl rfl 13 (by decide) (hts (.fieldLink R_M 58 R_M "readings" "I") (List.mem_cons_of_mem _ t_725)) (fun _ h9 => h9) rfl d_M_axle_57 ?_
            refine lv_iconst (v := nI 1) hx hb d_M_axle_60 (by decide) ?_
            refine lv_iadd hx hb d_M_axle_61 ?_
            refine tp_i (y := nI (0 + 1)) (nI_add _ _) ?_
            refine va_put (D := (dC, dI)) (ci := 5) (v := .int (nI (0 + 1))) (ty := .int) (C := R_M) (T := F_M) (N := 20) hx hb hts (fun w h => List.mem_cons_of_mem _ (in_M w h)) t_M ok_M nm_M hown hK hP hD hS 0 rfl rfl 13 (by decide) (hts (.fieldLink R_M 58 R_M "readings" "I") (List.mem_cons_of_mem _ t_725)) (fun _ h9 => h9) rfl (by decide +kernel) rfl rfl (Nat.le_of_ble_eq_true rfl) d_M_axle_62 (fun H locs hP hD hS => ?_)
            have hP : va_P (dC, dI) vwCl (mw_ am cm (nI 0) mw mwr mfl mact (nI 1) (-1) (nI 0) mlog mlive had (nI 0) (-1) (nI (0 + 1)) (nI 0) (nI 0) pg pla sou fou) H := hP
            have hD : va_D (xA 9 am s.heap.size) (mw_ am cm (nI 0) mw mwr mfl mact (nI 1) (-1) (nI 0) mlog mlive had (nI 0) (-1) (nI (0 + 1)) (nI 0) (nI 0) pg pla sou fou) := hD
            refine lv_aload_n hx hb d_M_axle_65 rfl (lv_at hl 0 rfl) ?_
            refine lv_dup hx hb d_M_axle_66 rfl ?_
            refine va_get (D := (dC, dI)) (ci := 5) (v := .int (nI 0)) (C := R_M) (T := F_M) (N := 20) hx hb hts (fun w h => List.mem_cons_of_mem _ (in_M w h)) hown hK hP 0 rfl rfl 14 (by decide) (hts (.fieldLink R_M 61 R_M "weight" "I") (List.mem_cons_of_mem _ t_726)) (fun _ h9 => h9) rfl d_M_axle_67 ?_
            refine lv_iload_n hx hb d_M_axle_70 rfl (lv_at hl 1 rfl) ?_
            refine lv_iadd hx hb d_M_axle_71 ?_
            refine va_put (D := (dC, dI)) (ci := 5) (v := .int ((nI 0) + st)) (ty := .int) (C := R_M) (T := F_M) (N := 20) hx hb hts (fun w h => List.mem_cons_of_mem _ (in_M w h)) t_M ok_M nm_M hown hK hP hD hS 0 rfl rfl 14 (by decide) (hts (.fieldLink R_M 61 R_M "weight" "I") (List.mem_cons_of_mem _ t_726)) (fun _ h9 => h9) rfl (by decide +kernel) rfl rfl (Nat.le_of_ble_eq_true rfl) d_M_axle_72 (fun H locs hP hD hS => ?_)
            have hP : va_P (dC, dI) vwCl (mw_ am cm (nI 0) mw mwr mfl mact (nI 1) (-1) (nI 0) mlog mlive had (nI 0) (-1) (nI (0 + 1)) ((nI 0) + st) (nI 0) pg pla sou fou) H := hP
            have hD : va_D (xA 9 am s.heap.size) (mw_ am cm (nI 0) mw mwr mfl mact (nI 1) (-1) (nI 0) mlog mlive had (nI 0) (-1) (nI (0 + 1)) ((nI 0) + st) (nI 0) pg pla sou fou) := hD
            refine lv_aload_n hx hb d_M_axle_75 rfl (lv_at hl 0 rfl) ?_
            refine va_get (D := (dC, dI)) (ci := 5) (v := .int (nI (0 + 1))) (C := R_M) (T := F_M) (N := 20) hx hb hts (fun w h => List.mem_cons_of_mem _ (in_M w h)) hown hK hP 0 rfl rfl 13 (by decide) (hts (.fieldLink R_M 58 R_M "readings" "I") (List.mem_cons_of_mem _ t_725)) (fun _ h9 => h9) rfl d_M_axle_76 ?_
            exact W.iret (v := nI (0 + 1)) hx hb hr (fun t ht hW => ⟨⟨nI (0 + 1), (), rfl, by first | rfl | trivial | omega, ⟨by rw [ht]; exact hP, va_K.moved hW.alike hK, hD⟩⟩, hS.F ht⟩) hS.2.2 d_M_axle_79
          ·
            exact absurd c50 (by decide)
        ·
          exact absurd c39 (by decide)
  ·
    exact absurd c10 (by decide)
set_option maxHeartbeats 4000000 in
set_option maxRecDepth 100000 in
theorem c_M_axle_bad (l : Launch) (dC : Nat → ClassId) (dI : Nat → Nat → Nat) (am cm : Nat → Nat) (sz : Nat) (th : Int32) (mw mwr mfl mact : Nat → Int32) (on cut mrec : Int32) (mlog mlive had : Nat → Int32) (mser mcur mrd mwt worn : Int32) (pg : Nat → Int32) (pla sou fou : Int32) (st : Int32) (hok : ¬ (nI 1 ≤ st ∧ st ≤ nI 1200)) : Met l y_M_axle w_M_axle ({ frames := 1, cells := 0, slots := 0, locals := 22 }) (xP (dC, dI) vwCl (mt cm) (mw_ am cm th mw mwr mfl mact (nI 1) (-1) (nI 0) mlog mlive had (nI 0) (-1) (nI 0) (nI 0) (nI 0) pg pla sou fou) sz [.ref (am 0), .int st]) (va_Qi (fun r (u : Unit) => r = nI 0) (fun (u : Unit) (t : State) => xB (dC, dI) vwCl (mt cm) (xA 9 am sz) (mw_ am cm (nI 1) mw mwr mfl mact (nI 1) (-1) (nI 0) mlog mlive had (nI 0) (-1) (nI 0) (nI 0) (nI 0) pg pla sou fou) t) (xA 9 am sz)) 0 0 (xA 9 am sz) := by
  refine Met.ofW (cc := b_M_axle) (maxL := 2) (ret := (some (.int))) (by decide) rfl ?_
  intro P e s m args below meth c0 s₁ B hml hv
  obtain ⟨rfl, hsz, hP, hK, hD0⟩ := hv
  have hx := B.exec
  have hb := B.bytes
  have hr := B.returns
  have hts := atoms_spec (ws := w_M_axle) B.pre
  have hown : s.vm.findClass R_M = some m.cls := findClass_of_methodNamed B.named
  have hlocks := B.notSynchronized
  subst hsz
  have hD := mw_D (sz := s.heap.size) hD0
  have hS : va_S (xA 9 am s.heap.size) s.heap s.heap [] := va_S.rf
  have hA : ∀ q : Nat, s.heap.size ≤ q → (xA 9 am s.heap.size) q := fun q h => Or.inr h
  have hl := lv_entry ([.ref (am 0), .int st]) (n := 2) (Nat.le_of_ble_eq_true rfl)
  rw [lg_entry_eq]
  generalize (lg_sl ([.ref (am 0), .int st]) ++ List.replicate (2 - (lg_sl ([.ref (am 0), .int st])).length) Slot.unset).toArray = ls at hl ⊢
  have hl : lv_has ls 2 [(0, .ref (am 0)), (1, .int st)] := hl
  refine lv_aload_n hx hb d_M_axle_0 rfl (lv_at hl 0 rfl) ?_
  refine lv_iconst (v := nI 1) hx hb d_M_axle_1 (by decide) ?_
  refine lv_iload_n hx hb d_M_axle_2 rfl (lv_at hl 1 rfl) ?_
  refine lv_iconst (v := nI 1) hx hb d_M_axle_3 (by decide) ?_
  refine lv_sipush (v := nI 1200) hx hb d_M_axle_4 (by decide) ?_
  refine vp_callSi (va_runS (As := [.int st, .int (nI 1), .int (nI 1200)]) (rest := [.int (nI 1), .ref (am 0)]) ⟨hx, hb, hml, hown, hts⟩ (c_M_isIn l dC dI st (nI 1) (nI 1200) ) (cwS 3 hts (g_S t_781 t_782 t_6 t_783) rfl rfl rfl (by decide +kernel) ⟨by decide, by decide⟩) (xR_s (va_P.sub hP [] rfl) (hK.sub [] rfl)) rfl rfl hl.1 rfl (lv_room (Nat.le_of_ble_eq_true rfl)) d_M_axle_7 ⟨Nat.le_refl _, Nat.le_refl _⟩).run (fun r7 q7 => ?_)
  obtain ⟨rfl, -⟩ := q7.resolve_left (fun z => (hok) z.2)
  refine lv_if_ne (tgt := 17) hx hb d_M_axle_10 (by decide) (fun c10 => ?_) (fun c10 => ?_)
  ·
    exact absurd c10 (by decide)
  ·
    refine lv_iconst (v := nI 1) hx hb d_M_axle_13 (by decide) ?_
    refine lv_goto (tgt := 18) hx hb d_M_axle_14 (by decide) ?_
    have hSz := hS.1
    refine va_calli (va_runV (C := R_M) (As := [.int (nI 1), .int (nI 1)]) (rest := []) ⟨hx, hb, hml, hown, hts⟩ (c_M_fails_1 l dC dI am cm s.heap.size th mw mwr mfl mact (nI 1) (-1) (nI 0) mlog mlive had (nI 0) (-1) (nI 0) (nI 0) (nI 0) pg pla sou fou (nI 1) ) (cwV 2 hts (g_V t_784 t_786 s_22 t_6 t_787) rfl rfl rfl (by decide +kernel) ⟨by decide, by decide⟩) (xP_v hP hK hD 0 rfl rfl) rfl rfl hl.1 rfl (lv_room (Nat.le_of_ble_eq_true rfl)) d_M_axle_18 ⟨Nat.le_refl _, Nat.le_refl _⟩) hS (fun q _ h => xA_up hS.1 q h) (fun q h => xA_up hS.1 q h) (fun r18 u18 t H1 locs1 ht hvm q18 hB hz1 hk1 hS => ?_)
    obtain ⟨hP1, hK1, hD1⟩ := hB
    rw [ht] at hP1
    have hD : va_D (xA 9 am s.heap.size) (mw_ am cm (nI 1) mw mwr mfl mact (nI 1) (-1) (nI 0) mlog mlive had (nI 0) (-1) (nI 0) (nI 0) (nI 0) pg pla sou fou) := hD1.weaken (fun _ q _ h => xA_up hSz _ h)
    have hP : va_P (dC, dI) vwCl (mw_ am cm (nI 1) mw mwr mfl mact (nI 1) (-1) (nI 0) mlog mlive had (nI 0) (-1) (nI 0) (nI 0) (nI 0) pg pla sou fou) H1 := hP1
    generalize H1 = H at hP hS ⊢
    generalize locs1 = locs at hS ⊢
    subst q18
    refine lv_if_ne (tgt := 53) hx hb d_M_axle_21 (by decide) (fun c21 => ?_) (fun c21 => ?_)
    ·
      refine lv_iconst (v := nI 0) hx hb d_M_axle_53 (by decide) ?_
      exact W.iret (v := nI 0) hx hb hr (fun t ht hW => ⟨⟨nI 0, (), rfl, by first | rfl | trivial | omega, ⟨by rw [ht]; exact hP, va_K.moved hW.alike hK, hD⟩⟩, hS.F ht⟩) hS.2.2 d_M_axle_54
    ·
      exact absurd c21 (by decide)
set_option maxHeartbeats 4000000 in
set_option maxRecDepth 100000 in
theorem c_M_close_ok (l : Launch) (dC : Nat → ClassId) (dI : Nat → Nat → Nat) (am cm : Nat → Nat) (sz : Nat) (th : Int32) (mw mwr mfl mact : Nat → Int32) (on cut mrec : Int32) (mlog mlive had : Nat → Int32) (mser mcur mrd mwt worn : Int32) (pg : Nat → Int32) (pla sou fou : Int32) (plate tare product clock : Int32) (h1 : (nI 0 ≤ tare ∧ tare ≤ nI 216000)) (h2 : (nI 0 ≤ product ∧ product ≤ nI 39)) (h3 : (nI 0 ≤ clock ∧ clock ≤ nI 67108863)) : Met l y_M_close w_M_close ({ frames := 1, cells := 0, slots := 0, locals := 22 }) (xP (dC, dI) vwCl (mt cm) (mw_ am cm th mw mwr mfl mact (nI 1) (-1) (nI 0) mlog mlive had (nI 0) (-1) (nI 0) (nI 0) (nI 0) pg pla sou fou) sz [.ref (am 0), .int plate, .int tare, .int product, .int clock]) (va_Qi (fun r (u : Unit) => r = nI 0) (fun (u : Unit) (t : State) => xB (dC, dI) vwCl (mt cm) (xA 9 am sz) (mw_ am cm (nI 0) mw mwr mfl mact (nI 1) (-1) (nI 0) mlog mlive had (nI 0) (-1) (nI 0) (nI 0) (nI 0) pg pla sou fou) t) (xA 9 am sz)) 0 0 (xA 9 am sz) := by
  refine Met.ofW (cc := b_M_close) (maxL := 7) (ret := (some (.int))) (by decide) rfl ?_
  intro P e s m args below meth c0 s₁ B hml hv
  obtain ⟨rfl, hsz, hP, hK, hD0⟩ := hv
  have hx := B.exec
  have hb := B.bytes
  have hr := B.returns
  have hts := atoms_spec (ws := w_M_close) B.pre
  have hown : s.vm.findClass R_M = some m.cls := findClass_of_methodNamed B.named
  have hlocks := B.notSynchronized
  subst hsz
  have hD := mw_D (sz := s.heap.size) hD0
  have hS : va_S (xA 9 am s.heap.size) s.heap s.heap [] := va_S.rf
  have hA : ∀ q : Nat, s.heap.size ≤ q → (xA 9 am s.heap.size) q := fun q h => Or.inr h
  have hl := lv_entry ([.ref (am 0), .int plate, .int tare, .int product, .int clock]) (n := 7) (Nat.le_of_ble_eq_true rfl)
  rw [lg_entry_eq]
  generalize (lg_sl ([.ref (am 0), .int plate, .int tare, .int product, .int clock]) ++ List.replicate (7 - (lg_sl ([.ref (am 0), .int plate, .int tare, .int product, .int clock])).length) Slot.unset).toArray = ls at hl ⊢
  have hl : lv_has ls 7 [(0, .ref (am 0)), (1, .int plate), (2, .int tare), (3, .int product), (4, .int clock)] := hl
  refine lv_iload_n hx hb d_M_close_0 rfl (lv_at hl 2 rfl) ?_
  refine lv_iconst (v := nI 0) hx hb d_M_close_1 (by decide) ?_
  refine lv_ldc (v := nI 216000) hx hb hown (hts (.constant R_M 141 216000) (List.mem_cons_of_mem _ t_792)) d_M_close_2 ?_
  refine vp_callSi (va_runS (As := [.int tare, .int (nI 0), .int (nI 216000)]) (rest := []) ⟨hx, hb, hml, hown, hts⟩ (c_M_isIn l dC dI tare (nI 0) (nI 216000) ) (cwS 3 hts (g_S t_781 t_782 t_6 t_783) rfl rfl rfl (by decide +kernel) ⟨by decide, by decide⟩) (xR_s (va_P.sub hP [] rfl) (hK.sub [] rfl)) rfl rfl hl.1 rfl (lv_room (Nat.le_of_ble_eq_true rfl)) d_M_close_4 ⟨Nat.le_refl _, Nat.le_refl _⟩).run (fun r4 q4 => ?_)
  obtain ⟨rfl, -⟩ := q4.resolve_right (fun z => z.2 (h1))
  refine lv_if_eq (tgt := 35) hx hb d_M_close_7 (by decide) (fun c7 => ?_) (fun c7 => ?_)
  ·
    exact absurd c7 (by decide)
  ·
    refine lv_iload_n hx hb d_M_close_10 rfl (lv_at hl 3 rfl) ?_
    refine lv_iconst (v := nI 0) hx hb d_M_close_11 (by decide) ?_
    refine lv_bipush (v := nI 39) hx hb d_M_close_12 (by decide) ?_
    refine vp_callSi (va_runS (As := [.int product, .int (nI 0), .int (nI 39)]) (rest := []) ⟨hx, hb, hml, hown, hts⟩ (c_M_isIn l dC dI product (nI 0) (nI 39) ) (cwS 3 hts (g_S t_781 t_782 t_6 t_783) rfl rfl rfl (by decide +kernel) ⟨by decide, by decide⟩) (xR_s (va_P.sub hP [] rfl) (hK.sub [] rfl)) rfl rfl hl.1 rfl (lv_room (Nat.le_of_ble_eq_true rfl)) d_M_close_14 ⟨Nat.le_refl _, Nat.le_refl _⟩).run (fun r14 q14 => ?_)
    obtain ⟨rfl, -⟩ := q14.resolve_right (fun z => z.2 (h2))
    refine lv_if_eq (tgt := 35) hx hb d_M_close_17 (by decide) (fun c17 => ?_) (fun c17 => ?_)
    ·
      exact absurd c17 (by decide)
    ·
      refine lv_iload hx hb d_M_close_20 (lv_at hl 4 rfl) ?_
      refine lv_iconst (v := nI 0) hx hb d_M_close_22 (by decide) ?_
      refine lv_ldc (v := nI 67108863) hx hb hown (hts (.constant R_M 142 67108863) (List.mem_cons_of_mem _ t_793)) d_M_close_23 ?_
      refine vp_callSi (va_runS (As := [.int clock, .int (nI 0), .int (nI 67108863)]) (rest := []) ⟨hx, hb, hml, hown, hts⟩ (c_M_isIn l dC dI clock (nI 0) (nI 67108863) ) (cwS 3 hts (g_S t_781 t_782 t_6 t_783) rfl rfl rfl (by decide +kernel) ⟨by decide, by decide⟩) (xR_s (va_P.sub hP [] rfl) (hK.sub [] rfl)) rfl rfl hl.1 rfl (lv_room (Nat.le_of_ble_eq_true rfl)) d_M_close_25 ⟨Nat.le_refl _, Nat.le_refl _⟩).run (fun r25 q25 => ?_)
      obtain ⟨rfl, -⟩ := q25.resolve_right (fun z => z.2 (h3))
      refine lv_if_eq (tgt := 35) hx hb d_M_close_28 (by decide) (fun c28 => ?_) (fun c28 => ?_)
      ·
        exact absurd c28 (by decide)
      ·
        refine lv_iconst (v := nI 1) hx hb d_M_close_31 (by decide) ?_
        refine lv_goto (tgt := 36) hx hb d_M_close_32 (by decide) ?_
        refine lv_istore hx hb d_M_close_36 hl (by decide) rfl (fun ls hl => ?_)
        have hl : lv_has ls 7 [(5, .int (nI 1)), (0, .ref (am 0)), (1, .int plate), (2, .int tare), (3, .int product), (4, .int clock)] := hl
        refine lv_aload_n hx hb d_M_close_38 rfl (lv_at hl 1 rfl) ?_
        refine lv_iconst (v := nI 1) hx hb d_M_close_39 (by decide) ?_
        refine lv_iload hx hb d_M_close_40 (lv_at hl 0 rfl) ?_
        refine lv_if_ne (tgt := 49) hx hb d_M_close_42 (by decide) (fun c42 => ?_) (fun c42 => ?_)
        ·
          refine lv_iconst (v := nI 0) hx hb d_M_close_49 (by decide) ?_
          have hSz := hS.1
          refine va_calli (va_runV (C := R_M) (As := [.int (nI 1), .int (nI 0)]) (rest := []) ⟨hx, hb, hml, hown, hts⟩ (c_M_fails_0 l dC dI am cm s.heap.size th mw mwr mfl mact (nI 1) (-1) (nI 0) mlog mlive had (nI 0) (-1) (nI 0) (nI 0) (nI 0) pg pla sou fou (nI 1) ) (cwV 2 hts (g_V t_784 t_786 s_22 t_6 t_787) rfl rfl rfl (by decide +kernel) ⟨by decide, by decide⟩) (xP_v hP hK hD 0 rfl rfl) rfl rfl hl.1 rfl (lv_room (Nat.le_of_ble_eq_true rfl)) d_M_close_50 ⟨Nat.le_refl _, Nat.le_refl _⟩) hS (fun q _ h => xA_up hS.1 q h) (fun q h => xA_up hS.1 q h) (fun r50 u50 t H1 locs1 ht hvm q50 hB hz1 hk1 hS => ?_)
          obtain ⟨hP1, hK1, hD1⟩ := hB
          rw [ht] at hP1
          have hD : va_D (xA 9 am s.heap.size) (mw_ am cm (nI 0) mw mwr mfl mact (nI 1) (-1) (nI 0) mlog mlive had (nI 0) (-1) (nI 0) (nI 0) (nI 0) pg pla sou fou) := hD1.weaken (fun _ q _ h => xA_up hSz _ h)
          have hP : va_P (dC, dI) vwCl (mw_ am cm (nI 0) mw mwr mfl mact (nI 1) (-1) (nI 0) mlog mlive had (nI 0) (-1) (nI 0) (nI 0) (nI 0) pg pla sou fou) H1 := hP1
          generalize H1 = H at hP hS ⊢
          generalize locs1 = locs at hS ⊢
          subst q50
          refine lv_if_ne (tgt := 76) hx hb d_M_close_53 (by decide) (fun c53 => ?_) (fun c53 => ?_)
          ·
            exact absurd c53 (by decide)
          ·
            refine lv_aload_n hx hb d_M_close_56 rfl (lv_at hl 1 rfl) ?_
            refine lv_iconst (v := nI 2) hx hb d_M_close_57 (by decide) ?_
            refine lv_aload_n hx hb d_M_close_58 rfl (lv_at hl 1 rfl) ?_
            refine va_get (D := (dC, dI)) (ci := 5) (v := .int (nI 1)) (C := R_M) (T := F_M) (N := 20) hx hb hts (fun w h => List.mem_cons_of_mem _ (in_M w h)) hown hK hP 0 rfl rfl 5 (by decide) (hts (.fieldLink R_M 23 R_M "on" "Z") (List.mem_cons_of_mem _ t_717)) (fun _ h9 => h9) rfl d_M_close_59 ?_
            refine lv_if_ne (tgt := 69) hx hb d_M_close_62 (by decide) (fun c62 => ?_) (fun c62 => ?_)
            ·
              refine lv_iconst (v := nI 0) hx hb d_M_close_69 (by decide) ?_
              have hSz := hS.1
              refine va_calli (va_runV (C := R_M) (As := [.int (nI 2), .int (nI 0)]) (rest := []) ⟨hx, hb, hml, hown, hts⟩ (c_M_fails_0 l dC dI am cm H.size (nI 0) mw mwr mfl mact (nI 1) (-1) (nI 0) mlog mlive had (nI 0) (-1) (nI 0) (nI 0) (nI 0) pg pla sou fou (nI 2) ) (cwV 2 hts (g_V t_784 t_786 s_22 t_6 t_787) rfl rfl rfl (by decide +kernel) ⟨by decide, by decide⟩) (xP_v hP hK hD 0 rfl rfl) rfl rfl hl.1 rfl (lv_room (Nat.le_of_ble_eq_true rfl)) d_M_close_70 ⟨Nat.le_refl _, Nat.le_refl _⟩) hS (fun q _ h => xA_up hS.1 q h) (fun q h => xA_up hS.1 q h) (fun r70 u70 t H1 locs1 ht hvm q70 hB hz1 hk1 hS => ?_)
              obtain ⟨hP1, hK1, hD1⟩ := hB
              rw [ht] at hP1
              have hD : va_D (xA 9 am s.heap.size) (mw_ am cm (nI 0) mw mwr mfl mact (nI 1) (-1) (nI 0) mlog mlive had (nI 0) (-1) (nI 0) (nI 0) (nI 0) pg pla sou fou) := hD1.weaken (fun _ q _ h => xA_up hSz _ h)
              have hP : va_P (dC, dI) vwCl (mw_ am cm (nI 0) mw mwr mfl mact (nI 1) (-1) (nI 0) mlog mlive had (nI 0) (-1) (nI 0) (nI 0) (nI 0) pg pla sou fou) H1 := hP1
              generalize H1 = H at hP hS ⊢
              generalize locs1 = locs at hS ⊢
              subst q70
              refine lv_if_eq (tgt := 78) hx hb d_M_close_73 (by decide) (fun c73 => ?_) (fun c73 => ?_)
              ·
                refine lv_aload_n hx hb d_M_close_78 rfl (lv_at hl 1 rfl) ?_
                refine va_get (D := (dC, dI)) (ci := 5) (v := .int (nI 0)) (C := R_M) (T := F_M) (N := 20) hx hb hts (fun w h => List.mem_cons_of_mem _ (in_M w h)) hown hK hP 0 rfl rfl 13 (by decide) (hts (.fieldLink R_M 58 R_M "readings" "I") (List.mem_cons_of_mem _ t_725)) (fun _ h9 => h9) rfl d_M_close_79 ?_
                refine lv_if_eq (tgt := 114) hx hb d_M_close_82 (by decide) (fun c82 => ?_) (fun c82 => ?_)
                ·
                  refine lv_iconst (v := nI 0) hx hb d_M_close_114 (by decide) ?_
                  exact W.iret (v := nI 0) hx hb hr (fun t ht hW => ⟨⟨nI 0, (), rfl, by first | rfl | trivial | omega, ⟨by rw [ht]; exact hP, va_K.moved hW.alike hK, hD⟩⟩, hS.F ht⟩) hS.2.2 d_M_close_115
                ·
                  exact absurd c82 (by decide)
              ·
                exact absurd c73 (by decide)
            ·
              exact absurd c62 (by decide)
        ·
          exact absurd c42 (by decide)
set_option maxHeartbeats 4000000 in
set_option maxRecDepth 100000 in
theorem c_M_close_bad (l : Launch) (dC : Nat → ClassId) (dI : Nat → Nat → Nat) (am cm : Nat → Nat) (sz : Nat) (th : Int32) (mw mwr mfl mact : Nat → Int32) (on cut mrec : Int32) (mlog mlive had : Nat → Int32) (mser mcur mrd mwt worn : Int32) (pg : Nat → Int32) (pla sou fou : Int32) (plate tare product clock : Int32) (hbad : ¬ ((nI 0 ≤ tare ∧ tare ≤ nI 216000) ∧ (nI 0 ≤ product ∧ product ≤ nI 39) ∧ (nI 0 ≤ clock ∧ clock ≤ nI 67108863))) : Met l y_M_close w_M_close ({ frames := 1, cells := 0, slots := 0, locals := 22 }) (xP (dC, dI) vwCl (mt cm) (mw_ am cm th mw mwr mfl mact (nI 1) (-1) (nI 0) mlog mlive had (nI 0) (-1) (nI 0) (nI 0) (nI 0) pg pla sou fou) sz [.ref (am 0), .int plate, .int tare, .int product, .int clock]) (va_Qi (fun r (u : Unit) => r = nI 0) (fun (u : Unit) (t : State) => xB (dC, dI) vwCl (mt cm) (xA 9 am sz) (mw_ am cm (nI 1) mw mwr mfl mact (nI 1) (-1) (nI 0) mlog mlive had (nI 0) (-1) (nI 0) (nI 0) (nI 0) pg pla sou fou) t) (xA 9 am sz)) 0 0 (xA 9 am sz) := by
  refine Met.ofW (cc := b_M_close) (maxL := 7) (ret := (some (.int))) (by decide) rfl ?_
  intro P e s m args below meth c0 s₁ B hml hv
  obtain ⟨rfl, hsz, hP, hK, hD0⟩ := hv
  have hx := B.exec
  have hb := B.bytes
  have hr := B.returns
  have hts := atoms_spec (ws := w_M_close) B.pre
  have hown : s.vm.findClass R_M = some m.cls := findClass_of_methodNamed B.named
  have hlocks := B.notSynchronized
  subst hsz
  have hD := mw_D (sz := s.heap.size) hD0
  have hS : va_S (xA 9 am s.heap.size) s.heap s.heap [] := va_S.rf
  have hA : ∀ q : Nat, s.heap.size ≤ q → (xA 9 am s.heap.size) q := fun q h => Or.inr h
  have hl := lv_entry ([.ref (am 0), .int plate, .int tare, .int product, .int clock]) (n := 7) (Nat.le_of_ble_eq_true rfl)
  rw [lg_entry_eq]
  generalize (lg_sl ([.ref (am 0), .int plate, .int tare, .int product, .int clock]) ++ List.replicate (7 - (lg_sl ([.ref (am 0), .int plate, .int tare, .int product, .int clock])).length) Slot.unset).toArray = ls at hl ⊢
  have hl : lv_has ls 7 [(0, .ref (am 0)), (1, .int plate), (2, .int tare), (3, .int product), (4, .int clock)] := hl
  refine lv_iload_n hx hb d_M_close_0 rfl (lv_at hl 2 rfl) ?_
  refine lv_iconst (v := nI 0) hx hb d_M_close_1 (by decide) ?_
  refine lv_ldc (v := nI 216000) hx hb hown (hts (.constant R_M 141 216000) (List.mem_cons_of_mem _ t_792)) d_M_close_2 ?_
  refine vp_callSi (va_runS (As := [.int tare, .int (nI 0), .int (nI 216000)]) (rest := []) ⟨hx, hb, hml, hown, hts⟩ (c_M_isIn l dC dI tare (nI 0) (nI 216000) ) (cwS 3 hts (g_S t_781 t_782 t_6 t_783) rfl rfl rfl (by decide +kernel) ⟨by decide, by decide⟩) (xR_s (va_P.sub hP [] rfl) (hK.sub [] rfl)) rfl rfl hl.1 rfl (lv_room (Nat.le_of_ble_eq_true rfl)) d_M_close_4 ⟨Nat.le_refl _, Nat.le_refl _⟩).run (fun r4 q4 => ?_)
  rcases q4 with ⟨rfl, h4⟩ | ⟨rfl, h4⟩
  ·
    refine lv_if_eq (tgt := 35) hx hb d_M_close_7 (by decide) (fun c7 => ?_) (fun c7 => ?_)
    ·
      exact absurd c7 (by decide)
    ·
      refine lv_iload_n hx hb d_M_close_10 rfl (lv_at hl 3 rfl) ?_
      refine lv_iconst (v := nI 0) hx hb d_M_close_11 (by decide) ?_
      refine lv_bipush (v := nI 39) hx hb d_M_close_12 (by decide) ?_
      refine vp_callSi (va_runS (As := [.int product, .int (nI 0), .int (nI 39)]) (rest := []) ⟨hx, hb, hml, hown, hts⟩ (c_M_isIn l dC dI product (nI 0) (nI 39) ) (cwS 3 hts (g_S t_781 t_782 t_6 t_783) rfl rfl rfl (by decide +kernel) ⟨by decide, by decide⟩) (xR_s (va_P.sub hP [] rfl) (hK.sub [] rfl)) rfl rfl hl.1 rfl (lv_room (Nat.le_of_ble_eq_true rfl)) d_M_close_14 ⟨Nat.le_refl _, Nat.le_refl _⟩).run (fun r14 q14 => ?_)
      rcases q14 with ⟨rfl, h14⟩ | ⟨rfl, h14⟩
      ·
        refine lv_if_eq (tgt := 35) hx hb d_M_close_17 (by decide) (fun c17 => ?_) (fun c17 => ?_)
        ·
          exact absurd c17 (by decide)
        ·
          refine lv_iload hx hb d_M_close_20 (lv_at hl 4 rfl) ?_
          refine lv_iconst (v := nI 0) hx hb d_M_close_22 (by decide) ?_
          refine lv_ldc (v := nI 67108863) hx hb hown (hts (.constant R_M 142 67108863) (List.mem_cons_of_mem _ t_793)) d_M_close_23 ?_
          refine vp_callSi (va_runS (As := [.int clock, .int (nI 0), .int (nI 67108863)]) (rest := []) ⟨hx, hb, hml, hown, hts⟩ (c_M_isIn l dC dI clock (nI 0) (nI 67108863) ) (cwS 3 hts (g_S t_781 t_782 t_6 t_783) rfl rfl rfl (by decide +kernel) ⟨by decide, by decide⟩) (xR_s (va_P.sub hP [] rfl) (hK.sub [] rfl)) rfl rfl hl.1 rfl (lv_room (Nat.le_of_ble_eq_true rfl)) d_M_close_25 ⟨Nat.le_refl _, Nat.le_refl _⟩).run (fun r25 q25 => ?_)
          rcases q25 with ⟨rfl, h25⟩ | ⟨rfl, h25⟩
          ·
            refine lv_if_eq (tgt := 35) hx hb d_M_close_28 (by decide) (fun c28 => ?_) (fun c28 => ?_)
            ·
              exact absurd c28 (by decide)
            ·
              exact absurd ⟨h4, h14, h25⟩ hbad
          ·
            refine lv_if_eq (tgt := 35) hx hb d_M_close_28 (by decide) (fun c28 => ?_) (fun c28 => ?_)
            ·
              refine lv_iconst (v := nI 0) hx hb d_M_close_35 (by decide) ?_
              refine lv_istore hx hb d_M_close_36 hl (by decide) rfl (fun ls hl => ?_)
              have hl : lv_has ls 7 [(5, .int (nI 0)), (0, .ref (am 0)), (1, .int plate), (2, .int tare), (3, .int product), (4, .int clock)] := hl
              refine lv_aload_n hx hb d_M_close_38 rfl (lv_at hl 1 rfl) ?_
              refine lv_iconst (v := nI 1) hx hb d_M_close_39 (by decide) ?_
              refine lv_iload hx hb d_M_close_40 (lv_at hl 0 rfl) ?_
              refine lv_if_ne (tgt := 49) hx hb d_M_close_42 (by decide) (fun c42 => ?_) (fun c42 => ?_)
              ·
                exact absurd c42 (by decide)
              ·
                refine lv_iconst (v := nI 1) hx hb d_M_close_45 (by decide) ?_
                refine lv_goto (tgt := 50) hx hb d_M_close_46 (by decide) ?_
                have hSz := hS.1
                refine va_calli (va_runV (C := R_M) (As := [.int (nI 1), .int (nI 1)]) (rest := []) ⟨hx, hb, hml, hown, hts⟩ (c_M_fails_1 l dC dI am cm s.heap.size th mw mwr mfl mact (nI 1) (-1) (nI 0) mlog mlive had (nI 0) (-1) (nI 0) (nI 0) (nI 0) pg pla sou fou (nI 1) ) (cwV 2 hts (g_V t_784 t_786 s_22 t_6 t_787) rfl rfl rfl (by decide +kernel) ⟨by decide, by decide⟩) (xP_v hP hK hD 0 rfl rfl) rfl rfl hl.1 rfl (lv_room (Nat.le_of_ble_eq_true rfl)) d_M_close_50 ⟨Nat.le_refl _, Nat.le_refl _⟩) hS (fun q _ h => xA_up hS.1 q h) (fun q h => xA_up hS.1 q h) (fun r50 u50 t H1 locs1 ht hvm q50 hB hz1 hk1 hS => ?_)
                obtain ⟨hP1, hK1, hD1⟩ := hB
                rw [ht] at hP1
                have hD : va_D (xA 9 am s.heap.size) (mw_ am cm (nI 1) mw mwr mfl mact (nI 1) (-1) (nI 0) mlog mlive had (nI 0) (-1) (nI 0) (nI 0) (nI 0) pg pla sou fou) := hD1.weaken (fun _ q _ h => xA_up hSz _ h)
                have hP : va_P (dC, dI) vwCl (mw_ am cm (nI 1) mw mwr mfl mact (nI 1) (-1) (nI 0) mlog mlive had (nI 0) (-1) (nI 0) (nI 0) (nI 0) pg pla sou fou) H1 := hP1
                generalize H1 = H at hP hS ⊢
                generalize locs1 = locs at hS ⊢
                subst q50
                refine lv_if_ne (tgt := 76) hx hb d_M_close_53 (by decide) (fun c53 => ?_) (fun c53 => ?_)
                ·
                  refine lv_iconst (v := nI 0) hx hb d_M_close_76 (by decide) ?_
                  exact W.iret (v := nI 0) hx hb hr (fun t ht hW => ⟨⟨nI 0, (), rfl, by first | rfl | trivial | omega, ⟨by rw [ht]; exact hP, va_K.moved hW.alike hK, hD⟩⟩, hS.F ht⟩) hS.2.2 d_M_close_77
                ·
                  exact absurd c53 (by decide)
            ·
              exact absurd c28 (by decide)
      ·
        refine lv_if_eq (tgt := 35) hx hb d_M_close_17 (by decide) (fun c17 => ?_) (fun c17 => ?_)
        ·
          refine lv_iconst (v := nI 0) hx hb d_M_close_35 (by decide) ?_
          refine lv_istore hx hb d_M_close_36 hl (by decide) rfl (fun ls hl => ?_)
          have hl : lv_has ls 7 [(5, .int (nI 0)), (0, .ref (am 0)), (1, .int plate), (2, .int tare), (3, .int product), (4, .int clock)] := hl
          refine lv_aload_n hx hb d_M_close_38 rfl (lv_at hl 1 rfl) ?_
          refine lv_iconst (v := nI 1) hx hb d_M_close_39 (by decide) ?_
          refine lv_iload hx hb d_M_close_40 (lv_at hl 0 rfl) ?_
          refine lv_if_ne (tgt := 49) hx hb d_M_close_42 (by decide) (fun c42 => ?_) (fun c42 => ?_)
          ·
            exact absurd c42 (by decide)
          ·
            refine lv_iconst (v := nI 1) hx hb d_M_close_45 (by decide) ?_
            refine lv_goto (tgt := 50) hx hb d_M_close_46 (by decide) ?_
            have hSz := hS.1
            refine va_calli (va_runV (C := R_M) (As := [.int (nI 1), .int (nI 1)]) (rest := []) ⟨hx, hb, hml, hown, hts⟩ (c_M_fails_1 l dC dI am cm s.heap.size th mw mwr mfl mact (nI 1) (-1) (nI 0) mlog mlive had (nI 0) (-1) (nI 0) (nI 0) (nI 0) pg pla sou fou (nI 1) ) (cwV 2 hts (g_V t_784 t_786 s_22 t_6 t_787) rfl rfl rfl (by decide +kernel) ⟨by decide, by decide⟩) (xP_v hP hK hD 0 rfl rfl) rfl rfl hl.1 rfl (lv_room (Nat.le_of_ble_eq_true rfl)) d_M_close_50 ⟨Nat.le_refl _, Nat.le_refl _⟩) hS (fun q _ h => xA_up hS.1 q h) (fun q h => xA_up hS.1 q h) (fun r50 u50 t H1 locs1 ht hvm q50 hB hz1 hk1 hS => ?_)
            obtain ⟨hP1, hK1, hD1⟩ := hB
            rw [ht] at hP1
            have hD : va_D (xA 9 am s.heap.size) (mw_ am cm (nI 1) mw mwr mfl mact (nI 1) (-1) (nI 0) mlog mlive had (nI 0) (-1) (nI 0) (nI 0) (nI 0) pg pla sou fou) := hD1.weaken (fun _ q _ h => xA_up hSz _ h)
            have hP : va_P (dC, dI) vwCl (mw_ am cm (nI 1) mw mwr mfl mact (nI 1) (-1) (nI 0) mlog mlive had (nI 0) (-1) (nI 0) (nI 0) (nI 0) pg pla sou fou) H1 := hP1
            generalize H1 = H at hP hS ⊢
            generalize locs1 = locs at hS ⊢
            subst q50
            refine lv_if_ne (tgt := 76) hx hb d_M_close_53 (by decide) (fun c53 => ?_) (fun c53 => ?_)
            ·
              refine lv_iconst (v := nI 0) hx hb d_M_close_76 (by decide) ?_
              exact W.iret (v := nI 0) hx hb hr (fun t ht hW => ⟨⟨nI 0, (), rfl, by first | rfl | trivial | omega, ⟨by rw [ht]; exact hP, va_K.moved hW.alike hK, hD⟩⟩, hS.F ht⟩) hS.2.2 d_M_close_77
            ·
              exact absurd c53 (by decide)
        ·
          exact absurd c17 (by decide)
  ·
    refine lv_if_eq (tgt := 35) hx hb d_M_close_7 (by decide) (fun c7 => ?_) (fun c7 => ?_)
    ·
      refine lv_iconst (v := nI 0) hx hb d_M_close_35 (by decide) ?_
      refine lv_istore hx hb d_M_close_36 hl (by decide) rfl (fun ls hl => ?_)
      have hl : lv_has ls 7 [(5, .int (nI 0)), (0, .ref (am 0)), (1, .int plate), (2, .int tare), (3, .int product), (4, .int clock)] := hl
      refine lv_aload_n hx hb d_M_close_38 rfl (lv_at hl 1 rfl) ?_
      refine lv_iconst (v := nI 1) hx hb d_M_close_39 (by decide) ?_
      refine lv_iload hx hb d_M_close_40 (lv_at hl 0 rfl) ?_
      refine lv_if_ne (tgt := 49) hx hb d_M_close_42 (by decide) (fun c42 => ?_) (fun c42 => ?_)
      ·
        exact absurd c42 (by decide)
      ·
        refine lv_iconst (v := nI 1) hx hb d_M_close_45 (by decide) ?_
        refine lv_goto (tgt := 50) hx hb d_M_close_46 (by decide) ?_
        have hSz := hS.1
        refine va_calli (va_runV (C := R_M) (As := [.int (nI 1), .int (nI 1)]) (rest := []) ⟨hx, hb, hml, hown, hts⟩ (c_M_fails_1 l dC dI am cm s.heap.size th mw mwr mfl mact (nI 1) (-1) (nI 0) mlog mlive had (nI 0) (-1) (nI 0) (nI 0) (nI 0) pg pla sou fou (nI 1) ) (cwV 2 hts (g_V t_784 t_786 s_22 t_6 t_787) rfl rfl rfl (by decide +kernel) ⟨by decide, by decide⟩) (xP_v hP hK hD 0 rfl rfl) rfl rfl hl.1 rfl (lv_room (Nat.le_of_ble_eq_true rfl)) d_M_close_50 ⟨Nat.le_refl _, Nat.le_refl _⟩) hS (fun q _ h => xA_up hS.1 q h) (fun q h => xA_up hS.1 q h) (fun r50 u50 t H1 locs1 ht hvm q50 hB hz1 hk1 hS => ?_)
        obtain ⟨hP1, hK1, hD1⟩ := hB
        rw [ht] at hP1
        have hD : va_D (xA 9 am s.heap.size) (mw_ am cm (nI 1) mw mwr mfl mact (nI 1) (-1) (nI 0) mlog mlive had (nI 0) (-1) (nI 0) (nI 0) (nI 0) pg pla sou fou) := hD1.weaken (fun _ q _ h => xA_up hSz _ h)
        have hP : va_P (dC, dI) vwCl (mw_ am cm (nI 1) mw mwr mfl mact (nI 1) (-1) (nI 0) mlog mlive had (nI 0) (-1) (nI 0) (nI 0) (nI 0) pg pla sou fou) H1 := hP1
        generalize H1 = H at hP hS ⊢
        generalize locs1 = locs at hS ⊢
        subst q50
        refine lv_if_ne (tgt := 76) hx hb d_M_close_53 (by decide) (fun c53 => ?_) (fun c53 => ?_)
        ·
          refine lv_iconst (v := nI 0) hx hb d_M_close_76 (by decide) ?_
          exact W.iret (v := nI 0) hx hb hr (fun t ht hW => ⟨⟨nI 0, (), rfl, by first | rfl | trivial | omega, ⟨by rw [ht]; exact hP, va_K.moved hW.alike hK, hD⟩⟩, hS.F ht⟩) hS.2.2 d_M_close_77
        ·
          exact absurd c53 (by decide)
    ·
      exact absurd c7 (by decide)
set_option maxHeartbeats 4000000 in
set_option maxRecDepth 100000 in
theorem c_M_annul_ok (l : Launch) (dC : Nat → ClassId) (dI : Nat → Nat → Nat) (am cm : Nat → Nat) (sz : Nat) (th : Int32) (mw mwr mfl mact : Nat → Int32) (on cut mrec : Int32) (mlog mlive had : Nat → Int32) (mser mcur mrd mwt worn : Int32) (pg : Nat → Int32) (pla sou fou : Int32) (tno rea : Int32) (hok : (nI 0 ≤ rea ∧ rea ≤ nI 3)) : Met l y_M_annul w_M_annul ({ frames := 1, cells := 0, slots := 0, locals := 23 }) (xP (dC, dI) vwCl (mt cm) (mw_ am cm th mw mwr mfl mact (nI 1) (-1) (nI 0) mlog mlive had (nI 0) (-1) (nI 0) (nI 0) (nI 0) pg pla sou fou) sz [.ref (am 0), .int tno, .int rea]) (va_Qi (fun r (u : Unit) => r = nI 0) (fun (u : Unit) (t : State) => xB (dC, dI) vwCl (mt cm) (xA 9 am sz) (mw_ am cm (nI 0) mw mwr mfl mact (nI 1) (-1) (nI 0) mlog mlive had (nI 0) (-1) (nI 0) (nI 0) (nI 0) pg pla sou fou) t) (xA 9 am sz)) 0 0 (xA 9 am sz) := by
  refine Met.ofW (cc := b_M_annul) (maxL := 4) (ret := (some (.int))) (by decide) rfl ?_
  intro P e s m args below meth c0 s₁ B hml hv
  obtain ⟨rfl, hsz, hP, hK, hD0⟩ := hv
  have hx := B.exec
  have hb := B.bytes
  have hr := B.returns
  have hts := atoms_spec (ws := w_M_annul) B.pre
  have hown : s.vm.findClass R_M = some m.cls := findClass_of_methodNamed B.named
  have hlocks := B.notSynchronized
  subst hsz
  have hD := mw_D (sz := s.heap.size) hD0
  have hS : va_S (xA 9 am s.heap.size) s.heap s.heap [] := va_S.rf
  have hA : ∀ q : Nat, s.heap.size ≤ q → (xA 9 am s.heap.size) q := fun q h => Or.inr h
  have hl := lv_entry ([.ref (am 0), .int tno, .int rea]) (n := 4) (Nat.le_of_ble_eq_true rfl)
  rw [lg_entry_eq]
  generalize (lg_sl ([.ref (am 0), .int tno, .int rea]) ++ List.replicate (4 - (lg_sl ([.ref (am 0), .int tno, .int rea])).length) Slot.unset).toArray = ls at hl ⊢
  have hl : lv_has ls 4 [(0, .ref (am 0)), (1, .int tno), (2, .int rea)] := hl
  refine lv_aload_n hx hb d_M_annul_0 rfl (lv_at hl 0 rfl) ?_
  refine lv_iconst (v := nI 1) hx hb d_M_annul_1 (by decide) ?_
  refine lv_iload_n hx hb d_M_annul_2 rfl (lv_at hl 2 rfl) ?_
  refine lv_iconst (v := nI 0) hx hb d_M_annul_3 (by decide) ?_
  refine lv_iconst (v := nI 3) hx hb d_M_annul_4 (by decide) ?_
  refine vp_callSi (va_runS (As := [.int rea, .int (nI 0), .int (nI 3)]) (rest := [.int (nI 1), .ref (am 0)]) ⟨hx, hb, hml, hown, hts⟩ (c_M_isIn l dC dI rea (nI 0) (nI 3) ) (cwS 3 hts (g_S t_781 t_782 t_6 t_783) rfl rfl rfl (by decide +kernel) ⟨by decide, by decide⟩) (xR_s (va_P.sub hP [] rfl) (hK.sub [] rfl)) rfl rfl hl.1 rfl (lv_room (Nat.le_of_ble_eq_true rfl)) d_M_annul_5 ⟨Nat.le_refl _, Nat.le_refl _⟩).run (fun r5 q5 => ?_)
  obtain ⟨rfl, -⟩ := q5.resolve_right (fun z => z.2 (hok))
  refine lv_if_ne (tgt := 15) hx hb d_M_annul_8 (by decide) (fun c8 => ?_) (fun c8 => ?_)
  ·
    refine lv_iconst (v := nI 0) hx hb d_M_annul_15 (by decide) ?_
    have hSz := hS.1
    refine va_calli (va_runV (C := R_M) (As := [.int (nI 1), .int (nI 0)]) (rest := []) ⟨hx, hb, hml, hown, hts⟩ (c_M_fails_0 l dC dI am cm s.heap.size th mw mwr mfl mact (nI 1) (-1) (nI 0) mlog mlive had (nI 0) (-1) (nI 0) (nI 0) (nI 0) pg pla sou fou (nI 1) ) (cwV 2 hts (g_V t_784 t_786 s_22 t_6 t_787) rfl rfl rfl (by decide +kernel) ⟨by decide, by decide⟩) (xP_v hP hK hD 0 rfl rfl) rfl rfl hl.1 rfl (lv_room (Nat.le_of_ble_eq_true rfl)) d_M_annul_16 ⟨Nat.le_refl _, Nat.le_refl _⟩) hS (fun q _ h => xA_up hS.1 q h) (fun q h => xA_up hS.1 q h) (fun r16 u16 t H1 locs1 ht hvm q16 hB hz1 hk1 hS => ?_)
    obtain ⟨hP1, hK1, hD1⟩ := hB
    rw [ht] at hP1
    have hD : va_D (xA 9 am s.heap.size) (mw_ am cm (nI 0) mw mwr mfl mact (nI 1) (-1) (nI 0) mlog mlive had (nI 0) (-1) (nI 0) (nI 0) (nI 0) pg pla sou fou) := hD1.weaken (fun _ q _ h => xA_up hSz _ h)
    have hP : va_P (dC, dI) vwCl (mw_ am cm (nI 0) mw mwr mfl mact (nI 1) (-1) (nI 0) mlog mlive had (nI 0) (-1) (nI 0) (nI 0) (nI 0) pg pla sou fou) H1 := hP1
    generalize H1 = H at hP hS ⊢
    generalize locs1 = locs at hS ⊢
    subst q16
    refine lv_if_ne (tgt := 42) hx hb d_M_annul_19 (by decide) (fun c19 => ?_) (fun c19 => ?_)
    ·
      exact absurd c19 (by decide)
    ·
      refine lv_aload_n hx hb d_M_annul_22 rfl (lv_at hl 0 rfl) ?_
      refine lv_iconst (v := nI 2) hx hb d_M_annul_23 (by decide) ?_
      refine lv_aload_n hx hb d_M_annul_24 rfl (lv_at hl 0 rfl) ?_
      refine va_get (D := (dC, dI)) (ci := 5) (v := .int (nI 1)) (C := R_M) (T := F_M) (N := 20) hx hb hts (fun w h => List.mem_cons_of_mem _ (in_M w h)) hown hK hP 0 rfl rfl 5 (by decide) (hts (.fieldLink R_M 23 R_M "on" "Z") (List.mem_cons_of_mem _ t_717)) (fun _ h9 => h9) rfl d_M_annul_25 ?_
      refine lv_if_ne (tgt := 35) hx hb d_M_annul_28 (by decide) (fun c28 => ?_) (fun c28 => ?_)
      ·
        refine lv_iconst (v := nI 0) hx hb d_M_annul_35 (by decide) ?_
        have hSz := hS.1
        refine va_calli (va_runV (C := R_M) (As := [.int (nI 2), .int (nI 0)]) (rest := []) ⟨hx, hb, hml, hown, hts⟩ (c_M_fails_0 l dC dI am cm H.size (nI 0) mw mwr mfl mact (nI 1) (-1) (nI 0) mlog mlive had (nI 0) (-1) (nI 0) (nI 0) (nI 0) pg pla sou fou (nI 2) ) (cwV 2 hts (g_V t_784 t_786 s_22 t_6 t_787) rfl rfl rfl (by decide +kernel) ⟨by decide, by decide⟩) (xP_v hP hK hD 0 rfl rfl) rfl rfl hl.1 rfl (lv_room (Nat.le_of_ble_eq_true rfl)) d_M_annul_36 ⟨Nat.le_refl _, Nat.le_refl _⟩) hS (fun q _ h => xA_up hS.1 q h) (fun q h => xA_up hS.1 q h) (fun r36 u36 t H1 locs1 ht hvm q36 hB hz1 hk1 hS => ?_)
        obtain ⟨hP1, hK1, hD1⟩ := hB
        rw [ht] at hP1
        have hD : va_D (xA 9 am s.heap.size) (mw_ am cm (nI 0) mw mwr mfl mact (nI 1) (-1) (nI 0) mlog mlive had (nI 0) (-1) (nI 0) (nI 0) (nI 0) pg pla sou fou) := hD1.weaken (fun _ q _ h => xA_up hSz _ h)
        have hP : va_P (dC, dI) vwCl (mw_ am cm (nI 0) mw mwr mfl mact (nI 1) (-1) (nI 0) mlog mlive had (nI 0) (-1) (nI 0) (nI 0) (nI 0) pg pla sou fou) H1 := hP1
        generalize H1 = H at hP hS ⊢
        generalize locs1 = locs at hS ⊢
        subst q36
        refine lv_if_eq (tgt := 44) hx hb d_M_annul_39 (by decide) (fun c39 => ?_) (fun c39 => ?_)
        ·
          refine lv_iload_n hx hb d_M_annul_44 rfl (lv_at hl 1 rfl) ?_
          refine lv_iconst (v := nI 1) hx hb d_M_annul_45 (by decide) ?_
          refine lv_icmp_lt (tgt := 74) hx hb d_M_annul_46 (by decide) (fun c46 => ?_) (fun c46 => ?_)
          ·
            refine lv_iconst (v := nI 0) hx hb d_M_annul_74 (by decide) ?_
            exact W.iret (v := nI 0) hx hb hr (fun t ht hW => ⟨⟨nI 0, (), rfl, by first | rfl | trivial | omega, ⟨by rw [ht]; exact hP, va_K.moved hW.alike hK, hD⟩⟩, hS.F ht⟩) hS.2.2 d_M_annul_75
          ·
            refine lv_aload_n hx hb d_M_annul_49 rfl (lv_at hl 0 rfl) ?_
            refine lv_iload_n hx hb d_M_annul_50 rfl (lv_at hl 1 rfl) ?_
            refine vp_callSi (va_runV (C := R_M) (As := [.int tno]) (rest := []) ⟨hx, hb, hml, hown, hts⟩ (c_M_placeOf_f l dC dI am cm (nI 0) mw mwr mfl mact (nI 1) (-1) (nI 0) mlog mlive had (nI 0) (-1) (nI 0) (nI 0) (nI 0) pg pla sou fou tno ) (cwV 1 hts (g_V t_881 t_883 s_42 t_6 t_884) rfl rfl rfl (by decide +kernel) ⟨by decide, by decide⟩) (xR_v hP hK 0 rfl rfl) rfl rfl hl.1 rfl (lv_room (Nat.le_of_ble_eq_true rfl)) d_M_annul_51 ⟨Nat.le_refl _, Nat.le_refl _⟩).run (fun r51 q51 => ?_)
            subst q51
            refine lv_if_lt (tgt := 74) hx hb d_M_annul_54 (by decide) (fun c54 => ?_) (fun c54 => ?_)
            ·
              refine lv_iconst (v := nI 0) hx hb d_M_annul_74 (by decide) ?_
              exact W.iret (v := nI 0) hx hb hr (fun t ht hW => ⟨⟨nI 0, (), rfl, by first | rfl | trivial | omega, ⟨by rw [ht]; exact hP, va_K.moved hW.alike hK, hD⟩⟩, hS.F ht⟩) hS.2.2 d_M_annul_75
            ·
              exact absurd c54 (by decide)
        ·
          exact absurd c39 (by decide)
      ·
        exact absurd c28 (by decide)
  ·
    exact absurd c8 (by decide)
set_option maxHeartbeats 4000000 in
set_option maxRecDepth 100000 in
theorem c_M_annul_bad (l : Launch) (dC : Nat → ClassId) (dI : Nat → Nat → Nat) (am cm : Nat → Nat) (sz : Nat) (th : Int32) (mw mwr mfl mact : Nat → Int32) (on cut mrec : Int32) (mlog mlive had : Nat → Int32) (mser mcur mrd mwt worn : Int32) (pg : Nat → Int32) (pla sou fou : Int32) (tno rea : Int32) (hok : ¬ (nI 0 ≤ rea ∧ rea ≤ nI 3)) : Met l y_M_annul w_M_annul ({ frames := 1, cells := 0, slots := 0, locals := 23 }) (xP (dC, dI) vwCl (mt cm) (mw_ am cm th mw mwr mfl mact (nI 1) (-1) (nI 0) mlog mlive had (nI 0) (-1) (nI 0) (nI 0) (nI 0) pg pla sou fou) sz [.ref (am 0), .int tno, .int rea]) (va_Qi (fun r (u : Unit) => r = nI 0) (fun (u : Unit) (t : State) => xB (dC, dI) vwCl (mt cm) (xA 9 am sz) (mw_ am cm (nI 1) mw mwr mfl mact (nI 1) (-1) (nI 0) mlog mlive had (nI 0) (-1) (nI 0) (nI 0) (nI 0) pg pla sou fou) t) (xA 9 am sz)) 0 0 (xA 9 am sz) := by
  refine Met.ofW (cc := b_M_annul) (maxL := 4) (ret := (some (.int))) (by decide) rfl ?_
  intro P e s m args below meth c0 s₁ B hml hv
  obtain ⟨rfl, hsz, hP, hK, hD0⟩ := hv
  have hx := B.exec
  have hb := B.bytes
  have hr := B.returns
  have hts := atoms_spec (ws := w_M_annul) B.pre
  have hown : s.vm.findClass R_M = some m.cls := findClass_of_methodNamed B.named
  have hlocks := B.notSynchronized
  subst hsz
  have hD := mw_D (sz := s.heap.size) hD0
  have hS : va_S (xA 9 am s.heap.size) s.heap s.heap [] := va_S.rf
  have hA : ∀ q : Nat, s.heap.size ≤ q → (xA 9 am s.heap.size) q := fun q h => Or.inr h
  have hl := lv_entry ([.ref (am 0), .int tno, .int rea]) (n := 4) (Nat.le_of_ble_eq_true rfl)
  rw [lg_entry_eq]
  generalize (lg_sl ([.ref (am 0), .int tno, .int rea]) ++ List.replicate (4 - (lg_sl ([.ref (am 0), .int tno, .int rea])).length) Slot.unset).toArray = ls at hl ⊢
  have hl : lv_has ls 4 [(0, .ref (am 0)), (1, .int tno), (2, .int rea)] := hl
  refine lv_aload_n hx hb d_M_annul_0 rfl (lv_at hl 0 rfl) ?_
  refine lv_iconst (v := nI 1) hx hb d_M_annul_1 (by decide) ?_
  refine lv_iload_n hx hb d_M_annul_2 rfl (lv_at hl 2 rfl) ?_
  refine lv_iconst (v := nI 0) hx hb d_M_annul_3 (by decide) ?_
  refine lv_iconst (v := nI 3) hx hb d_M_annul_4 (by decide) ?_
  refine vp_callSi (va_runS (As := [.int rea, .int (nI 0), .int (nI 3)]) (rest := [.int (nI 1), .ref (am 0)]) ⟨hx, hb, hml, hown, hts⟩ (c_M_isIn l dC dI rea (nI 0) (nI 3) ) (cwS 3 hts (g_S t_781 t_782 t_6 t_783) rfl rfl rfl (by decide +kernel) ⟨by decide, by decide⟩) (xR_s (va_P.sub hP [] rfl) (hK.sub [] rfl)) rfl rfl hl.1 rfl (lv_room (Nat.le_of_ble_eq_true rfl)) d_M_annul_5 ⟨Nat.le_refl _, Nat.le_refl _⟩).run (fun r5 q5 => ?_)
  obtain ⟨rfl, -⟩ := q5.resolve_left (fun z => (hok) z.2)
  refine lv_if_ne (tgt := 15) hx hb d_M_annul_8 (by decide) (fun c8 => ?_) (fun c8 => ?_)
  ·
    exact absurd c8 (by decide)
  ·
    refine lv_iconst (v := nI 1) hx hb d_M_annul_11 (by decide) ?_
    refine lv_goto (tgt := 16) hx hb d_M_annul_12 (by decide) ?_
    have hSz := hS.1
    refine va_calli (va_runV (C := R_M) (As := [.int (nI 1), .int (nI 1)]) (rest := []) ⟨hx, hb, hml, hown, hts⟩ (c_M_fails_1 l dC dI am cm s.heap.size th mw mwr mfl mact (nI 1) (-1) (nI 0) mlog mlive had (nI 0) (-1) (nI 0) (nI 0) (nI 0) pg pla sou fou (nI 1) ) (cwV 2 hts (g_V t_784 t_786 s_22 t_6 t_787) rfl rfl rfl (by decide +kernel) ⟨by decide, by decide⟩) (xP_v hP hK hD 0 rfl rfl) rfl rfl hl.1 rfl (lv_room (Nat.le_of_ble_eq_true rfl)) d_M_annul_16 ⟨Nat.le_refl _, Nat.le_refl _⟩) hS (fun q _ h => xA_up hS.1 q h) (fun q h => xA_up hS.1 q h) (fun r16 u16 t H1 locs1 ht hvm q16 hB hz1 hk1 hS => ?_)
    obtain ⟨hP1, hK1, hD1⟩ := hB
    rw [ht] at hP1
    have hD : va_D (xA 9 am s.heap.size) (mw_ am cm (nI 1) mw mwr mfl mact (nI 1) (-1) (nI 0) mlog mlive had (nI 0) (-1) (nI 0) (nI 0) (nI 0) pg pla sou fou) := hD1.weaken (fun _ q _ h => xA_up hSz _ h)
    have hP : va_P (dC, dI) vwCl (mw_ am cm (nI 1) mw mwr mfl mact (nI 1) (-1) (nI 0) mlog mlive had (nI 0) (-1) (nI 0) (nI 0) (nI 0) pg pla sou fou) H1 := hP1
    generalize H1 = H at hP hS ⊢
    generalize locs1 = locs at hS ⊢
    subst q16
    refine lv_if_ne (tgt := 42) hx hb d_M_annul_19 (by decide) (fun c19 => ?_) (fun c19 => ?_)
    ·
      refine lv_iconst (v := nI 0) hx hb d_M_annul_42 (by decide) ?_
      exact W.iret (v := nI 0) hx hb hr (fun t ht hW => ⟨⟨nI 0, (), rfl, by first | rfl | trivial | omega, ⟨by rw [ht]; exact hP, va_K.moved hW.alike hK, hD⟩⟩, hS.F ht⟩) hS.2.2 d_M_annul_43
    ·
      exact absurd c19 (by decide)
set_option maxHeartbeats 4000000 in
set_option maxRecDepth 100000 in
theorem c_M_sync_f (l : Launch) (dC : Nat → ClassId) (dI : Nat → Nat → Nat) (am cm : Nat → Nat) (sz : Nat) (th : Int32) (mw mwr mfl mact : Nat → Int32) (on cut mrec : Int32) (mlog mlive had : Nat → Int32) (mser mcur mrd mwt worn : Int32) (pg : Nat → Int32) (pla sou fou : Int32)  (hmv : ∀ i, i < 16 → mlive i = -1) : Met l y_M_sync w_M_sync ({ frames := 1, cells := 0, slots := 0, locals := 22 }) (xP (dC, dI) vwCl (mt cm) (mw_ am cm th mw mwr mfl mact (nI 1) (-1) (nI 0) mlog mlive had (nI 0) (-1) (nI 0) (nI 0) (nI 0) pg pla sou fou) sz [.ref (am 0)]) (va_Qi (fun r (u : Unit) => r = nI 1) (fun (u : Unit) (t : State) => xB (dC, dI) vwCl (mt cm) (xA 9 am sz) (mw_ am cm (nI 0) mw mwr mfl mact (nI 1) (-1) (nI 0) mlog mlive had (nI 0) (-1) (nI 0) (nI 0) (nI 0) pg pla sou fou) t) (xA 9 am sz)) 0 0 (xA 9 am sz) := by
  refine Met.ofW (cc := b_M_sync) (maxL := 3) (ret := (some (.int))) (by decide) rfl ?_
  intro P e s m args below meth c0 s₁ B hml hv
  obtain ⟨rfl, hsz, hP, hK, hD0⟩ := hv
  have hx := B.exec
  have hb := B.bytes
  have hr := B.returns
  have hts := atoms_spec (ws := w_M_sync) B.pre
  have hown : s.vm.findClass R_M = some m.cls := findClass_of_methodNamed B.named
  have hlocks := B.notSynchronized
  subst hsz
  have hD := mw_D (sz := s.heap.size) hD0
  have hS : va_S (xA 9 am s.heap.size) s.heap s.heap [] := va_S.rf
  have hA : ∀ q : Nat, s.heap.size ≤ q → (xA 9 am s.heap.size) q := fun q h => Or.inr h
  have hl := lv_entry ([.ref (am 0)]) (n := 3) (Nat.le_of_ble_eq_true rfl)
  rw [lg_entry_eq]
  generalize (lg_sl ([.ref (am 0)]) ++ List.replicate (3 - (lg_sl ([.ref (am 0)])).length) Slot.unset).toArray = ls at hl ⊢
  have hl : lv_has ls 3 [(0, .ref (am 0))] := hl
  refine lv_aload_n hx hb d_M_sync_0 rfl (lv_at hl 0 rfl) ?_
  refine lv_iconst (v := nI 1) hx hb d_M_sync_1 (by decide) ?_
  refine lv_aload_n hx hb d_M_sync_2 rfl (lv_at hl 0 rfl) ?_
  refine va_get (D := (dC, dI)) (ci := 5) (v := .int (nI 1)) (C := R_M) (T := F_M) (N := 20) hx hb hts (fun w h => List.mem_cons_of_mem _ (in_M w h)) hown hK hP 0 rfl rfl 5 (by decide) (hts (.fieldLink R_M 23 R_M "on" "Z") (List.mem_cons_of_mem _ t_717)) (fun _ h9 => h9) rfl d_M_sync_3 ?_
  refine lv_if_ne (tgt := 13) hx hb d_M_sync_6 (by decide) (fun c6 => ?_) (fun c6 => ?_)
  ·
    refine lv_iconst (v := nI 0) hx hb d_M_sync_13 (by decide) ?_
    have hSz := hS.1
    refine va_calli (va_runV (C := R_M) (As := [.int (nI 1), .int (nI 0)]) (rest := []) ⟨hx, hb, hml, hown, hts⟩ (c_M_fails_0 l dC dI am cm s.heap.size th mw mwr mfl mact (nI 1) (-1) (nI 0) mlog mlive had (nI 0) (-1) (nI 0) (nI 0) (nI 0) pg pla sou fou (nI 1) ) (cwV 2 hts (g_V t_784 t_786 s_22 t_6 t_787) rfl rfl rfl (by decide +kernel) ⟨by decide, by decide⟩) (xP_v hP hK hD 0 rfl rfl) rfl rfl hl.1 rfl (lv_room (Nat.le_of_ble_eq_true rfl)) d_M_sync_14 ⟨Nat.le_refl _, Nat.le_refl _⟩) hS (fun q _ h => xA_up hS.1 q h) (fun q h => xA_up hS.1 q h) (fun r14 u14 t H1 locs1 ht hvm q14 hB hz1 hk1 hS => ?_)
    obtain ⟨hP1, hK1, hD1⟩ := hB
    rw [ht] at hP1
    have hD : va_D (xA 9 am s.heap.size) (mw_ am cm (nI 0) mw mwr mfl mact (nI 1) (-1) (nI 0) mlog mlive had (nI 0) (-1) (nI 0) (nI 0) (nI 0) pg pla sou fou) := hD1.weaken (fun _ q _ h => xA_up hSz _ h)
    have hP : va_P (dC, dI) vwCl (mw_ am cm (nI 0) mw mwr mfl mact (nI 1) (-1) (nI 0) mlog mlive had (nI 0) (-1) (nI 0) (nI 0) (nI 0) pg pla sou fou) H1 := hP1
    generalize H1 = H at hP hS ⊢
    generalize locs1 = locs at hS ⊢
    subst q14
    refine lv_if_eq (tgt := 22) hx hb d_M_sync_17 (by decide) (fun c17 => ?_) (fun c17 => ?_)
    ·
      refine lv_aload_n hx hb d_M_sync_22 rfl (lv_at hl 0 rfl) ?_
      refine vp_callSi (va_runV (C := R_M) (As := []) (rest := []) ⟨hx, hb, hml, hown, hts⟩ (c_M_durable_f l dC dI am cm (nI 0) mw mwr mfl mact (nI 1) (-1) (nI 0) mlog mlive had (nI 0) (-1) (nI 0) (nI 0) (nI 0) pg pla sou fou  (hmv)) (cwV 0 hts (g_V t_894 t_896 s_44 t_6 t_897) rfl rfl rfl (by decide +kernel) ⟨by decide, by decide⟩) (xR_v hP hK 0 rfl rfl) rfl rfl hl.1 rfl (lv_room (Nat.le_of_ble_eq_true rfl)) d_M_sync_23 ⟨Nat.le_refl _, Nat.le_refl _⟩).run (fun r23 q23 => ?_)
      subst q23
      refine lv_aload_n hx hb d_M_sync_26 rfl (lv_at hl 0 rfl) ?_
      refine va_get (D := (dC, dI)) (ci := 5) (v := .int (nI 0)) (C := R_M) (T := F_M) (N := 20) hx hb hts (fun w h => List.mem_cons_of_mem _ (in_M w h)) hown hK hP 0 rfl rfl 7 (by decide) (hts (.fieldLink R_M 52 R_M "records" "I") (List.mem_cons_of_mem _ t_719)) (fun _ h9 => h9) rfl d_M_sync_27 ?_
      refine lv_icmp_ne (tgt := 35) hx hb d_M_sync_30 (by decide) (fun c30 => ?_) (fun c30 => ?_)
      ·
        exact absurd c30 (by decide)
      ·
        refine lv_iconst (v := nI 1) hx hb d_M_sync_33 (by decide) ?_
        exact W.iret (v := nI 1) hx hb hr (fun t ht hW => ⟨⟨nI 1, (), rfl, by first | rfl | trivial | omega, ⟨by rw [ht]; exact hP, va_K.moved hW.alike hK, hD⟩⟩, hS.F ht⟩) hS.2.2 d_M_sync_34
    ·
      exact absurd c17 (by decide)
  ·
    exact absurd c6 (by decide)
set_option maxHeartbeats 4000000 in
set_option maxRecDepth 100000 in
theorem c_M_ticket_f (l : Launch) (dC : Nat → ClassId) (dI : Nat → Nat → Nat) (am cm : Nat → Nat) (sz : Nat) (th : Int32) (mw mwr mfl mact : Nat → Int32) (on cut mrec : Int32) (mlog mlive had : Nat → Int32) (mser mcur mrd mwt worn : Int32) (pg : Nat → Int32) (pla sou fou : Int32) (n what : Int32) : Met l y_M_ticket w_M_ticket ({ frames := 1, cells := 0, slots := 0, locals := 23 }) (xP (dC, dI) vwCl (mt cm) (mw_ am cm th mw mwr mfl mact (nI 1) (-1) (nI 0) mlog mlive had (nI 0) (-1) (nI 0) (nI 0) (nI 0) pg pla sou fou) sz [.ref (am 0), .int n, .int what]) (va_Qi (fun r (u : Unit) => r = nI 0) (fun (u : Unit) (t : State) => xB (dC, dI) vwCl (mt cm) (xA 9 am sz) (mw_ am cm (nI 2) mw mwr mfl mact (nI 1) (-1) (nI 0) mlog mlive had (nI 0) (-1) (nI 0) (nI 0) (nI 0) pg pla sou fou) t) (xA 9 am sz)) 0 0 (xA 9 am sz) := by
  refine Met.ofW (cc := b_M_ticket) (maxL := 4) (ret := (some (.int))) (by decide) rfl ?_
  intro P e s m args below meth c0 s₁ B hml hv
  obtain ⟨rfl, hsz, hP, hK, hD0⟩ := hv
  have hx := B.exec
  have hb := B.bytes
  have hr := B.returns
  have hts := atoms_spec (ws := w_M_ticket) B.pre
  have hown : s.vm.findClass R_M = some m.cls := findClass_of_methodNamed B.named
  have hlocks := B.notSynchronized
  subst hsz
  have hD := mw_D (sz := s.heap.size) hD0
  have hS : va_S (xA 9 am s.heap.size) s.heap s.heap [] := va_S.rf
  have hA : ∀ q : Nat, s.heap.size ≤ q → (xA 9 am s.heap.size) q := fun q h => Or.inr h
  have hl := lv_entry ([.ref (am 0), .int n, .int what]) (n := 4) (Nat.le_of_ble_eq_true rfl)
  rw [lg_entry_eq]
  generalize (lg_sl ([.ref (am 0), .int n, .int what]) ++ List.replicate (4 - (lg_sl ([.ref (am 0), .int n, .int what])).length) Slot.unset).toArray = ls at hl ⊢
  have hl : lv_has ls 4 [(0, .ref (am 0)), (1, .int n), (2, .int what)] := hl
  refine lv_aload_n hx hb d_M_ticket_0 rfl (lv_at hl 0 rfl) ?_
  refine lv_iconst (v := nI 1) hx hb d_M_ticket_1 (by decide) ?_
  refine lv_aload_n hx hb d_M_ticket_2 rfl (lv_at hl 0 rfl) ?_
  refine va_get (D := (dC, dI)) (ci := 5) (v := .int (nI 1)) (C := R_M) (T := F_M) (N := 20) hx hb hts (fun w h => List.mem_cons_of_mem _ (in_M w h)) hown hK hP 0 rfl rfl 5 (by decide) (hts (.fieldLink R_M 23 R_M "on" "Z") (List.mem_cons_of_mem _ t_717)) (fun _ h9 => h9) rfl d_M_ticket_3 ?_
  refine lv_if_ne (tgt := 13) hx hb d_M_ticket_6 (by decide) (fun c6 => ?_) (fun c6 => ?_)
  ·
    refine lv_iconst (v := nI 0) hx hb d_M_ticket_13 (by decide) ?_
    have hSz := hS.1
    refine va_calli (va_runV (C := R_M) (As := [.int (nI 1), .int (nI 0)]) (rest := []) ⟨hx, hb, hml, hown, hts⟩ (c_M_fails_0 l dC dI am cm s.heap.size th mw mwr mfl mact (nI 1) (-1) (nI 0) mlog mlive had (nI 0) (-1) (nI 0) (nI 0) (nI 0) pg pla sou fou (nI 1) ) (cwV 2 hts (g_V t_784 t_786 s_22 t_6 t_787) rfl rfl rfl (by decide +kernel) ⟨by decide, by decide⟩) (xP_v hP hK hD 0 rfl rfl) rfl rfl hl.1 rfl (lv_room (Nat.le_of_ble_eq_true rfl)) d_M_ticket_14 ⟨Nat.le_refl _, Nat.le_refl _⟩) hS (fun q _ h => xA_up hS.1 q h) (fun q h => xA_up hS.1 q h) (fun r14 u14 t H1 locs1 ht hvm q14 hB hz1 hk1 hS => ?_)
    obtain ⟨hP1, hK1, hD1⟩ := hB
    rw [ht] at hP1
    have hD : va_D (xA 9 am s.heap.size) (mw_ am cm (nI 0) mw mwr mfl mact (nI 1) (-1) (nI 0) mlog mlive had (nI 0) (-1) (nI 0) (nI 0) (nI 0) pg pla sou fou) := hD1.weaken (fun _ q _ h => xA_up hSz _ h)
    have hP : va_P (dC, dI) vwCl (mw_ am cm (nI 0) mw mwr mfl mact (nI 1) (-1) (nI 0) mlog mlive had (nI 0) (-1) (nI 0) (nI 0) (nI 0) pg pla sou fou) H1 := hP1
    generalize H1 = H at hP hS ⊢
    generalize locs1 = locs at hS ⊢
    subst q14
    refine lv_if_eq (tgt := 22) hx hb d_M_ticket_17 (by decide) (fun c17 => ?_) (fun c17 => ?_)
    ·
      refine lv_iload_n hx hb d_M_ticket_22 rfl (lv_at hl 1 rfl) ?_
      refine lv_iconst (v := nI 1) hx hb d_M_ticket_23 (by decide) ?_
      refine lv_icmp_ge (tgt := 31) hx hb d_M_ticket_24 (by decide) (fun c24 => ?_) (fun c24 => ?_)
      ·
        refine lv_aload_n hx hb d_M_ticket_31 rfl (lv_at hl 0 rfl) ?_
        refine lv_iload_n hx hb d_M_ticket_32 rfl (lv_at hl 1 rfl) ?_
        refine vp_callSi (va_runV (C := R_M) (As := [.int n]) (rest := []) ⟨hx, hb, hml, hown, hts⟩ (c_M_placeOf_f l dC dI am cm (nI 0) mw mwr mfl mact (nI 1) (-1) (nI 0) mlog mlive had (nI 0) (-1) (nI 0) (nI 0) (nI 0) pg pla sou fou n ) (cwV 1 hts (g_V t_881 t_883 s_42 t_6 t_884) rfl rfl rfl (by decide +kernel) ⟨by decide, by decide⟩) (xR_v hP hK 0 rfl rfl) rfl rfl hl.1 rfl (lv_room (Nat.le_of_ble_eq_true rfl)) d_M_ticket_33 ⟨Nat.le_refl _, Nat.le_refl _⟩).run (fun r33 q33 => ?_)
        subst q33
        refine lv_istore_n hx hb d_M_ticket_36 rfl hl (by decide) rfl (fun ls hl => ?_)
        have hl : lv_has ls 4 [(3, .int (-1)), (0, .ref (am 0)), (1, .int n), (2, .int what)] := hl
        refine lv_aload_n hx hb d_M_ticket_37 rfl (lv_at hl 1 rfl) ?_
        refine lv_iconst (v := nI 2) hx hb d_M_ticket_38 (by decide) ?_
        refine lv_iload_n hx hb d_M_ticket_39 rfl (lv_at hl 0 rfl) ?_
        refine lv_if_lt (tgt := 53) hx hb d_M_ticket_40 (by decide) (fun c40 => ?_) (fun c40 => ?_)
        ·
          refine lv_iconst (v := nI 1) hx hb d_M_ticket_53 (by decide) ?_
          refine lv_goto (tgt := 58) hx hb d_M_ticket_54 (by decide) ?_
          have hSz := hS.1
          refine va_calli (va_runV (C := R_M) (As := [.int (nI 2), .int (nI 1)]) (rest := []) ⟨hx, hb, hml, hown, hts⟩ (c_M_fails_1 l dC dI am cm H.size (nI 0) mw mwr mfl mact (nI 1) (-1) (nI 0) mlog mlive had (nI 0) (-1) (nI 0) (nI 0) (nI 0) pg pla sou fou (nI 2) ) (cwV 2 hts (g_V t_784 t_786 s_22 t_6 t_787) rfl rfl rfl (by decide +kernel) ⟨by decide, by decide⟩) (xP_v hP hK hD 0 rfl rfl) rfl rfl hl.1 rfl (lv_room (Nat.le_of_ble_eq_true rfl)) d_M_ticket_58 ⟨Nat.le_refl _, Nat.le_refl _⟩) hS (fun q _ h => xA_up hS.1 q h) (fun q h => xA_up hS.1 q h) (fun r58 u58 t H1 locs1 ht hvm q58 hB hz1 hk1 hS => ?_)
          obtain ⟨hP1, hK1, hD1⟩ := hB
          rw [ht] at hP1
          have hD : va_D (xA 9 am s.heap.size) (mw_ am cm (nI 2) mw mwr mfl mact (nI 1) (-1) (nI 0) mlog mlive had (nI 0) (-1) (nI 0) (nI 0) (nI 0) pg pla sou fou) := hD1.weaken (fun _ q _ h => xA_up hSz _ h)
          have hP : va_P (dC, dI) vwCl (mw_ am cm (nI 2) mw mwr mfl mact (nI 1) (-1) (nI 0) mlog mlive had (nI 0) (-1) (nI 0) (nI 0) (nI 0) pg pla sou fou) H1 := hP1
          generalize H1 = H at hP hS ⊢
          generalize locs1 = locs at hS ⊢
          subst q58
          refine lv_if_eq (tgt := 66) hx hb d_M_ticket_61 (by decide) (fun c61 => ?_) (fun c61 => ?_)
          ·
            exact absurd c61 (by decide)
          ·
            refine lv_iconst (v := nI 0) hx hb d_M_ticket_64 (by decide) ?_
            exact W.iret (v := nI 0) hx hb hr (fun t ht hW => ⟨⟨nI 0, (), rfl, by first | rfl | trivial | omega, ⟨by rw [ht]; exact hP, va_K.moved hW.alike hK, hD⟩⟩, hS.F ht⟩) hS.2.2 d_M_ticket_65
        ·
          exact absurd c40 (by decide)
      ·
        refine lv_iconst (v := (-1)) hx hb d_M_ticket_27 (by decide) ?_
        refine lv_goto (tgt := 36) hx hb d_M_ticket_28 (by decide) ?_
        refine lv_istore_n hx hb d_M_ticket_36 rfl hl (by decide) rfl (fun ls hl => ?_)
        have hl : lv_has ls 4 [(3, .int (-1)), (0, .ref (am 0)), (1, .int n), (2, .int what)] := hl
        refine lv_aload_n hx hb d_M_ticket_37 rfl (lv_at hl 1 rfl) ?_
        refine lv_iconst (v := nI 2) hx hb d_M_ticket_38 (by decide) ?_
        refine lv_iload_n hx hb d_M_ticket_39 rfl (lv_at hl 0 rfl) ?_
        refine lv_if_lt (tgt := 53) hx hb d_M_ticket_40 (by decide) (fun c40 => ?_) (fun c40 => ?_)
        ·
          refine lv_iconst (v := nI 1) hx hb d_M_ticket_53 (by decide) ?_
          refine lv_goto (tgt := 58) hx hb d_M_ticket_54 (by decide) ?_
          have hSz := hS.1
          refine va_calli (va_runV (C := R_M) (As := [.int (nI 2), .int (nI 1)]) (rest := []) ⟨hx, hb, hml, hown, hts⟩ (c_M_fails_1 l dC dI am cm H.size (nI 0) mw mwr mfl mact (nI 1) (-1) (nI 0) mlog mlive had (nI 0) (-1) (nI 0) (nI 0) (nI 0) pg pla sou fou (nI 2) ) (cwV 2 hts (g_V t_784 t_786 s_22 t_6 t_787) rfl rfl rfl (by decide +kernel) ⟨by decide, by decide⟩) (xP_v hP hK hD 0 rfl rfl) rfl rfl hl.1 rfl (lv_room (Nat.le_of_ble_eq_true rfl)) d_M_ticket_58 ⟨Nat.le_refl _, Nat.le_refl _⟩) hS (fun q _ h => xA_up hS.1 q h) (fun q h => xA_up hS.1 q h) (fun r58 u58 t H1 locs1 ht hvm q58 hB hz1 hk1 hS => ?_)
          obtain ⟨hP1, hK1, hD1⟩ := hB
          rw [ht] at hP1
          have hD : va_D (xA 9 am s.heap.size) (mw_ am cm (nI 2) mw mwr mfl mact (nI 1) (-1) (nI 0) mlog mlive had (nI 0) (-1) (nI 0) (nI 0) (nI 0) pg pla sou fou) := hD1.weaken (fun _ q _ h => xA_up hSz _ h)
          have hP : va_P (dC, dI) vwCl (mw_ am cm (nI 2) mw mwr mfl mact (nI 1) (-1) (nI 0) mlog mlive had (nI 0) (-1) (nI 0) (nI 0) (nI 0) pg pla sou fou) H1 := hP1
          generalize H1 = H at hP hS ⊢
          generalize locs1 = locs at hS ⊢
          subst q58
          refine lv_if_eq (tgt := 66) hx hb d_M_ticket_61 (by decide) (fun c61 => ?_) (fun c61 => ?_)
          ·
            exact absurd c61 (by decide)
          ·
            refine lv_iconst (v := nI 0) hx hb d_M_ticket_64 (by decide) ?_
            exact W.iret (v := nI 0) hx hb hr (fun t ht hW => ⟨⟨nI 0, (), rfl, by first | rfl | trivial | omega, ⟨by rw [ht]; exact hP, va_K.moved hW.alike hK, hD⟩⟩, hS.F ht⟩) hS.2.2 d_M_ticket_65
        ·
          exact absurd c40 (by decide)
    ·
      exact absurd c17 (by decide)
  ·
    exact absurd c6 (by decide)
set_option maxHeartbeats 4000000 in
set_option maxRecDepth 100000 in
theorem c_M_dayTotal_f (l : Launch) (dC : Nat → ClassId) (dI : Nat → Nat → Nat) (am cm : Nat → Nat) (sz : Nat) (th : Int32) (mw mwr mfl mact : Nat → Int32) (on cut mrec : Int32) (mlog mlive had : Nat → Int32) (mser mcur mrd mwt worn : Int32) (pg : Nat → Int32) (pla sou fou : Int32) (da pr : Int32) : Met l y_M_dayTotal w_M_dayTotal ({ frames := 1, cells := 0, slots := 0, locals := 22 }) (xP (dC, dI) vwCl (mt cm) (mw_ am cm th mw mwr mfl mact (nI 1) (-1) (nI 0) mlog mlive had (nI 0) (-1) (nI 0) (nI 0) (nI 0) pg pla sou fou) sz [.ref (am 0), .int da, .int pr]) (va_Ql (fun r (u : Unit) => r = 0) (fun (u : Unit) (t : State) => xB (dC, dI) vwCl (mt cm) (xA 9 am sz) (mw_ am cm (nI 0) mw mwr mfl mact (nI 1) (-1) (nI 0) mlog mlive had (nI 0) (-1) (nI 0) (nI 0) (nI 0) pg pla sou fou) t) (xA 9 am sz)) 0 0 (xA 9 am sz) := by
  refine Met.ofW (cc := b_M_dayTotal) (maxL := 7) (ret := (some (.long))) (by decide) rfl ?_
  intro P e s m args below meth c0 s₁ B hml hv
  obtain ⟨rfl, hsz, hP, hK, hD0⟩ := hv
  have hx := B.exec
  have hb := B.bytes
  have hr := B.returns
  have hts := atoms_spec (ws := w_M_dayTotal) B.pre
  have hown : s.vm.findClass R_M = some m.cls := findClass_of_methodNamed B.named
  have hlocks := B.notSynchronized
  subst hsz
  have hD := mw_D (sz := s.heap.size) hD0
  have hS : va_S (xA 9 am s.heap.size) s.heap s.heap [] := va_S.rf
  have hA : ∀ q : Nat, s.heap.size ≤ q → (xA 9 am s.heap.size) q := fun q h => Or.inr h
  have hl := lv_entry ([.ref (am 0), .int da, .int pr]) (n := 7) (Nat.le_of_ble_eq_true rfl)
  rw [lg_entry_eq]
  generalize (lg_sl ([.ref (am 0), .int da, .int pr]) ++ List.replicate (7 - (lg_sl ([.ref (am 0), .int da, .int pr])).length) Slot.unset).toArray = ls at hl ⊢
  have hl : lv_has ls 7 [(0, .ref (am 0)), (1, .int da), (2, .int pr)] := hl
  refine lv_aload_n hx hb d_M_dayTotal_0 rfl (lv_at hl 0 rfl) ?_
  refine lv_iconst (v := nI 1) hx hb d_M_dayTotal_1 (by decide) ?_
  refine lv_aload_n hx hb d_M_dayTotal_2 rfl (lv_at hl 0 rfl) ?_
  refine va_get (D := (dC, dI)) (ci := 5) (v := .int (nI 1)) (C := R_M) (T := F_M) (N := 20) hx hb hts (fun w h => List.mem_cons_of_mem _ (in_M w h)) hown hK hP 0 rfl rfl 5 (by decide) (hts (.fieldLink R_M 23 R_M "on" "Z") (List.mem_cons_of_mem _ t_717)) (fun _ h9 => h9) rfl d_M_dayTotal_3 ?_
  refine lv_if_ne (tgt := 13) hx hb d_M_dayTotal_6 (by decide) (fun c6 => ?_) (fun c6 => ?_)
  ·
    refine lv_iconst (v := nI 0) hx hb d_M_dayTotal_13 (by decide) ?_
    have hSz := hS.1
    refine va_calli (va_runV (C := R_M) (As := [.int (nI 1), .int (nI 0)]) (rest := []) ⟨hx, hb, hml, hown, hts⟩ (c_M_fails_0 l dC dI am cm s.heap.size th mw mwr mfl mact (nI 1) (-1) (nI 0) mlog mlive had (nI 0) (-1) (nI 0) (nI 0) (nI 0) pg pla sou fou (nI 1) ) (cwV 2 hts (g_V t_784 t_786 s_22 t_6 t_787) rfl rfl rfl (by decide +kernel) ⟨by decide, by decide⟩) (xP_v hP hK hD 0 rfl rfl) rfl rfl hl.1 rfl (lv_room (Nat.le_of_ble_eq_true rfl)) d_M_dayTotal_14 ⟨Nat.le_refl _, Nat.le_refl _⟩) hS (fun q _ h => xA_up hS.1 q h) (fun q h => xA_up hS.1 q h) (fun r14 u14 t H1 locs1 ht hvm q14 hB hz1 hk1 hS => ?_)
    obtain ⟨hP1, hK1, hD1⟩ := hB
    rw [ht] at hP1
    have hD : va_D (xA 9 am s.heap.size) (mw_ am cm (nI 0) mw mwr mfl mact (nI 1) (-1) (nI 0) mlog mlive had (nI 0) (-1) (nI 0) (nI 0) (nI 0) pg pla sou fou) := hD1.weaken (fun _ q _ h => xA_up hSz _ h)
    have hP : va_P (dC, dI) vwCl (mw_ am cm (nI 0) mw mwr mfl mact (nI 1) (-1) (nI 0) mlog mlive had (nI 0) (-1) (nI 0) (nI 0) (nI 0) pg pla sou fou) H1 := hP1
    generalize H1 = H at hP hS ⊢
    generalize locs1 = locs at hS ⊢
    subst q14
    refine lv_if_eq (tgt := 22) hx hb d_M_dayTotal_17 (by decide) (fun c17 => ?_) (fun c17 => ?_)
    ·
      refine lv_lconst (v := 0) hx hb d_M_dayTotal_22 (by decide) ?_
      refine lv_lstore_n hx hb d_M_dayTotal_23 rfl hl (by decide) rfl (fun ls hl => ?_)
      have hl : lv_has ls 7 [(3, .long 0), (0, .ref (am 0)), (1, .int da), (2, .int pr)] := hl
      refine lv_iconst (v := nI 1) hx hb d_M_dayTotal_24 (by decide) ?_
      refine lv_istore hx hb d_M_dayTotal_25 hl (by decide) rfl (fun ls hl => ?_)
      have hl : lv_has ls 7 [(5, .int (nI 1)), (3, .long 0), (0, .ref (am 0)), (1, .int da), (2, .int pr)] := hl
      refine lv_iload hx hb d_M_dayTotal_27 (lv_at hl 0 rfl) ?_
      refine lv_aload_n hx hb d_M_dayTotal_29 rfl (lv_at hl 2 rfl) ?_
      refine vp_callSi (va_runV (C := R_M) (As := []) (rest := [.int (nI 1)]) ⟨hx, hb, hml, hown, hts⟩ (c_M_tickets_f l dC dI am cm (nI 0) mw mwr mfl mact (nI 1) (-1) (nI 0) mlog mlive had (nI 0) (-1) (nI 0) (nI 0) (nI 0) pg pla sou fou  ) (cwV 0 hts (g_V t_865 t_867 s_39 t_6 t_868) rfl rfl rfl (by decide +kernel) ⟨by decide, by decide⟩) (xR_v hP hK 0 rfl rfl) rfl rfl hl.1 rfl (lv_room (Nat.le_of_ble_eq_true rfl)) d_M_dayTotal_30 ⟨Nat.le_refl _, Nat.le_refl _⟩).run (fun r30 q30 => ?_)
      subst q30
      refine lv_icmp_gt (tgt := 101) hx hb d_M_dayTotal_33 (by decide) (fun c33 => ?_) (fun c33 => ?_)
      ·
        refine lv_lload_n hx hb d_M_dayTotal_101 rfl (lv_at hl 1 rfl) ?_
        exact W.lret (v := 0) hx hb hr (fun t ht hW => ⟨⟨0, (), rfl, by first | rfl | trivial | omega, ⟨by rw [ht]; exact hP, va_K.moved hW.alike hK, hD⟩⟩, hS.F ht⟩) hS.2.2 d_M_dayTotal_102
      ·
        exact absurd c33 (by decide)
    ·
      exact absurd c17 (by decide)
  ·
    exact absurd c6 (by decide)
set_option maxHeartbeats 4000000 in
set_option maxRecDepth 100000 in
theorem c_M_rangeTotal_f (l : Launch) (dC : Nat → ClassId) (dI : Nat → Nat → Nat) (am cm : Nat → Nat) (sz : Nat) (th : Int32) (mw mwr mfl mact : Nat → Int32) (on cut mrec : Int32) (mlog mlive had : Nat → Int32) (mser mcur mrd mwt worn : Int32) (pg : Nat → Int32) (pla sou fou : Int32) (fr to : Int32) : Met l y_M_rangeTotal w_M_rangeTotal ({ frames := 1, cells := 0, slots := 0, locals := 22 }) (xP (dC, dI) vwCl (mt cm) (mw_ am cm th mw mwr mfl mact (nI 1) (-1) (nI 0) mlog mlive had (nI 0) (-1) (nI 0) (nI 0) (nI 0) pg pla sou fou) sz [.ref (am 0), .int fr, .int to]) (va_Ql (fun r (u : Unit) => r = 0) (fun (u : Unit) (t : State) => xB (dC, dI) vwCl (mt cm) (xA 9 am sz) (mw_ am cm (nI 0) mw mwr mfl mact (nI 1) (-1) (nI 0) mlog mlive had (nI 0) (-1) (nI 0) (nI 0) (nI 0) pg pla sou fou) t) (xA 9 am sz)) 0 0 (xA 9 am sz) := by
  refine Met.ofW (cc := b_M_rangeTotal) (maxL := 6) (ret := (some (.long))) (by decide) rfl ?_
  intro P e s m args below meth c0 s₁ B hml hv
  obtain ⟨rfl, hsz, hP, hK, hD0⟩ := hv
  have hx := B.exec
  have hb := B.bytes
  have hr := B.returns
  have hts := atoms_spec (ws := w_M_rangeTotal) B.pre
  have hown : s.vm.findClass R_M = some m.cls := findClass_of_methodNamed B.named
  have hlocks := B.notSynchronized
  subst hsz
  have hD := mw_D (sz := s.heap.size) hD0
  have hS : va_S (xA 9 am s.heap.size) s.heap s.heap [] := va_S.rf
  have hA : ∀ q : Nat, s.heap.size ≤ q → (xA 9 am s.heap.size) q := fun q h => Or.inr h
  have hl := lv_entry ([.ref (am 0), .int fr, .int to]) (n := 6) (Nat.le_of_ble_eq_true rfl)
  rw [lg_entry_eq]
  generalize (lg_sl ([.ref (am 0), .int fr, .int to]) ++ List.replicate (6 - (lg_sl ([.ref (am 0), .int fr, .int to])).length) Slot.unset).toArray = ls at hl ⊢
  have hl : lv_has ls 6 [(0, .ref (am 0)), (1, .int fr), (2, .int to)] := hl
  refine lv_aload_n hx hb d_M_rangeTotal_0 rfl (lv_at hl 0 rfl) ?_
  refine lv_iconst (v := nI 1) hx hb d_M_rangeTotal_1 (by decide) ?_
  refine lv_aload_n hx hb d_M_rangeTotal_2 rfl (lv_at hl 0 rfl) ?_
  refine va_get (D := (dC, dI)) (ci := 5) (v := .int (nI 1)) (C := R_M) (T := F_M) (N := 20) hx hb hts (fun w h => List.mem_cons_of_mem _ (in_M w h)) hown hK hP 0 rfl rfl 5 (by decide) (hts (.fieldLink R_M 23 R_M "on" "Z") (List.mem_cons_of_mem _ t_717)) (fun _ h9 => h9) rfl d_M_rangeTotal_3 ?_
  refine lv_if_ne (tgt := 13) hx hb d_M_rangeTotal_6 (by decide) (fun c6 => ?_) (fun c6 => ?_)
  ·
    refine lv_iconst (v := nI 0) hx hb d_M_rangeTotal_13 (by decide) ?_
    have hSz := hS.1
    refine va_calli (va_runV (C := R_M) (As := [.int (nI 1), .int (nI 0)]) (rest := []) ⟨hx, hb, hml, hown, hts⟩ (c_M_fails_0 l dC dI am cm s.heap.size th mw mwr mfl mact (nI 1) (-1) (nI 0) mlog mlive had (nI 0) (-1) (nI 0) (nI 0) (nI 0) pg pla sou fou (nI 1) ) (cwV 2 hts (g_V t_784 t_786 s_22 t_6 t_787) rfl rfl rfl (by decide +kernel) ⟨by decide, by decide⟩) (xP_v hP hK hD 0 rfl rfl) rfl rfl hl.1 rfl (lv_room (Nat.le_of_ble_eq_true rfl)) d_M_rangeTotal_14 ⟨Nat.le_refl _, Nat.le_refl _⟩) hS (fun q _ h => xA_up hS.1 q h) (fun q h => xA_up hS.1 q h) (fun r14 u14 t H1 locs1 ht hvm q14 hB hz1 hk1 hS => ?_)
    obtain ⟨hP1, hK1, hD1⟩ := hB
    rw [ht] at hP1
    have hD : va_D (xA 9 am s.heap.size) (mw_ am cm (nI 0) mw mwr mfl mact (nI 1) (-1) (nI 0) mlog mlive had (nI 0) (-1) (nI 0) (nI 0) (nI 0) pg pla sou fou) := hD1.weaken (fun _ q _ h => xA_up hSz _ h)
    have hP : va_P (dC, dI) vwCl (mw_ am cm (nI 0) mw mwr mfl mact (nI 1) (-1) (nI 0) mlog mlive had (nI 0) (-1) (nI 0) (nI 0) (nI 0) pg pla sou fou) H1 := hP1
    generalize H1 = H at hP hS ⊢
    generalize locs1 = locs at hS ⊢
    subst q14
    refine lv_if_eq (tgt := 22) hx hb d_M_rangeTotal_17 (by decide) (fun c17 => ?_) (fun c17 => ?_)
    ·
      refine lv_lconst (v := 0) hx hb d_M_rangeTotal_22 (by decide) ?_
      refine lv_lstore_n hx hb d_M_rangeTotal_23 rfl hl (by decide) rfl (fun ls hl => ?_)
      have hl : lv_has ls 6 [(3, .long 0), (0, .ref (am 0)), (1, .int fr), (2, .int to)] := hl
      refine lv_iconst (v := nI 1) hx hb d_M_rangeTotal_24 (by decide) ?_
      refine lv_istore hx hb d_M_rangeTotal_25 hl (by decide) rfl (fun ls hl => ?_)
      have hl : lv_has ls 6 [(5, .int (nI 1)), (3, .long 0), (0, .ref (am 0)), (1, .int fr), (2, .int to)] := hl
      refine lv_iload hx hb d_M_rangeTotal_27 (lv_at hl 0 rfl) ?_
      refine lv_aload_n hx hb d_M_rangeTotal_29 rfl (lv_at hl 2 rfl) ?_
      refine vp_callSi (va_runV (C := R_M) (As := []) (rest := [.int (nI 1)]) ⟨hx, hb, hml, hown, hts⟩ (c_M_tickets_f l dC dI am cm (nI 0) mw mwr mfl mact (nI 1) (-1) (nI 0) mlog mlive had (nI 0) (-1) (nI 0) (nI 0) (nI 0) pg pla sou fou  ) (cwV 0 hts (g_V t_865 t_867 s_39 t_6 t_868) rfl rfl rfl (by decide +kernel) ⟨by decide, by decide⟩) (xR_v hP hK 0 rfl rfl) rfl rfl hl.1 rfl (lv_room (Nat.le_of_ble_eq_true rfl)) d_M_rangeTotal_30 ⟨Nat.le_refl _, Nat.le_refl _⟩).run (fun r30 q30 => ?_)
      subst q30
      refine lv_icmp_gt (tgt := 77) hx hb d_M_rangeTotal_33 (by decide) (fun c33 => ?_) (fun c33 => ?_)
      ·
        refine lv_lload_n hx hb d_M_rangeTotal_77 rfl (lv_at hl 1 rfl) ?_
        exact W.lret (v := 0) hx hb hr (fun t ht hW => ⟨⟨0, (), rfl, by first | rfl | trivial | omega, ⟨by rw [ht]; exact hP, va_K.moved hW.alike hK, hD⟩⟩, hS.F ht⟩) hS.2.2 d_M_rangeTotal_78
      ·
        exact absurd c33 (by decide)
    ·
      exact absurd c17 (by decide)
  ·
    exact absurd c6 (by decide)
set_option maxHeartbeats 4000000 in
set_option maxRecDepth 100000 in
theorem c_M_find_f (l : Launch) (dC : Nat → ClassId) (dI : Nat → Nat → Nat) (am cm : Nat → Nat) (sz : Nat) (th : Int32) (mw mwr mfl mact : Nat → Int32) (on cut mrec : Int32) (mlog mlive had : Nat → Int32) (mser mcur mrd mwt worn : Int32) (pg : Nat → Int32) (pla sou fou : Int32) (pl fr : Int32) : Met l y_M_find w_M_find ({ frames := 1, cells := 0, slots := 0, locals := 22 }) (xP (dC, dI) vwCl (mt cm) (mw_ am cm th mw mwr mfl mact (nI 1) (-1) (nI 0) mlog mlive had (nI 0) (-1) (nI 0) (nI 0) (nI 0) pg pla sou fou) sz [.ref (am 0), .int pl, .int fr]) (va_Qi (fun r (u : Unit) => r = nI 0) (fun (u : Unit) (t : State) => xB (dC, dI) vwCl (mt cm) (xA 9 am sz) (mw_ am cm (nI 0) mw mwr mfl mact (nI 1) (-1) (nI 0) mlog mlive had (nI 0) (-1) (nI 0) (nI 0) (nI 0) pg pla sou fou) t) (xA 9 am sz)) 0 0 (xA 9 am sz) := by
  refine Met.ofW (cc := b_M_find) (maxL := 4) (ret := (some (.int))) (by decide) rfl ?_
  intro P e s m args below meth c0 s₁ B hml hv
  obtain ⟨rfl, hsz, hP, hK, hD0⟩ := hv
  have hx := B.exec
  have hb := B.bytes
  have hr := B.returns
  have hts := atoms_spec (ws := w_M_find) B.pre
  have hown : s.vm.findClass R_M = some m.cls := findClass_of_methodNamed B.named
  have hlocks := B.notSynchronized
  subst hsz
  have hD := mw_D (sz := s.heap.size) hD0
  have hS : va_S (xA 9 am s.heap.size) s.heap s.heap [] := va_S.rf
  have hA : ∀ q : Nat, s.heap.size ≤ q → (xA 9 am s.heap.size) q := fun q h => Or.inr h
  have hl := lv_entry ([.ref (am 0), .int pl, .int fr]) (n := 4) (Nat.le_of_ble_eq_true rfl)
  rw [lg_entry_eq]
  generalize (lg_sl ([.ref (am 0), .int pl, .int fr]) ++ List.replicate (4 - (lg_sl ([.ref (am 0), .int pl, .int fr])).length) Slot.unset).toArray = ls at hl ⊢
  have hl : lv_has ls 4 [(0, .ref (am 0)), (1, .int pl), (2, .int fr)] := hl
  refine lv_aload_n hx hb d_M_find_0 rfl (lv_at hl 0 rfl) ?_
  refine lv_iconst (v := nI 1) hx hb d_M_find_1 (by decide) ?_
  refine lv_aload_n hx hb d_M_find_2 rfl (lv_at hl 0 rfl) ?_
  refine va_get (D := (dC, dI)) (ci := 5) (v := .int (nI 1)) (C := R_M) (T := F_M) (N := 20) hx hb hts (fun w h => List.mem_cons_of_mem _ (in_M w h)) hown hK hP 0 rfl rfl 5 (by decide) (hts (.fieldLink R_M 23 R_M "on" "Z") (List.mem_cons_of_mem _ t_717)) (fun _ h9 => h9) rfl d_M_find_3 ?_
  refine lv_if_ne (tgt := 13) hx hb d_M_find_6 (by decide) (fun c6 => ?_) (fun c6 => ?_)
  ·
    refine lv_iconst (v := nI 0) hx hb d_M_find_13 (by decide) ?_
    have hSz := hS.1
    refine va_calli (va_runV (C := R_M) (As := [.int (nI 1), .int (nI 0)]) (rest := []) ⟨hx, hb, hml, hown, hts⟩ (c_M_fails_0 l dC dI am cm s.heap.size th mw mwr mfl mact (nI 1) (-1) (nI 0) mlog mlive had (nI 0) (-1) (nI 0) (nI 0) (nI 0) pg pla sou fou (nI 1) ) (cwV 2 hts (g_V t_784 t_786 s_22 t_6 t_787) rfl rfl rfl (by decide +kernel) ⟨by decide, by decide⟩) (xP_v hP hK hD 0 rfl rfl) rfl rfl hl.1 rfl (lv_room (Nat.le_of_ble_eq_true rfl)) d_M_find_14 ⟨Nat.le_refl _, Nat.le_refl _⟩) hS (fun q _ h => xA_up hS.1 q h) (fun q h => xA_up hS.1 q h) (fun r14 u14 t H1 locs1 ht hvm q14 hB hz1 hk1 hS => ?_)
    obtain ⟨hP1, hK1, hD1⟩ := hB
    rw [ht] at hP1
    have hD : va_D (xA 9 am s.heap.size) (mw_ am cm (nI 0) mw mwr mfl mact (nI 1) (-1) (nI 0) mlog mlive had (nI 0) (-1) (nI 0) (nI 0) (nI 0) pg pla sou fou) := hD1.weaken (fun _ q _ h => xA_up hSz _ h)
    have hP : va_P (dC, dI) vwCl (mw_ am cm (nI 0) mw mwr mfl mact (nI 1) (-1) (nI 0) mlog mlive had (nI 0) (-1) (nI 0) (nI 0) (nI 0) pg pla sou fou) H1 := hP1
    generalize H1 = H at hP hS ⊢
    generalize locs1 = locs at hS ⊢
    subst q14
    refine lv_if_eq (tgt := 22) hx hb d_M_find_17 (by decide) (fun c17 => ?_) (fun c17 => ?_)
    ·
      refine lv_iconst (v := nI 1) hx hb d_M_find_22 (by decide) ?_
      refine lv_istore_n hx hb d_M_find_23 rfl hl (by decide) rfl (fun ls hl => ?_)
      have hl : lv_has ls 4 [(3, .int (nI 1)), (0, .ref (am 0)), (1, .int pl), (2, .int fr)] := hl
      refine lv_iload_n hx hb d_M_find_24 rfl (lv_at hl 0 rfl) ?_
      refine lv_aload_n hx hb d_M_find_25 rfl (lv_at hl 1 rfl) ?_
      refine vp_callSi (va_runV (C := R_M) (As := []) (rest := [.int (nI 1)]) ⟨hx, hb, hml, hown, hts⟩ (c_M_tickets_f l dC dI am cm (nI 0) mw mwr mfl mact (nI 1) (-1) (nI 0) mlog mlive had (nI 0) (-1) (nI 0) (nI 0) (nI 0) pg pla sou fou  ) (cwV 0 hts (g_V t_865 t_867 s_39 t_6 t_868) rfl rfl rfl (by decide +kernel) ⟨by decide, by decide⟩) (xR_v hP hK 0 rfl rfl) rfl rfl hl.1 rfl (lv_room (Nat.le_of_ble_eq_true rfl)) d_M_find_26 ⟨Nat.le_refl _, Nat.le_refl _⟩).run (fun r26 q26 => ?_)
      subst q26
      refine lv_icmp_gt (tgt := 59) hx hb d_M_find_29 (by decide) (fun c29 => ?_) (fun c29 => ?_)
      ·
        refine lv_iconst (v := nI 0) hx hb d_M_find_59 (by decide) ?_
        exact W.iret (v := nI 0) hx hb hr (fun t ht hW => ⟨⟨nI 0, (), rfl, by first | rfl | trivial | omega, ⟨by rw [ht]; exact hP, va_K.moved hW.alike hK, hD⟩⟩, hS.F ht⟩) hS.2.2 d_M_find_60
      ·
        exact absurd c29 (by decide)
    ·
      exact absurd c17 (by decide)
  ·
    exact absurd c6 (by decide)
set_option maxHeartbeats 4000000 in
set_option maxRecDepth 100000 in
theorem c_M_audit_f (l : Launch) (dC : Nat → ClassId) (dI : Nat → Nat → Nat) (am cm : Nat → Nat) (sz : Nat) (th : Int32) (mw mwr mfl mact : Nat → Int32) (on cut mrec : Int32) (mlog mlive had : Nat → Int32) (mser mcur mrd mwt worn : Int32) (pg : Nat → Int32) (pla sou fou : Int32) (fr to : Int32) : Met l y_M_audit w_M_audit ({ frames := 1, cells := 0, slots := 0, locals := 22 }) (xP (dC, dI) vwCl (mt cm) (mw_ am cm th mw mwr mfl mact (nI 1) (-1) (nI 0) mlog mlive had (nI 0) (-1) (nI 0) (nI 0) (nI 0) pg pla sou fou) sz [.ref (am 0), .int fr, .int to]) (va_Qi (fun r (u : Unit) => r = nI 0) (fun (u : Unit) (t : State) => xB (dC, dI) vwCl (mt cm) (xA 9 am sz) (mw_ am cm (nI 0) mw mwr mfl mact (nI 1) (-1) (nI 0) mlog mlive had (nI 0) (-1) (nI 0) (nI 0) (nI 0) pg pla sou fou) t) (xA 9 am sz)) 0 0 (xA 9 am sz) := by
  refine Met.ofW (cc := b_M_audit) (maxL := 4) (ret := (some (.int))) (by decide) rfl ?_
  intro P e s m args below meth c0 s₁ B hml hv
  obtain ⟨rfl, hsz, hP, hK, hD0⟩ := hv
  have hx := B.exec
  have hb := B.bytes
  have hr := B.returns
  have hts := atoms_spec (ws := w_M_audit) B.pre
  have hown : s.vm.findClass R_M = some m.cls := findClass_of_methodNamed B.named
  have hlocks := B.notSynchronized
  subst hsz
  have hD := mw_D (sz := s.heap.size) hD0
  have hS : va_S (xA 9 am s.heap.size) s.heap s.heap [] := va_S.rf
  have hA : ∀ q : Nat, s.heap.size ≤ q → (xA 9 am s.heap.size) q := fun q h => Or.inr h
  have hl := lv_entry ([.ref (am 0), .int fr, .int to]) (n := 4) (Nat.le_of_ble_eq_true rfl)
  rw [lg_entry_eq]
  generalize (lg_sl ([.ref (am 0), .int fr, .int to]) ++ List.replicate (4 - (lg_sl ([.ref (am 0), .int fr, .int to])).length) Slot.unset).toArray = ls at hl ⊢
  have hl : lv_has ls 4 [(0, .ref (am 0)), (1, .int fr), (2, .int to)] := hl
  refine lv_aload_n hx hb d_M_audit_0 rfl (lv_at hl 0 rfl) ?_
  refine lv_iconst (v := nI 1) hx hb d_M_audit_1 (by decide) ?_
  refine lv_aload_n hx hb d_M_audit_2 rfl (lv_at hl 0 rfl) ?_
  refine va_get (D := (dC, dI)) (ci := 5) (v := .int (nI 1)) (C := R_M) (T := F_M) (N := 20) hx hb hts (fun w h => List.mem_cons_of_mem _ (in_M w h)) hown hK hP 0 rfl rfl 5 (by decide) (hts (.fieldLink R_M 23 R_M "on" "Z") (List.mem_cons_of_mem _ t_717)) (fun _ h9 => h9) rfl d_M_audit_3 ?_
  refine lv_if_ne (tgt := 13) hx hb d_M_audit_6 (by decide) (fun c6 => ?_) (fun c6 => ?_)
  ·
    refine lv_iconst (v := nI 0) hx hb d_M_audit_13 (by decide) ?_
    have hSz := hS.1
    refine va_calli (va_runV (C := R_M) (As := [.int (nI 1), .int (nI 0)]) (rest := []) ⟨hx, hb, hml, hown, hts⟩ (c_M_fails_0 l dC dI am cm s.heap.size th mw mwr mfl mact (nI 1) (-1) (nI 0) mlog mlive had (nI 0) (-1) (nI 0) (nI 0) (nI 0) pg pla sou fou (nI 1) ) (cwV 2 hts (g_V t_784 t_786 s_22 t_6 t_787) rfl rfl rfl (by decide +kernel) ⟨by decide, by decide⟩) (xP_v hP hK hD 0 rfl rfl) rfl rfl hl.1 rfl (lv_room (Nat.le_of_ble_eq_true rfl)) d_M_audit_14 ⟨Nat.le_refl _, Nat.le_refl _⟩) hS (fun q _ h => xA_up hS.1 q h) (fun q h => xA_up hS.1 q h) (fun r14 u14 t H1 locs1 ht hvm q14 hB hz1 hk1 hS => ?_)
    obtain ⟨hP1, hK1, hD1⟩ := hB
    rw [ht] at hP1
    have hD : va_D (xA 9 am s.heap.size) (mw_ am cm (nI 0) mw mwr mfl mact (nI 1) (-1) (nI 0) mlog mlive had (nI 0) (-1) (nI 0) (nI 0) (nI 0) pg pla sou fou) := hD1.weaken (fun _ q _ h => xA_up hSz _ h)
    have hP : va_P (dC, dI) vwCl (mw_ am cm (nI 0) mw mwr mfl mact (nI 1) (-1) (nI 0) mlog mlive had (nI 0) (-1) (nI 0) (nI 0) (nI 0) pg pla sou fou) H1 := hP1
    generalize H1 = H at hP hS ⊢
    generalize locs1 = locs at hS ⊢
    subst q14
    refine lv_if_eq (tgt := 22) hx hb d_M_audit_17 (by decide) (fun c17 => ?_) (fun c17 => ?_)
    ·
      refine lv_iconst (v := nI 1) hx hb d_M_audit_22 (by decide) ?_
      refine lv_istore_n hx hb d_M_audit_23 rfl hl (by decide) rfl (fun ls hl => ?_)
      have hl : lv_has ls 4 [(3, .int (nI 1)), (0, .ref (am 0)), (1, .int fr), (2, .int to)] := hl
      refine lv_iload_n hx hb d_M_audit_24 rfl (lv_at hl 0 rfl) ?_
      refine lv_aload_n hx hb d_M_audit_25 rfl (lv_at hl 1 rfl) ?_
      refine vp_callSi (va_runV (C := R_M) (As := []) (rest := [.int (nI 1)]) ⟨hx, hb, hml, hown, hts⟩ (c_M_tickets_f l dC dI am cm (nI 0) mw mwr mfl mact (nI 1) (-1) (nI 0) mlog mlive had (nI 0) (-1) (nI 0) (nI 0) (nI 0) pg pla sou fou  ) (cwV 0 hts (g_V t_865 t_867 s_39 t_6 t_868) rfl rfl rfl (by decide +kernel) ⟨by decide, by decide⟩) (xR_v hP hK 0 rfl rfl) rfl rfl hl.1 rfl (lv_room (Nat.le_of_ble_eq_true rfl)) d_M_audit_26 ⟨Nat.le_refl _, Nat.le_refl _⟩).run (fun r26 q26 => ?_)
      subst q26
      refine lv_icmp_gt (tgt := 62) hx hb d_M_audit_29 (by decide) (fun c29 => ?_) (fun c29 => ?_)
      ·
        refine lv_iconst (v := nI 0) hx hb d_M_audit_62 (by decide) ?_
        exact W.iret (v := nI 0) hx hb hr (fun t ht hW => ⟨⟨nI 0, (), rfl, by first | rfl | trivial | omega, ⟨by rw [ht]; exact hP, va_K.moved hW.alike hK, hD⟩⟩, hS.F ht⟩) hS.2.2 d_M_audit_63
      ·
        exact absurd c29 (by decide)
    ·
      exact absurd c17 (by decide)
  ·
    exact absurd c6 (by decide)
set_option maxHeartbeats 4000000 in
set_option maxRecDepth 100000 in
theorem c_M_exportByte_f (l : Launch) (dC : Nat → ClassId) (dI : Nat → Nat → Nat) (am cm : Nat → Nat) (sz : Nat) (th : Int32) (mw mwr mfl mact : Nat → Int32) (on cut mrec : Int32) (mlog mlive had : Nat → Int32) (mser mcur mrd mwt worn : Int32) (pg : Nat → Int32) (pla sou fou : Int32) (fr to ix : Int32) : Met l y_M_exportByte w_M_exportByte ({ frames := 1, cells := 0, slots := 0, locals := 22 }) (xP (dC, dI) vwCl (mt cm) (mw_ am cm th mw mwr mfl mact (nI 1) (-1) (nI 0) mlog mlive had (nI 0) (-1) (nI 0) (nI 0) (nI 0) pg pla sou fou) sz [.ref (am 0), .int fr, .int to, .int ix]) (va_Qi (fun r (u : Unit) => r = -1) (fun (u : Unit) (t : State) => xB (dC, dI) vwCl (mt cm) (xA 9 am sz) (mw_ am cm (nI 0) mw mwr mfl mact (nI 1) (-1) (nI 0) mlog mlive had (nI 0) (-1) (nI 0) (nI 0) (nI 0) pg (nI 0) ix (-1)) t) (xA 9 am sz)) 0 0 (xA 9 am sz) := by
  refine Met.ofW (cc := b_M_exportByte) (maxL := 6) (ret := (some (.int))) (by decide) rfl ?_
  intro P e s m args below meth c0 s₁ B hml hv
  obtain ⟨rfl, hsz, hP, hK, hD0⟩ := hv
  have hx := B.exec
  have hb := B.bytes
  have hr := B.returns
  have hts := atoms_spec (ws := w_M_exportByte) B.pre
  have hown : s.vm.findClass R_M = some m.cls := findClass_of_methodNamed B.named
  have hlocks := B.notSynchronized
  subst hsz
  have hD := mw_D (sz := s.heap.size) hD0
  have hS : va_S (xA 9 am s.heap.size) s.heap s.heap [] := va_S.rf
  have hA : ∀ q : Nat, s.heap.size ≤ q → (xA 9 am s.heap.size) q := fun q h => Or.inr h
  have hl := lv_entry ([.ref (am 0), .int fr, .int to, .int ix]) (n := 6) (Nat.le_of_ble_eq_true rfl)
  rw [lg_entry_eq]
  generalize (lg_sl ([.ref (am 0), .int fr, .int to, .int ix]) ++ List.replicate (6 - (lg_sl ([.ref (am 0), .int fr, .int to, .int ix])).length) Slot.unset).toArray = ls at hl ⊢
  have hl : lv_has ls 6 [(0, .ref (am 0)), (1, .int fr), (2, .int to), (3, .int ix)] := hl
  refine lv_aload_n hx hb d_M_exportByte_0 rfl (lv_at hl 0 rfl) ?_
  refine lv_iconst (v := nI 1) hx hb d_M_exportByte_1 (by decide) ?_
  refine lv_aload_n hx hb d_M_exportByte_2 rfl (lv_at hl 0 rfl) ?_
  refine va_get (D := (dC, dI)) (ci := 5) (v := .int (nI 1)) (C := R_M) (T := F_M) (N := 20) hx hb hts (fun w h => List.mem_cons_of_mem _ (in_M w h)) hown hK hP 0 rfl rfl 5 (by decide) (hts (.fieldLink R_M 23 R_M "on" "Z") (List.mem_cons_of_mem _ t_717)) (fun _ h9 => h9) rfl d_M_exportByte_3 ?_
  refine lv_if_ne (tgt := 13) hx hb d_M_exportByte_6 (by decide) (fun c6 => ?_) (fun c6 => ?_)
  ·
    refine lv_iconst (v := nI 0) hx hb d_M_exportByte_13 (by decide) ?_
    have hSz := hS.1
    refine va_calli (va_runV (C := R_M) (As := [.int (nI 1), .int (nI 0)]) (rest := []) ⟨hx, hb, hml, hown, hts⟩ (c_M_fails_0 l dC dI am cm s.heap.size th mw mwr mfl mact (nI 1) (-1) (nI 0) mlog mlive had (nI 0) (-1) (nI 0) (nI 0) (nI 0) pg pla sou fou (nI 1) ) (cwV 2 hts (g_V t_784 t_786 s_22 t_6 t_787) rfl rfl rfl (by decide +kernel) ⟨by decide, by decide⟩) (xP_v hP hK hD 0 rfl rfl) rfl rfl hl.1 rfl (lv_room (Nat.le_of_ble_eq_true rfl)) d_M_exportByte_14 ⟨Nat.le_refl _, Nat.le_refl _⟩) hS (fun q _ h => xA_up hS.1 q h) (fun q h => xA_up hS.1 q h) (fun r14 u14 t H1 locs1 ht hvm q14 hB hz1 hk1 hS => ?_)
    obtain ⟨hP1, hK1, hD1⟩ := hB
    rw [ht] at hP1
    have hD : va_D (xA 9 am s.heap.size) (mw_ am cm (nI 0) mw mwr mfl mact (nI 1) (-1) (nI 0) mlog mlive had (nI 0) (-1) (nI 0) (nI 0) (nI 0) pg pla sou fou) := hD1.weaken (fun _ q _ h => xA_up hSz _ h)
    have hP : va_P (dC, dI) vwCl (mw_ am cm (nI 0) mw mwr mfl mact (nI 1) (-1) (nI 0) mlog mlive had (nI 0) (-1) (nI 0) (nI 0) (nI 0) pg pla sou fou) H1 := hP1
    generalize H1 = H at hP hS ⊢
    generalize locs1 = locs at hS ⊢
    subst q14
    refine lv_if_eq (tgt := 22) hx hb d_M_exportByte_17 (by decide) (fun c17 => ?_) (fun c17 => ?_)
    ·
      refine lv_aload_n hx hb d_M_exportByte_22 rfl (lv_at hl 0 rfl) ?_
      refine lv_iconst (v := nI 0) hx hb d_M_exportByte_23 (by decide) ?_
      refine va_put (D := (dC, dI)) (ci := 5) (v := .int (nI 0)) (ty := .int) (C := R_M) (T := F_M) (N := 20) hx hb hts (fun w h => List.mem_cons_of_mem _ (in_M w h)) t_M ok_M nm_M hown hK hP hD hS 0 rfl rfl 17 (by decide) (hts (.fieldLink R_M 172 R_M "place" "I") (List.mem_cons_of_mem _ t_729)) (fun _ h9 => h9) rfl (by decide +kernel) rfl rfl (Nat.le_of_ble_eq_true rfl) d_M_exportByte_24 (fun H locs hP hD hS => ?_)
      have hP : va_P (dC, dI) vwCl (mw_ am cm (nI 0) mw mwr mfl mact (nI 1) (-1) (nI 0) mlog mlive had (nI 0) (-1) (nI 0) (nI 0) (nI 0) pg (nI 0) sou fou) H := hP
      have hD : va_D (xA 9 am s.heap.size) (mw_ am cm (nI 0) mw mwr mfl mact (nI 1) (-1) (nI 0) mlog mlive had (nI 0) (-1) (nI 0) (nI 0) (nI 0) pg (nI 0) sou fou) := hD
      refine lv_aload_n hx hb d_M_exportByte_27 rfl (lv_at hl 0 rfl) ?_
      refine lv_iload_n hx hb d_M_exportByte_28 rfl (lv_at hl 3 rfl) ?_
      refine va_put (D := (dC, dI)) (ci := 5) (v := .int ix) (ty := .int) (C := R_M) (T := F_M) (N := 20) hx hb hts (fun w h => List.mem_cons_of_mem _ (in_M w h)) t_M ok_M nm_M hown hK hP hD hS 0 rfl rfl 18 (by decide) (hts (.fieldLink R_M 175 R_M "sought" "I") (List.mem_cons_of_mem _ t_730)) (fun _ h9 => h9) rfl (by decide +kernel) rfl rfl (Nat.le_of_ble_eq_true rfl) d_M_exportByte_29 (fun H locs hP hD hS => ?_)
      have hP : va_P (dC, dI) vwCl (mw_ am cm (nI 0) mw mwr mfl mact (nI 1) (-1) (nI 0) mlog mlive had (nI 0) (-1) (nI 0) (nI 0) (nI 0) pg (nI 0) ix fou) H := hP
      have hD : va_D (xA 9 am s.heap.size) (mw_ am cm (nI 0) mw mwr mfl mact (nI 1) (-1) (nI 0) mlog mlive had (nI 0) (-1) (nI 0) (nI 0) (nI 0) pg (nI 0) ix fou) := hD
      refine lv_aload_n hx hb d_M_exportByte_32 rfl (lv_at hl 0 rfl) ?_
      refine lv_iconst (v := (-1)) hx hb d_M_exportByte_33 (by decide) ?_
      refine va_put (D := (dC, dI)) (ci := 5) (v := .int (-1)) (ty := .int) (C := R_M) (T := F_M) (N := 20) hx hb hts (fun w h => List.mem_cons_of_mem _ (in_M w h)) t_M ok_M nm_M hown hK hP hD hS 0 rfl rfl 19 (by decide) (hts (.fieldLink R_M 178 R_M "found" "I") (List.mem_cons_of_mem _ t_731)) (fun _ h9 => h9) rfl (by decide +kernel) rfl rfl (Nat.le_of_ble_eq_true rfl) d_M_exportByte_34 (fun H locs hP hD hS => ?_)
      have hP : va_P (dC, dI) vwCl (mw_ am cm (nI 0) mw mwr mfl mact (nI 1) (-1) (nI 0) mlog mlive had (nI 0) (-1) (nI 0) (nI 0) (nI 0) pg (nI 0) ix (-1)) H := hP
      have hD : va_D (xA 9 am s.heap.size) (mw_ am cm (nI 0) mw mwr mfl mact (nI 1) (-1) (nI 0) mlog mlive had (nI 0) (-1) (nI 0) (nI 0) (nI 0) pg (nI 0) ix (-1)) := hD
      refine lv_iconst (v := nI 1) hx hb d_M_exportByte_37 (by decide) ?_
      refine lv_istore hx hb d_M_exportByte_38 hl (by decide) rfl (fun ls hl => ?_)
      have hl : lv_has ls 6 [(4, .int (nI 1)), (0, .ref (am 0)), (1, .int fr), (2, .int to), (3, .int ix)] := hl
      refine lv_iload hx hb d_M_exportByte_40 (lv_at hl 0 rfl) ?_
      refine lv_aload_n hx hb d_M_exportByte_42 rfl (lv_at hl 1 rfl) ?_
      refine vp_callSi (va_runV (C := R_M) (As := []) (rest := [.int (nI 1)]) ⟨hx, hb, hml, hown, hts⟩ (c_M_tickets_f l dC dI am cm (nI 0) mw mwr mfl mact (nI 1) (-1) (nI 0) mlog mlive had (nI 0) (-1) (nI 0) (nI 0) (nI 0) pg (nI 0) ix (-1)  ) (cwV 0 hts (g_V t_865 t_867 s_39 t_6 t_868) rfl rfl rfl (by decide +kernel) ⟨by decide, by decide⟩) (xR_v hP hK 0 rfl rfl) rfl rfl hl.1 rfl (lv_room (Nat.le_of_ble_eq_true rfl)) d_M_exportByte_43 ⟨Nat.le_refl _, Nat.le_refl _⟩).run (fun r43 q43 => ?_)
      subst q43
      refine lv_icmp_gt (tgt := 168) hx hb d_M_exportByte_46 (by decide) (fun c46 => ?_) (fun c46 => ?_)
      ·
        refine lv_aload_n hx hb d_M_exportByte_168 rfl (lv_at hl 1 rfl) ?_
        refine va_get (D := (dC, dI)) (ci := 5) (v := .int (-1)) (C := R_M) (T := F_M) (N := 20) hx hb hts (fun w h => List.mem_cons_of_mem _ (in_M w h)) hown hK hP 0 rfl rfl 19 (by decide) (hts (.fieldLink R_M 178 R_M "found" "I") (List.mem_cons_of_mem _ t_731)) (fun _ h9 => h9) rfl d_M_exportByte_169 ?_
        exact W.iret (v := (-1)) hx hb hr (fun t ht hW => ⟨⟨(-1), (), rfl, by first | rfl | trivial | omega, ⟨by rw [ht]; exact hP, va_K.moved hW.alike hK, hD⟩⟩, hS.F ht⟩) hS.2.2 d_M_exportByte_172
      ·
        exact absurd c46 (by decide)
    ·
      exact absurd c17 (by decide)
  ·
    exact absurd c6 (by decide)
