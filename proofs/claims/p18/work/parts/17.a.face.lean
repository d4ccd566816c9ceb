set_option maxHeartbeats 4000000 in
set_option maxRecDepth 100000 in
theorem c_M_axle (l : Launch) (dC : Nat → ClassId) (dI : Nat → Nat → Nat) (am cm : Nat → Nat) (sz : Nat) (th : Int32) (mw mwr mfl mact : Nat → Int32) (on cut mrec : Int32) (mlog mlive had : Nat → Int32) (mser mcur mrd mwt worn : Int32) (pg : Nat → Int32) (pla sou fou : Int32) (st : Int32) : Met l y_M_axle w_M_axle ({ frames := 1, cells := 0, slots := 0, locals := 22 }) (xP (dC, dI) vwCl (mt cm) (mw_ am cm th mw mwr mfl mact on cut mrec mlog mlive had mser mcur mrd mwt worn pg pla sou fou) sz [.ref (am 0), .int st]) (va_Qi (fun r (u : (Nat → Nat → Int32) × (Nat → Int32) × (Nat → Nat)) => True) (fun (u : (Nat → Nat → Int32) × (Nat → Int32) × (Nat → Nat)) (t : State) => xB (dC, dI) vwCl (mt cm) (xA 9 am sz) (mw_ am cm (u.2.1 0) mw mwr mfl mact on cut mrec mlog mlive had mser mcur (u.2.1 1) (u.2.1 2) worn pg pla sou fou) t) (xA 9 am sz)) 0 0 (xA 9 am sz) := by
  refine Met.ofW (cc := b_M_axle) (maxL := 2) (ret := (some (.int))) (by decide) rfl ?_
  intro P e s m args below meth c0 s₁ B hml hv
  obtain ⟨rfl, hsz, hP, hK, hD0, hN⟩ := hv
  have hx := B.exec
  have hb := B.bytes
  have hr := B.returns
  have hts := atoms_spec (ws := w_M_axle) B.pre
  have hown : s.vm.findClass R_M = some m.cls := findClass_of_methodNamed B.named
  have hlocks := B.notSynchronized
  subst hsz
  have hD := mw_D (sz := s.heap.size) hD0
  have hS : va_S (xA 9 am s.heap.size) s.heap s.heap [] := va_S.rf
  have hA : ∀ q : Nat, s.heap.size ≤ q → (xA 9 am s.heap.size) q := fun q h => Or.inr h
  have hl := lv_entry ([.ref (am 0), .int st]) (n := 2) (Nat.le_of_ble_eq_true rfl)
  rw [lg_entry_eq]
  generalize (lg_sl ([.ref (am 0), .int st]) ++ List.replicate (2 - (lg_sl ([.ref (am 0), .int st])).length) Slot.unset).toArray = ls at hl ⊢
  have hl : lv_has ls 2 [(0, .ref (am 0)), (1, .int st)] := hl
  refine lv_aload_n hx hb d_M_axle_0 rfl (lv_at hl 0 rfl) ?_
  refine lv_iconst (v := nI 1) hx hb d_M_axle_1 (by decide) ?_
  refine lv_iload_n hx hb d_M_axle_2 rfl (lv_at hl 1 rfl) ?_
  refine lv_iconst (v := nI 1) hx hb d_M_axle_3 (by decide) ?_
  refine lv_sipush (v := nI 1200) hx hb d_M_axle_4 (by decide) ?_
  refine vp_callSi (va_runS (As := [.int st, .int (nI 1), .int (nI 1200)]) (rest := [.int (nI 1), .ref (am 0)]) ⟨hx, hb, hml, hown, hts⟩ (c_M_isIn l dC dI st (nI 1) (nI 1200) ) (cwS 3 hts (g_S t_781 t_782 t_6 t_783) rfl rfl rfl (by decide +kernel) ⟨by decide, by decide⟩) (xR_s (va_P.sub hP [] rfl) (hK.sub [] rfl) hN) rfl rfl hl.1 rfl (lv_room (Nat.le_of_ble_eq_true rfl)) d_M_axle_7 ⟨Nat.le_refl _, Nat.le_refl _⟩).run (fun r7 q7 => ?_)
  rcases q7 with ⟨rfl, hin7⟩ | ⟨rfl, hin7⟩
  ·
    refine lv_if_ne (tgt := 17) hx hb d_M_axle_10 (by decide) (fun c10 => ?_) (fun c10 => ?_)
    ·
      refine lv_iconst (v := nI 0) hx hb d_M_axle_17 (by decide) ?_
      have hSz := hS.1
      refine va_calli (va_runV (C := R_M) (As := [.int (nI 1), .int (nI 0)]) (rest := []) ⟨hx, hb, hml, hown, hts⟩ (c_M_fails_0 l dC dI am cm s.heap.size th mw mwr mfl mact on cut mrec mlog mlive had mser mcur mrd mwt worn pg pla sou fou (nI 1) ) (cwV 2 hts (g_V t_784 t_786 s_22 t_6 t_787) rfl rfl rfl (by decide +kernel) ⟨by decide, by decide⟩) (xP_v hP hK hD hN 0 rfl rfl) rfl rfl hl.1 rfl (lv_room (Nat.le_of_ble_eq_true rfl)) d_M_axle_18 ⟨Nat.le_refl _, Nat.le_refl _⟩) hS (fun q _ h => xA_up hS.1 q h) (fun q h => xA_up hS.1 q h) (fun r18 u18 t H1 locs1 ht hvm q18 hB hz1 hk1 hS => ?_)
      obtain ⟨hP1, hK1, hD1⟩ := hB
      rw [ht] at hP1
      have hD : va_D (xA 9 am s.heap.size) (mw_ am cm (nI 0) mw mwr mfl mact on cut mrec mlog mlive had mser mcur mrd mwt worn pg pla sou fou) := hD1.weaken (fun _ q _ h => xA_up hSz _ h)
      have hP : va_P (dC, dI) vwCl (mw_ am cm (nI 0) mw mwr mfl mact on cut mrec mlog mlive had mser mcur mrd mwt worn pg pla sou fou) H1 := hP1
      generalize H1 = H at hP hS ⊢
      generalize locs1 = locs at hS ⊢
      have q18 := q18.symm
      subst q18
      refine lv_if_ne (tgt := 53) hx hb d_M_axle_21 (by decide) (fun c21 => ?_) (fun c21 => ?_)
      ·
        exact absurd c21 (by decide)
      ·
        refine lv_aload_n hx hb d_M_axle_24 rfl (lv_at hl 0 rfl) ?_
        refine lv_iconst (v := nI 2) hx hb d_M_axle_25 (by decide) ?_
        refine lv_aload_n hx hb d_M_axle_26 rfl (lv_at hl 0 rfl) ?_
        refine va_get (D := (dC, dI)) (ci := 5) (v := .int on) (C := R_M) (T := F_M) (N := 20) hx hb hts (fun w h => List.mem_cons_of_mem _ (in_M w h)) hown hK hP 0 rfl rfl 5 (by decide) (hts (.fieldLink R_M 23 R_M "on" "Z") (List.mem_cons_of_mem _ t_717)) (fun _ h9 => h9) rfl d_M_axle_27 ?_
        refine lv_if_eq (tgt := 42) hx hb d_M_axle_30 (by decide) (fun c30 => ?_) (fun c30 => ?_)
        ·
          refine lv_iconst (v := nI 1) hx hb d_M_axle_42 (by decide) ?_
          refine lv_goto (tgt := 47) hx hb d_M_axle_43 (by decide) ?_
          have hSz := hS.1
          refine va_calli (va_runV (C := R_M) (As := [.int (nI 2), .int (nI 1)]) (rest := []) ⟨hx, hb, hml, hown, hts⟩ (c_M_fails_1 l dC dI am cm H.size (nI 0) mw mwr mfl mact on cut mrec mlog mlive had mser mcur mrd mwt worn pg pla sou fou (nI 2) ) (cwV 2 hts (g_V t_784 t_786 s_22 t_6 t_787) rfl rfl rfl (by decide +kernel) ⟨by decide, by decide⟩) (xP_v hP hK hD hN 0 rfl rfl) rfl rfl hl.1 rfl (lv_room (Nat.le_of_ble_eq_true rfl)) d_M_axle_47 ⟨Nat.le_refl _, Nat.le_refl _⟩) hS (fun q _ h => xA_up hS.1 q h) (fun q h => xA_up hS.1 q h) (fun r47 u47 t H1 locs1 ht hvm q47 hB hz1 hk1 hS => ?_)
          obtain ⟨hP1, hK1, hD1⟩ := hB
          rw [ht] at hP1
          have hD : va_D (xA 9 am s.heap.size) (mw_ am cm (nI 2) mw mwr mfl mact on cut mrec mlog mlive had mser mcur mrd mwt worn pg pla sou fou) := hD1.weaken (fun _ q _ h => xA_up hSz _ h)
          have hP : va_P (dC, dI) vwCl (mw_ am cm (nI 2) mw mwr mfl mact on cut mrec mlog mlive had mser mcur mrd mwt worn pg pla sou fou) H1 := hP1
          generalize H1 = H at hP hS ⊢
          generalize locs1 = locs at hS ⊢
          have q47 := q47.symm
          subst q47
          refine lv_if_eq (tgt := 55) hx hb d_M_axle_50 (by decide) (fun c50 => ?_) (fun c50 => ?_)
          ·
            exact absurd c50 (by decide)
          ·
            refine lv_iconst (v := nI 0) hx hb d_M_axle_53 (by decide) ?_
            exact W.iret (v := nI 0) hx hb hr (fun t ht hW => ⟨⟨nI 0, (fun i => [].getD i (fun _ => 0), fun i => [nI 2, mrd, mwt].getD i 0, fun i => [].getD i 0), rfl, by first | rfl | trivial | omega, ⟨by rw [ht]; exact hP, va_K.moved hW.alike hK, hD⟩⟩, hS.F ht⟩) hS.2.2 d_M_axle_54
        ·
          refine lv_aload_n hx hb d_M_axle_33 rfl (lv_at hl 0 rfl) ?_
          refine va_get (D := (dC, dI)) (ci := 5) (v := .int mrd) (C := R_M) (T := F_M) (N := 20) hx hb hts (fun w h => List.mem_cons_of_mem _ (in_M w h)) hown hK hP 0 rfl rfl 13 (by decide) (hts (.fieldLink R_M 58 R_M "readings" "I") (List.mem_cons_of_mem _ t_725)) (fun _ h9 => h9) rfl d_M_axle_34 ?_
          refine lv_bipush (v := nI 9) hx hb d_M_axle_37 (by decide) ?_
          refine lv_icmp_ne (tgt := 46) hx hb d_M_axle_39 (by decide) (fun c39 => ?_) (fun c39 => ?_)
          ·
            refine lv_iconst (v := nI 0) hx hb d_M_axle_46 (by decide) ?_
            have hSz := hS.1
            refine va_calli (va_runV (C := R_M) (As := [.int (nI 2), .int (nI 0)]) (rest := []) ⟨hx, hb, hml, hown, hts⟩ (c_M_fails_0 l dC dI am cm H.size (nI 0) mw mwr mfl mact on cut mrec mlog mlive had mser mcur mrd mwt worn pg pla sou fou (nI 2) ) (cwV 2 hts (g_V t_784 t_786 s_22 t_6 t_787) rfl rfl rfl (by decide +kernel) ⟨by decide, by decide⟩) (xP_v hP hK hD hN 0 rfl rfl) rfl rfl hl.1 rfl (lv_room (Nat.le_of_ble_eq_true rfl)) d_M_axle_47 ⟨Nat.le_refl _, Nat.le_refl _⟩) hS (fun q _ h => xA_up hS.1 q h) (fun q h => xA_up hS.1 q h) (fun r47 u47 t H1 locs1 ht hvm q47 hB hz1 hk1 hS => ?_)
            obtain ⟨hP1, hK1, hD1⟩ := hB
            rw [ht] at hP1
            have hD : va_D (xA 9 am s.heap.size) (mw_ am cm (nI 0) mw mwr mfl mact on cut mrec mlog mlive had mser mcur mrd mwt worn pg pla sou fou) := hD1.weaken (fun _ q _ h => xA_up hSz _ h)
            have hP : va_P (dC, dI) vwCl (mw_ am cm (nI 0) mw mwr mfl mact on cut mrec mlog mlive had mser mcur mrd mwt worn pg pla sou fou) H1 := hP1
            generalize H1 = H at hP hS ⊢
            generalize locs1 = locs at hS ⊢
            have q47 := q47.symm
            subst q47
            refine lv_if_eq (tgt := 55) hx hb d_M_axle_50 (by decide) (fun c50 => ?_) (fun c50 => ?_)
            ·
              refine lv_aload_n hx hb d_M_axle_55 rfl (lv_at hl 0 rfl) ?_
              refine lv_dup hx hb d_M_axle_56 rfl ?_
              refine va_get (D := (dC, dI)) (ci := 5) (v := .int mrd) (C := R_M) (T := F_M) (N := 20) hx hb hts (fun w h => List.mem_cons_of_mem _ (in_M w h)) hown hK hP 0 rfl rfl 13 (by decide) (hts (.fieldLink R_M 58 R_M "readings" "I") (List.mem_cons_of_mem _ t_725)) (fun _ h9 => h9) rfl d_M_axle_57 ?_
              refine lv_iconst (v := nI 1) hx hb d_M_axle_60 (by decide) ?_
              refine lv_iadd hx hb d_M_axle_61 ?_
              refine va_put (D := (dC, dI)) (ci := 5) (v := .int (mrd + (nI 1))) (ty := .int) (C := R_M) (T := F_M) (N := 20) hx hb hts (fun w h => List.mem_cons_of_mem _ (in_M w h)) t_M ok_M nm_M hown hK hP hD hS 0 rfl rfl 13 (by decide) (hts (.fieldLink R_M 58 R_M "readings" "I") (List.mem_cons_of_mem _ t_725)) (fun _ h9 => h9) rfl (by decide +kernel) rfl rfl (Nat.le_of_ble_eq_true rfl) d_M_axle_62 (fun H locs hP hD hS => ?_)
              have hP : va_P (dC, dI) vwCl (mw_ am cm (nI 0) mw mwr mfl mact on cut mrec mlog mlive had mser mcur (mrd + (nI 1)) mwt worn pg pla sou fou) H := hP
              have hD : va_D (xA 9 am s.heap.size) (mw_ am cm (nI 0) mw mwr mfl mact on cut mrec mlog mlive had mser mcur (mrd + (nI 1)) mwt worn pg pla sou fou) := hD
              refine lv_aload_n hx hb d_M_axle_65 rfl (lv_at hl 0 rfl) ?_
              refine lv_dup hx hb d_M_axle_66 rfl ?_
              refine va_get (D := (dC, dI)) (ci := 5) (v := .int mwt) (C := R_M) (T := F_M) (N := 20) hx hb hts (fun w h => List.mem_cons_of_mem _ (in_M w h)) hown hK hP 0 rfl rfl 14 (by decide) (hts (.fieldLink R_M 61 R_M "weight" "I") (List.mem_cons_of_mem _ t_726)) (fun _ h9 => h9) rfl d_M_axle_67 ?_
              refine lv_iload_n hx hb d_M_axle_70 rfl (lv_at hl 1 rfl) ?_
              refine lv_iadd hx hb d_M_axle_71 ?_
              refine va_put (D := (dC, dI)) (ci := 5) (v := .int (mwt + st)) (ty := .int) (C := R_M) (T := F_M) (N := 20) hx hb hts (fun w h => List.mem_cons_of_mem _ (in_M w h)) t_M ok_M nm_M hown hK hP hD hS 0 rfl rfl 14 (by decide) (hts (.fieldLink R_M 61 R_M "weight" "I") (List.mem_cons_of_mem _ t_726)) (fun _ h9 => h9) rfl (by decide +kernel) rfl rfl (Nat.le_of_ble_eq_true rfl) d_M_axle_72 (fun H locs hP hD hS => ?_)
              have hP : va_P (dC, dI) vwCl (mw_ am cm (nI 0) mw mwr mfl mact on cut mrec mlog mlive had mser mcur (mrd + (nI 1)) (mwt + st) worn pg pla sou fou) H := hP
              have hD : va_D (xA 9 am s.heap.size) (mw_ am cm (nI 0) mw mwr mfl mact on cut mrec mlog mlive had mser mcur (mrd + (nI 1)) (mwt + st) worn pg pla sou fou) := hD
              refine lv_aload_n hx hb d_M_axle_75 rfl (lv_at hl 0 rfl) ?_
              refine va_get (D := (dC, dI)) (ci := 5) (v := .int (mrd + (nI 1))) (C := R_M) (T := F_M) (N := 20) hx hb hts (fun w h => List.mem_cons_of_mem _ (in_M w h)) hown hK hP 0 rfl rfl 13 (by decide) (hts (.fieldLink R_M 58 R_M "readings" "I") (List.mem_cons_of_mem _ t_725)) (fun _ h9 => h9) rfl d_M_axle_76 ?_
              exact W.iret (v := mrd + (nI 1)) hx hb hr (fun t ht hW => ⟨⟨mrd + (nI 1), (fun i => [].getD i (fun _ => 0), fun i => [nI 0, mrd + (nI 1), mwt + st].getD i 0, fun i => [].getD i 0), rfl, by first | rfl | trivial | omega, ⟨by rw [ht]; exact hP, va_K.moved hW.alike hK, hD⟩⟩, hS.F ht⟩) hS.2.2 d_M_axle_79
            ·
              exact absurd c50 (by decide)
          ·
            refine lv_iconst (v := nI 1) hx hb d_M_axle_42 (by decide) ?_
            refine lv_goto (tgt := 47) hx hb d_M_axle_43 (by decide) ?_
            have hSz := hS.1
            refine va_calli (va_runV (C := R_M) (As := [.int (nI 2), .int (nI 1)]) (rest := []) ⟨hx, hb, hml, hown, hts⟩ (c_M_fails_1 l dC dI am cm H.size (nI 0) mw mwr mfl mact on cut mrec mlog mlive had mser mcur mrd mwt worn pg pla sou fou (nI 2) ) (cwV 2 hts (g_V t_784 t_786 s_22 t_6 t_787) rfl rfl rfl (by decide +kernel) ⟨by decide, by decide⟩) (xP_v hP hK hD hN 0 rfl rfl) rfl rfl hl.1 rfl (lv_room (Nat.le_of_ble_eq_true rfl)) d_M_axle_47 ⟨Nat.le_refl _, Nat.le_refl _⟩) hS (fun q _ h => xA_up hS.1 q h) (fun q h => xA_up hS.1 q h) (fun r47 u47 t H1 locs1 ht hvm q47 hB hz1 hk1 hS => ?_)
            obtain ⟨hP1, hK1, hD1⟩ := hB
            rw [ht] at hP1
            have hD : va_D (xA 9 am s.heap.size) (mw_ am cm (nI 2) mw mwr mfl mact on cut mrec mlog mlive had mser mcur mrd mwt worn pg pla sou fou) := hD1.weaken (fun _ q _ h => xA_up hSz _ h)
            have hP : va_P (dC, dI) vwCl (mw_ am cm (nI 2) mw mwr mfl mact on cut mrec mlog mlive had mser mcur mrd mwt worn pg pla sou fou) H1 := hP1
            generalize H1 = H at hP hS ⊢
            generalize locs1 = locs at hS ⊢
            have q47 := q47.symm
            subst q47
            refine lv_if_eq (tgt := 55) hx hb d_M_axle_50 (by decide) (fun c50 => ?_) (fun c50 => ?_)
            ·
              exact absurd c50 (by decide)
            ·
              refine lv_iconst (v := nI 0) hx hb d_M_axle_53 (by decide) ?_
              exact W.iret (v := nI 0) hx hb hr (fun t ht hW => ⟨⟨nI 0, (fun i => [].getD i (fun _ => 0), fun i => [nI 2, mrd, mwt].getD i 0, fun i => [].getD i 0), rfl, by first | rfl | trivial | omega, ⟨by rw [ht]; exact hP, va_K.moved hW.alike hK, hD⟩⟩, hS.F ht⟩) hS.2.2 d_M_axle_54
    ·
      exact absurd c10 (by decide)
  ·
    refine lv_if_ne (tgt := 17) hx hb d_M_axle_10 (by decide) (fun c10 => ?_) (fun c10 => ?_)
    ·
      exact absurd c10 (by decide)
    ·
      refine lv_iconst (v := nI 1) hx hb d_M_axle_13 (by decide) ?_
      refine lv_goto (tgt := 18) hx hb d_M_axle_14 (by decide) ?_
      have hSz := hS.1
      refine va_calli (va_runV (C := R_M) (As := [.int (nI 1), .int (nI 1)]) (rest := []) ⟨hx, hb, hml, hown, hts⟩ (c_M_fails_1 l dC dI am cm s.heap.size th mw mwr mfl mact on cut mrec mlog mlive had mser mcur mrd mwt worn pg pla sou fou (nI 1) ) (cwV 2 hts (g_V t_784 t_786 s_22 t_6 t_787) rfl rfl rfl (by decide +kernel) ⟨by decide, by decide⟩) (xP_v hP hK hD hN 0 rfl rfl) rfl rfl hl.1 rfl (lv_room (Nat.le_of_ble_eq_true rfl)) d_M_axle_18 ⟨Nat.le_refl _, Nat.le_refl _⟩) hS (fun q _ h => xA_up hS.1 q h) (fun q h => xA_up hS.1 q h) (fun r18 u18 t H1 locs1 ht hvm q18 hB hz1 hk1 hS => ?_)
      obtain ⟨hP1, hK1, hD1⟩ := hB
      rw [ht] at hP1
      have hD : va_D (xA 9 am s.heap.size) (mw_ am cm (nI 1) mw mwr mfl mact on cut mrec mlog mlive had mser mcur mrd mwt worn pg pla sou fou) := hD1.weaken (fun _ q _ h => xA_up hSz _ h)
      have hP : va_P (dC, dI) vwCl (mw_ am cm (nI 1) mw mwr mfl mact on cut mrec mlog mlive had mser mcur mrd mwt worn pg pla sou fou) H1 := hP1
      generalize H1 = H at hP hS ⊢
      generalize locs1 = locs at hS ⊢
      have q18 := q18.symm
      subst q18
      refine lv_if_ne (tgt := 53) hx hb d_M_axle_21 (by decide) (fun c21 => ?_) (fun c21 => ?_)
      ·
        refine lv_iconst (v := nI 0) hx hb d_M_axle_53 (by decide) ?_
        exact W.iret (v := nI 0) hx hb hr (fun t ht hW => ⟨⟨nI 0, (fun i => [].getD i (fun _ => 0), fun i => [nI 1, mrd, mwt].getD i 0, fun i => [].getD i 0), rfl, by first | rfl | trivial | omega, ⟨by rw [ht]; exact hP, va_K.moved hW.alike hK, hD⟩⟩, hS.F ht⟩) hS.2.2 d_M_axle_54
      ·
        exact absurd c21 (by decide)
set_option maxHeartbeats 4000000 in
set_option maxRecDepth 100000 in
theorem c_M_close (l : Launch) (dC : Nat → ClassId) (dI : Nat → Nat → Nat) (am cm : Nat → Nat) (sz : Nat) (th : Int32) (mw mwr mfl mact : Nat → Int32) (on cut mrec : Int32) (mlog mlive had : Nat → Int32) (mser mcur mrd mwt worn : Int32) (pg : Nat → Int32) (pla sou fou : Int32) (rn : Nat) (plate : Int32) (tare : Int32) (product : Int32) (clock : Int32) (hmi : MI rn mlive mcur) : Met l y_M_close w_M_close ({ frames := 8, cells := 0, slots := 0, locals := 181 }) (xP (dC, dI) vwCl (mt cm) (mw_ am cm th mw mwr mfl mact on cut (nI rn) mlog mlive had mser mcur mrd mwt worn pg pla sou fou) sz [.ref (am 0), .int plate, .int tare, .int product, .int clock]) (va_Qi (fun r (u : (Nat → Nat → Int32) × (Nat → Int32) × (Nat → Nat)) => MI (u.2.2 0) (u.1 0) (u.2.1 1)) (fun (u : (Nat → Nat → Int32) × (Nat → Int32) × (Nat → Nat)) (t : State) => xB (dC, dI) vwCl (mt cm) (xA 9 am sz) (mw_ am cm (u.2.1 7) (u.1 1) (u.1 2) mfl mact (u.2.1 6) (u.2.1 5) (nI (u.2.2 0)) (u.1 4) (u.1 0) (u.1 5) (u.2.1 0) (u.2.1 1) (u.2.1 2) (u.2.1 3) (u.2.1 4) (u.1 3) pla sou fou) t) (xA 9 am sz)) 0 0 (xA 9 am sz) := by
  refine Met.ofW (cc := b_M_close) (maxL := 7) (ret := (some (.int))) (by decide) rfl ?_
  intro P e s m args below meth c0 s₁ B hml hv
  obtain ⟨rfl, hsz, hP, hK, hD0, hN⟩ := hv
  have hx := B.exec
  have hb := B.bytes
  have hr := B.returns
  have hts := atoms_spec (ws := w_M_close) B.pre
  have hown : s.vm.findClass R_M = some m.cls := findClass_of_methodNamed B.named
  have hlocks := B.notSynchronized
  subst hsz
  have hD := mw_D (sz := s.heap.size) hD0
  have hS : va_S (xA 9 am s.heap.size) s.heap s.heap [] := va_S.rf
  have hA : ∀ q : Nat, s.heap.size ≤ q → (xA 9 am s.heap.size) q := fun q h => Or.inr h
  have hl := lv_entry ([.ref (am 0), .int plate, .int tare, .int product, .int clock]) (n := 7) (Nat.le_of_ble_eq_true rfl)
  rw [lg_entry_eq]
  generalize (lg_sl ([.ref (am 0), .int plate, .int tare, .int product, .int clock]) ++ List.replicate (7 - (lg_sl ([.ref (am 0), .int plate, .int tare, .int product, .int clock])).length) Slot.unset).toArray = ls at hl ⊢
  have hl : lv_has ls 7 [(0, .ref (am 0)), (1, .int plate), (2, .int tare), (3, .int product), (4, .int clock)] := hl
  have h48 := hmi.1
  refine lv_iload_n hx hb d_M_close_0 rfl (lv_at hl 2 rfl) ?_
  refine lv_iconst (v := nI 0) hx hb d_M_close_1 (by decide) ?_
  refine lv_ldc (v := nI 216000) hx hb hown (hts (.constant R_M 141 216000) (List.mem_cons_of_mem _ t_792)) d_M_close_2 ?_
  refine vp_callSi (va_runS (As := [.int tare, .int (nI 0), .int (nI 216000)]) (rest := []) ⟨hx, hb, hml, hown, hts⟩ (c_M_isIn l dC dI tare (nI 0) (nI 216000) ) (cwS 3 hts (g_S t_781 t_782 t_6 t_783) rfl rfl rfl (by decide +kernel) ⟨by decide, by decide⟩) (xR_s (va_P.sub hP [] rfl) (hK.sub [] rfl) hN) rfl rfl hl.1 rfl (lv_room (Nat.le_of_ble_eq_true rfl)) d_M_close_4 ⟨Nat.le_refl _, Nat.le_refl _⟩).run (fun r4 q4 => ?_)
  rcases q4 with ⟨rfl, hin4⟩ | ⟨rfl, hin4⟩
  ·
    refine lv_if_eq (tgt := 35) hx hb d_M_close_7 (by decide) (fun c7 => ?_) (fun c7 => ?_)
    ·
      exact absurd c7 (by decide)
    ·
      refine lv_iload_n hx hb d_M_close_10 rfl (lv_at hl 3 rfl) ?_
      refine lv_iconst (v := nI 0) hx hb d_M_close_11 (by decide) ?_
      refine lv_bipush (v := nI 39) hx hb d_M_close_12 (by decide) ?_
      refine vp_callSi (va_runS (As := [.int product, .int (nI 0), .int (nI 39)]) (rest := []) ⟨hx, hb, hml, hown, hts⟩ (c_M_isIn l dC dI product (nI 0) (nI 39) ) (cwS 3 hts (g_S t_781 t_782 t_6 t_783) rfl rfl rfl (by decide +kernel) ⟨by decide, by decide⟩) (xR_s (va_P.sub hP [] rfl) (hK.sub [] rfl) hN) rfl rfl hl.1 rfl (lv_room (Nat.le_of_ble_eq_true rfl)) d_M_close_14 ⟨Nat.le_refl _, Nat.le_refl _⟩).run (fun r14 q14 => ?_)
      rcases q14 with ⟨rfl, hin14⟩ | ⟨rfl, hin14⟩
      ·
        refine lv_if_eq (tgt := 35) hx hb d_M_close_17 (by decide) (fun c17 => ?_) (fun c17 => ?_)
        ·
          exact absurd c17 (by decide)
        ·
          refine lv_iload hx hb d_M_close_20 (lv_at hl 4 rfl) ?_
          refine lv_iconst (v := nI 0) hx hb d_M_close_22 (by decide) ?_
          refine lv_ldc (v := nI 67108863) hx hb hown (hts (.constant R_M 142 67108863) (List.mem_cons_of_mem _ t_793)) d_M_close_23 ?_
          refine vp_callSi (va_runS (As := [.int clock, .int (nI 0), .int (nI 67108863)]) (rest := []) ⟨hx, hb, hml, hown, hts⟩ (c_M_isIn l dC dI clock (nI 0) (nI 67108863) ) (cwS 3 hts (g_S t_781 t_782 t_6 t_783) rfl rfl rfl (by decide +kernel) ⟨by decide, by decide⟩) (xR_s (va_P.sub hP [] rfl) (hK.sub [] rfl) hN) rfl rfl hl.1 rfl (lv_room (Nat.le_of_ble_eq_true rfl)) d_M_close_25 ⟨Nat.le_refl _, Nat.le_refl _⟩).run (fun r25 q25 => ?_)
          rcases q25 with ⟨rfl, hin25⟩ | ⟨rfl, hin25⟩
          ·
            refine lv_if_eq (tgt := 35) hx hb d_M_close_28 (by decide) (fun c28 => ?_) (fun c28 => ?_)
            ·
              exact absurd c28 (by decide)
            ·
              refine lv_iconst (v := nI 1) hx hb d_M_close_31 (by decide) ?_
              refine lv_goto (tgt := 36) hx hb d_M_close_32 (by decide) ?_
              refine lv_istore hx hb d_M_close_36 hl (by decide) rfl (fun ls hl => ?_)
              have hl : lv_has ls 7 [(5, .int (nI 1)), (0, .ref (am 0)), (1, .int plate), (2, .int tare), (3, .int product), (4, .int clock)] := hl
              refine lv_aload_n hx hb d_M_close_38 rfl (lv_at hl 1 rfl) ?_
              refine lv_iconst (v := nI 1) hx hb d_M_close_39 (by decide) ?_
              refine lv_iload hx hb d_M_close_40 (lv_at hl 0 rfl) ?_
              refine lv_if_ne (tgt := 49) hx hb d_M_close_42 (by decide) (fun c42 => ?_) (fun c42 => ?_)
              ·
                refine lv_iconst (v := nI 0) hx hb d_M_close_49 (by decide) ?_
                have hSz := hS.1
                refine va_calli (va_runV (C := R_M) (As := [.int (nI 1), .int (nI 0)]) (rest := []) ⟨hx, hb, hml, hown, hts⟩ (c_M_fails_0 l dC dI am cm s.heap.size th mw mwr mfl mact on cut (nI rn) mlog mlive had mser mcur mrd mwt worn pg pla sou fou (nI 1) ) (cwV 2 hts (g_V t_784 t_786 s_22 t_6 t_787) rfl rfl rfl (by decide +kernel) ⟨by decide, by decide⟩) (xP_v hP hK hD hN 0 rfl rfl) rfl rfl hl.1 rfl (lv_room (Nat.le_of_ble_eq_true rfl)) d_M_close_50 ⟨Nat.le_refl _, Nat.le_refl _⟩) hS (fun q _ h => xA_up hS.1 q h) (fun q h => xA_up hS.1 q h) (fun r50 u50 t H1 locs1 ht hvm q50 hB hz1 hk1 hS => ?_)
                obtain ⟨hP1, hK1, hD1⟩ := hB
                rw [ht] at hP1
                have hD : va_D (xA 9 am s.heap.size) (mw_ am cm (nI 0) mw mwr mfl mact on cut (nI rn) mlog mlive had mser mcur mrd mwt worn pg pla sou fou) := hD1.weaken (fun _ q _ h => xA_up hSz _ h)
                have hP : va_P (dC, dI) vwCl (mw_ am cm (nI 0) mw mwr mfl mact on cut (nI rn) mlog mlive had mser mcur mrd mwt worn pg pla sou fou) H1 := hP1
                generalize H1 = H at hP hS ⊢
                generalize locs1 = locs at hS ⊢
                have q50 := q50.symm
                subst q50
                refine lv_if_ne (tgt := 76) hx hb d_M_close_53 (by decide) (fun c53 => ?_) (fun c53 => ?_)
                ·
                  exact absurd c53 (by decide)
                ·
                  refine lv_aload_n hx hb d_M_close_56 rfl (lv_at hl 1 rfl) ?_
                  refine lv_iconst (v := nI 2) hx hb d_M_close_57 (by decide) ?_
                  refine lv_aload_n hx hb d_M_close_58 rfl (lv_at hl 1 rfl) ?_
                  refine va_get (D := (dC, dI)) (ci := 5) (v := .int on) (C := R_M) (T := F_M) (N := 20) hx hb hts (fun w h => List.mem_cons_of_mem _ (in_M w h)) hown hK hP 0 rfl rfl 5 (by decide) (hts (.fieldLink R_M 23 R_M "on" "Z") (List.mem_cons_of_mem _ t_717)) (fun _ h9 => h9) rfl d_M_close_59 ?_
                  refine lv_if_ne (tgt := 69) hx hb d_M_close_62 (by decide) (fun c62 => ?_) (fun c62 => ?_)
                  ·
                    refine lv_iconst (v := nI 0) hx hb d_M_close_69 (by decide) ?_
                    have hSz := hS.1
                    refine va_calli (va_runV (C := R_M) (As := [.int (nI 2), .int (nI 0)]) (rest := []) ⟨hx, hb, hml, hown, hts⟩ (c_M_fails_0 l dC dI am cm H.size (nI 0) mw mwr mfl mact on cut (nI rn) mlog mlive had mser mcur mrd mwt worn pg pla sou fou (nI 2) ) (cwV 2 hts (g_V t_784 t_786 s_22 t_6 t_787) rfl rfl rfl (by decide +kernel) ⟨by decide, by decide⟩) (xP_v hP hK hD hN 0 rfl rfl) rfl rfl hl.1 rfl (lv_room (Nat.le_of_ble_eq_true rfl)) d_M_close_70 ⟨Nat.le_refl _, Nat.le_refl _⟩) hS (fun q _ h => xA_up hS.1 q h) (fun q h => xA_up hS.1 q h) (fun r70 u70 t H1 locs1 ht hvm q70 hB hz1 hk1 hS => ?_)
                    obtain ⟨hP1, hK1, hD1⟩ := hB
                    rw [ht] at hP1
                    have hD : va_D (xA 9 am s.heap.size) (mw_ am cm (nI 0) mw mwr mfl mact on cut (nI rn) mlog mlive had mser mcur mrd mwt worn pg pla sou fou) := hD1.weaken (fun _ q _ h => xA_up hSz _ h)
                    have hP : va_P (dC, dI) vwCl (mw_ am cm (nI 0) mw mwr mfl mact on cut (nI rn) mlog mlive had mser mcur mrd mwt worn pg pla sou fou) H1 := hP1
                    generalize H1 = H at hP hS ⊢
                    generalize locs1 = locs at hS ⊢
                    have q70 := q70.symm
                    subst q70
                    refine lv_if_eq (tgt := 78) hx hb d_M_close_73 (by decide) (fun c73 => ?_) (fun c73 => ?_)
                    ·
                      obtain ⟨j, hj, rfl⟩ := in_nt (n := 39) hin14
                      refine lv_aload_n hx hb d_M_close_78 rfl (lv_at hl 1 rfl) ?_
                      refine va_get (D := (dC, dI)) (ci := 5) (v := .int mrd) (C := R_M) (T := F_M) (N := 20) hx hb hts (fun w h => List.mem_cons_of_mem _ (in_M w h)) hown hK hP 0 rfl rfl 13 (by decide) (hts (.fieldLink R_M 58 R_M "readings" "I") (List.mem_cons_of_mem _ t_725)) (fun _ h9 => h9) rfl d_M_close_79 ?_
                      refine lv_if_eq (tgt := 114) hx hb d_M_close_82 (by decide) (fun c82 => ?_) (fun c82 => ?_)
                      ·
                        refine lv_iconst (v := nI 0) hx hb d_M_close_114 (by decide) ?_
                        exact W.iret (v := nI 0) hx hb hr (fun t ht hW => ⟨⟨nI 0, (fun i => [mlive, mw, mwr, pg, mlog, had].getD i (fun _ => 0), fun i => [mser, mcur, mrd, mwt, worn, cut, on, nI 0].getD i 0, fun i => [rn].getD i 0), rfl, hmi, ⟨by rw [ht]; exact hP, va_K.moved hW.alike hK, hD⟩⟩, hS.F ht⟩) hS.2.2 d_M_close_115
                      ·
                        refine lv_aload_n hx hb d_M_close_85 rfl (lv_at hl 1 rfl) ?_
                        refine va_get (D := (dC, dI)) (ci := 5) (v := .ref (am 4)) (C := R_M) (T := F_M) (N := 20) hx hb hts (fun w h => List.mem_cons_of_mem _ (in_M w h)) hown hK hP 0 rfl rfl 4 (by decide) (hts (.fieldLink R_M 20 R_M "active" "[Z") (List.mem_cons_of_mem _ t_716)) (fun _ h9 => h9) rfl d_M_close_86 ?_
                        refine lv_iload_n hx hb d_M_close_89 rfl (lv_at hl 4 rfl) ?_
                        refine va_zald hx hb hK hP 4 3 rfl rfl (vp_in_nI (by omega) (by decide)) d_M_close_90 ?_
                        refine tp_i (y := mact j) (by rw [nI_clamp (by omega)]) ?_
                        refine lv_if_eq (tgt := 114) hx hb d_M_close_91 (by decide) (fun c91 => ?_) (fun c91 => ?_)
                        ·
                          refine lv_iconst (v := nI 0) hx hb d_M_close_114 (by decide) ?_
                          exact W.iret (v := nI 0) hx hb hr (fun t ht hW => ⟨⟨nI 0, (fun i => [mlive, mw, mwr, pg, mlog, had].getD i (fun _ => 0), fun i => [mser, mcur, mrd, mwt, worn, cut, on, nI 0].getD i 0, fun i => [rn].getD i 0), rfl, hmi, ⟨by rw [ht]; exact hP, va_K.moved hW.alike hK, hD⟩⟩, hS.F ht⟩) hS.2.2 d_M_close_115
                        ·
                          refine lv_iload_n hx hb d_M_close_94 rfl (lv_at hl 3 rfl) ?_
                          refine lv_bipush (v := nI 20) hx hb d_M_close_95 (by decide) ?_
                          refine lv_aload_n hx hb d_M_close_97 rfl (lv_at hl 1 rfl) ?_
                          refine va_get (D := (dC, dI)) (ci := 5) (v := .int mwt) (C := R_M) (T := F_M) (N := 20) hx hb hts (fun w h => List.mem_cons_of_mem _ (in_M w h)) hown hK hP 0 rfl rfl 14 (by decide) (hts (.fieldLink R_M 61 R_M "weight" "I") (List.mem_cons_of_mem _ t_726)) (fun _ h9 => h9) rfl d_M_close_98 ?_
                          refine lv_imul hx hb d_M_close_101 ?_
                          refine lv_icmp_gt (tgt := 114) hx hb d_M_close_102 (by decide) (fun c102 => ?_) (fun c102 => ?_)
                          ·
                            refine lv_iconst (v := nI 0) hx hb d_M_close_114 (by decide) ?_
                            exact W.iret (v := nI 0) hx hb hr (fun t ht hW => ⟨⟨nI 0, (fun i => [mlive, mw, mwr, pg, mlog, had].getD i (fun _ => 0), fun i => [mser, mcur, mrd, mwt, worn, cut, on, nI 0].getD i 0, fun i => [rn].getD i 0), rfl, hmi, ⟨by rw [ht]; exact hP, va_K.moved hW.alike hK, hD⟩⟩, hS.F ht⟩) hS.2.2 d_M_close_115
                          ·
                            refine lv_aload_n hx hb d_M_close_105 rfl (lv_at hl 1 rfl) ?_
                            refine va_get (D := (dC, dI)) (ci := 5) (v := .int (nI rn)) (C := R_M) (T := F_M) (N := 20) hx hb hts (fun w h => List.mem_cons_of_mem _ (in_M w h)) hown hK hP 0 rfl rfl 7 (by decide) (hts (.fieldLink R_M 52 R_M "records" "I") (List.mem_cons_of_mem _ t_719)) (fun _ h9 => h9) rfl d_M_close_106 ?_
                            refine lv_bipush (v := nI 48) hx hb d_M_close_109 (by decide) ?_
                            refine lv_icmp_ne (tgt := 116) hx hb d_M_close_111 (by decide) (fun c111 => ?_) (fun c111 => ?_)
                            ·
                              have c111 := cd_ne_t (by omega) (by omega) c111
                              refine lv_aload_n hx hb d_M_close_116 rfl (lv_at hl 1 rfl) ?_
                              refine lv_iload_n hx hb d_M_close_117 rfl (lv_at hl 2 rfl) ?_
                              refine lv_ldc (v := nI 262144) hx hb hown (hts (.constant R_M 143 262144) (List.mem_cons_of_mem _ t_794)) d_M_close_118 ?_
                              refine lv_aload_n hx hb d_M_close_120 rfl (lv_at hl 1 rfl) ?_
                              refine va_get (D := (dC, dI)) (ci := 5) (v := .int mwt) (C := R_M) (T := F_M) (N := 20) hx hb hts (fun w h => List.mem_cons_of_mem _ (in_M w h)) hown hK hP 0 rfl rfl 14 (by decide) (hts (.fieldLink R_M 61 R_M "weight" "I") (List.mem_cons_of_mem _ t_726)) (fun _ h9 => h9) rfl d_M_close_121 ?_
                              refine lv_imul hx hb d_M_close_124 ?_
                              refine lv_iload_n hx hb d_M_close_125 rfl (lv_at hl 3 rfl) ?_
                              refine lv_iadd hx hb d_M_close_126 ?_
                              refine lv_ldc (v := nI 67108864) hx hb hown (hts (.constant R_M 144 67108864) (List.mem_cons_of_mem _ t_795)) d_M_close_127 ?_
                              refine lv_iload_n hx hb d_M_close_129 rfl (lv_at hl 4 rfl) ?_
                              refine lv_imul hx hb d_M_close_130 ?_
                              refine tp_i (y := nI (67108864 * j)) (pk_mul _ _) ?_
                              refine lv_iload hx hb d_M_close_131 (lv_at hl 5 rfl) ?_
                              refine lv_iadd hx hb d_M_close_133 ?_
                              have hSz := hS.1
                              refine va_calli (va_runV (C := R_M) (As := [.int plate, .int (((nI 262144) * mwt) + tare), .int ((nI (67108864 * j)) + clock)]) (rest := []) ⟨hx, hb, hml, hown, hts⟩ (c_M_take l dC dI am cm H.size (nI 0) mw mwr mfl mact on cut (nI rn) mlog mlive had mser mcur mrd mwt worn pg pla sou fou rn plate (((nI 262144) * mwt) + tare) ((nI (67108864 * j)) + clock) (by first | omega | rfl | assumption | decide) (by have := hmi.1; omega)) (cwV 3 hts (g_V t_796 t_798 s_23 t_6 t_799) rfl rfl rfl (by decide +kernel) ⟨by decide, by decide⟩) (xP_v hP hK hD hN 0 rfl rfl) rfl rfl hl.1 rfl (lv_room (Nat.le_of_ble_eq_true rfl)) d_M_close_134 ⟨Nat.le_refl _, Nat.le_refl _⟩) hS (fun q _ h => xA_up hS.1 q h) (fun q h => xA_up hS.1 q h) (fun r134 u134 t H1 locs1 ht hvm q134 hB hz1 hk1 hS => ?_)
                              obtain ⟨hP1, hK1, hD1⟩ := hB
                              rw [ht] at hP1
                              have hD : va_D (xA 9 am s.heap.size) (mw_ am cm (nI 0) (u134.1 1) (u134.1 2) mfl mact (u134.2.1 6) (u134.2.1 5) (nI (u134.2.2 0)) (u134.1 4) (u134.1 0) (u134.1 5) (u134.2.1 0) (u134.2.1 1) (u134.2.1 2) (u134.2.1 3) (u134.2.1 4) (u134.1 3) pla sou fou) := hD1.weaken (fun _ q _ h => xA_up hSz _ h)
                              have hP : va_P (dC, dI) vwCl (mw_ am cm (nI 0) (u134.1 1) (u134.1 2) mfl mact (u134.2.1 6) (u134.2.1 5) (nI (u134.2.2 0)) (u134.1 4) (u134.1 0) (u134.1 5) (u134.2.1 0) (u134.2.1 1) (u134.2.1 2) (u134.2.1 3) (u134.2.1 4) (u134.1 3) pla sou fou) H1 := hP1
                              generalize H1 = H at hP hS ⊢
                              generalize locs1 = locs at hS ⊢
                              have hmi := q134
                              refine lv_istore hx hb d_M_close_137 hl (by decide) rfl (fun ls hl => ?_)
                              have hl : lv_has ls 7 [(6, .int r134), (5, .int (nI 1)), (0, .ref (am 0)), (1, .int plate), (2, .int tare), (3, .int (nI j)), (4, .int clock)] := hl
                              refine lv_iload hx hb d_M_close_139 (lv_at hl 0 rfl) ?_
                              refine lv_if_eq (tgt := 147) hx hb d_M_close_141 (by decide) (fun c141 => ?_) (fun c141 => ?_)
                              ·
                                refine lv_aload_n hx hb d_M_close_147 rfl (lv_at hl 2 rfl) ?_
                                refine lv_iconst (v := nI 0) hx hb d_M_close_148 (by decide) ?_
                                refine va_put (D := (dC, dI)) (ci := 5) (v := .int (nI 0)) (ty := .int) (C := R_M) (T := F_M) (N := 20) hx hb hts (fun w h => List.mem_cons_of_mem _ (in_M w h)) t_M ok_M nm_M hown hK hP hD hS 0 rfl rfl 13 (by decide) (hts (.fieldLink R_M 58 R_M "readings" "I") (List.mem_cons_of_mem _ t_725)) (fun _ h9 => h9) rfl (by decide +kernel) rfl rfl (Nat.le_of_ble_eq_true rfl) d_M_close_149 (fun H locs hP hD hS => ?_)
                                have hP : va_P (dC, dI) vwCl (mw_ am cm (nI 0) (u134.1 1) (u134.1 2) mfl mact (u134.2.1 6) (u134.2.1 5) (nI (u134.2.2 0)) (u134.1 4) (u134.1 0) (u134.1 5) (u134.2.1 0) (u134.2.1 1) (nI 0) (u134.2.1 3) (u134.2.1 4) (u134.1 3) pla sou fou) H := hP
                                have hD : va_D (xA 9 am s.heap.size) (mw_ am cm (nI 0) (u134.1 1) (u134.1 2) mfl mact (u134.2.1 6) (u134.2.1 5) (nI (u134.2.2 0)) (u134.1 4) (u134.1 0) (u134.1 5) (u134.2.1 0) (u134.2.1 1) (nI 0) (u134.2.1 3) (u134.2.1 4) (u134.1 3) pla sou fou) := hD
                                refine lv_aload_n hx hb d_M_close_152 rfl (lv_at hl 2 rfl) ?_
                                refine lv_iconst (v := nI 0) hx hb d_M_close_153 (by decide) ?_
                                refine va_put (D := (dC, dI)) (ci := 5) (v := .int (nI 0)) (ty := .int) (C := R_M) (T := F_M) (N := 20) hx hb hts (fun w h => List.mem_cons_of_mem _ (in_M w h)) t_M ok_M nm_M hown hK hP hD hS 0 rfl rfl 14 (by decide) (hts (.fieldLink R_M 61 R_M "weight" "I") (List.mem_cons_of_mem _ t_726)) (fun _ h9 => h9) rfl (by decide +kernel) rfl rfl (Nat.le_of_ble_eq_true rfl) d_M_close_154 (fun H locs hP hD hS => ?_)
                                have hP : va_P (dC, dI) vwCl (mw_ am cm (nI 0) (u134.1 1) (u134.1 2) mfl mact (u134.2.1 6) (u134.2.1 5) (nI (u134.2.2 0)) (u134.1 4) (u134.1 0) (u134.1 5) (u134.2.1 0) (u134.2.1 1) (nI 0) (nI 0) (u134.2.1 4) (u134.1 3) pla sou fou) H := hP
                                have hD : va_D (xA 9 am s.heap.size) (mw_ am cm (nI 0) (u134.1 1) (u134.1 2) mfl mact (u134.2.1 6) (u134.2.1 5) (nI (u134.2.2 0)) (u134.1 4) (u134.1 0) (u134.1 5) (u134.2.1 0) (u134.2.1 1) (nI 0) (nI 0) (u134.2.1 4) (u134.1 3) pla sou fou) := hD
                                refine lv_aload_n hx hb d_M_close_157 rfl (lv_at hl 2 rfl) ?_
                                refine vp_callSi (va_runV (C := R_M) (As := []) (rest := []) ⟨hx, hb, hml, hown, hts⟩ (c_M_tickets l dC dI am cm (nI 0) (u134.1 1) (u134.1 2) mfl mact (u134.2.1 6) (u134.2.1 5) (nI (u134.2.2 0)) (u134.1 4) (u134.1 0) (u134.1 5) (u134.2.1 0) (u134.2.1 1) (nI 0) (nI 0) (u134.2.1 4) (u134.1 3) pla sou fou (u134.2.2 0) (hmi.1)) (cwV 0 hts (g_V t_865 t_867 s_39 t_6 t_868) rfl rfl rfl (by decide +kernel) ⟨by decide, by decide⟩) (xR_v hP hK hN 0 rfl rfl) rfl rfl hl.1 rfl (lv_room (Nat.le_of_ble_eq_true rfl)) d_M_close_158 ⟨Nat.le_refl _, Nat.le_refl _⟩).run (fun r158 q158 => ?_)
                                have q158 := q158.symm
                                subst q158
                                have hnv158 := nv_le (u134.1 4) (u134.2.2 0)
                                exact W.iret (v := nI (nv (u134.1 4) (u134.2.2 0))) hx hb hr (fun t ht hW => ⟨⟨nI (nv (u134.1 4) (u134.2.2 0)), (fun i => [u134.1 0, u134.1 1, u134.1 2, u134.1 3, u134.1 4, u134.1 5].getD i (fun _ => 0), fun i => [u134.2.1 0, u134.2.1 1, nI 0, nI 0, u134.2.1 4, u134.2.1 5, u134.2.1 6, nI 0].getD i 0, fun i => [u134.2.2 0].getD i 0), rfl, hmi, ⟨by rw [ht]; exact hP, va_K.moved hW.alike hK, hD⟩⟩, hS.F ht⟩) hS.2.2 d_M_close_161
                              ·
                                refine lv_iload hx hb d_M_close_144 (lv_at hl 0 rfl) ?_
                                exact W.iret (v := r134) hx hb hr (fun t ht hW => ⟨⟨r134, (fun i => [u134.1 0, u134.1 1, u134.1 2, u134.1 3, u134.1 4, u134.1 5].getD i (fun _ => 0), fun i => [u134.2.1 0, u134.2.1 1, u134.2.1 2, u134.2.1 3, u134.2.1 4, u134.2.1 5, u134.2.1 6, nI 0].getD i 0, fun i => [u134.2.2 0].getD i 0), rfl, hmi, ⟨by rw [ht]; exact hP, va_K.moved hW.alike hK, hD⟩⟩, hS.F ht⟩) hS.2.2 d_M_close_146
                            ·
                              have c111 := cd_ne_f (by omega) (by omega) c111
                              refine lv_iconst (v := nI 0) hx hb d_M_close_114 (by decide) ?_
                              exact W.iret (v := nI 0) hx hb hr (fun t ht hW => ⟨⟨nI 0, (fun i => [mlive, mw, mwr, pg, mlog, had].getD i (fun _ => 0), fun i => [mser, mcur, mrd, mwt, worn, cut, on, nI 0].getD i 0, fun i => [rn].getD i 0), rfl, hmi, ⟨by rw [ht]; exact hP, va_K.moved hW.alike hK, hD⟩⟩, hS.F ht⟩) hS.2.2 d_M_close_115
                    ·
                      exact absurd c73 (by decide)
                  ·
                    refine lv_iconst (v := nI 1) hx hb d_M_close_65 (by decide) ?_
                    refine lv_goto (tgt := 70) hx hb d_M_close_66 (by decide) ?_
                    have hSz := hS.1
                    refine va_calli (va_runV (C := R_M) (As := [.int (nI 2), .int (nI 1)]) (rest := []) ⟨hx, hb, hml, hown, hts⟩ (c_M_fails_1 l dC dI am cm H.size (nI 0) mw mwr mfl mact on cut (nI rn) mlog mlive had mser mcur mrd mwt worn pg pla sou fou (nI 2) ) (cwV 2 hts (g_V t_784 t_786 s_22 t_6 t_787) rfl rfl rfl (by decide +kernel) ⟨by decide, by decide⟩) (xP_v hP hK hD hN 0 rfl rfl) rfl rfl hl.1 rfl (lv_room (Nat.le_of_ble_eq_true rfl)) d_M_close_70 ⟨Nat.le_refl _, Nat.le_refl _⟩) hS (fun q _ h => xA_up hS.1 q h) (fun q h => xA_up hS.1 q h) (fun r70 u70 t H1 locs1 ht hvm q70 hB hz1 hk1 hS => ?_)
                    obtain ⟨hP1, hK1, hD1⟩ := hB
                    rw [ht] at hP1
                    have hD : va_D (xA 9 am s.heap.size) (mw_ am cm (nI 2) mw mwr mfl mact on cut (nI rn) mlog mlive had mser mcur mrd mwt worn pg pla sou fou) := hD1.weaken (fun _ q _ h => xA_up hSz _ h)
                    have hP : va_P (dC, dI) vwCl (mw_ am cm (nI 2) mw mwr mfl mact on cut (nI rn) mlog mlive had mser mcur mrd mwt worn pg pla sou fou) H1 := hP1
                    generalize H1 = H at hP hS ⊢
                    generalize locs1 = locs at hS ⊢
                    have q70 := q70.symm
                    subst q70
                    refine lv_if_eq (tgt := 78) hx hb d_M_close_73 (by decide) (fun c73 => ?_) (fun c73 => ?_)
                    ·
                      exact absurd c73 (by decide)
                    ·
                      refine lv_iconst (v := nI 0) hx hb d_M_close_76 (by decide) ?_
                      exact W.iret (v := nI 0) hx hb hr (fun t ht hW => ⟨⟨nI 0, (fun i => [mlive, mw, mwr, pg, mlog, had].getD i (fun _ => 0), fun i => [mser, mcur, mrd, mwt, worn, cut, on, nI 2].getD i 0, fun i => [rn].getD i 0), rfl, hmi, ⟨by rw [ht]; exact hP, va_K.moved hW.alike hK, hD⟩⟩, hS.F ht⟩) hS.2.2 d_M_close_77
              ·
                exact absurd c42 (by decide)
          ·
            refine lv_if_eq (tgt := 35) hx hb d_M_close_28 (by decide) (fun c28 => ?_) (fun c28 => ?_)
            ·
              refine lv_iconst (v := nI 0) hx hb d_M_close_35 (by decide) ?_
              refine lv_istore hx hb d_M_close_36 hl (by decide) rfl (fun ls hl => ?_)
              have hl : lv_has ls 7 [(5, .int (nI 0)), (0, .ref (am 0)), (1, .int plate), (2, .int tare), (3, .int product), (4, .int clock)] := hl
              refine lv_aload_n hx hb d_M_close_38 rfl (lv_at hl 1 rfl) ?_
              refine lv_iconst (v := nI 1) hx hb d_M_close_39 (by decide) ?_
              refine lv_iload hx hb d_M_close_40 (lv_at hl 0 rfl) ?_
              refine lv_if_ne (tgt := 49) hx hb d_M_close_42 (by decide) (fun c42 => ?_) (fun c42 => ?_)
              ·
                exact absurd c42 (by decide)
              ·
                refine lv_iconst (v := nI 1) hx hb d_M_close_45 (by decide) ?_
                refine lv_goto (tgt := 50) hx hb d_M_close_46 (by decide) ?_
                have hSz := hS.1
                refine va_calli (va_runV (C := R_M) (As := [.int (nI 1), .int (nI 1)]) (rest := []) ⟨hx, hb, hml, hown, hts⟩ (c_M_fails_1 l dC dI am cm s.heap.size th mw mwr mfl mact on cut (nI rn) mlog mlive had mser mcur mrd mwt worn pg pla sou fou (nI 1) ) (cwV 2 hts (g_V t_784 t_786 s_22 t_6 t_787) rfl rfl rfl (by decide +kernel) ⟨by decide, by decide⟩) (xP_v hP hK hD hN 0 rfl rfl) rfl rfl hl.1 rfl (lv_room (Nat.le_of_ble_eq_true rfl)) d_M_close_50 ⟨Nat.le_refl _, Nat.le_refl _⟩) hS (fun q _ h => xA_up hS.1 q h) (fun q h => xA_up hS.1 q h) (fun r50 u50 t H1 locs1 ht hvm q50 hB hz1 hk1 hS => ?_)
                obtain ⟨hP1, hK1, hD1⟩ := hB
                rw [ht] at hP1
                have hD : va_D (xA 9 am s.heap.size) (mw_ am cm (nI 1) mw mwr mfl mact on cut (nI rn) mlog mlive had mser mcur mrd mwt worn pg pla sou fou) := hD1.weaken (fun _ q _ h => xA_up hSz _ h)
                have hP : va_P (dC, dI) vwCl (mw_ am cm (nI 1) mw mwr mfl mact on cut (nI rn) mlog mlive had mser mcur mrd mwt worn pg pla sou fou) H1 := hP1
                generalize H1 = H at hP hS ⊢
                generalize locs1 = locs at hS ⊢
                have q50 := q50.symm
                subst q50
                refine lv_if_ne (tgt := 76) hx hb d_M_close_53 (by decide) (fun c53 => ?_) (fun c53 => ?_)
                ·
                  refine lv_iconst (v := nI 0) hx hb d_M_close_76 (by decide) ?_
                  exact W.iret (v := nI 0) hx hb hr (fun t ht hW => ⟨⟨nI 0, (fun i => [mlive, mw, mwr, pg, mlog, had].getD i (fun _ => 0), fun i => [mser, mcur, mrd, mwt, worn, cut, on, nI 1].getD i 0, fun i => [rn].getD i 0), rfl, hmi, ⟨by rw [ht]; exact hP, va_K.moved hW.alike hK, hD⟩⟩, hS.F ht⟩) hS.2.2 d_M_close_77
                ·
                  exact absurd c53 (by decide)
            ·
              exact absurd c28 (by decide)
      ·
        refine lv_if_eq (tgt := 35) hx hb d_M_close_17 (by decide) (fun c17 => ?_) (fun c17 => ?_)
        ·
          refine lv_iconst (v := nI 0) hx hb d_M_close_35 (by decide) ?_
          refine lv_istore hx hb d_M_close_36 hl (by decide) rfl (fun ls hl => ?_)
          have hl : lv_has ls 7 [(5, .int (nI 0)), (0, .ref (am 0)), (1, .int plate), (2, .int tare), (3, .int product), (4, .int clock)] := hl
          refine lv_aload_n hx hb d_M_close_38 rfl (lv_at hl 1 rfl) ?_
          refine lv_iconst (v := nI 1) hx hb d_M_close_39 (by decide) ?_
          refine lv_iload hx hb d_M_close_40 (lv_at hl 0 rfl) ?_
          refine lv_if_ne (tgt := 49) hx hb d_M_close_42 (by decide) (fun c42 => ?_) (fun c42 => ?_)
          ·
            exact absurd c42 (by decide)
          ·
            refine lv_iconst (v := nI 1) hx hb d_M_close_45 (by decide) ?_
            refine lv_goto (tgt := 50) hx hb d_M_close_46 (by decide) ?_
            have hSz := hS.1
            refine va_calli (va_runV (C := R_M) (As := [.int (nI 1), .int (nI 1)]) (rest := []) ⟨hx, hb, hml, hown, hts⟩ (c_M_fails_1 l dC dI am cm s.heap.size th mw mwr mfl mact on cut (nI rn) mlog mlive had mser mcur mrd mwt worn pg pla sou fou (nI 1) ) (cwV 2 hts (g_V t_784 t_786 s_22 t_6 t_787) rfl rfl rfl (by decide +kernel) ⟨by decide, by decide⟩) (xP_v hP hK hD hN 0 rfl rfl) rfl rfl hl.1 rfl (lv_room (Nat.le_of_ble_eq_true rfl)) d_M_close_50 ⟨Nat.le_refl _, Nat.le_refl _⟩) hS (fun q _ h => xA_up hS.1 q h) (fun q h => xA_up hS.1 q h) (fun r50 u50 t H1 locs1 ht hvm q50 hB hz1 hk1 hS => ?_)
            obtain ⟨hP1, hK1, hD1⟩ := hB
            rw [ht] at hP1
            have hD : va_D (xA 9 am s.heap.size) (mw_ am cm (nI 1) mw mwr mfl mact on cut (nI rn) mlog mlive had mser mcur mrd mwt worn pg pla sou fou) := hD1.weaken (fun _ q _ h => xA_up hSz _ h)
            have hP : va_P (dC, dI) vwCl (mw_ am cm (nI 1) mw mwr mfl mact on cut (nI rn) mlog mlive had mser mcur mrd mwt worn pg pla sou fou) H1 := hP1
            generalize H1 = H at hP hS ⊢
            generalize locs1 = locs at hS ⊢
            have q50 := q50.symm
            subst q50
            refine lv_if_ne (tgt := 76) hx hb d_M_close_53 (by decide) (fun c53 => ?_) (fun c53 => ?_)
            ·
              refine lv_iconst (v := nI 0) hx hb d_M_close_76 (by decide) ?_
              exact W.iret (v := nI 0) hx hb hr (fun t ht hW => ⟨⟨nI 0, (fun i => [mlive, mw, mwr, pg, mlog, had].getD i (fun _ => 0), fun i => [mser, mcur, mrd, mwt, worn, cut, on, nI 1].getD i 0, fun i => [rn].getD i 0), rfl, hmi, ⟨by rw [ht]; exact hP, va_K.moved hW.alike hK, hD⟩⟩, hS.F ht⟩) hS.2.2 d_M_close_77
            ·
              exact absurd c53 (by decide)
        ·
          exact absurd c17 (by decide)
  ·
    refine lv_if_eq (tgt := 35) hx hb d_M_close_7 (by decide) (fun c7 => ?_) (fun c7 => ?_)
    ·
      refine lv_iconst (v := nI 0) hx hb d_M_close_35 (by decide) ?_
      refine lv_istore hx hb d_M_close_36 hl (by decide) rfl (fun ls hl => ?_)
      have hl : lv_has ls 7 [(5, .int (nI 0)), (0, .ref (am 0)), (1, .int plate), (2, .int tare), (3, .int product), (4, .int clock)] := hl
      refine lv_aload_n hx hb d_M_close_38 rfl (lv_at hl 1 rfl) ?_
      refine lv_iconst (v := nI 1) hx hb d_M_close_39 (by decide) ?_
      refine lv_iload hx hb d_M_close_40 (lv_at hl 0 rfl) ?_
      refine lv_if_ne (tgt := 49) hx hb d_M_close_42 (by decide) (fun c42 => ?_) (fun c42 => ?_)
      ·
        exact absurd c42 (by decide)
      ·
        refine lv_iconst (v := nI 1) hx hb d_M_close_45 (by decide) ?_
        refine lv_goto (tgt := 50) hx hb d_M_close_46 (by decide) ?_
        have hSz := hS.1
        refine va_calli (va_runV (C := R_M) (As := [.int (nI 1), .int (nI 1)]) (rest := []) ⟨hx, hb, hml, hown, hts⟩ (c_M_fails_1 l dC dI am cm s.heap.size th mw mwr mfl mact on cut (nI rn) mlog mlive had mser mcur mrd mwt worn pg pla sou fou (nI 1) ) (cwV 2 hts (g_V t_784 t_786 s_22 t_6 t_787) rfl rfl rfl (by decide +kernel) ⟨by decide, by decide⟩) (xP_v hP hK hD hN 0 rfl rfl) rfl rfl hl.1 rfl (lv_room (Nat.le_of_ble_eq_true rfl)) d_M_close_50 ⟨Nat.le_refl _, Nat.le_refl _⟩) hS (fun q _ h => xA_up hS.1 q h) (fun q h => xA_up hS.1 q h) (fun r50 u50 t H1 locs1 ht hvm q50 hB hz1 hk1 hS => ?_)
        obtain ⟨hP1, hK1, hD1⟩ := hB
        rw [ht] at hP1
        have hD : va_D (xA 9 am s.heap.size) (mw_ am cm (nI 1) mw mwr mfl mact on cut (nI rn) mlog mlive had mser mcur mrd mwt worn pg pla sou fou) := hD1.weaken (fun _ q _ h => xA_up hSz _ h)
        have hP : va_P (dC, dI) vwCl (mw_ am cm (nI 1) mw mwr mfl mact on cut (nI rn) mlog mlive had mser mcur mrd mwt worn pg pla sou fou) H1 := hP1
        generalize H1 = H at hP hS ⊢
        generalize locs1 = locs at hS ⊢
        have q50 := q50.symm
        subst q50
        refine lv_if_ne (tgt := 76) hx hb d_M_close_53 (by decide) (fun c53 => ?_) (fun c53 => ?_)
        ·
          refine lv_iconst (v := nI 0) hx hb d_M_close_76 (by decide) ?_
          exact W.iret (v := nI 0) hx hb hr (fun t ht hW => ⟨⟨nI 0, (fun i => [mlive, mw, mwr, pg, mlog, had].getD i (fun _ => 0), fun i => [mser, mcur, mrd, mwt, worn, cut, on, nI 1].getD i 0, fun i => [rn].getD i 0), rfl, hmi, ⟨by rw [ht]; exact hP, va_K.moved hW.alike hK, hD⟩⟩, hS.F ht⟩) hS.2.2 d_M_close_77
        ·
          exact absurd c53 (by decide)
    ·
      exact absurd c7 (by decide)
set_option maxHeartbeats 4000000 in
set_option maxRecDepth 100000 in
theorem c_M_annul (l : Launch) (dC : Nat → ClassId) (dI : Nat → Nat → Nat) (am cm : Nat → Nat) (sz : Nat) (th : Int32) (mw mwr mfl mact : Nat → Int32) (on cut mrec : Int32) (mlog mlive had : Nat → Int32) (mser mcur mrd mwt worn : Int32) (pg : Nat → Int32) (pla sou fou : Int32) (rn : Nat) (tno : Int32) (rea : Int32) (hmi : MI rn mlive mcur) : Met l y_M_annul w_M_annul ({ frames := 8, cells := 0, slots := 0, locals := 181 }) (xP (dC, dI) vwCl (mt cm) (mw_ am cm th mw mwr mfl mact on cut (nI rn) mlog mlive had mser mcur mrd mwt worn pg pla sou fou) sz [.ref (am 0), .int tno, .int rea]) (va_Qi (fun r (u : (Nat → Nat → Int32) × (Nat → Int32) × (Nat → Nat)) => MI (u.2.2 0) (u.1 0) (u.2.1 1)) (fun (u : (Nat → Nat → Int32) × (Nat → Int32) × (Nat → Nat)) (t : State) => xB (dC, dI) vwCl (mt cm) (xA 9 am sz) (mw_ am cm (u.2.1 7) (u.1 1) (u.1 2) mfl mact (u.2.1 6) (u.2.1 5) (nI (u.2.2 0)) (u.1 4) (u.1 0) (u.1 5) (u.2.1 0) (u.2.1 1) (u.2.1 2) (u.2.1 3) (u.2.1 4) (u.1 3) pla sou fou) t) (xA 9 am sz)) 0 0 (xA 9 am sz) := by
  refine Met.ofW (cc := b_M_annul) (maxL := 4) (ret := (some (.int))) (by decide) rfl ?_
  intro P e s m args below meth c0 s₁ B hml hv
  obtain ⟨rfl, hsz, hP, hK, hD0, hN⟩ := hv
  have hx := B.exec
  have hb := B.bytes
  have hr := B.returns
  have hts := atoms_spec (ws := w_M_annul) B.pre
  have hown : s.vm.findClass R_M = some m.cls := findClass_of_methodNamed B.named
  have hlocks := B.notSynchronized
  subst hsz
  have hD := mw_D (sz := s.heap.size) hD0
  have hS : va_S (xA 9 am s.heap.size) s.heap s.heap [] := va_S.rf
  have hA : ∀ q : Nat, s.heap.size ≤ q → (xA 9 am s.heap.size) q := fun q h => Or.inr h
  have hl := lv_entry ([.ref (am 0), .int tno, .int rea]) (n := 4) (Nat.le_of_ble_eq_true rfl)
  rw [lg_entry_eq]
  generalize (lg_sl ([.ref (am 0), .int tno, .int rea]) ++ List.replicate (4 - (lg_sl ([.ref (am 0), .int tno, .int rea])).length) Slot.unset).toArray = ls at hl ⊢
  have hl : lv_has ls 4 [(0, .ref (am 0)), (1, .int tno), (2, .int rea)] := hl
  have h48 := hmi.1
  refine lv_aload_n hx hb d_M_annul_0 rfl (lv_at hl 0 rfl) ?_
  refine lv_iconst (v := nI 1) hx hb d_M_annul_1 (by decide) ?_
  refine lv_iload_n hx hb d_M_annul_2 rfl (lv_at hl 2 rfl) ?_
  refine lv_iconst (v := nI 0) hx hb d_M_annul_3 (by decide) ?_
  refine lv_iconst (v := nI 3) hx hb d_M_annul_4 (by decide) ?_
  refine vp_callSi (va_runS (As := [.int rea, .int (nI 0), .int (nI 3)]) (rest := [.int (nI 1), .ref (am 0)]) ⟨hx, hb, hml, hown, hts⟩ (c_M_isIn l dC dI rea (nI 0) (nI 3) ) (cwS 3 hts (g_S t_781 t_782 t_6 t_783) rfl rfl rfl (by decide +kernel) ⟨by decide, by decide⟩) (xR_s (va_P.sub hP [] rfl) (hK.sub [] rfl) hN) rfl rfl hl.1 rfl (lv_room (Nat.le_of_ble_eq_true rfl)) d_M_annul_5 ⟨Nat.le_refl _, Nat.le_refl _⟩).run (fun r5 q5 => ?_)
  rcases q5 with ⟨rfl, hin5⟩ | ⟨rfl, hin5⟩
  ·
    refine lv_if_ne (tgt := 15) hx hb d_M_annul_8 (by decide) (fun c8 => ?_) (fun c8 => ?_)
    ·
      refine lv_iconst (v := nI 0) hx hb d_M_annul_15 (by decide) ?_
      have hSz := hS.1
      refine va_calli (va_runV (C := R_M) (As := [.int (nI 1), .int (nI 0)]) (rest := []) ⟨hx, hb, hml, hown, hts⟩ (c_M_fails_0 l dC dI am cm s.heap.size th mw mwr mfl mact on cut (nI rn) mlog mlive had mser mcur mrd mwt worn pg pla sou fou (nI 1) ) (cwV 2 hts (g_V t_784 t_786 s_22 t_6 t_787) rfl rfl rfl (by decide +kernel) ⟨by decide, by decide⟩) (xP_v hP hK hD hN 0 rfl rfl) rfl rfl hl.1 rfl (lv_room (Nat.le_of_ble_eq_true rfl)) d_M_annul_16 ⟨Nat.le_refl _, Nat.le_refl _⟩) hS (fun q _ h => xA_up hS.1 q h) (fun q h => xA_up hS.1 q h) (fun r16 u16 t H1 locs1 ht hvm q16 hB hz1 hk1 hS => ?_)
      obtain ⟨hP1, hK1, hD1⟩ := hB
      rw [ht] at hP1
      have hD : va_D (xA 9 am s.heap.size) (mw_ am cm (nI 0) mw mwr mfl mact on cut (nI rn) mlog mlive had mser mcur mrd mwt worn pg pla sou fou) := hD1.weaken (fun _ q _ h => xA_up hSz _ h)
      have hP : va_P (dC, dI) vwCl (mw_ am cm (nI 0) mw mwr mfl mact on cut (nI rn) mlog mlive had mser mcur mrd mwt worn pg pla sou fou) H1 := hP1
      generalize H1 = H at hP hS ⊢
      generalize locs1 = locs at hS ⊢
      have q16 := q16.symm
      subst q16
      refine lv_if_ne (tgt := 42) hx hb d_M_annul_19 (by decide) (fun c19 => ?_) (fun c19 => ?_)
      ·
        exact absurd c19 (by decide)
      ·
        refine lv_aload_n hx hb d_M_annul_22 rfl (lv_at hl 0 rfl) ?_
        refine lv_iconst (v := nI 2) hx hb d_M_annul_23 (by decide) ?_
        refine lv_aload_n hx hb d_M_annul_24 rfl (lv_at hl 0 rfl) ?_
        refine va_get (D := (dC, dI)) (ci := 5) (v := .int on) (C := R_M) (T := F_M) (N := 20) hx hb hts (fun w h => List.mem_cons_of_mem _ (in_M w h)) hown hK hP 0 rfl rfl 5 (by decide) (hts (.fieldLink R_M 23 R_M "on" "Z") (List.mem_cons_of_mem _ t_717)) (fun _ h9 => h9) rfl d_M_annul_25 ?_
        refine lv_if_ne (tgt := 35) hx hb d_M_annul_28 (by decide) (fun c28 => ?_) (fun c28 => ?_)
        ·
          refine lv_iconst (v := nI 0) hx hb d_M_annul_35 (by decide) ?_
          have hSz := hS.1
          refine va_calli (va_runV (C := R_M) (As := [.int (nI 2), .int (nI 0)]) (rest := []) ⟨hx, hb, hml, hown, hts⟩ (c_M_fails_0 l dC dI am cm H.size (nI 0) mw mwr mfl mact on cut (nI rn) mlog mlive had mser mcur mrd mwt worn pg pla sou fou (nI 2) ) (cwV 2 hts (g_V t_784 t_786 s_22 t_6 t_787) rfl rfl rfl (by decide +kernel) ⟨by decide, by decide⟩) (xP_v hP hK hD hN 0 rfl rfl) rfl rfl hl.1 rfl (lv_room (Nat.le_of_ble_eq_true rfl)) d_M_annul_36 ⟨Nat.le_refl _, Nat.le_refl _⟩) hS (fun q _ h => xA_up hS.1 q h) (fun q h => xA_up hS.1 q h) (fun r36 u36 t H1 locs1 ht hvm q36 hB hz1 hk1 hS => ?_)
          obtain ⟨hP1, hK1, hD1⟩ := hB
          rw [ht] at hP1
          have hD : va_D (xA 9 am s.heap.size) (mw_ am cm (nI 0) mw mwr mfl mact on cut (nI rn) mlog mlive had mser mcur mrd mwt worn pg pla sou fou) := hD1.weaken (fun _ q _ h => xA_up hSz _ h)
          have hP : va_P (dC, dI) vwCl (mw_ am cm (nI 0) mw mwr mfl mact on cut (nI rn) mlog mlive had mser mcur mrd mwt worn pg pla sou fou) H1 := hP1
          generalize H1 = H at hP hS ⊢
          generalize locs1 = locs at hS ⊢
          have q36 := q36.symm
          subst q36
          refine lv_if_eq (tgt := 44) hx hb d_M_annul_39 (by decide) (fun c39 => ?_) (fun c39 => ?_)
          ·
            refine lv_iload_n hx hb d_M_annul_44 rfl (lv_at hl 1 rfl) ?_
            refine lv_iconst (v := nI 1) hx hb d_M_annul_45 (by decide) ?_
            refine lv_icmp_lt (tgt := 74) hx hb d_M_annul_46 (by decide) (fun c46 => ?_) (fun c46 => ?_)
            ·
              refine lv_iconst (v := nI 0) hx hb d_M_annul_74 (by decide) ?_
              exact W.iret (v := nI 0) hx hb hr (fun t ht hW => ⟨⟨nI 0, (fun i => [mlive, mw, mwr, pg, mlog, had].getD i (fun _ => 0), fun i => [mser, mcur, mrd, mwt, worn, cut, on, nI 0].getD i 0, fun i => [rn].getD i 0), rfl, hmi, ⟨by rw [ht]; exact hP, va_K.moved hW.alike hK, hD⟩⟩, hS.F ht⟩) hS.2.2 d_M_annul_75
            ·
              refine lv_aload_n hx hb d_M_annul_49 rfl (lv_at hl 0 rfl) ?_
              refine lv_iload_n hx hb d_M_annul_50 rfl (lv_at hl 1 rfl) ?_
              refine vp_callSi (va_runV (C := R_M) (As := [.int tno]) (rest := []) ⟨hx, hb, hml, hown, hts⟩ (c_M_placeOf l dC dI am cm (nI 0) mw mwr mfl mact on cut (nI rn) mlog mlive had mser mcur mrd mwt worn pg pla sou fou rn tno (hmi.1)) (cwV 1 hts (g_V t_881 t_883 s_42 t_6 t_884) rfl rfl rfl (by decide +kernel) ⟨by decide, by decide⟩) (xR_v hP hK hN 0 rfl rfl) rfl rfl hl.1 rfl (lv_room (Nat.le_of_ble_eq_true rfl)) d_M_annul_51 ⟨Nat.le_refl _, Nat.le_refl _⟩).run (fun r51 q51 => ?_)
              rcases q51 with ⟨p51, hp51, rfl⟩ | ⟨rfl, hno51⟩
              ·
                refine lv_if_lt (tgt := 74) hx hb d_M_annul_54 (by decide) (fun c54 => ?_) (fun c54 => ?_)
                ·
                  exact (cz_lt_t (by omega) c54).elim
                ·
                  have c54 := cz_lt_f (by omega) c54
                  refine lv_aload_n hx hb d_M_annul_57 rfl (lv_at hl 0 rfl) ?_
                  refine lv_iload_n hx hb d_M_annul_58 rfl (lv_at hl 1 rfl) ?_
                  refine vp_callSi (va_runV (C := R_M) (As := [.int tno]) (rest := []) ⟨hx, hb, hml, hown, hts⟩ (c_M_voided l dC dI am cm (nI 0) mw mwr mfl mact on cut (nI rn) mlog mlive had mser mcur mrd mwt worn pg pla sou fou rn tno (hmi.1)) (cwV 1 hts (g_V t_885 t_887 s_43 t_6 t_888) rfl rfl rfl (by decide +kernel) ⟨by decide, by decide⟩) (xR_v hP hK hN 0 rfl rfl) rfl rfl hl.1 rfl (lv_room (Nat.le_of_ble_eq_true rfl)) d_M_annul_59 ⟨Nat.le_refl _, Nat.le_refl _⟩).run (fun r59 q59 => ?_)
                  have hk59 := q59
                  refine lv_if_gt (tgt := 74) hx hb d_M_annul_62 (by decide) (fun c62 => ?_) (fun c62 => ?_)
                  ·
                    refine lv_iconst (v := nI 0) hx hb d_M_annul_74 (by decide) ?_
                    exact W.iret (v := nI 0) hx hb hr (fun t ht hW => ⟨⟨nI 0, (fun i => [mlive, mw, mwr, pg, mlog, had].getD i (fun _ => 0), fun i => [mser, mcur, mrd, mwt, worn, cut, on, nI 0].getD i 0, fun i => [rn].getD i 0), rfl, hmi, ⟨by rw [ht]; exact hP, va_K.moved hW.alike hK, hD⟩⟩, hS.F ht⟩) hS.2.2 d_M_annul_75
                  ·
                    refine lv_aload_n hx hb d_M_annul_65 rfl (lv_at hl 0 rfl) ?_
                    refine va_get (D := (dC, dI)) (ci := 5) (v := .int (nI rn)) (C := R_M) (T := F_M) (N := 20) hx hb hts (fun w h => List.mem_cons_of_mem _ (in_M w h)) hown hK hP 0 rfl rfl 7 (by decide) (hts (.fieldLink R_M 52 R_M "records" "I") (List.mem_cons_of_mem _ t_719)) (fun _ h9 => h9) rfl d_M_annul_66 ?_
                    refine lv_bipush (v := nI 48) hx hb d_M_annul_69 (by decide) ?_
                    refine lv_icmp_ne (tgt := 76) hx hb d_M_annul_71 (by decide) (fun c71 => ?_) (fun c71 => ?_)
                    ·
                      have c71 := cd_ne_t (by omega) (by omega) c71
                      refine lv_aload_n hx hb d_M_annul_76 rfl (lv_at hl 0 rfl) ?_
                      refine lv_iload_n hx hb d_M_annul_77 rfl (lv_at hl 1 rfl) ?_
                      refine lv_iload_n hx hb d_M_annul_78 rfl (lv_at hl 2 rfl) ?_
                      refine lv_ldc (v := (-67108864)) hx hb hown (hts (.constant R_M 155 (-67108864)) (List.mem_cons_of_mem _ t_889)) d_M_annul_79 ?_
                      have hSz := hS.1
                      refine va_calli (va_runV (C := R_M) (As := [.int tno, .int rea, .int (-67108864)]) (rest := []) ⟨hx, hb, hml, hown, hts⟩ (c_M_take l dC dI am cm H.size (nI 0) mw mwr mfl mact on cut (nI rn) mlog mlive had mser mcur mrd mwt worn pg pla sou fou rn tno rea (-67108864) (by first | omega | rfl | assumption | decide) (by have := hmi.1; omega)) (cwV 3 hts (g_V t_796 t_798 s_23 t_6 t_799) rfl rfl rfl (by decide +kernel) ⟨by decide, by decide⟩) (xP_v hP hK hD hN 0 rfl rfl) rfl rfl hl.1 rfl (lv_room (Nat.le_of_ble_eq_true rfl)) d_M_annul_81 ⟨Nat.le_refl _, Nat.le_refl _⟩) hS (fun q _ h => xA_up hS.1 q h) (fun q h => xA_up hS.1 q h) (fun r81 u81 t H1 locs1 ht hvm q81 hB hz1 hk1 hS => ?_)
                      obtain ⟨hP1, hK1, hD1⟩ := hB
                      rw [ht] at hP1
                      have hD : va_D (xA 9 am s.heap.size) (mw_ am cm (nI 0) (u81.1 1) (u81.1 2) mfl mact (u81.2.1 6) (u81.2.1 5) (nI (u81.2.2 0)) (u81.1 4) (u81.1 0) (u81.1 5) (u81.2.1 0) (u81.2.1 1) (u81.2.1 2) (u81.2.1 3) (u81.2.1 4) (u81.1 3) pla sou fou) := hD1.weaken (fun _ q _ h => xA_up hSz _ h)
                      have hP : va_P (dC, dI) vwCl (mw_ am cm (nI 0) (u81.1 1) (u81.1 2) mfl mact (u81.2.1 6) (u81.2.1 5) (nI (u81.2.2 0)) (u81.1 4) (u81.1 0) (u81.1 5) (u81.2.1 0) (u81.2.1 1) (u81.2.1 2) (u81.2.1 3) (u81.2.1 4) (u81.1 3) pla sou fou) H1 := hP1
                      generalize H1 = H at hP hS ⊢
                      generalize locs1 = locs at hS ⊢
                      have hmi := q81
                      refine lv_istore_n hx hb d_M_annul_84 rfl hl (by decide) rfl (fun ls hl => ?_)
                      have hl : lv_has ls 4 [(3, .int r81), (0, .ref (am 0)), (1, .int tno), (2, .int rea)] := hl
                      refine lv_iload_n hx hb d_M_annul_85 rfl (lv_at hl 0 rfl) ?_
                      refine lv_if_ne (tgt := 93) hx hb d_M_annul_86 (by decide) (fun c86 => ?_) (fun c86 => ?_)
                      ·
                        refine lv_iload_n hx hb d_M_annul_93 rfl (lv_at hl 0 rfl) ?_
                        exact W.iret (v := r81) hx hb hr (fun t ht hW => ⟨⟨r81, (fun i => [u81.1 0, u81.1 1, u81.1 2, u81.1 3, u81.1 4, u81.1 5].getD i (fun _ => 0), fun i => [u81.2.1 0, u81.2.1 1, u81.2.1 2, u81.2.1 3, u81.2.1 4, u81.2.1 5, u81.2.1 6, nI 0].getD i 0, fun i => [u81.2.2 0].getD i 0), rfl, hmi, ⟨by rw [ht]; exact hP, va_K.moved hW.alike hK, hD⟩⟩, hS.F ht⟩) hS.2.2 d_M_annul_94
                      ·
                        refine lv_iconst (v := nI 1) hx hb d_M_annul_89 (by decide) ?_
                        refine lv_goto (tgt := 94) hx hb d_M_annul_90 (by decide) ?_
                        exact W.iret (v := nI 1) hx hb hr (fun t ht hW => ⟨⟨nI 1, (fun i => [u81.1 0, u81.1 1, u81.1 2, u81.1 3, u81.1 4, u81.1 5].getD i (fun _ => 0), fun i => [u81.2.1 0, u81.2.1 1, u81.2.1 2, u81.2.1 3, u81.2.1 4, u81.2.1 5, u81.2.1 6, nI 0].getD i 0, fun i => [u81.2.2 0].getD i 0), rfl, hmi, ⟨by rw [ht]; exact hP, va_K.moved hW.alike hK, hD⟩⟩, hS.F ht⟩) hS.2.2 d_M_annul_94
                    ·
                      have c71 := cd_ne_f (by omega) (by omega) c71
                      refine lv_iconst (v := nI 0) hx hb d_M_annul_74 (by decide) ?_
                      exact W.iret (v := nI 0) hx hb hr (fun t ht hW => ⟨⟨nI 0, (fun i => [mlive, mw, mwr, pg, mlog, had].getD i (fun _ => 0), fun i => [mser, mcur, mrd, mwt, worn, cut, on, nI 0].getD i 0, fun i => [rn].getD i 0), rfl, hmi, ⟨by rw [ht]; exact hP, va_K.moved hW.alike hK, hD⟩⟩, hS.F ht⟩) hS.2.2 d_M_annul_75
              ·
                refine lv_if_lt (tgt := 74) hx hb d_M_annul_54 (by decide) (fun c54 => ?_) (fun c54 => ?_)
                ·
                  refine lv_iconst (v := nI 0) hx hb d_M_annul_74 (by decide) ?_
                  exact W.iret (v := nI 0) hx hb hr (fun t ht hW => ⟨⟨nI 0, (fun i => [mlive, mw, mwr, pg, mlog, had].getD i (fun _ => 0), fun i => [mser, mcur, mrd, mwt, worn, cut, on, nI 0].getD i 0, fun i => [rn].getD i 0), rfl, hmi, ⟨by rw [ht]; exact hP, va_K.moved hW.alike hK, hD⟩⟩, hS.F ht⟩) hS.2.2 d_M_annul_75
                ·
                  exact absurd c54 (by decide)
          ·
            exact absurd c39 (by decide)
        ·
          refine lv_iconst (v := nI 1) hx hb d_M_annul_31 (by decide) ?_
          refine lv_goto (tgt := 36) hx hb d_M_annul_32 (by decide) ?_
          have hSz := hS.1
          refine va_calli (va_runV (C := R_M) (As := [.int (nI 2), .int (nI 1)]) (rest := []) ⟨hx, hb, hml, hown, hts⟩ (c_M_fails_1 l dC dI am cm H.size (nI 0) mw mwr mfl mact on cut (nI rn) mlog mlive had mser mcur mrd mwt worn pg pla sou fou (nI 2) ) (cwV 2 hts (g_V t_784 t_786 s_22 t_6 t_787) rfl rfl rfl (by decide +kernel) ⟨by decide, by decide⟩) (xP_v hP hK hD hN 0 rfl rfl) rfl rfl hl.1 rfl (lv_room (Nat.le_of_ble_eq_true rfl)) d_M_annul_36 ⟨Nat.le_refl _, Nat.le_refl _⟩) hS (fun q _ h => xA_up hS.1 q h) (fun q h => xA_up hS.1 q h) (fun r36 u36 t H1 locs1 ht hvm q36 hB hz1 hk1 hS => ?_)
          obtain ⟨hP1, hK1, hD1⟩ := hB
          rw [ht] at hP1
          have hD : va_D (xA 9 am s.heap.size) (mw_ am cm (nI 2) mw mwr mfl mact on cut (nI rn) mlog mlive had mser mcur mrd mwt worn pg pla sou fou) := hD1.weaken (fun _ q _ h => xA_up hSz _ h)
          have hP : va_P (dC, dI) vwCl (mw_ am cm (nI 2) mw mwr mfl mact on cut (nI rn) mlog mlive had mser mcur mrd mwt worn pg pla sou fou) H1 := hP1
          generalize H1 = H at hP hS ⊢
          generalize locs1 = locs at hS ⊢
          have q36 := q36.symm
          subst q36
          refine lv_if_eq (tgt := 44) hx hb d_M_annul_39 (by decide) (fun c39 => ?_) (fun c39 => ?_)
          ·
            exact absurd c39 (by decide)
          ·
            refine lv_iconst (v := nI 0) hx hb d_M_annul_42 (by decide) ?_
            exact W.iret (v := nI 0) hx hb hr (fun t ht hW => ⟨⟨nI 0, (fun i => [mlive, mw, mwr, pg, mlog, had].getD i (fun _ => 0), fun i => [mser, mcur, mrd, mwt, worn, cut, on, nI 2].getD i 0, fun i => [rn].getD i 0), rfl, hmi, ⟨by rw [ht]; exact hP, va_K.moved hW.alike hK, hD⟩⟩, hS.F ht⟩) hS.2.2 d_M_annul_43
    ·
      exact absurd c8 (by decide)
  ·
    refine lv_if_ne (tgt := 15) hx hb d_M_annul_8 (by decide) (fun c8 => ?_) (fun c8 => ?_)
    ·
      exact absurd c8 (by decide)
    ·
      refine lv_iconst (v := nI 1) hx hb d_M_annul_11 (by decide) ?_
      refine lv_goto (tgt := 16) hx hb d_M_annul_12 (by decide) ?_
      have hSz := hS.1
      refine va_calli (va_runV (C := R_M) (As := [.int (nI 1), .int (nI 1)]) (rest := []) ⟨hx, hb, hml, hown, hts⟩ (c_M_fails_1 l dC dI am cm s.heap.size th mw mwr mfl mact on cut (nI rn) mlog mlive had mser mcur mrd mwt worn pg pla sou fou (nI 1) ) (cwV 2 hts (g_V t_784 t_786 s_22 t_6 t_787) rfl rfl rfl (by decide +kernel) ⟨by decide, by decide⟩) (xP_v hP hK hD hN 0 rfl rfl) rfl rfl hl.1 rfl (lv_room (Nat.le_of_ble_eq_true rfl)) d_M_annul_16 ⟨Nat.le_refl _, Nat.le_refl _⟩) hS (fun q _ h => xA_up hS.1 q h) (fun q h => xA_up hS.1 q h) (fun r16 u16 t H1 locs1 ht hvm q16 hB hz1 hk1 hS => ?_)
      obtain ⟨hP1, hK1, hD1⟩ := hB
      rw [ht] at hP1
      have hD : va_D (xA 9 am s.heap.size) (mw_ am cm (nI 1) mw mwr mfl mact on cut (nI rn) mlog mlive had mser mcur mrd mwt worn pg pla sou fou) := hD1.weaken (fun _ q _ h => xA_up hSz _ h)
      have hP : va_P (dC, dI) vwCl (mw_ am cm (nI 1) mw mwr mfl mact on cut (nI rn) mlog mlive had mser mcur mrd mwt worn pg pla sou fou) H1 := hP1
      generalize H1 = H at hP hS ⊢
      generalize locs1 = locs at hS ⊢
      have q16 := q16.symm
      subst q16
      refine lv_if_ne (tgt := 42) hx hb d_M_annul_19 (by decide) (fun c19 => ?_) (fun c19 => ?_)
      ·
        refine lv_iconst (v := nI 0) hx hb d_M_annul_42 (by decide) ?_
        exact W.iret (v := nI 0) hx hb hr (fun t ht hW => ⟨⟨nI 0, (fun i => [mlive, mw, mwr, pg, mlog, had].getD i (fun _ => 0), fun i => [mser, mcur, mrd, mwt, worn, cut, on, nI 1].getD i 0, fun i => [rn].getD i 0), rfl, hmi, ⟨by rw [ht]; exact hP, va_K.moved hW.alike hK, hD⟩⟩, hS.F ht⟩) hS.2.2 d_M_annul_43
      ·
        exact absurd c19 (by decide)
set_option maxHeartbeats 4000000 in
set_option maxRecDepth 100000 in
theorem c_M_sync (l : Launch) (dC : Nat → ClassId) (dI : Nat → Nat → Nat) (am cm : Nat → Nat) (sz : Nat) (th : Int32) (mw mwr mfl mact : Nat → Int32) (on cut mrec : Int32) (mlog mlive had : Nat → Int32) (mser mcur mrd mwt worn : Int32) (pg : Nat → Int32) (pla sou fou : Int32) (rn : Nat) (hmi : MI rn mlive mcur) : Met l y_M_sync w_M_sync ({ frames := 7, cells := 0, slots := 0, locals := 156 }) (xP (dC, dI) vwCl (mt cm) (mw_ am cm th mw mwr mfl mact on cut (nI rn) mlog mlive had mser mcur mrd mwt worn pg pla sou fou) sz [.ref (am 0)]) (va_Qi (fun r (u : (Nat → Nat → Int32) × (Nat → Int32) × (Nat → Nat)) => MI (u.2.2 0) (u.1 0) (u.2.1 1)) (fun (u : (Nat → Nat → Int32) × (Nat → Int32) × (Nat → Nat)) (t : State) => xB (dC, dI) vwCl (mt cm) (xA 9 am sz) (mw_ am cm (u.2.1 7) (u.1 1) (u.1 2) mfl mact (u.2.1 6) (u.2.1 5) (nI (u.2.2 0)) mlog (u.1 0) (u.1 4) (u.2.1 0) (u.2.1 1) (u.2.1 2) (u.2.1 3) (u.2.1 4) (u.1 3) pla sou fou) t) (xA 9 am sz)) 0 0 (xA 9 am sz) := by
  refine Met.ofW (cc := b_M_sync) (maxL := 3) (ret := (some (.int))) (by decide) rfl ?_
  intro P e s m args below meth c0 s₁ B hml hv
  obtain ⟨rfl, hsz, hP, hK, hD0, hN⟩ := hv
  have hx := B.exec
  have hb := B.bytes
  have hr := B.returns
  have hts := atoms_spec (ws := w_M_sync) B.pre
  have hown : s.vm.findClass R_M = some m.cls := findClass_of_methodNamed B.named
  have hlocks := B.notSynchronized
  subst hsz
  have hD := mw_D (sz := s.heap.size) hD0
  have hS : va_S (xA 9 am s.heap.size) s.heap s.heap [] := va_S.rf
  have hA : ∀ q : Nat, s.heap.size ≤ q → (xA 9 am s.heap.size) q := fun q h => Or.inr h
  have hl := lv_entry ([.ref (am 0)]) (n := 3) (Nat.le_of_ble_eq_true rfl)
  rw [lg_entry_eq]
  generalize (lg_sl ([.ref (am 0)]) ++ List.replicate (3 - (lg_sl ([.ref (am 0)])).length) Slot.unset).toArray = ls at hl ⊢
  have hl : lv_has ls 3 [(0, .ref (am 0))] := hl
  have h48 := hmi.1
  refine lv_aload_n hx hb d_M_sync_0 rfl (lv_at hl 0 rfl) ?_
  refine lv_iconst (v := nI 1) hx hb d_M_sync_1 (by decide) ?_
  refine lv_aload_n hx hb d_M_sync_2 rfl (lv_at hl 0 rfl) ?_
  refine va_get (D := (dC, dI)) (ci := 5) (v := .int on) (C := R_M) (T := F_M) (N := 20) hx hb hts (fun w h => List.mem_cons_of_mem _ (in_M w h)) hown hK hP 0 rfl rfl 5 (by decide) (hts (.fieldLink R_M 23 R_M "on" "Z") (List.mem_cons_of_mem _ t_717)) (fun _ h9 => h9) rfl d_M_sync_3 ?_
  refine lv_if_ne (tgt := 13) hx hb d_M_sync_6 (by decide) (fun c6 => ?_) (fun c6 => ?_)
  ·
    refine lv_iconst (v := nI 0) hx hb d_M_sync_13 (by decide) ?_
    have hSz := hS.1
    refine va_calli (va_runV (C := R_M) (As := [.int (nI 1), .int (nI 0)]) (rest := []) ⟨hx, hb, hml, hown, hts⟩ (c_M_fails_0 l dC dI am cm s.heap.size th mw mwr mfl mact on cut (nI rn) mlog mlive had mser mcur mrd mwt worn pg pla sou fou (nI 1) ) (cwV 2 hts (g_V t_784 t_786 s_22 t_6 t_787) rfl rfl rfl (by decide +kernel) ⟨by decide, by decide⟩) (xP_v hP hK hD hN 0 rfl rfl) rfl rfl hl.1 rfl (lv_room (Nat.le_of_ble_eq_true rfl)) d_M_sync_14 ⟨Nat.le_refl _, Nat.le_refl _⟩) hS (fun q _ h => xA_up hS.1 q h) (fun q h => xA_up hS.1 q h) (fun r14 u14 t H1 locs1 ht hvm q14 hB hz1 hk1 hS => ?_)
    obtain ⟨hP1, hK1, hD1⟩ := hB
    rw [ht] at hP1
    have hD : va_D (xA 9 am s.heap.size) (mw_ am cm (nI 0) mw mwr mfl mact on cut (nI rn) mlog mlive had mser mcur mrd mwt worn pg pla sou fou) := hD1.weaken (fun _ q _ h => xA_up hSz _ h)
    have hP : va_P (dC, dI) vwCl (mw_ am cm (nI 0) mw mwr mfl mact on cut (nI rn) mlog mlive had mser mcur mrd mwt worn pg pla sou fou) H1 := hP1
    generalize H1 = H at hP hS ⊢
    generalize locs1 = locs at hS ⊢
    have q14 := q14.symm
    subst q14
    refine lv_if_eq (tgt := 22) hx hb d_M_sync_17 (by decide) (fun c17 => ?_) (fun c17 => ?_)
    ·
      refine lv_aload_n hx hb d_M_sync_22 rfl (lv_at hl 0 rfl) ?_
      refine vp_callSi (va_runV (C := R_M) (As := []) (rest := []) ⟨hx, hb, hml, hown, hts⟩ (c_M_durable l dC dI am cm (nI 0) mw mwr mfl mact on cut (nI rn) mlog mlive had mser mcur mrd mwt worn pg pla sou fou  ) (cwV 0 hts (g_V t_894 t_896 s_44 t_6 t_897) rfl rfl rfl (by decide +kernel) ⟨by decide, by decide⟩) (xR_v hP hK hN 0 rfl rfl) rfl rfl hl.1 rfl (lv_room (Nat.le_of_ble_eq_true rfl)) d_M_sync_23 ⟨Nat.le_refl _, Nat.le_refl _⟩).run (fun r23 q23 => ?_)
      have hk23 := q23
      refine lv_aload_n hx hb d_M_sync_26 rfl (lv_at hl 0 rfl) ?_
      refine va_get (D := (dC, dI)) (ci := 5) (v := .int (nI rn)) (C := R_M) (T := F_M) (N := 20) hx hb hts (fun w h => List.mem_cons_of_mem _ (in_M w h)) hown hK hP 0 rfl rfl 7 (by decide) (hts (.fieldLink R_M 52 R_M "records" "I") (List.mem_cons_of_mem _ t_719)) (fun _ h9 => h9) rfl d_M_sync_27 ?_
      refine lv_icmp_ne (tgt := 35) hx hb d_M_sync_30 (by decide) (fun c30 => ?_) (fun c30 => ?_)
      ·
        rcases Nat.eq_zero_or_pos rn with hz | hz
        ·
          subst hz
          refine lv_aload_n hx hb d_M_sync_35 rfl (lv_at hl 0 rfl) ?_
          refine va_get (D := (dC, dI)) (ci := 5) (v := .int (nI 0)) (C := R_M) (T := F_M) (N := 20) hx hb hts (fun w h => List.mem_cons_of_mem _ (in_M w h)) hown hK hP 0 rfl rfl 7 (by decide) (hts (.fieldLink R_M 52 R_M "records" "I") (List.mem_cons_of_mem _ t_719)) (fun _ h9 => h9) rfl d_M_sync_36 ?_
          refine lv_iconst (v := nI 1) hx hb d_M_sync_39 (by decide) ?_
          refine lv_isub hx hb d_M_sync_40 ?_
          refine lv_iconst (v := nI 3) hx hb d_M_sync_41 (by decide) ?_
          refine lv_idiv hx hb d_M_sync_42 (by decide) ?_
          refine tp_i (y := nI 0) (by decide) ?_
          refine lv_istore_n hx hb d_M_sync_43 rfl hl (by decide) rfl (fun ls hl => ?_)
          have hl : lv_has ls 3 [(1, .int (nI 0)), (0, .ref (am 0))] := hl
          refine lv_aload_n hx hb d_M_sync_44 rfl (lv_at hl 1 rfl) ?_
          refine lv_iload_n hx hb d_M_sync_45 rfl (lv_at hl 0 rfl) ?_
          refine lv_aload_n hx hb d_M_sync_46 rfl (lv_at hl 1 rfl) ?_
          refine va_get (D := (dC, dI)) (ci := 5) (v := .int (nI 0)) (C := R_M) (T := F_M) (N := 20) hx hb hts (fun w h => List.mem_cons_of_mem _ (in_M w h)) hown hK hP 0 rfl rfl 7 (by decide) (hts (.fieldLink R_M 52 R_M "records" "I") (List.mem_cons_of_mem _ t_719)) (fun _ h9 => h9) rfl d_M_sync_47 ?_
          have hSz := hS.1
          refine va_calli (va_runV (C := R_M) (As := [.int (nI 0), .int (nI 0)]) (rest := []) ⟨hx, hb, hml, hown, hts⟩ (c_M_writeLeaf l dC dI am cm H.size (nI 0) mw mwr mfl mact on cut (nI 0) mlog mlive had mser mcur mrd mwt worn pg pla sou fou 0 0 0 (by first | omega | rfl | assumption | decide) (by first | omega | rfl | assumption | decide) (by first | omega | rfl | assumption | decide) (by first | omega | rfl | assumption | decide)) (cwV 2 hts (g_V t_808 t_810 s_25 t_6 t_811) rfl rfl rfl (by decide +kernel) ⟨by decide, by decide⟩) (xP_v hP hK hD hN 0 rfl rfl) rfl rfl hl.1 rfl (lv_room (Nat.le_of_ble_eq_true rfl)) d_M_sync_50 ⟨Nat.le_refl _, Nat.le_refl _⟩) hS (fun q _ h => xA_up hS.1 q h) (fun q h => xA_up hS.1 q h) (fun r50 u50 t H1 locs1 ht hvm q50 hB hz1 hk1 hS => ?_)
          obtain ⟨hP1, hK1, hD1⟩ := hB
          rw [ht] at hP1
          have hD : va_D (xA 9 am s.heap.size) (mw_ am cm (nI 0) (u50.1 1) (u50.1 2) mfl mact (u50.2.1 6) (u50.2.1 5) (nI (u50.2.2 0)) mlog (u50.1 0) had (u50.2.1 0) (u50.2.1 1) (u50.2.1 2) (u50.2.1 3) (u50.2.1 4) (u50.1 3) pla sou fou) := hD1.weaken (fun _ q _ h => xA_up hSz _ h)
          have hP : va_P (dC, dI) vwCl (mw_ am cm (nI 0) (u50.1 1) (u50.1 2) mfl mact (u50.2.1 6) (u50.2.1 5) (nI (u50.2.2 0)) mlog (u50.1 0) had (u50.2.1 0) (u50.2.1 1) (u50.2.1 2) (u50.2.1 3) (u50.2.1 4) (u50.1 3) pla sou fou) H1 := hP1
          generalize H1 = H at hP hS ⊢
          generalize locs1 = locs at hS ⊢
          rcases q50 with ⟨⟨rfl, er50, hne50⟩ | rfl | rfl, hmi⟩
          ·
            refine lv_istore_n hx hb d_M_sync_53 rfl hl (by decide) rfl (fun ls hl => ?_)
            have hl : lv_has ls 3 [(2, .int (nI 0)), (1, .int (nI 0)), (0, .ref (am 0))] := hl
            refine lv_iload_n hx hb d_M_sync_54 rfl (lv_at hl 0 rfl) ?_
            refine lv_if_eq (tgt := 60) hx hb d_M_sync_55 (by decide) (fun c55 => ?_) (fun c55 => ?_)
            ·
              refine lv_aload_n hx hb d_M_sync_60 rfl (lv_at hl 2 rfl) ?_
              refine va_get (D := (dC, dI)) (ci := 5) (v := .ref (am 7)) (C := R_M) (T := F_M) (N := 20) hx hb hts (fun w h => List.mem_cons_of_mem _ (in_M w h)) hown hK hP 0 rfl rfl 10 (by decide) (hts (.fieldLink R_M 37 R_M "had" "[I") (List.mem_cons_of_mem _ t_722)) (fun _ h9 => h9) rfl d_M_sync_61 ?_
              refine lv_iload_n hx hb d_M_sync_64 rfl (lv_at hl 1 rfl) ?_
              refine lv_aload_n hx hb d_M_sync_65 rfl (lv_at hl 2 rfl) ?_
              refine va_get (D := (dC, dI)) (ci := 5) (v := .int (nI (u50.2.2 0))) (C := R_M) (T := F_M) (N := 20) hx hb hts (fun w h => List.mem_cons_of_mem _ (in_M w h)) hown hK hP 0 rfl rfl 7 (by decide) (hts (.fieldLink R_M 52 R_M "records" "I") (List.mem_cons_of_mem _ t_719)) (fun _ h9 => h9) rfl d_M_sync_66 ?_
              refine lv_iconst (v := nI 3) hx hb d_M_sync_69 (by decide) ?_
              refine lv_iload_n hx hb d_M_sync_70 rfl (lv_at hl 1 rfl) ?_
              refine lv_imul hx hb d_M_sync_71 ?_
              refine tp_i (y := nI (3 * 0)) (pk_mul _ _) ?_
              refine lv_isub hx hb d_M_sync_72 ?_
              refine tp_i (y := nI ((u50.2.2 0) - (3 * 0))) (pk_sub (by omega)) ?_
              refine va_iast hx hb hK hP hD hS 7 6 rfl rfl (vp_in_nI (by omega) (by decide)) d_M_sync_73 (fun H locs hP hD hS => ?_)
              rw [nI_clamp (by omega)] at hP hD
              have hP : va_P (dC, dI) vwCl (mw_ am cm (nI 0) (u50.1 1) (u50.1 2) mfl mact (u50.2.1 6) (u50.2.1 5) (nI (u50.2.2 0)) mlog (u50.1 0) (upd had 0 (nI ((u50.2.2 0) - (3 * 0)))) (u50.2.1 0) (u50.2.1 1) (u50.2.1 2) (u50.2.1 3) (u50.2.1 4) (u50.1 3) pla sou fou) H := hP
              have hD : va_D (xA 9 am s.heap.size) (mw_ am cm (nI 0) (u50.1 1) (u50.1 2) mfl mact (u50.2.1 6) (u50.2.1 5) (nI (u50.2.2 0)) mlog (u50.1 0) (upd had 0 (nI ((u50.2.2 0) - (3 * 0)))) (u50.2.1 0) (u50.2.1 1) (u50.2.1 2) (u50.2.1 3) (u50.2.1 4) (u50.1 3) pla sou fou) := hD
              refine lv_iconst (v := nI 1) hx hb d_M_sync_74 (by decide) ?_
              exact W.iret (v := nI 1) hx hb hr (fun t ht hW => ⟨⟨nI 1, (fun i => [u50.1 0, u50.1 1, u50.1 2, u50.1 3, upd had 0 (nI ((u50.2.2 0) - (3 * 0)))].getD i (fun _ => 0), fun i => [u50.2.1 0, u50.2.1 1, u50.2.1 2, u50.2.1 3, u50.2.1 4, u50.2.1 5, u50.2.1 6, nI 0].getD i 0, fun i => [u50.2.2 0].getD i 0), rfl, hmi, ⟨by rw [ht]; exact hP, va_K.moved hW.alike hK, hD⟩⟩, hS.F ht⟩) hS.2.2 d_M_sync_75
            ·
              exact absurd c55 (by decide)
          ·
            refine lv_istore_n hx hb d_M_sync_53 rfl hl (by decide) rfl (fun ls hl => ?_)
            have hl : lv_has ls 3 [(2, .int (-1)), (1, .int (nI 0)), (0, .ref (am 0))] := hl
            refine lv_iload_n hx hb d_M_sync_54 rfl (lv_at hl 0 rfl) ?_
            refine lv_if_eq (tgt := 60) hx hb d_M_sync_55 (by decide) (fun c55 => ?_) (fun c55 => ?_)
            ·
              exact absurd c55 (by decide)
            ·
              refine lv_iload_n hx hb d_M_sync_58 rfl (lv_at hl 0 rfl) ?_
              exact W.iret (v := (-1)) hx hb hr (fun t ht hW => ⟨⟨(-1), (fun i => [u50.1 0, u50.1 1, u50.1 2, u50.1 3, had].getD i (fun _ => 0), fun i => [u50.2.1 0, u50.2.1 1, u50.2.1 2, u50.2.1 3, u50.2.1 4, u50.2.1 5, u50.2.1 6, nI 0].getD i 0, fun i => [u50.2.2 0].getD i 0), rfl, hmi, ⟨by rw [ht]; exact hP, va_K.moved hW.alike hK, hD⟩⟩, hS.F ht⟩) hS.2.2 d_M_sync_59
          ·
            refine lv_istore_n hx hb d_M_sync_53 rfl hl (by decide) rfl (fun ls hl => ?_)
            have hl : lv_has ls 3 [(2, .int (-2)), (1, .int (nI 0)), (0, .ref (am 0))] := hl
            refine lv_iload_n hx hb d_M_sync_54 rfl (lv_at hl 0 rfl) ?_
            refine lv_if_eq (tgt := 60) hx hb d_M_sync_55 (by decide) (fun c55 => ?_) (fun c55 => ?_)
            ·
              exact absurd c55 (by decide)
            ·
              refine lv_iload_n hx hb d_M_sync_58 rfl (lv_at hl 0 rfl) ?_
              exact W.iret (v := (-2)) hx hb hr (fun t ht hW => ⟨⟨(-2), (fun i => [u50.1 0, u50.1 1, u50.1 2, u50.1 3, had].getD i (fun _ => 0), fun i => [u50.2.1 0, u50.2.1 1, u50.2.1 2, u50.2.1 3, u50.2.1 4, u50.2.1 5, u50.2.1 6, nI 0].getD i 0, fun i => [u50.2.2 0].getD i 0), rfl, hmi, ⟨by rw [ht]; exact hP, va_K.moved hW.alike hK, hD⟩⟩, hS.F ht⟩) hS.2.2 d_M_sync_59
        ·
          refine lv_aload_n hx hb d_M_sync_35 rfl (lv_at hl 0 rfl) ?_
          refine va_get (D := (dC, dI)) (ci := 5) (v := .int (nI rn)) (C := R_M) (T := F_M) (N := 20) hx hb hts (fun w h => List.mem_cons_of_mem _ (in_M w h)) hown hK hP 0 rfl rfl 7 (by decide) (hts (.fieldLink R_M 52 R_M "records" "I") (List.mem_cons_of_mem _ t_719)) (fun _ h9 => h9) rfl d_M_sync_36 ?_
          refine lv_iconst (v := nI 1) hx hb d_M_sync_39 (by decide) ?_
          refine lv_isub hx hb d_M_sync_40 ?_
          refine tp_i (y := nI (rn - 1)) (pk_sub (by omega)) ?_
          refine lv_iconst (v := nI 3) hx hb d_M_sync_41 (by decide) ?_
          refine lv_idiv hx hb d_M_sync_42 (by decide) ?_
          refine tp_i (y := nI ((rn - 1) / 3)) (pk_div (by omega) (by omega) (by omega)) ?_
          refine lv_istore_n hx hb d_M_sync_43 rfl hl (by decide) rfl (fun ls hl => ?_)
          have hl : lv_has ls 3 [(1, .int (nI ((rn - 1) / 3))), (0, .ref (am 0))] := hl
          refine lv_aload_n hx hb d_M_sync_44 rfl (lv_at hl 1 rfl) ?_
          refine lv_iload_n hx hb d_M_sync_45 rfl (lv_at hl 0 rfl) ?_
          refine lv_aload_n hx hb d_M_sync_46 rfl (lv_at hl 1 rfl) ?_
          refine va_get (D := (dC, dI)) (ci := 5) (v := .int (nI rn)) (C := R_M) (T := F_M) (N := 20) hx hb hts (fun w h => List.mem_cons_of_mem _ (in_M w h)) hown hK hP 0 rfl rfl 7 (by decide) (hts (.fieldLink R_M 52 R_M "records" "I") (List.mem_cons_of_mem _ t_719)) (fun _ h9 => h9) rfl d_M_sync_47 ?_
          have hSz := hS.1
          refine va_calli (va_runV (C := R_M) (As := [.int (nI ((rn - 1) / 3)), .int (nI rn)]) (rest := []) ⟨hx, hb, hml, hown, hts⟩ (c_M_writeLeaf l dC dI am cm H.size (nI 0) mw mwr mfl mact on cut (nI rn) mlog mlive had mser mcur mrd mwt worn pg pla sou fou rn ((rn - 1) / 3) rn (by first | omega | rfl | assumption | decide) (by first | omega | rfl | assumption | decide) (by first | omega | rfl | assumption | decide) (by first | omega | rfl | assumption | decide)) (cwV 2 hts (g_V t_808 t_810 s_25 t_6 t_811) rfl rfl rfl (by decide +kernel) ⟨by decide, by decide⟩) (xP_v hP hK hD hN 0 rfl rfl) rfl rfl hl.1 rfl (lv_room (Nat.le_of_ble_eq_true rfl)) d_M_sync_50 ⟨Nat.le_refl _, Nat.le_refl _⟩) hS (fun q _ h => xA_up hS.1 q h) (fun q h => xA_up hS.1 q h) (fun r50 u50 t H1 locs1 ht hvm q50 hB hz1 hk1 hS => ?_)
          obtain ⟨hP1, hK1, hD1⟩ := hB
          rw [ht] at hP1
          have hD : va_D (xA 9 am s.heap.size) (mw_ am cm (nI 0) (u50.1 1) (u50.1 2) mfl mact (u50.2.1 6) (u50.2.1 5) (nI (u50.2.2 0)) mlog (u50.1 0) had (u50.2.1 0) (u50.2.1 1) (u50.2.1 2) (u50.2.1 3) (u50.2.1 4) (u50.1 3) pla sou fou) := hD1.weaken (fun _ q _ h => xA_up hSz _ h)
          have hP : va_P (dC, dI) vwCl (mw_ am cm (nI 0) (u50.1 1) (u50.1 2) mfl mact (u50.2.1 6) (u50.2.1 5) (nI (u50.2.2 0)) mlog (u50.1 0) had (u50.2.1 0) (u50.2.1 1) (u50.2.1 2) (u50.2.1 3) (u50.2.1 4) (u50.1 3) pla sou fou) H1 := hP1
          generalize H1 = H at hP hS ⊢
          generalize locs1 = locs at hS ⊢
          rcases q50 with ⟨⟨rfl, er50, hne50⟩ | rfl | rfl, hmi⟩
          ·
            refine lv_istore_n hx hb d_M_sync_53 rfl hl (by decide) rfl (fun ls hl => ?_)
            have hl : lv_has ls 3 [(2, .int (nI 0)), (1, .int (nI ((rn - 1) / 3))), (0, .ref (am 0))] := hl
            refine lv_iload_n hx hb d_M_sync_54 rfl (lv_at hl 0 rfl) ?_
            refine lv_if_eq (tgt := 60) hx hb d_M_sync_55 (by decide) (fun c55 => ?_) (fun c55 => ?_)
            ·
              refine lv_aload_n hx hb d_M_sync_60 rfl (lv_at hl 2 rfl) ?_
              refine va_get (D := (dC, dI)) (ci := 5) (v := .ref (am 7)) (C := R_M) (T := F_M) (N := 20) hx hb hts (fun w h => List.mem_cons_of_mem _ (in_M w h)) hown hK hP 0 rfl rfl 10 (by decide) (hts (.fieldLink R_M 37 R_M "had" "[I") (List.mem_cons_of_mem _ t_722)) (fun _ h9 => h9) rfl d_M_sync_61 ?_
              refine lv_iload_n hx hb d_M_sync_64 rfl (lv_at hl 1 rfl) ?_
              refine lv_aload_n hx hb d_M_sync_65 rfl (lv_at hl 2 rfl) ?_
              refine va_get (D := (dC, dI)) (ci := 5) (v := .int (nI (u50.2.2 0))) (C := R_M) (T := F_M) (N := 20) hx hb hts (fun w h => List.mem_cons_of_mem _ (in_M w h)) hown hK hP 0 rfl rfl 7 (by decide) (hts (.fieldLink R_M 52 R_M "records" "I") (List.mem_cons_of_mem _ t_719)) (fun _ h9 => h9) rfl d_M_sync_66 ?_
              refine lv_iconst (v := nI 3) hx hb d_M_sync_69 (by decide) ?_
              refine lv_iload_n hx hb d_M_sync_70 rfl (lv_at hl 1 rfl) ?_
              refine lv_imul hx hb d_M_sync_71 ?_
              refine tp_i (y := nI (3 * ((rn - 1) / 3))) (pk_mul _ _) ?_
              refine lv_isub hx hb d_M_sync_72 ?_
              refine tp_i (y := nI ((u50.2.2 0) - (3 * ((rn - 1) / 3)))) (pk_sub (by omega)) ?_
              refine va_iast hx hb hK hP hD hS 7 6 rfl rfl (vp_in_nI (by omega) (by decide)) d_M_sync_73 (fun H locs hP hD hS => ?_)
              rw [nI_clamp (by omega)] at hP hD
              have hP : va_P (dC, dI) vwCl (mw_ am cm (nI 0) (u50.1 1) (u50.1 2) mfl mact (u50.2.1 6) (u50.2.1 5) (nI (u50.2.2 0)) mlog (u50.1 0) (upd had ((rn - 1) / 3) (nI ((u50.2.2 0) - (3 * ((rn - 1) / 3))))) (u50.2.1 0) (u50.2.1 1) (u50.2.1 2) (u50.2.1 3) (u50.2.1 4) (u50.1 3) pla sou fou) H := hP
              have hD : va_D (xA 9 am s.heap.size) (mw_ am cm (nI 0) (u50.1 1) (u50.1 2) mfl mact (u50.2.1 6) (u50.2.1 5) (nI (u50.2.2 0)) mlog (u50.1 0) (upd had ((rn - 1) / 3) (nI ((u50.2.2 0) - (3 * ((rn - 1) / 3))))) (u50.2.1 0) (u50.2.1 1) (u50.2.1 2) (u50.2.1 3) (u50.2.1 4) (u50.1 3) pla sou fou) := hD
              refine lv_iconst (v := nI 1) hx hb d_M_sync_74 (by decide) ?_
              exact W.iret (v := nI 1) hx hb hr (fun t ht hW => ⟨⟨nI 1, (fun i => [u50.1 0, u50.1 1, u50.1 2, u50.1 3, upd had ((rn - 1) / 3) (nI ((u50.2.2 0) - (3 * ((rn - 1) / 3))))].getD i (fun _ => 0), fun i => [u50.2.1 0, u50.2.1 1, u50.2.1 2, u50.2.1 3, u50.2.1 4, u50.2.1 5, u50.2.1 6, nI 0].getD i 0, fun i => [u50.2.2 0].getD i 0), rfl, hmi, ⟨by rw [ht]; exact hP, va_K.moved hW.alike hK, hD⟩⟩, hS.F ht⟩) hS.2.2 d_M_sync_75
            ·
              exact absurd c55 (by decide)
          ·
            refine lv_istore_n hx hb d_M_sync_53 rfl hl (by decide) rfl (fun ls hl => ?_)
            have hl : lv_has ls 3 [(2, .int (-1)), (1, .int (nI ((rn - 1) / 3))), (0, .ref (am 0))] := hl
            refine lv_iload_n hx hb d_M_sync_54 rfl (lv_at hl 0 rfl) ?_
            refine lv_if_eq (tgt := 60) hx hb d_M_sync_55 (by decide) (fun c55 => ?_) (fun c55 => ?_)
            ·
              exact absurd c55 (by decide)
            ·
              refine lv_iload_n hx hb d_M_sync_58 rfl (lv_at hl 0 rfl) ?_
              exact W.iret (v := (-1)) hx hb hr (fun t ht hW => ⟨⟨(-1), (fun i => [u50.1 0, u50.1 1, u50.1 2, u50.1 3, had].getD i (fun _ => 0), fun i => [u50.2.1 0, u50.2.1 1, u50.2.1 2, u50.2.1 3, u50.2.1 4, u50.2.1 5, u50.2.1 6, nI 0].getD i 0, fun i => [u50.2.2 0].getD i 0), rfl, hmi, ⟨by rw [ht]; exact hP, va_K.moved hW.alike hK, hD⟩⟩, hS.F ht⟩) hS.2.2 d_M_sync_59
          ·
            refine lv_istore_n hx hb d_M_sync_53 rfl hl (by decide) rfl (fun ls hl => ?_)
            have hl : lv_has ls 3 [(2, .int (-2)), (1, .int (nI ((rn - 1) / 3))), (0, .ref (am 0))] := hl
            refine lv_iload_n hx hb d_M_sync_54 rfl (lv_at hl 0 rfl) ?_
            refine lv_if_eq (tgt := 60) hx hb d_M_sync_55 (by decide) (fun c55 => ?_) (fun c55 => ?_)
            ·
              exact absurd c55 (by decide)
            ·
              refine lv_iload_n hx hb d_M_sync_58 rfl (lv_at hl 0 rfl) ?_
              exact W.iret (v := (-2)) hx hb hr (fun t ht hW => ⟨⟨(-2), (fun i => [u50.1 0, u50.1 1, u50.1 2, u50.1 3, had].getD i (fun _ => 0), fun i => [u50.2.1 0, u50.2.1 1, u50.2.1 2, u50.2.1 3, u50.2.1 4, u50.2.1 5, u50.2.1 6, nI 0].getD i 0, fun i => [u50.2.2 0].getD i 0), rfl, hmi, ⟨by rw [ht]; exact hP, va_K.moved hW.alike hK, hD⟩⟩, hS.F ht⟩) hS.2.2 d_M_sync_59
      ·
        refine lv_iconst (v := nI 1) hx hb d_M_sync_33 (by decide) ?_
        exact W.iret (v := nI 1) hx hb hr (fun t ht hW => ⟨⟨nI 1, (fun i => [mlive, mw, mwr, pg, had].getD i (fun _ => 0), fun i => [mser, mcur, mrd, mwt, worn, cut, on, nI 0].getD i 0, fun i => [rn].getD i 0), rfl, hmi, ⟨by rw [ht]; exact hP, va_K.moved hW.alike hK, hD⟩⟩, hS.F ht⟩) hS.2.2 d_M_sync_34
    ·
      exact absurd c17 (by decide)
  ·
    refine lv_iconst (v := nI 1) hx hb d_M_sync_9 (by decide) ?_
    refine lv_goto (tgt := 14) hx hb d_M_sync_10 (by decide) ?_
    have hSz := hS.1
    refine va_calli (va_runV (C := R_M) (As := [.int (nI 1), .int (nI 1)]) (rest := []) ⟨hx, hb, hml, hown, hts⟩ (c_M_fails_1 l dC dI am cm s.heap.size th mw mwr mfl mact on cut (nI rn) mlog mlive had mser mcur mrd mwt worn pg pla sou fou (nI 1) ) (cwV 2 hts (g_V t_784 t_786 s_22 t_6 t_787) rfl rfl rfl (by decide +kernel) ⟨by decide, by decide⟩) (xP_v hP hK hD hN 0 rfl rfl) rfl rfl hl.1 rfl (lv_room (Nat.le_of_ble_eq_true rfl)) d_M_sync_14 ⟨Nat.le_refl _, Nat.le_refl _⟩) hS (fun q _ h => xA_up hS.1 q h) (fun q h => xA_up hS.1 q h) (fun r14 u14 t H1 locs1 ht hvm q14 hB hz1 hk1 hS => ?_)
    obtain ⟨hP1, hK1, hD1⟩ := hB
    rw [ht] at hP1
    have hD : va_D (xA 9 am s.heap.size) (mw_ am cm (nI 1) mw mwr mfl mact on cut (nI rn) mlog mlive had mser mcur mrd mwt worn pg pla sou fou) := hD1.weaken (fun _ q _ h => xA_up hSz _ h)
    have hP : va_P (dC, dI) vwCl (mw_ am cm (nI 1) mw mwr mfl mact on cut (nI rn) mlog mlive had mser mcur mrd mwt worn pg pla sou fou) H1 := hP1
    generalize H1 = H at hP hS ⊢
    generalize locs1 = locs at hS ⊢
    have q14 := q14.symm
    subst q14
    refine lv_if_eq (tgt := 22) hx hb d_M_sync_17 (by decide) (fun c17 => ?_) (fun c17 => ?_)
    ·
      exact absurd c17 (by decide)
    ·
      refine lv_iconst (v := nI 0) hx hb d_M_sync_20 (by decide) ?_
      exact W.iret (v := nI 0) hx hb hr (fun t ht hW => ⟨⟨nI 0, (fun i => [mlive, mw, mwr, pg, had].getD i (fun _ => 0), fun i => [mser, mcur, mrd, mwt, worn, cut, on, nI 1].getD i 0, fun i => [rn].getD i 0), rfl, hmi, ⟨by rw [ht]; exact hP, va_K.moved hW.alike hK, hD⟩⟩, hS.F ht⟩) hS.2.2 d_M_sync_21
