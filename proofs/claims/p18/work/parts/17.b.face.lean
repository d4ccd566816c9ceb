set_option maxHeartbeats 4000000 in
set_option maxRecDepth 100000 in
theorem c_M_ticket (l : Launch) (dC : Nat → ClassId) (dI : Nat → Nat → Nat) (am cm : Nat → Nat) (sz : Nat) (th : Int32) (mw mwr mfl mact : Nat → Int32) (on cut mrec : Int32) (mlog mlive had : Nat → Int32) (mser mcur mrd mwt worn : Int32) (pg : Nat → Int32) (pla sou fou : Int32) (rn : Nat) (tno : Int32) (what : Int32) (hr48 : rn ≤ 48) : Met l y_M_ticket w_M_ticket ({ frames := 4, cells := 0, slots := 0, locals := 88 }) (xP (dC, dI) vwCl (mt cm) (mw_ am cm th mw mwr mfl mact on cut (nI rn) mlog mlive had mser mcur mrd mwt worn pg pla sou fou) sz [.ref (am 0), .int tno, .int what]) (va_Qi (fun r (u : (Nat → Nat → Int32) × (Nat → Int32) × (Nat → Nat)) => True) (fun (u : (Nat → Nat → Int32) × (Nat → Int32) × (Nat → Nat)) (t : State) => xB (dC, dI) vwCl (mt cm) (xA 9 am sz) (mw_ am cm (u.2.1 0) mw mwr mfl mact on cut (nI rn) mlog mlive had mser mcur mrd mwt worn pg pla sou fou) t) (xA 9 am sz)) 0 0 (xA 9 am sz) := by
  refine Met.ofW (cc := b_M_ticket) (maxL := 4) (ret := (some (.int))) (by decide) rfl ?_
  intro P e s m args below meth c0 s₁ B hml hv
  obtain ⟨rfl, hsz, hP, hK, hD0, hN⟩ := hv
  have hx := B.exec
  have hb := B.bytes
  have hr := B.returns
  have hts := atoms_spec (ws := w_M_ticket) B.pre
  have hown : s.vm.findClass R_M = some m.cls := findClass_of_methodNamed B.named
  have hlocks := B.notSynchronized
  subst hsz
  have hD := mw_D (sz := s.heap.size) hD0
  have hS : va_S (xA 9 am s.heap.size) s.heap s.heap [] := va_S.rf
  have hA : ∀ q : Nat, s.heap.size ≤ q → (xA 9 am s.heap.size) q := fun q h => Or.inr h
  have hl := lv_entry ([.ref (am 0), .int tno, .int what]) (n := 4) (Nat.le_of_ble_eq_true rfl)
  rw [lg_entry_eq]
  generalize (lg_sl ([.ref (am 0), .int tno, .int what]) ++ List.replicate (4 - (lg_sl ([.ref (am 0), .int tno, .int what])).length) Slot.unset).toArray = ls at hl ⊢
  have hl : lv_has ls 4 [(0, .ref (am 0)), (1, .int tno), (2, .int what)] := hl
  refine lv_aload_n hx hb d_M_ticket_0 rfl (lv_at hl 0 rfl) ?_
  refine lv_iconst (v := nI 1) hx hb d_M_ticket_1 (by decide) ?_
  refine lv_aload_n hx hb d_M_ticket_2 rfl (lv_at hl 0 rfl) ?_
  refine va_get (D := (dC, dI)) (ci := 5) (v := .int on) (C := R_M) (T := F_M) (N := 20) hx hb hts (fun w h => List.mem_cons_of_mem _ (in_M w h)) hown hK hP 0 rfl rfl 5 (by decide) (hts (.fieldLink R_M 23 R_M "on" "Z") (List.mem_cons_of_mem _ t_717)) (fun _ h9 => h9) rfl d_M_ticket_3 ?_
  refine lv_if_ne (tgt := 13) hx hb d_M_ticket_6 (by decide) (fun c6 => ?_) (fun c6 => ?_)
  ·
    refine lv_iconst (v := nI 0) hx hb d_M_ticket_13 (by decide) ?_
    have hSz := hS.1
    refine va_calli (va_runV (C := R_M) (As := [.int (nI 1), .int (nI 0)]) (rest := []) ⟨hx, hb, hml, hown, hts⟩ (c_M_fails_0 l dC dI am cm s.heap.size th mw mwr mfl mact on cut (nI rn) mlog mlive had mser mcur mrd mwt worn pg pla sou fou (nI 1) ) (cwV 2 hts (g_V t_784 t_786 s_22 t_6 t_787) rfl rfl rfl (by decide +kernel) ⟨by decide, by decide⟩) (xP_v hP hK hD hN 0 rfl rfl) rfl rfl hl.1 rfl (lv_room (Nat.le_of_ble_eq_true rfl)) d_M_ticket_14 ⟨Nat.le_refl _, Nat.le_refl _⟩) hS (fun q _ h => xA_up hS.1 q h) (fun q h => xA_up hS.1 q h) (fun r14 u14 t H1 locs1 ht hvm q14 hB hz1 hk1 hS => ?_)
    obtain ⟨hP1, hK1, hD1⟩ := hB
    rw [ht] at hP1
    have hD : va_D (xA 9 am s.heap.size) (mw_ am cm (nI 0) mw mwr mfl mact on cut (nI rn) mlog mlive had mser mcur mrd mwt worn pg pla sou fou) := hD1.weaken (fun _ q _ h => xA_up hSz _ h)
    have hP : va_P (dC, dI) vwCl (mw_ am cm (nI 0) mw mwr mfl mact on cut (nI rn) mlog mlive had mser mcur mrd mwt worn pg pla sou fou) H1 := hP1
    generalize H1 = H at hP hS ⊢
    generalize locs1 = locs at hS ⊢
    have q14 := q14.symm
    subst q14
    refine lv_if_eq (tgt := 22) hx hb d_M_ticket_17 (by decide) (fun c17 => ?_) (fun c17 => ?_)
    ·
      refine lv_iload_n hx hb d_M_ticket_22 rfl (lv_at hl 1 rfl) ?_
      refine lv_iconst (v := nI 1) hx hb d_M_ticket_23 (by decide) ?_
      refine lv_icmp_ge (tgt := 31) hx hb d_M_ticket_24 (by decide) (fun c24 => ?_) (fun c24 => ?_)
      ·
        refine lv_aload_n hx hb d_M_ticket_31 rfl (lv_at hl 0 rfl) ?_
        refine lv_iload_n hx hb d_M_ticket_32 rfl (lv_at hl 1 rfl) ?_
        refine vp_callSi (va_runV (C := R_M) (As := [.int tno]) (rest := []) ⟨hx, hb, hml, hown, hts⟩ (c_M_placeOf l dC dI am cm (nI 0) mw mwr mfl mact on cut (nI rn) mlog mlive had mser mcur mrd mwt worn pg pla sou fou rn tno (by first | omega | rfl | assumption | decide)) (cwV 1 hts (g_V t_881 t_883 s_42 t_6 t_884) rfl rfl rfl (by decide +kernel) ⟨by decide, by decide⟩) (xR_v hP hK hN 0 rfl rfl) rfl rfl hl.1 rfl (lv_room (Nat.le_of_ble_eq_true rfl)) d_M_ticket_33 ⟨Nat.le_refl _, Nat.le_refl _⟩).run (fun r33 q33 => ?_)
        rcases q33 with ⟨p33, hp33, rfl⟩ | ⟨rfl, hno33⟩
        ·
          refine lv_istore_n hx hb d_M_ticket_36 rfl hl (by decide) rfl (fun ls hl => ?_)
          have hl : lv_has ls 4 [(3, .int (nI p33)), (0, .ref (am 0)), (1, .int tno), (2, .int what)] := hl
          refine lv_aload_n hx hb d_M_ticket_37 rfl (lv_at hl 1 rfl) ?_
          refine lv_iconst (v := nI 2) hx hb d_M_ticket_38 (by decide) ?_
          refine lv_iload_n hx hb d_M_ticket_39 rfl (lv_at hl 0 rfl) ?_
          refine lv_if_lt (tgt := 53) hx hb d_M_ticket_40 (by decide) (fun c40 => ?_) (fun c40 => ?_)
          ·
            exact (cz_lt_t (by omega) c40).elim
          ·
            have c40 := cz_lt_f (by omega) c40
            refine lv_iload_n hx hb d_M_ticket_43 rfl (lv_at hl 3 rfl) ?_
            refine lv_iconst (v := nI 0) hx hb d_M_ticket_44 (by decide) ?_
            refine lv_bipush (v := nI 6) hx hb d_M_ticket_45 (by decide) ?_
            refine vp_callSi (va_runS (As := [.int what, .int (nI 0), .int (nI 6)]) (rest := [.int (nI 2), .ref (am 0)]) ⟨hx, hb, hml, hown, hts⟩ (c_M_isIn l dC dI what (nI 0) (nI 6) ) (cwS 3 hts (g_S t_781 t_782 t_6 t_783) rfl rfl rfl (by decide +kernel) ⟨by decide, by decide⟩) (xR_s (va_P.sub hP [] rfl) (hK.sub [] rfl) hN) rfl rfl hl.1 rfl (lv_room (Nat.le_of_ble_eq_true rfl)) d_M_ticket_47 ⟨Nat.le_refl _, Nat.le_refl _⟩).run (fun r47 q47 => ?_)
            rcases q47 with ⟨rfl, hin47⟩ | ⟨rfl, hin47⟩
            ·
              refine lv_if_ne (tgt := 57) hx hb d_M_ticket_50 (by decide) (fun c50 => ?_) (fun c50 => ?_)
              ·
                refine lv_iconst (v := nI 0) hx hb d_M_ticket_57 (by decide) ?_
                have hSz := hS.1
                refine va_calli (va_runV (C := R_M) (As := [.int (nI 2), .int (nI 0)]) (rest := []) ⟨hx, hb, hml, hown, hts⟩ (c_M_fails_0 l dC dI am cm H.size (nI 0) mw mwr mfl mact on cut (nI rn) mlog mlive had mser mcur mrd mwt worn pg pla sou fou (nI 2) ) (cwV 2 hts (g_V t_784 t_786 s_22 t_6 t_787) rfl rfl rfl (by decide +kernel) ⟨by decide, by decide⟩) (xP_v hP hK hD hN 0 rfl rfl) rfl rfl hl.1 rfl (lv_room (Nat.le_of_ble_eq_true rfl)) d_M_ticket_58 ⟨Nat.le_refl _, Nat.le_refl _⟩) hS (fun q _ h => xA_up hS.1 q h) (fun q h => xA_up hS.1 q h) (fun r58 u58 t H1 locs1 ht hvm q58 hB hz1 hk1 hS => ?_)
                obtain ⟨hP1, hK1, hD1⟩ := hB
                rw [ht] at hP1
                have hD : va_D (xA 9 am s.heap.size) (mw_ am cm (nI 0) mw mwr mfl mact on cut (nI rn) mlog mlive had mser mcur mrd mwt worn pg pla sou fou) := hD1.weaken (fun _ q _ h => xA_up hSz _ h)
                have hP : va_P (dC, dI) vwCl (mw_ am cm (nI 0) mw mwr mfl mact on cut (nI rn) mlog mlive had mser mcur mrd mwt worn pg pla sou fou) H1 := hP1
                generalize H1 = H at hP hS ⊢
                generalize locs1 = locs at hS ⊢
                have q58 := q58.symm
                subst q58
                refine lv_if_eq (tgt := 66) hx hb d_M_ticket_61 (by decide) (fun c61 => ?_) (fun c61 => ?_)
                ·
                  refine lv_iload_n hx hb d_M_ticket_66 rfl (lv_at hl 3 rfl) ?_
                  refine lv_topi (fun sx esx => ?_)
                  rcases sw_in sx 5 with hsw | ⟨j, hj, ej⟩
                  ·
                    refine lv_tableOut (tgt := 160) hx hb d_M_ticket_67 hsw (by decide) ?_
                    refine lv_aload_n hx hb d_M_ticket_160 rfl (lv_at hl 1 rfl) ?_
                    refine lv_iload_n hx hb d_M_ticket_161 rfl (lv_at hl 0 rfl) ?_
                    refine lv_iconst (v := nI 3) hx hb d_M_ticket_162 (by decide) ?_
                    refine vp_callSi (va_runV (C := R_M) (As := [.int (nI p33), .int (nI 3)]) (rest := []) ⟨hx, hb, hml, hown, hts⟩ (c_M_at l dC dI am cm (nI 0) mw mwr mfl mact on cut (nI rn) mlog mlive had mser mcur mrd mwt worn pg pla sou fou p33 3 (by first | omega | rfl | assumption | decide)) (cwV 2 hts (g_V t_873 t_875 s_41 t_6 t_876) rfl rfl rfl (by decide +kernel) ⟨by decide, by decide⟩) (xR_v hP hK hN 0 rfl rfl) rfl rfl hl.1 rfl (lv_room (Nat.le_of_ble_eq_true rfl)) d_M_ticket_163 ⟨Nat.le_refl _, Nat.le_refl _⟩).run (fun r163 q163 => ?_)
                    have q163 := q163.symm
                    subst q163
                    exact W.iret (v := mlog (4 * p33 + 3)) hx hb hr (fun t ht hW => ⟨⟨mlog (4 * p33 + 3), (fun i => [].getD i (fun _ => 0), fun i => [nI 0].getD i 0, fun i => [].getD i 0), rfl, by first | rfl | trivial | omega, ⟨by rw [ht]; exact hP, va_K.moved hW.alike hK, hD⟩⟩, hS.F ht⟩) hS.2.2 d_M_ticket_166
                  ·
                    rcases (show j = 0 ∨ j = 1 ∨ j = 2 ∨ j = 3 ∨ j = 4 ∨ j = 5 by omega) with rfl | rfl | rfl | rfl | rfl | rfl
                    ·
                      subst ej
                      refine lv_tableIn (off := 37) (tgt := 104) hx hb d_M_ticket_67 (by decide) (by decide) rfl (by decide) ?_
                      refine lv_aload_n hx hb d_M_ticket_104 rfl (lv_at hl 1 rfl) ?_
                      refine lv_iload_n hx hb d_M_ticket_105 rfl (lv_at hl 0 rfl) ?_
                      refine lv_iconst (v := nI 0) hx hb d_M_ticket_106 (by decide) ?_
                      refine vp_callSi (va_runV (C := R_M) (As := [.int (nI p33), .int (nI 0)]) (rest := []) ⟨hx, hb, hml, hown, hts⟩ (c_M_at l dC dI am cm (nI 0) mw mwr mfl mact on cut (nI rn) mlog mlive had mser mcur mrd mwt worn pg pla sou fou p33 0 (by first | omega | rfl | assumption | decide)) (cwV 2 hts (g_V t_873 t_875 s_41 t_6 t_876) rfl rfl rfl (by decide +kernel) ⟨by decide, by decide⟩) (xR_v hP hK hN 0 rfl rfl) rfl rfl hl.1 rfl (lv_room (Nat.le_of_ble_eq_true rfl)) d_M_ticket_107 ⟨Nat.le_refl _, Nat.le_refl _⟩).run (fun r107 q107 => ?_)
                      have q107 := q107.symm
                      subst q107
                      exact W.iret (v := mlog (4 * p33 + 0)) hx hb hr (fun t ht hW => ⟨⟨mlog (4 * p33 + 0), (fun i => [].getD i (fun _ => 0), fun i => [nI 0].getD i 0, fun i => [].getD i 0), rfl, by first | rfl | trivial | omega, ⟨by rw [ht]; exact hP, va_K.moved hW.alike hK, hD⟩⟩, hS.F ht⟩) hS.2.2 d_M_ticket_110
                    ·
                      subst ej
                      refine lv_tableIn (off := 44) (tgt := 111) hx hb d_M_ticket_67 (by decide) (by decide) rfl (by decide) ?_
                      refine lv_bipush (v := nI 20) hx hb d_M_ticket_111 (by decide) ?_
                      refine lv_aload_n hx hb d_M_ticket_113 rfl (lv_at hl 1 rfl) ?_
                      refine lv_iload_n hx hb d_M_ticket_114 rfl (lv_at hl 0 rfl) ?_
                      refine lv_iconst (v := nI 1) hx hb d_M_ticket_115 (by decide) ?_
                      refine vp_callSi (va_runV (C := R_M) (As := [.int (nI p33), .int (nI 1)]) (rest := [.int (nI 20)]) ⟨hx, hb, hml, hown, hts⟩ (c_M_at l dC dI am cm (nI 0) mw mwr mfl mact on cut (nI rn) mlog mlive had mser mcur mrd mwt worn pg pla sou fou p33 1 (by first | omega | rfl | assumption | decide)) (cwV 2 hts (g_V t_873 t_875 s_41 t_6 t_876) rfl rfl rfl (by decide +kernel) ⟨by decide, by decide⟩) (xR_v hP hK hN 0 rfl rfl) rfl rfl hl.1 rfl (lv_room (Nat.le_of_ble_eq_true rfl)) d_M_ticket_116 ⟨Nat.le_refl _, Nat.le_refl _⟩).run (fun r116 q116 => ?_)
                      have q116 := q116.symm
                      subst q116
                      refine lv_bipush (v := nI 18) hx hb d_M_ticket_119 (by decide) ?_
                      refine lv_iushr hx hb d_M_ticket_121 rfl ?_
                      refine lv_imul hx hb d_M_ticket_122 ?_
                      exact W.iret (v := (nI 20) * (((mlog (4 * p33 + 1)).toUInt32 >>> (Int32.toUInt32 (nI 18) &&& Int32.toUInt32 31)).toInt32)) hx hb hr (fun t ht hW => ⟨⟨(nI 20) * (((mlog (4 * p33 + 1)).toUInt32 >>> (Int32.toUInt32 (nI 18) &&& Int32.toUInt32 31)).toInt32), (fun i => [].getD i (fun _ => 0), fun i => [nI 0].getD i 0, fun i => [].getD i 0), rfl, by first | rfl | trivial | omega, ⟨by rw [ht]; exact hP, va_K.moved hW.alike hK, hD⟩⟩, hS.F ht⟩) hS.2.2 d_M_ticket_123
                    ·
                      subst ej
                      refine lv_tableIn (off := 57) (tgt := 124) hx hb d_M_ticket_67 (by decide) (by decide) rfl (by decide) ?_
                      refine lv_aload_n hx hb d_M_ticket_124 rfl (lv_at hl 1 rfl) ?_
                      refine lv_iload_n hx hb d_M_ticket_125 rfl (lv_at hl 0 rfl) ?_
                      refine lv_iconst (v := nI 1) hx hb d_M_ticket_126 (by decide) ?_
                      refine vp_callSi (va_runV (C := R_M) (As := [.int (nI p33), .int (nI 1)]) (rest := []) ⟨hx, hb, hml, hown, hts⟩ (c_M_at l dC dI am cm (nI 0) mw mwr mfl mact on cut (nI rn) mlog mlive had mser mcur mrd mwt worn pg pla sou fou p33 1 (by first | omega | rfl | assumption | decide)) (cwV 2 hts (g_V t_873 t_875 s_41 t_6 t_876) rfl rfl rfl (by decide +kernel) ⟨by decide, by decide⟩) (xR_v hP hK hN 0 rfl rfl) rfl rfl hl.1 rfl (lv_room (Nat.le_of_ble_eq_true rfl)) d_M_ticket_127 ⟨Nat.le_refl _, Nat.le_refl _⟩).run (fun r127 q127 => ?_)
                      have q127 := q127.symm
                      subst q127
                      refine lv_ldc (v := nI 262143) hx hb hown (hts (.constant R_M 159 262143) (List.mem_cons_of_mem _ t_902)) d_M_ticket_130 ?_
                      refine lv_iand hx hb d_M_ticket_132 ?_
                      exact W.iret (v := (mlog (4 * p33 + 1)) &&& (nI 262143)) hx hb hr (fun t ht hW => ⟨⟨(mlog (4 * p33 + 1)) &&& (nI 262143), (fun i => [].getD i (fun _ => 0), fun i => [nI 0].getD i 0, fun i => [].getD i 0), rfl, by first | rfl | trivial | omega, ⟨by rw [ht]; exact hP, va_K.moved hW.alike hK, hD⟩⟩, hS.F ht⟩) hS.2.2 d_M_ticket_133
                    ·
                      subst ej
                      refine lv_tableIn (off := 67) (tgt := 134) hx hb d_M_ticket_67 (by decide) (by decide) rfl (by decide) ?_
                      refine lv_aload_n hx hb d_M_ticket_134 rfl (lv_at hl 1 rfl) ?_
                      refine lv_iload_n hx hb d_M_ticket_135 rfl (lv_at hl 0 rfl) ?_
                      refine lv_iconst (v := nI 2) hx hb d_M_ticket_136 (by decide) ?_
                      refine vp_callSi (va_runV (C := R_M) (As := [.int (nI p33), .int (nI 2)]) (rest := []) ⟨hx, hb, hml, hown, hts⟩ (c_M_at l dC dI am cm (nI 0) mw mwr mfl mact on cut (nI rn) mlog mlive had mser mcur mrd mwt worn pg pla sou fou p33 2 (by first | omega | rfl | assumption | decide)) (cwV 2 hts (g_V t_873 t_875 s_41 t_6 t_876) rfl rfl rfl (by decide +kernel) ⟨by decide, by decide⟩) (xR_v hP hK hN 0 rfl rfl) rfl rfl hl.1 rfl (lv_room (Nat.le_of_ble_eq_true rfl)) d_M_ticket_137 ⟨Nat.le_refl _, Nat.le_refl _⟩).run (fun r137 q137 => ?_)
                      have q137 := q137.symm
                      subst q137
                      refine lv_bipush (v := nI 26) hx hb d_M_ticket_140 (by decide) ?_
                      refine lv_iushr hx hb d_M_ticket_142 rfl ?_
                      exact W.iret (v := ((mlog (4 * p33 + 2)).toUInt32 >>> (Int32.toUInt32 (nI 26) &&& Int32.toUInt32 31)).toInt32) hx hb hr (fun t ht hW => ⟨⟨((mlog (4 * p33 + 2)).toUInt32 >>> (Int32.toUInt32 (nI 26) &&& Int32.toUInt32 31)).toInt32, (fun i => [].getD i (fun _ => 0), fun i => [nI 0].getD i 0, fun i => [].getD i 0), rfl, by first | rfl | trivial | omega, ⟨by rw [ht]; exact hP, va_K.moved hW.alike hK, hD⟩⟩, hS.F ht⟩) hS.2.2 d_M_ticket_143
                    ·
                      subst ej
                      refine lv_tableIn (off := 77) (tgt := 144) hx hb d_M_ticket_67 (by decide) (by decide) rfl (by decide) ?_
                      refine lv_aload_n hx hb d_M_ticket_144 rfl (lv_at hl 1 rfl) ?_
                      refine lv_iload_n hx hb d_M_ticket_145 rfl (lv_at hl 0 rfl) ?_
                      refine lv_iconst (v := nI 2) hx hb d_M_ticket_146 (by decide) ?_
                      refine vp_callSi (va_runV (C := R_M) (As := [.int (nI p33), .int (nI 2)]) (rest := []) ⟨hx, hb, hml, hown, hts⟩ (c_M_at l dC dI am cm (nI 0) mw mwr mfl mact on cut (nI rn) mlog mlive had mser mcur mrd mwt worn pg pla sou fou p33 2 (by first | omega | rfl | assumption | decide)) (cwV 2 hts (g_V t_873 t_875 s_41 t_6 t_876) rfl rfl rfl (by decide +kernel) ⟨by decide, by decide⟩) (xR_v hP hK hN 0 rfl rfl) rfl rfl hl.1 rfl (lv_room (Nat.le_of_ble_eq_true rfl)) d_M_ticket_147 ⟨Nat.le_refl _, Nat.le_refl _⟩).run (fun r147 q147 => ?_)
                      have q147 := q147.symm
                      subst q147
                      refine lv_ldc (v := nI 67108863) hx hb hown (hts (.constant R_M 142 67108863) (List.mem_cons_of_mem _ t_793)) d_M_ticket_150 ?_
                      refine lv_iand hx hb d_M_ticket_152 ?_
                      exact W.iret (v := (mlog (4 * p33 + 2)) &&& (nI 67108863)) hx hb hr (fun t ht hW => ⟨⟨(mlog (4 * p33 + 2)) &&& (nI 67108863), (fun i => [].getD i (fun _ => 0), fun i => [nI 0].getD i 0, fun i => [].getD i 0), rfl, by first | rfl | trivial | omega, ⟨by rw [ht]; exact hP, va_K.moved hW.alike hK, hD⟩⟩, hS.F ht⟩) hS.2.2 d_M_ticket_153
                    ·
                      subst ej
                      refine lv_tableIn (off := 87) (tgt := 154) hx hb d_M_ticket_67 (by decide) (by decide) rfl (by decide) ?_
                      refine lv_aload_n hx hb d_M_ticket_154 rfl (lv_at hl 1 rfl) ?_
                      refine lv_iload_n hx hb d_M_ticket_155 rfl (lv_at hl 2 rfl) ?_
                      refine vp_callSi (va_runV (C := R_M) (As := [.int tno]) (rest := []) ⟨hx, hb, hml, hown, hts⟩ (c_M_voided l dC dI am cm (nI 0) mw mwr mfl mact on cut (nI rn) mlog mlive had mser mcur mrd mwt worn pg pla sou fou rn tno (by first | omega | rfl | assumption | decide)) (cwV 1 hts (g_V t_885 t_887 s_43 t_6 t_888) rfl rfl rfl (by decide +kernel) ⟨by decide, by decide⟩) (xR_v hP hK hN 0 rfl rfl) rfl rfl hl.1 rfl (lv_room (Nat.le_of_ble_eq_true rfl)) d_M_ticket_156 ⟨Nat.le_refl _, Nat.le_refl _⟩).run (fun r156 q156 => ?_)
                      have hk156 := q156
                      exact W.iret (v := r156) hx hb hr (fun t ht hW => ⟨⟨r156, (fun i => [].getD i (fun _ => 0), fun i => [nI 0].getD i 0, fun i => [].getD i 0), rfl, by first | rfl | trivial | omega, ⟨by rw [ht]; exact hP, va_K.moved hW.alike hK, hD⟩⟩, hS.F ht⟩) hS.2.2 d_M_ticket_159
                ·
                  exact absurd c61 (by decide)
              ·
                exact absurd c50 (by decide)
            ·
              refine lv_if_ne (tgt := 57) hx hb d_M_ticket_50 (by decide) (fun c50 => ?_) (fun c50 => ?_)
              ·
                exact absurd c50 (by decide)
              ·
                refine lv_iconst (v := nI 1) hx hb d_M_ticket_53 (by decide) ?_
                refine lv_goto (tgt := 58) hx hb d_M_ticket_54 (by decide) ?_
                have hSz := hS.1
                refine va_calli (va_runV (C := R_M) (As := [.int (nI 2), .int (nI 1)]) (rest := []) ⟨hx, hb, hml, hown, hts⟩ (c_M_fails_1 l dC dI am cm H.size (nI 0) mw mwr mfl mact on cut (nI rn) mlog mlive had mser mcur mrd mwt worn pg pla sou fou (nI 2) ) (cwV 2 hts (g_V t_784 t_786 s_22 t_6 t_787) rfl rfl rfl (by decide +kernel) ⟨by decide, by decide⟩) (xP_v hP hK hD hN 0 rfl rfl) rfl rfl hl.1 rfl (lv_room (Nat.le_of_ble_eq_true rfl)) d_M_ticket_58 ⟨Nat.le_refl _, Nat.le_refl _⟩) hS (fun q _ h => xA_up hS.1 q h) (fun q h => xA_up hS.1 q h) (fun r58 u58 t H1 locs1 ht hvm q58 hB hz1 hk1 hS => ?_)
                obtain ⟨hP1, hK1, hD1⟩ := hB
                rw [ht] at hP1
                have hD : va_D (xA 9 am s.heap.size) (mw_ am cm (nI 2) mw mwr mfl mact on cut (nI rn) mlog mlive had mser mcur mrd mwt worn pg pla sou fou) := hD1.weaken (fun _ q _ h => xA_up hSz _ h)
                have hP : va_P (dC, dI) vwCl (mw_ am cm (nI 2) mw mwr mfl mact on cut (nI rn) mlog mlive had mser mcur mrd mwt worn pg pla sou fou) H1 := hP1
                generalize H1 = H at hP hS ⊢
                generalize locs1 = locs at hS ⊢
                have q58 := q58.symm
                subst q58
                refine lv_if_eq (tgt := 66) hx hb d_M_ticket_61 (by decide) (fun c61 => ?_) (fun c61 => ?_)
                ·
                  exact absurd c61 (by decide)
                ·
                  refine lv_iconst (v := nI 0) hx hb d_M_ticket_64 (by decide) ?_
                  exact W.iret (v := nI 0) hx hb hr (fun t ht hW => ⟨⟨nI 0, (fun i => [].getD i (fun _ => 0), fun i => [nI 2].getD i 0, fun i => [].getD i 0), rfl, by first | rfl | trivial | omega, ⟨by rw [ht]; exact hP, va_K.moved hW.alike hK, hD⟩⟩, hS.F ht⟩) hS.2.2 d_M_ticket_65
        ·
          refine lv_istore_n hx hb d_M_ticket_36 rfl hl (by decide) rfl (fun ls hl => ?_)
          have hl : lv_has ls 4 [(3, .int (-1)), (0, .ref (am 0)), (1, .int tno), (2, .int what)] := hl
          refine lv_aload_n hx hb d_M_ticket_37 rfl (lv_at hl 1 rfl) ?_
          refine lv_iconst (v := nI 2) hx hb d_M_ticket_38 (by decide) ?_
          refine lv_iload_n hx hb d_M_ticket_39 rfl (lv_at hl 0 rfl) ?_
          refine lv_if_lt (tgt := 53) hx hb d_M_ticket_40 (by decide) (fun c40 => ?_) (fun c40 => ?_)
          ·
            refine lv_iconst (v := nI 1) hx hb d_M_ticket_53 (by decide) ?_
            refine lv_goto (tgt := 58) hx hb d_M_ticket_54 (by decide) ?_
            have hSz := hS.1
            refine va_calli (va_runV (C := R_M) (As := [.int (nI 2), .int (nI 1)]) (rest := []) ⟨hx, hb, hml, hown, hts⟩ (c_M_fails_1 l dC dI am cm H.size (nI 0) mw mwr mfl mact on cut (nI rn) mlog mlive had mser mcur mrd mwt worn pg pla sou fou (nI 2) ) (cwV 2 hts (g_V t_784 t_786 s_22 t_6 t_787) rfl rfl rfl (by decide +kernel) ⟨by decide, by decide⟩) (xP_v hP hK hD hN 0 rfl rfl) rfl rfl hl.1 rfl (lv_room (Nat.le_of_ble_eq_true rfl)) d_M_ticket_58 ⟨Nat.le_refl _, Nat.le_refl _⟩) hS (fun q _ h => xA_up hS.1 q h) (fun q h => xA_up hS.1 q h) (fun r58 u58 t H1 locs1 ht hvm q58 hB hz1 hk1 hS => ?_)
            obtain ⟨hP1, hK1, hD1⟩ := hB
            rw [ht] at hP1
            have hD : va_D (xA 9 am s.heap.size) (mw_ am cm (nI 2) mw mwr mfl mact on cut (nI rn) mlog mlive had mser mcur mrd mwt worn pg pla sou fou) := hD1.weaken (fun _ q _ h => xA_up hSz _ h)
            have hP : va_P (dC, dI) vwCl (mw_ am cm (nI 2) mw mwr mfl mact on cut (nI rn) mlog mlive had mser mcur mrd mwt worn pg pla sou fou) H1 := hP1
            generalize H1 = H at hP hS ⊢
            generalize locs1 = locs at hS ⊢
            have q58 := q58.symm
            subst q58
            refine lv_if_eq (tgt := 66) hx hb d_M_ticket_61 (by decide) (fun c61 => ?_) (fun c61 => ?_)
            ·
              exact absurd c61 (by decide)
            ·
              refine lv_iconst (v := nI 0) hx hb d_M_ticket_64 (by decide) ?_
              exact W.iret (v := nI 0) hx hb hr (fun t ht hW => ⟨⟨nI 0, (fun i => [].getD i (fun _ => 0), fun i => [nI 2].getD i 0, fun i => [].getD i 0), rfl, by first | rfl | trivial | omega, ⟨by rw [ht]; exact hP, va_K.moved hW.alike hK, hD⟩⟩, hS.F ht⟩) hS.2.2 d_M_ticket_65
          ·
            exact absurd c40 (by decide)
      ·
        refine lv_iconst (v := (-1)) hx hb d_M_ticket_27 (by decide) ?_
        refine lv_goto (tgt := 36) hx hb d_M_ticket_28 (by decide) ?_
        refine lv_istore_n hx hb d_M_ticket_36 rfl hl (by decide) rfl (fun ls hl => ?_)
        have hl : lv_has ls 4 [(3, .int (-1)), (0, .ref (am 0)), (1, .int tno), (2, .int what)] := hl
        refine lv_aload_n hx hb d_M_ticket_37 rfl (lv_at hl 1 rfl) ?_
        refine lv_iconst (v := nI 2) hx hb d_M_ticket_38 (by decide) ?_
        refine lv_iload_n hx hb d_M_ticket_39 rfl (lv_at hl 0 rfl) ?_
        refine lv_if_lt (tgt := 53) hx hb d_M_ticket_40 (by decide) (fun c40 => ?_) (fun c40 => ?_)
        ·
          refine lv_iconst (v := nI 1) hx hb d_M_ticket_53 (by decide) ?_
          refine lv_goto (tgt := 58) hx hb d_M_ticket_54 (by decide) ?_
          have hSz := hS.1
          refine va_calli (va_runV (C := R_M) (As := [.int (nI 2), .int (nI 1)]) (rest := []) ⟨hx, hb, hml, hown, hts⟩ (c_M_fails_1 l dC dI am cm H.size (nI 0) mw mwr mfl mact on cut (nI rn) mlog mlive had mser mcur mrd mwt worn pg pla sou fou (nI 2) ) (cwV 2 hts (g_V t_784 t_786 s_22 t_6 t_787) rfl rfl rfl (by decide +kernel) ⟨by decide, by decide⟩) (xP_v hP hK hD hN 0 rfl rfl) rfl rfl hl.1 rfl (lv_room (Nat.le_of_ble_eq_true rfl)) d_M_ticket_58 ⟨Nat.le_refl _, Nat.le_refl _⟩) hS (fun q _ h => xA_up hS.1 q h) (fun q h => xA_up hS.1 q h) (fun r58 u58 t H1 locs1 ht hvm q58 hB hz1 hk1 hS => ?_)
          obtain ⟨hP1, hK1, hD1⟩ := hB
          rw [ht] at hP1
          have hD : va_D (xA 9 am s.heap.size) (mw_ am cm (nI 2) mw mwr mfl mact on cut (nI rn) mlog mlive had mser mcur mrd mwt worn pg pla sou fou) := hD1.weaken (fun _ q _ h => xA_up hSz _ h)
          have hP : va_P (dC, dI) vwCl (mw_ am cm (nI 2) mw mwr mfl mact on cut (nI rn) mlog mlive had mser mcur mrd mwt worn pg pla sou fou) H1 := hP1
          generalize H1 = H at hP hS ⊢
          generalize locs1 = locs at hS ⊢
          have q58 := q58.symm
          subst q58
          refine lv_if_eq (tgt := 66) hx hb d_M_ticket_61 (by decide) (fun c61 => ?_) (fun c61 => ?_)
          ·
            exact absurd c61 (by decide)
          ·
            refine lv_iconst (v := nI 0) hx hb d_M_ticket_64 (by decide) ?_
            exact W.iret (v := nI 0) hx hb hr (fun t ht hW => ⟨⟨nI 0, (fun i => [].getD i (fun _ => 0), fun i => [nI 2].getD i 0, fun i => [].getD i 0), rfl, by first | rfl | trivial | omega, ⟨by rw [ht]; exact hP, va_K.moved hW.alike hK, hD⟩⟩, hS.F ht⟩) hS.2.2 d_M_ticket_65
        ·
          exact absurd c40 (by decide)
    ·
      exact absurd c17 (by decide)
  ·
    refine lv_iconst (v := nI 1) hx hb d_M_ticket_9 (by decide) ?_
    refine lv_goto (tgt := 14) hx hb d_M_ticket_10 (by decide) ?_
    have hSz := hS.1
    refine va_calli (va_runV (C := R_M) (As := [.int (nI 1), .int (nI 1)]) (rest := []) ⟨hx, hb, hml, hown, hts⟩ (c_M_fails_1 l dC dI am cm s.heap.size th mw mwr mfl mact on cut (nI rn) mlog mlive had mser mcur mrd mwt worn pg pla sou fou (nI 1) ) (cwV 2 hts (g_V t_784 t_786 s_22 t_6 t_787) rfl rfl rfl (by decide +kernel) ⟨by decide, by decide⟩) (xP_v hP hK hD hN 0 rfl rfl) rfl rfl hl.1 rfl (lv_room (Nat.le_of_ble_eq_true rfl)) d_M_ticket_14 ⟨Nat.le_refl _, Nat.le_refl _⟩) hS (fun q _ h => xA_up hS.1 q h) (fun q h => xA_up hS.1 q h) (fun r14 u14 t H1 locs1 ht hvm q14 hB hz1 hk1 hS => ?_)
    obtain ⟨hP1, hK1, hD1⟩ := hB
    rw [ht] at hP1
    have hD : va_D (xA 9 am s.heap.size) (mw_ am cm (nI 1) mw mwr mfl mact on cut (nI rn) mlog mlive had mser mcur mrd mwt worn pg pla sou fou) := hD1.weaken (fun _ q _ h => xA_up hSz _ h)
    have hP : va_P (dC, dI) vwCl (mw_ am cm (nI 1) mw mwr mfl mact on cut (nI rn) mlog mlive had mser mcur mrd mwt worn pg pla sou fou) H1 := hP1
    generalize H1 = H at hP hS ⊢
    generalize locs1 = locs at hS ⊢
    have q14 := q14.symm
    subst q14
    refine lv_if_eq (tgt := 22) hx hb d_M_ticket_17 (by decide) (fun c17 => ?_) (fun c17 => ?_)
    ·
      exact absurd c17 (by decide)
    ·
      refine lv_iconst (v := nI 0) hx hb d_M_ticket_20 (by decide) ?_
      exact W.iret (v := nI 0) hx hb hr (fun t ht hW => ⟨⟨nI 0, (fun i => [].getD i (fun _ => 0), fun i => [nI 1].getD i 0, fun i => [].getD i 0), rfl, by first | rfl | trivial | omega, ⟨by rw [ht]; exact hP, va_K.moved hW.alike hK, hD⟩⟩, hS.F ht⟩) hS.2.2 d_M_ticket_21
set_option maxHeartbeats 4000000 in
set_option maxRecDepth 100000 in
theorem c_M_net (l : Launch) (dC : Nat → ClassId) (dI : Nat → Nat → Nat) (am cm : Nat → Nat) (th : Int32) (mw mwr mfl mact : Nat → Int32) (on cut mrec : Int32) (mlog mlive had : Nat → Int32) (mser mcur mrd mwt worn : Int32) (pg : Nat → Int32) (pla sou fou : Int32) (q : Nat) (hq : q < 48) : Met l y_M_net w_M_net ({ frames := 1, cells := 0, slots := 0, locals := 22 }) (xR (dC, dI) vwCl (mt cm) (mw_ am cm th mw mwr mfl mact on cut mrec mlog mlive had mser mcur mrd mwt worn pg pla sou fou) [.ref (am 0), .int (nI q)]) (vp_Si (fun r => True)) 0 0 (fun _ => False) := by
  refine Met.ofW (cc := b_M_net) (maxL := 2) (ret := (some (.int))) (by decide) rfl ?_
  intro P e s m args below meth c0 s₁ B hml hv
  obtain ⟨rfl, hP, hK, hN⟩ := hv
  have hx := B.exec
  have hb := B.bytes
  have hr := B.returns
  have hts := atoms_spec (ws := w_M_net) B.pre
  have hown : s.vm.findClass R_M = some m.cls := findClass_of_methodNamed B.named
  have hlocks := B.notSynchronized
  have hl := lv_entry ([.ref (am 0), .int (nI q)]) (n := 2) (Nat.le_of_ble_eq_true rfl)
  rw [lg_entry_eq]
  generalize (lg_sl ([.ref (am 0), .int (nI q)]) ++ List.replicate (2 - (lg_sl ([.ref (am 0), .int (nI q)])).length) Slot.unset).toArray = ls at hl ⊢
  have hl : lv_has ls 2 [(0, .ref (am 0)), (1, .int (nI q))] := hl
  refine lv_bipush (v := nI 20) hx hb d_M_net_0 (by decide) ?_
  refine lv_aload_n hx hb d_M_net_2 rfl (lv_at hl 0 rfl) ?_
  refine lv_iload_n hx hb d_M_net_3 rfl (lv_at hl 1 rfl) ?_
  refine lv_iconst (v := nI 1) hx hb d_M_net_4 (by decide) ?_
  refine vp_callSi (va_runV (C := R_M) (As := [.int (nI q), .int (nI 1)]) (rest := [.int (nI 20)]) ⟨hx, hb, hml, hown, hts⟩ (c_M_at l dC dI am cm th mw mwr mfl mact on cut mrec mlog mlive had mser mcur mrd mwt worn pg pla sou fou q 1 (by first | omega | rfl | assumption | decide)) (cwV 2 hts (g_V t_873 t_875 s_41 t_6 t_876) rfl rfl rfl (by decide +kernel) ⟨by decide, by decide⟩) (xR_v hP hK hN 0 rfl rfl) rfl rfl hl.1 rfl (lv_room (Nat.le_of_ble_eq_true rfl)) d_M_net_5 ⟨Nat.le_refl _, Nat.le_refl _⟩).run (fun r5 q5 => ?_)
  have q5 := q5.symm
  subst q5
  refine lv_bipush (v := nI 18) hx hb d_M_net_8 (by decide) ?_
  refine lv_iushr hx hb d_M_net_10 rfl ?_
  refine lv_imul hx hb d_M_net_11 ?_
  refine lv_aload_n hx hb d_M_net_12 rfl (lv_at hl 0 rfl) ?_
  refine lv_iload_n hx hb d_M_net_13 rfl (lv_at hl 1 rfl) ?_
  refine lv_iconst (v := nI 1) hx hb d_M_net_14 (by decide) ?_
  refine vp_callSi (va_runV (C := R_M) (As := [.int (nI q), .int (nI 1)]) (rest := [.int ((nI 20) * (((mlog (4 * q + 1)).toUInt32 >>> (Int32.toUInt32 (nI 18) &&& Int32.toUInt32 31)).toInt32))]) ⟨hx, hb, hml, hown, hts⟩ (c_M_at l dC dI am cm th mw mwr mfl mact on cut mrec mlog mlive had mser mcur mrd mwt worn pg pla sou fou q 1 (by first | omega | rfl | assumption | decide)) (cwV 2 hts (g_V t_873 t_875 s_41 t_6 t_876) rfl rfl rfl (by decide +kernel) ⟨by decide, by decide⟩) (xR_v hP hK hN 0 rfl rfl) rfl rfl hl.1 rfl (lv_room (Nat.le_of_ble_eq_true rfl)) d_M_net_15 ⟨Nat.le_refl _, Nat.le_refl _⟩).run (fun r15 q15 => ?_)
  have q15 := q15.symm
  subst q15
  refine lv_ldc (v := nI 262143) hx hb hown (hts (.constant R_M 159 262143) (List.mem_cons_of_mem _ t_902)) d_M_net_18 ?_
  refine lv_iand hx hb d_M_net_20 ?_
  refine lv_isub hx hb d_M_net_21 ?_
  exact W.iret (v := ((nI 20) * (((mlog (4 * q + 1)).toUInt32 >>> (Int32.toUInt32 (nI 18) &&& Int32.toUInt32 31)).toInt32)) - ((mlog (4 * q + 1)) &&& (nI 262143))) hx hb hr (fun t ht hW => ⟨((nI 20) * (((mlog (4 * q + 1)).toUInt32 >>> (Int32.toUInt32 (nI 18) &&& Int32.toUInt32 31)).toInt32)) - ((mlog (4 * q + 1)) &&& (nI 262143)), rfl, by first | rfl | trivial | omega, ht⟩) (fun q hq => by cases hq) d_M_net_22
set_option maxHeartbeats 4000000 in
set_option maxRecDepth 100000 in
theorem c_M_dayTotal (l : Launch) (dC : Nat → ClassId) (dI : Nat → Nat → Nat) (am cm : Nat → Nat) (sz : Nat) (th : Int32) (mw mwr mfl mact : Nat → Int32) (on cut mrec : Int32) (mlog mlive had : Nat → Int32) (mser mcur mrd mwt worn : Int32) (pg : Nat → Int32) (pla sou fou : Int32) (rn : Nat) (da : Int32) (pr : Int32) (hr48 : rn ≤ 48) : Met l y_M_dayTotal w_M_dayTotal ({ frames := 4, cells := 0, slots := 0, locals := 88 }) (xP (dC, dI) vwCl (mt cm) (mw_ am cm th mw mwr mfl mact on cut (nI rn) mlog mlive had mser mcur mrd mwt worn pg pla sou fou) sz [.ref (am 0), .int da, .int pr]) (va_Ql (fun r (u : (Nat → Nat → Int32) × (Nat → Int32) × (Nat → Nat)) => True) (fun (u : (Nat → Nat → Int32) × (Nat → Int32) × (Nat → Nat)) (t : State) => xB (dC, dI) vwCl (mt cm) (xA 9 am sz) (mw_ am cm (u.2.1 0) mw mwr mfl mact on cut (nI rn) mlog mlive had mser mcur mrd mwt worn pg pla sou fou) t) (xA 9 am sz)) 0 0 (xA 9 am sz) := by
  refine Met.ofW (cc := b_M_dayTotal) (maxL := 7) (ret := (some (.long))) (by decide) rfl ?_
  intro P e s m args below meth c0 s₁ B hml hv
  obtain ⟨rfl, hsz, hP, hK, hD0, hN⟩ := hv
  have hx := B.exec
  have hb := B.bytes
  have hr := B.returns
  have hts := atoms_spec (ws := w_M_dayTotal) B.pre
  have hown : s.vm.findClass R_M = some m.cls := findClass_of_methodNamed B.named
  have hlocks := B.notSynchronized
  subst hsz
  have hD := mw_D (sz := s.heap.size) hD0
  have hS : va_S (xA 9 am s.heap.size) s.heap s.heap [] := va_S.rf
  have hA : ∀ q : Nat, s.heap.size ≤ q → (xA 9 am s.heap.size) q := fun q h => Or.inr h
  have hl := lv_entry ([.ref (am 0), .int da, .int pr]) (n := 7) (Nat.le_of_ble_eq_true rfl)
  rw [lg_entry_eq]
  generalize (lg_sl ([.ref (am 0), .int da, .int pr]) ++ List.replicate (7 - (lg_sl ([.ref (am 0), .int da, .int pr])).length) Slot.unset).toArray = ls at hl ⊢
  have hl : lv_has ls 7 [(0, .ref (am 0)), (1, .int da), (2, .int pr)] := hl
  have hnv0 := nv_le mlog rn
  refine lv_aload_n hx hb d_M_dayTotal_0 rfl (lv_at hl 0 rfl) ?_
  refine lv_iconst (v := nI 1) hx hb d_M_dayTotal_1 (by decide) ?_
  refine lv_aload_n hx hb d_M_dayTotal_2 rfl (lv_at hl 0 rfl) ?_
  refine va_get (D := (dC, dI)) (ci := 5) (v := .int on) (C := R_M) (T := F_M) (N := 20) hx hb hts (fun w h => List.mem_cons_of_mem _ (in_M w h)) hown hK hP 0 rfl rfl 5 (by decide) (hts (.fieldLink R_M 23 R_M "on" "Z") (List.mem_cons_of_mem _ t_717)) (fun _ h9 => h9) rfl d_M_dayTotal_3 ?_
  refine lv_if_ne (tgt := 13) hx hb d_M_dayTotal_6 (by decide) (fun c6 => ?_) (fun c6 => ?_)
  ·
    refine lv_iconst (v := nI 0) hx hb d_M_dayTotal_13 (by decide) ?_
    have hSz := hS.1
    refine va_calli (va_runV (C := R_M) (As := [.int (nI 1), .int (nI 0)]) (rest := []) ⟨hx, hb, hml, hown, hts⟩ (c_M_fails_0 l dC dI am cm s.heap.size th mw mwr mfl mact on cut (nI rn) mlog mlive had mser mcur mrd mwt worn pg pla sou fou (nI 1) ) (cwV 2 hts (g_V t_784 t_786 s_22 t_6 t_787) rfl rfl rfl (by decide +kernel) ⟨by decide, by decide⟩) (xP_v hP hK hD hN 0 rfl rfl) rfl rfl hl.1 rfl (lv_room (Nat.le_of_ble_eq_true rfl)) d_M_dayTotal_14 ⟨Nat.le_refl _, Nat.le_refl _⟩) hS (fun q _ h => xA_up hS.1 q h) (fun q h => xA_up hS.1 q h) (fun r14 u14 t H1 locs1 ht hvm q14 hB hz1 hk1 hS => ?_)
    obtain ⟨hP1, hK1, hD1⟩ := hB
    rw [ht] at hP1
    have hD : va_D (xA 9 am s.heap.size) (mw_ am cm (nI 0) mw mwr mfl mact on cut (nI rn) mlog mlive had mser mcur mrd mwt worn pg pla sou fou) := hD1.weaken (fun _ q _ h => xA_up hSz _ h)
    have hP : va_P (dC, dI) vwCl (mw_ am cm (nI 0) mw mwr mfl mact on cut (nI rn) mlog mlive had mser mcur mrd mwt worn pg pla sou fou) H1 := hP1
    generalize H1 = H at hP hS ⊢
    generalize locs1 = locs at hS ⊢
    have q14 := q14.symm
    subst q14
    refine lv_if_eq (tgt := 22) hx hb d_M_dayTotal_17 (by decide) (fun c17 => ?_) (fun c17 => ?_)
    ·
      refine lv_lconst (v := 0) hx hb d_M_dayTotal_22 (by decide) ?_
      refine lv_lstore_n hx hb d_M_dayTotal_23 rfl hl (by decide) rfl (fun ls hl => ?_)
      have hl : lv_has ls 7 [(3, .long 0), (0, .ref (am 0)), (1, .int da), (2, .int pr)] := hl
      refine lv_iconst (v := nI 1) hx hb d_M_dayTotal_24 (by decide) ?_
      refine lv_istore hx hb d_M_dayTotal_25 hl (by decide) rfl (fun ls hl => ?_)
      have hl : lv_has ls 7 [(5, .int (nI 1)), (3, .long 0), (0, .ref (am 0)), (1, .int da), (2, .int pr)] := hl
      have lp27 : ∀ (n : Nat) (tq : Nat) (x : Int64) (ls : Array Slot), (nv mlog rn + 1 - tq) < n → (1 ≤ tq) → (tq ≤ nv mlog rn + 1) → lv_has ls 7 [(0, .ref (am 0)), (1, .int da), (2, .int pr), (3, .long x), (5, .int (nI tq))] → W P l e (headSpec w_M_dayTotal ({ frames := 4, cells := 0, slots := 0, locals := 88 })).room s m (([.ref (am 0), .int da, .int pr] : List Value).toArray) below meth c0 H locs 0 0 (MQ below (va_Ql (fun r (u : (Nat → Nat → Int32) × (Nat → Int32) × (Nat → Nat)) => True) (fun (u : (Nat → Nat → Int32) × (Nat → Int32) × (Nat → Nat)) (t : State) => xB (dC, dI) vwCl (mt cm) (xA 9 am s.heap.size) (mw_ am cm (u.2.1 0) mw mwr mfl mact on cut (nI rn) mlog mlive had mser mcur mrd mwt worn pg pla sou fou) t) (xA 9 am s.heap.size)) (([.ref (am 0), .int da, .int pr] : List Value).toArray) s 0 0 (xA 9 am s.heap.size)) (F0 m 27 ls []) := by
        intro n
        induction n with
        | zero => intro tq x ls hm; intros; omega
        | succ n ih27 =>
          intro tq x ls hm ht1 ht2 hl
          refine lv_iload hx hb d_M_dayTotal_27 (lv_at hl 4 rfl) ?_
          refine lv_aload_n hx hb d_M_dayTotal_29 rfl (lv_at hl 0 rfl) ?_
          refine vp_callSi (va_runV (C := R_M) (As := []) (rest := [.int (nI tq)]) ⟨hx, hb, hml, hown, hts⟩ (c_M_tickets l dC dI am cm (nI 0) mw mwr mfl mact on cut (nI rn) mlog mlive had mser mcur mrd mwt worn pg pla sou fou rn (by first | omega | rfl | assumption | decide)) (cwV 0 hts (g_V t_865 t_867 s_39 t_6 t_868) rfl rfl rfl (by decide +kernel) ⟨by decide, by decide⟩) (xR_v hP hK hN 0 rfl rfl) rfl rfl hl.1 rfl (lv_room (Nat.le_of_ble_eq_true rfl)) d_M_dayTotal_30 ⟨Nat.le_refl _, Nat.le_refl _⟩).run (fun r30 q30 => ?_)
          have q30 := q30.symm
          subst q30
          have hnv30 := nv_le mlog rn
          refine lv_icmp_gt (tgt := 101) hx hb d_M_dayTotal_33 (by decide) (fun c33 => ?_) (fun c33 => ?_)
          ·
            have c33 := cd_gt_t (by omega) (by omega) c33
            refine lv_lload_n hx hb d_M_dayTotal_101 rfl (lv_at hl 3 rfl) ?_
            exact W.lret (v := x) hx hb hr (fun t ht hW => ⟨⟨x, (fun i => [].getD i (fun _ => 0), fun i => [nI 0].getD i 0, fun i => [].getD i 0), rfl, by first | rfl | trivial | omega, ⟨by rw [ht]; exact hP, va_K.moved hW.alike hK, hD⟩⟩, hS.F ht⟩) hS.2.2 d_M_dayTotal_102
          ·
            have c33 := cd_gt_f (by omega) (by omega) c33
            refine lv_aload_n hx hb d_M_dayTotal_36 rfl (lv_at hl 0 rfl) ?_
            refine lv_iload hx hb d_M_dayTotal_37 (lv_at hl 4 rfl) ?_
            refine vp_callSi (va_runV (C := R_M) (As := [.int (nI tq)]) (rest := []) ⟨hx, hb, hml, hown, hts⟩ (c_M_placeOf l dC dI am cm (nI 0) mw mwr mfl mact on cut (nI rn) mlog mlive had mser mcur mrd mwt worn pg pla sou fou rn (nI tq) (by first | omega | rfl | assumption | decide)) (cwV 1 hts (g_V t_881 t_883 s_42 t_6 t_884) rfl rfl rfl (by decide +kernel) ⟨by decide, by decide⟩) (xR_v hP hK hN 0 rfl rfl) rfl rfl hl.1 rfl (lv_room (Nat.le_of_ble_eq_true rfl)) d_M_dayTotal_39 ⟨Nat.le_refl _, Nat.le_refl _⟩).run (fun r39 q39 => ?_)
            rcases q39 with ⟨p39, hp39, rfl⟩ | ⟨rfl, hno39⟩
            ·
              refine lv_istore hx hb d_M_dayTotal_42 hl (by decide) rfl (fun ls hl => ?_)
              have hl : lv_has ls 7 [(6, .int (nI p39)), (0, .ref (am 0)), (1, .int da), (2, .int pr), (3, .long x), (5, .int (nI tq))] := hl
              refine lv_aload_n hx hb d_M_dayTotal_44 rfl (lv_at hl 1 rfl) ?_
              refine lv_iload hx hb d_M_dayTotal_45 (lv_at hl 0 rfl) ?_
              refine lv_iconst (v := nI 2) hx hb d_M_dayTotal_47 (by decide) ?_
              refine vp_callSi (va_runV (C := R_M) (As := [.int (nI p39), .int (nI 2)]) (rest := []) ⟨hx, hb, hml, hown, hts⟩ (c_M_at l dC dI am cm (nI 0) mw mwr mfl mact on cut (nI rn) mlog mlive had mser mcur mrd mwt worn pg pla sou fou p39 2 (by first | omega | rfl | assumption | decide)) (cwV 2 hts (g_V t_873 t_875 s_41 t_6 t_876) rfl rfl rfl (by decide +kernel) ⟨by decide, by decide⟩) (xR_v hP hK hN 0 rfl rfl) rfl rfl hl.1 rfl (lv_room (Nat.le_of_ble_eq_true rfl)) d_M_dayTotal_48 ⟨Nat.le_refl _, Nat.le_refl _⟩).run (fun r48 q48 => ?_)
              have q48 := q48.symm
              subst q48
              refine lv_bipush (v := nI 26) hx hb d_M_dayTotal_51 (by decide) ?_
              refine lv_iushr hx hb d_M_dayTotal_53 rfl ?_
              refine lv_iload_n hx hb d_M_dayTotal_54 rfl (lv_at hl 3 rfl) ?_
              refine lv_icmp_ne (tgt := 95) hx hb d_M_dayTotal_55 (by decide) (fun c55 => ?_) (fun c55 => ?_)
              ·
                refine lv_iinc (k := 5) (v := nI (tq + 1)) hx hb d_M_dayTotal_95 hl rfl (nI_1 _) (by decide) rfl (fun ls hl => ?_)
                have hl : lv_has ls 7 [(5, .int (nI (tq + 1))), (6, .int (nI p39)), (0, .ref (am 0)), (1, .int da), (2, .int pr), (3, .long x)] := hl
                refine lv_goto (tgt := 27) hx hb d_M_dayTotal_98 (by decide) ?_
                exact ih27 (tq + 1) x ls (by omega) (by omega) (by omega) (lv_sub hl [2, 3, 4, 5, 0] rfl)
              ·
                refine lv_aload_n hx hb d_M_dayTotal_58 rfl (lv_at hl 1 rfl) ?_
                refine lv_iload hx hb d_M_dayTotal_59 (lv_at hl 0 rfl) ?_
                refine lv_iconst (v := nI 2) hx hb d_M_dayTotal_61 (by decide) ?_
                refine vp_callSi (va_runV (C := R_M) (As := [.int (nI p39), .int (nI 2)]) (rest := []) ⟨hx, hb, hml, hown, hts⟩ (c_M_at l dC dI am cm (nI 0) mw mwr mfl mact on cut (nI rn) mlog mlive had mser mcur mrd mwt worn pg pla sou fou p39 2 (by first | omega | rfl | assumption | decide)) (cwV 2 hts (g_V t_873 t_875 s_41 t_6 t_876) rfl rfl rfl (by decide +kernel) ⟨by decide, by decide⟩) (xR_v hP hK hN 0 rfl rfl) rfl rfl hl.1 rfl (lv_room (Nat.le_of_ble_eq_true rfl)) d_M_dayTotal_62 ⟨Nat.le_refl _, Nat.le_refl _⟩).run (fun r62 q62 => ?_)
                have q62 := q62.symm
                subst q62
                refine lv_ldc (v := nI 67108863) hx hb hown (hts (.constant R_M 142 67108863) (List.mem_cons_of_mem _ t_793)) d_M_dayTotal_65 ?_
                refine lv_iand hx hb d_M_dayTotal_67 ?_
                refine lv_sipush (v := nI 1440) hx hb d_M_dayTotal_68 (by decide) ?_
                refine lv_idiv hx hb d_M_dayTotal_71 (by decide) ?_
                refine lv_iload_n hx hb d_M_dayTotal_72 rfl (lv_at hl 2 rfl) ?_
                refine lv_icmp_ne (tgt := 95) hx hb d_M_dayTotal_73 (by decide) (fun c73 => ?_) (fun c73 => ?_)
                ·
                  refine lv_iinc (k := 5) (v := nI (tq + 1)) hx hb d_M_dayTotal_95 hl rfl (nI_1 _) (by decide) rfl (fun ls hl => ?_)
                  have hl : lv_has ls 7 [(5, .int (nI (tq + 1))), (6, .int (nI p39)), (0, .ref (am 0)), (1, .int da), (2, .int pr), (3, .long x)] := hl
                  refine lv_goto (tgt := 27) hx hb d_M_dayTotal_98 (by decide) ?_
                  exact ih27 (tq + 1) x ls (by omega) (by omega) (by omega) (lv_sub hl [2, 3, 4, 5, 0] rfl)
                ·
                  refine lv_aload_n hx hb d_M_dayTotal_76 rfl (lv_at hl 1 rfl) ?_
                  refine lv_iload hx hb d_M_dayTotal_77 (lv_at hl 5 rfl) ?_
                  refine vp_callSi (va_runV (C := R_M) (As := [.int (nI tq)]) (rest := []) ⟨hx, hb, hml, hown, hts⟩ (c_M_voided l dC dI am cm (nI 0) mw mwr mfl mact on cut (nI rn) mlog mlive had mser mcur mrd mwt worn pg pla sou fou rn (nI tq) (by first | omega | rfl | assumption | decide)) (cwV 1 hts (g_V t_885 t_887 s_43 t_6 t_888) rfl rfl rfl (by decide +kernel) ⟨by decide, by decide⟩) (xR_v hP hK hN 0 rfl rfl) rfl rfl hl.1 rfl (lv_room (Nat.le_of_ble_eq_true rfl)) d_M_dayTotal_79 ⟨Nat.le_refl _, Nat.le_refl _⟩).run (fun r79 q79 => ?_)
                  have hk79 := q79
                  refine lv_if_ne (tgt := 95) hx hb d_M_dayTotal_82 (by decide) (fun c82 => ?_) (fun c82 => ?_)
                  ·
                    refine lv_iinc (k := 5) (v := nI (tq + 1)) hx hb d_M_dayTotal_95 hl rfl (nI_1 _) (by decide) rfl (fun ls hl => ?_)
                    have hl : lv_has ls 7 [(5, .int (nI (tq + 1))), (6, .int (nI p39)), (0, .ref (am 0)), (1, .int da), (2, .int pr), (3, .long x)] := hl
                    refine lv_goto (tgt := 27) hx hb d_M_dayTotal_98 (by decide) ?_
                    exact ih27 (tq + 1) x ls (by omega) (by omega) (by omega) (lv_sub hl [2, 3, 4, 5, 0] rfl)
                  ·
                    refine lv_lload_n hx hb d_M_dayTotal_85 rfl (lv_at hl 4 rfl) ?_
                    refine lv_aload_n hx hb d_M_dayTotal_86 rfl (lv_at hl 1 rfl) ?_
                    refine lv_iload hx hb d_M_dayTotal_87 (lv_at hl 0 rfl) ?_
                    refine vp_callSi (va_runV (C := R_M) (As := [.int (nI p39)]) (rest := [.long x]) ⟨hx, hb, hml, hown, hts⟩ (c_M_net l dC dI am cm (nI 0) mw mwr mfl mact on cut (nI rn) mlog mlive had mser mcur mrd mwt worn pg pla sou fou p39 (by first | omega | rfl | assumption | decide)) (cwV 1 hts (g_V t_907 t_909 s_45 t_6 t_910) rfl rfl rfl (by decide +kernel) ⟨by decide, by decide⟩) (xR_v hP hK hN 0 rfl rfl) rfl rfl hl.1 rfl (lv_room (Nat.le_of_ble_eq_true rfl)) d_M_dayTotal_89 ⟨Nat.le_refl _, Nat.le_refl _⟩).run (fun r89 q89 => ?_)
                    have hk89 := q89
                    refine lv_i2l (v := r89.toInt64) hx hb d_M_dayTotal_92 rfl ?_
                    refine lv_ladd hx hb d_M_dayTotal_93 ?_
                    refine lv_lstore_n hx hb d_M_dayTotal_94 rfl hl (by decide) rfl (fun ls hl => ?_)
                    have hl : lv_has ls 7 [(3, .long (x + r89.toInt64)), (6, .int (nI p39)), (0, .ref (am 0)), (1, .int da), (2, .int pr), (5, .int (nI tq))] := hl
                    refine lv_iinc (k := 5) (v := nI (tq + 1)) hx hb d_M_dayTotal_95 hl rfl (nI_1 _) (by decide) rfl (fun ls hl => ?_)
                    have hl : lv_has ls 7 [(5, .int (nI (tq + 1))), (3, .long (x + r89.toInt64)), (6, .int (nI p39)), (0, .ref (am 0)), (1, .int da), (2, .int pr)] := hl
                    refine lv_goto (tgt := 27) hx hb d_M_dayTotal_98 (by decide) ?_
                    exact ih27 (tq + 1) (x + r89.toInt64) ls (by omega) (by omega) (by omega) (lv_sub hl [3, 4, 5, 1, 0] rfl)
            ·
              exact absurd rfl (hno39 tq (by omega) (by omega))
      exact lp27 _ 1 0 ls (Nat.lt_succ_self _) (by omega) (by omega) (lv_sub hl [2, 3, 4, 1, 0] rfl)
    ·
      exact absurd c17 (by decide)
  ·
    refine lv_iconst (v := nI 1) hx hb d_M_dayTotal_9 (by decide) ?_
    refine lv_goto (tgt := 14) hx hb d_M_dayTotal_10 (by decide) ?_
    have hSz := hS.1
    refine va_calli (va_runV (C := R_M) (As := [.int (nI 1), .int (nI 1)]) (rest := []) ⟨hx, hb, hml, hown, hts⟩ (c_M_fails_1 l dC dI am cm s.heap.size th mw mwr mfl mact on cut (nI rn) mlog mlive had mser mcur mrd mwt worn pg pla sou fou (nI 1) ) (cwV 2 hts (g_V t_784 t_786 s_22 t_6 t_787) rfl rfl rfl (by decide +kernel) ⟨by decide, by decide⟩) (xP_v hP hK hD hN 0 rfl rfl) rfl rfl hl.1 rfl (lv_room (Nat.le_of_ble_eq_true rfl)) d_M_dayTotal_14 ⟨Nat.le_refl _, Nat.le_refl _⟩) hS (fun q _ h => xA_up hS.1 q h) (fun q h => xA_up hS.1 q h) (fun r14 u14 t H1 locs1 ht hvm q14 hB hz1 hk1 hS => ?_)
    obtain ⟨hP1, hK1, hD1⟩ := hB
    rw [ht] at hP1
    have hD : va_D (xA 9 am s.heap.size) (mw_ am cm (nI 1) mw mwr mfl mact on cut (nI rn) mlog mlive had mser mcur mrd mwt worn pg pla sou fou) := hD1.weaken (fun _ q _ h => xA_up hSz _ h)
    have hP : va_P (dC, dI) vwCl (mw_ am cm (nI 1) mw mwr mfl mact on cut (nI rn) mlog mlive had mser mcur mrd mwt worn pg pla sou fou) H1 := hP1
    generalize H1 = H at hP hS ⊢
    generalize locs1 = locs at hS ⊢
    have q14 := q14.symm
    subst q14
    refine lv_if_eq (tgt := 22) hx hb d_M_dayTotal_17 (by decide) (fun c17 => ?_) (fun c17 => ?_)
    ·
      exact absurd c17 (by decide)
    ·
      refine lv_lconst (v := 0) hx hb d_M_dayTotal_20 (by decide) ?_
      exact W.lret (v := 0) hx hb hr (fun t ht hW => ⟨⟨0, (fun i => [].getD i (fun _ => 0), fun i => [nI 1].getD i 0, fun i => [].getD i 0), rfl, by first | rfl | trivial | omega, ⟨by rw [ht]; exact hP, va_K.moved hW.alike hK, hD⟩⟩, hS.F ht⟩) hS.2.2 d_M_dayTotal_21
set_option maxHeartbeats 4000000 in
set_option maxRecDepth 100000 in
theorem c_M_rangeTotal (l : Launch) (dC : Nat → ClassId) (dI : Nat → Nat → Nat) (am cm : Nat → Nat) (sz : Nat) (th : Int32) (mw mwr mfl mact : Nat → Int32) (on cut mrec : Int32) (mlog mlive had : Nat → Int32) (mser mcur mrd mwt worn : Int32) (pg : Nat → Int32) (pla sou fou : Int32) (rn : Nat) (fr : Int32) (to : Int32) (hr48 : rn ≤ 48) : Met l y_M_rangeTotal w_M_rangeTotal ({ frames := 4, cells := 0, slots := 0, locals := 88 }) (xP (dC, dI) vwCl (mt cm) (mw_ am cm th mw mwr mfl mact on cut (nI rn) mlog mlive had mser mcur mrd mwt worn pg pla sou fou) sz [.ref (am 0), .int fr, .int to]) (va_Ql (fun r (u : (Nat → Nat → Int32) × (Nat → Int32) × (Nat → Nat)) => True) (fun (u : (Nat → Nat → Int32) × (Nat → Int32) × (Nat → Nat)) (t : State) => xB (dC, dI) vwCl (mt cm) (xA 9 am sz) (mw_ am cm (u.2.1 0) mw mwr mfl mact on cut (nI rn) mlog mlive had mser mcur mrd mwt worn pg pla sou fou) t) (xA 9 am sz)) 0 0 (xA 9 am sz) := by
  refine Met.ofW (cc := b_M_rangeTotal) (maxL := 6) (ret := (some (.long))) (by decide) rfl ?_
  intro P e s m args below meth c0 s₁ B hml hv
  obtain ⟨rfl, hsz, hP, hK, hD0, hN⟩ := hv
  have hx := B.exec
  have hb := B.bytes
  have hr := B.returns
  have hts := atoms_spec (ws := w_M_rangeTotal) B.pre
  have hown : s.vm.findClass R_M = some m.cls := findClass_of_methodNamed B.named
  have hlocks := B.notSynchronized
  subst hsz
  have hD := mw_D (sz := s.heap.size) hD0
  have hS : va_S (xA 9 am s.heap.size) s.heap s.heap [] := va_S.rf
  have hA : ∀ q : Nat, s.heap.size ≤ q → (xA 9 am s.heap.size) q := fun q h => Or.inr h
  have hl := lv_entry ([.ref (am 0), .int fr, .int to]) (n := 6) (Nat.le_of_ble_eq_true rfl)
  rw [lg_entry_eq]
  generalize (lg_sl ([.ref (am 0), .int fr, .int to]) ++ List.replicate (6 - (lg_sl ([.ref (am 0), .int fr, .int to])).length) Slot.unset).toArray = ls at hl ⊢
  have hl : lv_has ls 6 [(0, .ref (am 0)), (1, .int fr), (2, .int to)] := hl
  have hnv0 := nv_le mlog rn
  refine lv_aload_n hx hb d_M_rangeTotal_0 rfl (lv_at hl 0 rfl) ?_
  refine lv_iconst (v := nI 1) hx hb d_M_rangeTotal_1 (by decide) ?_
  refine lv_aload_n hx hb d_M_rangeTotal_2 rfl (lv_at hl 0 rfl) ?_
  refine va_get (D := (dC, dI)) (ci := 5) (v := .int on) (C := R_M) (T := F_M) (N := 20) hx hb hts (fun w h => List.mem_cons_of_mem _ (in_M w h)) hown hK hP 0 rfl rfl 5 (by decide) (hts (.fieldLink R_M 23 R_M "on" "Z") (List.mem_cons_of_mem _ t_717)) (fun _ h9 => h9) rfl d_M_rangeTotal_3 ?_
  refine lv_if_ne (tgt := 13) hx hb d_M_rangeTotal_6 (by decide) (fun c6 => ?_) (fun c6 => ?_)
  ·
    refine lv_iconst (v := nI 0) hx hb d_M_rangeTotal_13 (by decide) ?_
    have hSz := hS.1
    refine va_calli (va_runV (C := R_M) (As := [.int (nI 1), .int (nI 0)]) (rest := []) ⟨hx, hb, hml, hown, hts⟩ (c_M_fails_0 l dC dI am cm s.heap.size th mw mwr mfl mact on cut (nI rn) mlog mlive had mser mcur mrd mwt worn pg pla sou fou (nI 1) ) (cwV 2 hts (g_V t_784 t_786 s_22 t_6 t_787) rfl rfl rfl (by decide +kernel) ⟨by decide, by decide⟩) (xP_v hP hK hD hN 0 rfl rfl) rfl rfl hl.1 rfl (lv_room (Nat.le_of_ble_eq_true rfl)) d_M_rangeTotal_14 ⟨Nat.le_refl _, Nat.le_refl _⟩) hS (fun q _ h => xA_up hS.1 q h) (fun q h => xA_up hS.1 q h) (fun r14 u14 t H1 locs1 ht hvm q14 hB hz1 hk1 hS => ?_)
    obtain ⟨hP1, hK1, hD1⟩ := hB
    rw [ht] at hP1
    have hD : va_D (xA 9 am s.heap.size) (mw_ am cm (nI 0) mw mwr mfl mact on cut (nI rn) mlog mlive had mser mcur mrd mwt worn pg pla sou fou) := hD1.weaken (fun _ q _ h => xA_up hSz _ h)
    have hP : va_P (dC, dI) vwCl (mw_ am cm (nI 0) mw mwr mfl mact on cut (nI rn) mlog mlive had mser mcur mrd mwt worn pg pla sou fou) H1 := hP1
    generalize H1 = H at hP hS ⊢
    generalize locs1 = locs at hS ⊢
    have q14 := q14.symm
    subst q14
    refine lv_if_eq (tgt := 22) hx hb d_M_rangeTotal_17 (by decide) (fun c17 => ?_) (fun c17 => ?_)
    ·
      refine lv_lconst (v := 0) hx hb d_M_rangeTotal_22 (by decide) ?_
      refine lv_lstore_n hx hb d_M_rangeTotal_23 rfl hl (by decide) rfl (fun ls hl => ?_)
      have hl : lv_has ls 6 [(3, .long 0), (0, .ref (am 0)), (1, .int fr), (2, .int to)] := hl
      refine lv_iconst (v := nI 1) hx hb d_M_rangeTotal_24 (by decide) ?_
      refine lv_istore hx hb d_M_rangeTotal_25 hl (by decide) rfl (fun ls hl => ?_)
      have hl : lv_has ls 6 [(5, .int (nI 1)), (3, .long 0), (0, .ref (am 0)), (1, .int fr), (2, .int to)] := hl
      have lp27 : ∀ (n : Nat) (tq : Nat) (x : Int64) (ls : Array Slot), (nv mlog rn + 1 - tq) < n → (1 ≤ tq) → (tq ≤ nv mlog rn + 1) → lv_has ls 6 [(0, .ref (am 0)), (1, .int fr), (2, .int to), (3, .long x), (5, .int (nI tq))] → W P l e (headSpec w_M_rangeTotal ({ frames := 4, cells := 0, slots := 0, locals := 88 })).room s m (([.ref (am 0), .int fr, .int to] : List Value).toArray) below meth c0 H locs 0 0 (MQ below (va_Ql (fun r (u : (Nat → Nat → Int32) × (Nat → Int32) × (Nat → Nat)) => True) (fun (u : (Nat → Nat → Int32) × (Nat → Int32) × (Nat → Nat)) (t : State) => xB (dC, dI) vwCl (mt cm) (xA 9 am s.heap.size) (mw_ am cm (u.2.1 0) mw mwr mfl mact on cut (nI rn) mlog mlive had mser mcur mrd mwt worn pg pla sou fou) t) (xA 9 am s.heap.size)) (([.ref (am 0), .int fr, .int to] : List Value).toArray) s 0 0 (xA 9 am s.heap.size)) (F0 m 27 ls []) := by
        intro n
        induction n with
        | zero => intro tq x ls hm; intros; omega
        | succ n ih27 =>
          intro tq x ls hm ht1 ht2 hl
          refine lv_iload hx hb d_M_rangeTotal_27 (lv_at hl 4 rfl) ?_
          refine lv_aload_n hx hb d_M_rangeTotal_29 rfl (lv_at hl 0 rfl) ?_
          refine vp_callSi (va_runV (C := R_M) (As := []) (rest := [.int (nI tq)]) ⟨hx, hb, hml, hown, hts⟩ (c_M_tickets l dC dI am cm (nI 0) mw mwr mfl mact on cut (nI rn) mlog mlive had mser mcur mrd mwt worn pg pla sou fou rn (by first | omega | rfl | assumption | decide)) (cwV 0 hts (g_V t_865 t_867 s_39 t_6 t_868) rfl rfl rfl (by decide +kernel) ⟨by decide, by decide⟩) (xR_v hP hK hN 0 rfl rfl) rfl rfl hl.1 rfl (lv_room (Nat.le_of_ble_eq_true rfl)) d_M_rangeTotal_30 ⟨Nat.le_refl _, Nat.le_refl _⟩).run (fun r30 q30 => ?_)
          have q30 := q30.symm
          subst q30
          have hnv30 := nv_le mlog rn
          refine lv_icmp_gt (tgt := 77) hx hb d_M_rangeTotal_33 (by decide) (fun c33 => ?_) (fun c33 => ?_)
          ·
            have c33 := cd_gt_t (by omega) (by omega) c33
            refine lv_lload_n hx hb d_M_rangeTotal_77 rfl (lv_at hl 3 rfl) ?_
            exact W.lret (v := x) hx hb hr (fun t ht hW => ⟨⟨x, (fun i => [].getD i (fun _ => 0), fun i => [nI 0].getD i 0, fun i => [].getD i 0), rfl, by first | rfl | trivial | omega, ⟨by rw [ht]; exact hP, va_K.moved hW.alike hK, hD⟩⟩, hS.F ht⟩) hS.2.2 d_M_rangeTotal_78
          ·
            have c33 := cd_gt_f (by omega) (by omega) c33
            refine lv_iload hx hb d_M_rangeTotal_36 (lv_at hl 4 rfl) ?_
            refine lv_iload_n hx hb d_M_rangeTotal_38 rfl (lv_at hl 1 rfl) ?_
            refine lv_icmp_lt (tgt := 71) hx hb d_M_rangeTotal_39 (by decide) (fun c39 => ?_) (fun c39 => ?_)
            ·
              refine lv_iinc (k := 4) (v := nI (tq + 1)) hx hb d_M_rangeTotal_71 hl rfl (nI_1 _) (by decide) rfl (fun ls hl => ?_)
              have hl : lv_has ls 6 [(5, .int (nI (tq + 1))), (0, .ref (am 0)), (1, .int fr), (2, .int to), (3, .long x)] := hl
              refine lv_goto (tgt := 27) hx hb d_M_rangeTotal_74 (by decide) ?_
              exact ih27 (tq + 1) x ls (by omega) (by omega) (by omega) (lv_sub hl [1, 2, 3, 4, 0] rfl)
            ·
              refine lv_iload hx hb d_M_rangeTotal_42 (lv_at hl 4 rfl) ?_
              refine lv_iload_n hx hb d_M_rangeTotal_44 rfl (lv_at hl 2 rfl) ?_
              refine lv_icmp_gt (tgt := 71) hx hb d_M_rangeTotal_45 (by decide) (fun c45 => ?_) (fun c45 => ?_)
              ·
                refine lv_iinc (k := 4) (v := nI (tq + 1)) hx hb d_M_rangeTotal_71 hl rfl (nI_1 _) (by decide) rfl (fun ls hl => ?_)
                have hl : lv_has ls 6 [(5, .int (nI (tq + 1))), (0, .ref (am 0)), (1, .int fr), (2, .int to), (3, .long x)] := hl
                refine lv_goto (tgt := 27) hx hb d_M_rangeTotal_74 (by decide) ?_
                exact ih27 (tq + 1) x ls (by omega) (by omega) (by omega) (lv_sub hl [1, 2, 3, 4, 0] rfl)
              ·
                refine lv_aload_n hx hb d_M_rangeTotal_48 rfl (lv_at hl 0 rfl) ?_
                refine lv_iload hx hb d_M_rangeTotal_49 (lv_at hl 4 rfl) ?_
                refine vp_callSi (va_runV (C := R_M) (As := [.int (nI tq)]) (rest := []) ⟨hx, hb, hml, hown, hts⟩ (c_M_voided l dC dI am cm (nI 0) mw mwr mfl mact on cut (nI rn) mlog mlive had mser mcur mrd mwt worn pg pla sou fou rn (nI tq) (by first | omega | rfl | assumption | decide)) (cwV 1 hts (g_V t_885 t_887 s_43 t_6 t_888) rfl rfl rfl (by decide +kernel) ⟨by decide, by decide⟩) (xR_v hP hK hN 0 rfl rfl) rfl rfl hl.1 rfl (lv_room (Nat.le_of_ble_eq_true rfl)) d_M_rangeTotal_51 ⟨Nat.le_refl _, Nat.le_refl _⟩).run (fun r51 q51 => ?_)
                have hk51 := q51
                refine lv_if_ne (tgt := 71) hx hb d_M_rangeTotal_54 (by decide) (fun c54 => ?_) (fun c54 => ?_)
                ·
                  refine lv_iinc (k := 4) (v := nI (tq + 1)) hx hb d_M_rangeTotal_71 hl rfl (nI_1 _) (by decide) rfl (fun ls hl => ?_)
                  have hl : lv_has ls 6 [(5, .int (nI (tq + 1))), (0, .ref (am 0)), (1, .int fr), (2, .int to), (3, .long x)] := hl
                  refine lv_goto (tgt := 27) hx hb d_M_rangeTotal_74 (by decide) ?_
                  exact ih27 (tq + 1) x ls (by omega) (by omega) (by omega) (lv_sub hl [1, 2, 3, 4, 0] rfl)
                ·
                  refine lv_lload_n hx hb d_M_rangeTotal_57 rfl (lv_at hl 3 rfl) ?_
                  refine lv_aload_n hx hb d_M_rangeTotal_58 rfl (lv_at hl 0 rfl) ?_
                  refine lv_aload_n hx hb d_M_rangeTotal_59 rfl (lv_at hl 0 rfl) ?_
                  refine lv_iload hx hb d_M_rangeTotal_60 (lv_at hl 4 rfl) ?_
                  refine vp_callSi (va_runV (C := R_M) (As := [.int (nI tq)]) (rest := [.ref (am 0), .long x]) ⟨hx, hb, hml, hown, hts⟩ (c_M_placeOf l dC dI am cm (nI 0) mw mwr mfl mact on cut (nI rn) mlog mlive had mser mcur mrd mwt worn pg pla sou fou rn (nI tq) (by first | omega | rfl | assumption | decide)) (cwV 1 hts (g_V t_881 t_883 s_42 t_6 t_884) rfl rfl rfl (by decide +kernel) ⟨by decide, by decide⟩) (xR_v hP hK hN 0 rfl rfl) rfl rfl hl.1 rfl (lv_room (Nat.le_of_ble_eq_true rfl)) d_M_rangeTotal_62 ⟨Nat.le_refl _, Nat.le_refl _⟩).run (fun r62 q62 => ?_)
                  rcases q62 with ⟨p62, hp62, rfl⟩ | ⟨rfl, hno62⟩
                  ·
                    refine vp_callSi (va_runV (C := R_M) (As := [.int (nI p62)]) (rest := [.long x]) ⟨hx, hb, hml, hown, hts⟩ (c_M_net l dC dI am cm (nI 0) mw mwr mfl mact on cut (nI rn) mlog mlive had mser mcur mrd mwt worn pg pla sou fou p62 (by first | omega | rfl | assumption | decide)) (cwV 1 hts (g_V t_907 t_909 s_45 t_6 t_910) rfl rfl rfl (by decide +kernel) ⟨by decide, by decide⟩) (xR_v hP hK hN 0 rfl rfl) rfl rfl hl.1 rfl (lv_room (Nat.le_of_ble_eq_true rfl)) d_M_rangeTotal_65 ⟨Nat.le_refl _, Nat.le_refl _⟩).run (fun r65 q65 => ?_)
                    have hk65 := q65
                    refine lv_i2l (v := r65.toInt64) hx hb d_M_rangeTotal_68 rfl ?_
                    refine lv_ladd hx hb d_M_rangeTotal_69 ?_
                    refine lv_lstore_n hx hb d_M_rangeTotal_70 rfl hl (by decide) rfl (fun ls hl => ?_)
                    have hl : lv_has ls 6 [(3, .long (x + r65.toInt64)), (0, .ref (am 0)), (1, .int fr), (2, .int to), (5, .int (nI tq))] := hl
                    refine lv_iinc (k := 4) (v := nI (tq + 1)) hx hb d_M_rangeTotal_71 hl rfl (nI_1 _) (by decide) rfl (fun ls hl => ?_)
                    have hl : lv_has ls 6 [(5, .int (nI (tq + 1))), (3, .long (x + r65.toInt64)), (0, .ref (am 0)), (1, .int fr), (2, .int to)] := hl
                    refine lv_goto (tgt := 27) hx hb d_M_rangeTotal_74 (by decide) ?_
                    exact ih27 (tq + 1) (x + r65.toInt64) ls (by omega) (by omega) (by omega) (lv_sub hl [2, 3, 4, 1, 0] rfl)
                  ·
                    exact absurd rfl (hno62 tq (by omega) (by omega))
      exact lp27 _ 1 0 ls (Nat.lt_succ_self _) (by omega) (by omega) (lv_sub hl [2, 3, 4, 1, 0] rfl)
    ·
      exact absurd c17 (by decide)
  ·
    refine lv_iconst (v := nI 1) hx hb d_M_rangeTotal_9 (by decide) ?_
    refine lv_goto (tgt := 14) hx hb d_M_rangeTotal_10 (by decide) ?_
    have hSz := hS.1
    refine va_calli (va_runV (C := R_M) (As := [.int (nI 1), .int (nI 1)]) (rest := []) ⟨hx, hb, hml, hown, hts⟩ (c_M_fails_1 l dC dI am cm s.heap.size th mw mwr mfl mact on cut (nI rn) mlog mlive had mser mcur mrd mwt worn pg pla sou fou (nI 1) ) (cwV 2 hts (g_V t_784 t_786 s_22 t_6 t_787) rfl rfl rfl (by decide +kernel) ⟨by decide, by decide⟩) (xP_v hP hK hD hN 0 rfl rfl) rfl rfl hl.1 rfl (lv_room (Nat.le_of_ble_eq_true rfl)) d_M_rangeTotal_14 ⟨Nat.le_refl _, Nat.le_refl _⟩) hS (fun q _ h => xA_up hS.1 q h) (fun q h => xA_up hS.1 q h) (fun r14 u14 t H1 locs1 ht hvm q14 hB hz1 hk1 hS => ?_)
    obtain ⟨hP1, hK1, hD1⟩ := hB
    rw [ht] at hP1
    have hD : va_D (xA 9 am s.heap.size) (mw_ am cm (nI 1) mw mwr mfl mact on cut (nI rn) mlog mlive had mser mcur mrd mwt worn pg pla sou fou) := hD1.weaken (fun _ q _ h => xA_up hSz _ h)
    have hP : va_P (dC, dI) vwCl (mw_ am cm (nI 1) mw mwr mfl mact on cut (nI rn) mlog mlive had mser mcur mrd mwt worn pg pla sou fou) H1 := hP1
    generalize H1 = H at hP hS ⊢
    generalize locs1 = locs at hS ⊢
    have q14 := q14.symm
    subst q14
    refine lv_if_eq (tgt := 22) hx hb d_M_rangeTotal_17 (by decide) (fun c17 => ?_) (fun c17 => ?_)
    ·
      exact absurd c17 (by decide)
    ·
      refine lv_lconst (v := 0) hx hb d_M_rangeTotal_20 (by decide) ?_
      exact W.lret (v := 0) hx hb hr (fun t ht hW => ⟨⟨0, (fun i => [].getD i (fun _ => 0), fun i => [nI 1].getD i 0, fun i => [].getD i 0), rfl, by first | rfl | trivial | omega, ⟨by rw [ht]; exact hP, va_K.moved hW.alike hK, hD⟩⟩, hS.F ht⟩) hS.2.2 d_M_rangeTotal_21
set_option maxHeartbeats 4000000 in
set_option maxRecDepth 100000 in
theorem c_M_find (l : Launch) (dC : Nat → ClassId) (dI : Nat → Nat → Nat) (am cm : Nat → Nat) (sz : Nat) (th : Int32) (mw mwr mfl mact : Nat → Int32) (on cut mrec : Int32) (mlog mlive had : Nat → Int32) (mser mcur mrd mwt worn : Int32) (pg : Nat → Int32) (pla sou fou : Int32) (rn : Nat) (pl : Int32) (fr : Int32) (hr48 : rn ≤ 48) : Met l y_M_find w_M_find ({ frames := 3, cells := 0, slots := 0, locals := 66 }) (xP (dC, dI) vwCl (mt cm) (mw_ am cm th mw mwr mfl mact on cut (nI rn) mlog mlive had mser mcur mrd mwt worn pg pla sou fou) sz [.ref (am 0), .int pl, .int fr]) (va_Qi (fun r (u : (Nat → Nat → Int32) × (Nat → Int32) × (Nat → Nat)) => True) (fun (u : (Nat → Nat → Int32) × (Nat → Int32) × (Nat → Nat)) (t : State) => xB (dC, dI) vwCl (mt cm) (xA 9 am sz) (mw_ am cm (u.2.1 0) mw mwr mfl mact on cut (nI rn) mlog mlive had mser mcur mrd mwt worn pg pla sou fou) t) (xA 9 am sz)) 0 0 (xA 9 am sz) := by
  refine Met.ofW (cc := b_M_find) (maxL := 4) (ret := (some (.int))) (by decide) rfl ?_
  intro P e s m args below meth c0 s₁ B hml hv
  obtain ⟨rfl, hsz, hP, hK, hD0, hN⟩ := hv
  have hx := B.exec
  have hb := B.bytes
  have hr := B.returns
  have hts := atoms_spec (ws := w_M_find) B.pre
  have hown : s.vm.findClass R_M = some m.cls := findClass_of_methodNamed B.named
  have hlocks := B.notSynchronized
  subst hsz
  have hD := mw_D (sz := s.heap.size) hD0
  have hS : va_S (xA 9 am s.heap.size) s.heap s.heap [] := va_S.rf
  have hA : ∀ q : Nat, s.heap.size ≤ q → (xA 9 am s.heap.size) q := fun q h => Or.inr h
  have hl := lv_entry ([.ref (am 0), .int pl, .int fr]) (n := 4) (Nat.le_of_ble_eq_true rfl)
  rw [lg_entry_eq]
  generalize (lg_sl ([.ref (am 0), .int pl, .int fr]) ++ List.replicate (4 - (lg_sl ([.ref (am 0), .int pl, .int fr])).length) Slot.unset).toArray = ls at hl ⊢
  have hl : lv_has ls 4 [(0, .ref (am 0)), (1, .int pl), (2, .int fr)] := hl
  have hnv0 := nv_le mlog rn
  refine lv_aload_n hx hb d_M_find_0 rfl (lv_at hl 0 rfl) ?_
  refine lv_iconst (v := nI 1) hx hb d_M_find_1 (by decide) ?_
  refine lv_aload_n hx hb d_M_find_2 rfl (lv_at hl 0 rfl) ?_
  refine va_get (D := (dC, dI)) (ci := 5) (v := .int on) (C := R_M) (T := F_M) (N := 20) hx hb hts (fun w h => List.mem_cons_of_mem _ (in_M w h)) hown hK hP 0 rfl rfl 5 (by decide) (hts (.fieldLink R_M 23 R_M "on" "Z") (List.mem_cons_of_mem _ t_717)) (fun _ h9 => h9) rfl d_M_find_3 ?_
  refine lv_if_ne (tgt := 13) hx hb d_M_find_6 (by decide) (fun c6 => ?_) (fun c6 => ?_)
  ·
    refine lv_iconst (v := nI 0) hx hb d_M_find_13 (by decide) ?_
    have hSz := hS.1
    refine va_calli (va_runV (C := R_M) (As := [.int (nI 1), .int (nI 0)]) (rest := []) ⟨hx, hb, hml, hown, hts⟩ (c_M_fails_0 l dC dI am cm s.heap.size th mw mwr mfl mact on cut (nI rn) mlog mlive had mser mcur mrd mwt worn pg pla sou fou (nI 1) ) (cwV 2 hts (g_V t_784 t_786 s_22 t_6 t_787) rfl rfl rfl (by decide +kernel) ⟨by decide, by decide⟩) (xP_v hP hK hD hN 0 rfl rfl) rfl rfl hl.1 rfl (lv_room (Nat.le_of_ble_eq_true rfl)) d_M_find_14 ⟨Nat.le_refl _, Nat.le_refl _⟩) hS (fun q _ h => xA_up hS.1 q h) (fun q h => xA_up hS.1 q h) (fun r14 u14 t H1 locs1 ht hvm q14 hB hz1 hk1 hS => ?_)
    obtain ⟨hP1, hK1, hD1⟩ := hB
    rw [ht] at hP1
    have hD : va_D (xA 9 am s.heap.size) (mw_ am cm (nI 0) mw mwr mfl mact on cut (nI rn) mlog mlive had mser mcur mrd mwt worn pg pla sou fou) := hD1.weaken (fun _ q _ h => xA_up hSz _ h)
    have hP : va_P (dC, dI) vwCl (mw_ am cm (nI 0) mw mwr mfl mact on cut (nI rn) mlog mlive had mser mcur mrd mwt worn pg pla sou fou) H1 := hP1
    generalize H1 = H at hP hS ⊢
    generalize locs1 = locs at hS ⊢
    have q14 := q14.symm
    subst q14
    refine lv_if_eq (tgt := 22) hx hb d_M_find_17 (by decide) (fun c17 => ?_) (fun c17 => ?_)
    ·
      refine lv_iconst (v := nI 1) hx hb d_M_find_22 (by decide) ?_
      refine lv_istore_n hx hb d_M_find_23 rfl hl (by decide) rfl (fun ls hl => ?_)
      have hl : lv_has ls 4 [(3, .int (nI 1)), (0, .ref (am 0)), (1, .int pl), (2, .int fr)] := hl
      have lp24 : ∀ (n : Nat) (tq : Nat) (ls : Array Slot), (nv mlog rn + 1 - tq) < n → (1 ≤ tq) → (tq ≤ nv mlog rn + 1) → lv_has ls 4 [(0, .ref (am 0)), (1, .int pl), (2, .int fr), (3, .int (nI tq))] → W P l e (headSpec w_M_find ({ frames := 3, cells := 0, slots := 0, locals := 66 })).room s m (([.ref (am 0), .int pl, .int fr] : List Value).toArray) below meth c0 H locs 0 0 (MQ below (va_Qi (fun r (u : (Nat → Nat → Int32) × (Nat → Int32) × (Nat → Nat)) => True) (fun (u : (Nat → Nat → Int32) × (Nat → Int32) × (Nat → Nat)) (t : State) => xB (dC, dI) vwCl (mt cm) (xA 9 am s.heap.size) (mw_ am cm (u.2.1 0) mw mwr mfl mact on cut (nI rn) mlog mlive had mser mcur mrd mwt worn pg pla sou fou) t) (xA 9 am s.heap.size)) (([.ref (am 0), .int pl, .int fr] : List Value).toArray) s 0 0 (xA 9 am s.heap.size)) (F0 m 24 ls []) := by
        intro n
        induction n with
        | zero => intro tq ls hm; intros; omega
        | succ n ih24 =>
          intro tq ls hm ht1 ht2 hl
          refine lv_iload_n hx hb d_M_find_24 rfl (lv_at hl 3 rfl) ?_
          refine lv_aload_n hx hb d_M_find_25 rfl (lv_at hl 0 rfl) ?_
          refine vp_callSi (va_runV (C := R_M) (As := []) (rest := [.int (nI tq)]) ⟨hx, hb, hml, hown, hts⟩ (c_M_tickets l dC dI am cm (nI 0) mw mwr mfl mact on cut (nI rn) mlog mlive had mser mcur mrd mwt worn pg pla sou fou rn (by first | omega | rfl | assumption | decide)) (cwV 0 hts (g_V t_865 t_867 s_39 t_6 t_868) rfl rfl rfl (by decide +kernel) ⟨by decide, by decide⟩) (xR_v hP hK hN 0 rfl rfl) rfl rfl hl.1 rfl (lv_room (Nat.le_of_ble_eq_true rfl)) d_M_find_26 ⟨Nat.le_refl _, Nat.le_refl _⟩).run (fun r26 q26 => ?_)
          have q26 := q26.symm
          subst q26
          have hnv26 := nv_le mlog rn
          refine lv_icmp_gt (tgt := 59) hx hb d_M_find_29 (by decide) (fun c29 => ?_) (fun c29 => ?_)
          ·
            have c29 := cd_gt_t (by omega) (by omega) c29
            refine lv_iconst (v := nI 0) hx hb d_M_find_59 (by decide) ?_
            exact W.iret (v := nI 0) hx hb hr (fun t ht hW => ⟨⟨nI 0, (fun i => [].getD i (fun _ => 0), fun i => [nI 0].getD i 0, fun i => [].getD i 0), rfl, by first | rfl | trivial | omega, ⟨by rw [ht]; exact hP, va_K.moved hW.alike hK, hD⟩⟩, hS.F ht⟩) hS.2.2 d_M_find_60
          ·
            have c29 := cd_gt_f (by omega) (by omega) c29
            refine lv_iload_n hx hb d_M_find_32 rfl (lv_at hl 3 rfl) ?_
            refine lv_iload_n hx hb d_M_find_33 rfl (lv_at hl 2 rfl) ?_
            refine lv_icmp_lt (tgt := 53) hx hb d_M_find_34 (by decide) (fun c34 => ?_) (fun c34 => ?_)
            ·
              refine lv_iinc (k := 3) (v := nI (tq + 1)) hx hb d_M_find_53 hl rfl (nI_1 _) (by decide) rfl (fun ls hl => ?_)
              have hl : lv_has ls 4 [(3, .int (nI (tq + 1))), (0, .ref (am 0)), (1, .int pl), (2, .int fr)] := hl
              refine lv_goto (tgt := 24) hx hb d_M_find_56 (by decide) ?_
              exact ih24 (tq + 1) ls (by omega) (by omega) (by omega) (lv_sub hl [1, 2, 3, 0] rfl)
            ·
              refine lv_aload_n hx hb d_M_find_37 rfl (lv_at hl 0 rfl) ?_
              refine lv_aload_n hx hb d_M_find_38 rfl (lv_at hl 0 rfl) ?_
              refine lv_iload_n hx hb d_M_find_39 rfl (lv_at hl 3 rfl) ?_
              refine vp_callSi (va_runV (C := R_M) (As := [.int (nI tq)]) (rest := [.ref (am 0)]) ⟨hx, hb, hml, hown, hts⟩ (c_M_placeOf l dC dI am cm (nI 0) mw mwr mfl mact on cut (nI rn) mlog mlive had mser mcur mrd mwt worn pg pla sou fou rn (nI tq) (by first | omega | rfl | assumption | decide)) (cwV 1 hts (g_V t_881 t_883 s_42 t_6 t_884) rfl rfl rfl (by decide +kernel) ⟨by decide, by decide⟩) (xR_v hP hK hN 0 rfl rfl) rfl rfl hl.1 rfl (lv_room (Nat.le_of_ble_eq_true rfl)) d_M_find_40 ⟨Nat.le_refl _, Nat.le_refl _⟩).run (fun r40 q40 => ?_)
              rcases q40 with ⟨p40, hp40, rfl⟩ | ⟨rfl, hno40⟩
              ·
                refine lv_iconst (v := nI 0) hx hb d_M_find_43 (by decide) ?_
                refine vp_callSi (va_runV (C := R_M) (As := [.int (nI p40), .int (nI 0)]) (rest := []) ⟨hx, hb, hml, hown, hts⟩ (c_M_at l dC dI am cm (nI 0) mw mwr mfl mact on cut (nI rn) mlog mlive had mser mcur mrd mwt worn pg pla sou fou p40 0 (by first | omega | rfl | assumption | decide)) (cwV 2 hts (g_V t_873 t_875 s_41 t_6 t_876) rfl rfl rfl (by decide +kernel) ⟨by decide, by decide⟩) (xR_v hP hK hN 0 rfl rfl) rfl rfl hl.1 rfl (lv_room (Nat.le_of_ble_eq_true rfl)) d_M_find_44 ⟨Nat.le_refl _, Nat.le_refl _⟩).run (fun r44 q44 => ?_)
                have q44 := q44.symm
                subst q44
                refine lv_iload_n hx hb d_M_find_47 rfl (lv_at hl 1 rfl) ?_
                refine lv_icmp_ne (tgt := 53) hx hb d_M_find_48 (by decide) (fun c48 => ?_) (fun c48 => ?_)
                ·
                  refine lv_iinc (k := 3) (v := nI (tq + 1)) hx hb d_M_find_53 hl rfl (nI_1 _) (by decide) rfl (fun ls hl => ?_)
                  have hl : lv_has ls 4 [(3, .int (nI (tq + 1))), (0, .ref (am 0)), (1, .int pl), (2, .int fr)] := hl
                  refine lv_goto (tgt := 24) hx hb d_M_find_56 (by decide) ?_
                  exact ih24 (tq + 1) ls (by omega) (by omega) (by omega) (lv_sub hl [1, 2, 3, 0] rfl)
                ·
                  refine lv_iload_n hx hb d_M_find_51 rfl (lv_at hl 3 rfl) ?_
                  exact W.iret (v := nI tq) hx hb hr (fun t ht hW => ⟨⟨nI tq, (fun i => [].getD i (fun _ => 0), fun i => [nI 0].getD i 0, fun i => [].getD i 0), rfl, by first | rfl | trivial | omega, ⟨by rw [ht]; exact hP, va_K.moved hW.alike hK, hD⟩⟩, hS.F ht⟩) hS.2.2 d_M_find_52
              ·
                exact absurd rfl (hno40 tq (by omega) (by omega))
      exact lp24 _ 1 ls (Nat.lt_succ_self _) (by omega) (by omega) (lv_sub hl [1, 2, 3, 0] rfl)
    ·
      exact absurd c17 (by decide)
  ·
    refine lv_iconst (v := nI 1) hx hb d_M_find_9 (by decide) ?_
    refine lv_goto (tgt := 14) hx hb d_M_find_10 (by decide) ?_
    have hSz := hS.1
    refine va_calli (va_runV (C := R_M) (As := [.int (nI 1), .int (nI 1)]) (rest := []) ⟨hx, hb, hml, hown, hts⟩ (c_M_fails_1 l dC dI am cm s.heap.size th mw mwr mfl mact on cut (nI rn) mlog mlive had mser mcur mrd mwt worn pg pla sou fou (nI 1) ) (cwV 2 hts (g_V t_784 t_786 s_22 t_6 t_787) rfl rfl rfl (by decide +kernel) ⟨by decide, by decide⟩) (xP_v hP hK hD hN 0 rfl rfl) rfl rfl hl.1 rfl (lv_room (Nat.le_of_ble_eq_true rfl)) d_M_find_14 ⟨Nat.le_refl _, Nat.le_refl _⟩) hS (fun q _ h => xA_up hS.1 q h) (fun q h => xA_up hS.1 q h) (fun r14 u14 t H1 locs1 ht hvm q14 hB hz1 hk1 hS => ?_)
    obtain ⟨hP1, hK1, hD1⟩ := hB
    rw [ht] at hP1
    have hD : va_D (xA 9 am s.heap.size) (mw_ am cm (nI 1) mw mwr mfl mact on cut (nI rn) mlog mlive had mser mcur mrd mwt worn pg pla sou fou) := hD1.weaken (fun _ q _ h => xA_up hSz _ h)
    have hP : va_P (dC, dI) vwCl (mw_ am cm (nI 1) mw mwr mfl mact on cut (nI rn) mlog mlive had mser mcur mrd mwt worn pg pla sou fou) H1 := hP1
    generalize H1 = H at hP hS ⊢
    generalize locs1 = locs at hS ⊢
    have q14 := q14.symm
    subst q14
    refine lv_if_eq (tgt := 22) hx hb d_M_find_17 (by decide) (fun c17 => ?_) (fun c17 => ?_)
    ·
      exact absurd c17 (by decide)
    ·
      refine lv_iconst (v := nI 0) hx hb d_M_find_20 (by decide) ?_
      exact W.iret (v := nI 0) hx hb hr (fun t ht hW => ⟨⟨nI 0, (fun i => [].getD i (fun _ => 0), fun i => [nI 1].getD i 0, fun i => [].getD i 0), rfl, by first | rfl | trivial | omega, ⟨by rw [ht]; exact hP, va_K.moved hW.alike hK, hD⟩⟩, hS.F ht⟩) hS.2.2 d_M_find_21
set_option maxHeartbeats 4000000 in
set_option maxRecDepth 100000 in
theorem c_M_onChip (l : Launch) (dC : Nat → ClassId) (dI : Nat → Nat → Nat) (am cm : Nat → Nat) (th : Int32) (mw mwr mfl mact : Nat → Int32) (on cut mrec : Int32) (mlog mlive had : Nat → Int32) (mser mcur mrd mwt worn : Int32) (pg : Nat → Int32) (pla sou fou : Int32) (q : Nat) (hq : q < 48) (hlq : IX 32 (mlive (q / 3))) : Met l y_M_onChip w_M_onChip ({ frames := 0, cells := 0, slots := 0, locals := 0 }) (xR (dC, dI) vwCl (mt cm) (mw_ am cm th mw mwr mfl mact on cut mrec mlog mlive had mser mcur mrd mwt worn pg pla sou fou) [.ref (am 0), .int (nI q)]) (vp_Si (fun r => ∃ a : Nat, a + 4 ≤ 512 ∧ r = nI a)) 0 0 (fun _ => False) := by
  refine Met.ofW (cc := b_M_onChip) (maxL := 2) (ret := (some (.int))) (by decide) rfl ?_
  intro P e s m args below meth c0 s₁ B hml hv
  obtain ⟨rfl, hP, hK, hN⟩ := hv
  have hx := B.exec
  have hb := B.bytes
  have hr := B.returns
  have hts := atoms_spec (ws := w_M_onChip) B.pre
  have hown : s.vm.findClass R_M = some m.cls := findClass_of_methodNamed B.named
  have hlocks := B.notSynchronized
  have hl := lv_entry ([.ref (am 0), .int (nI q)]) (n := 2) (Nat.le_of_ble_eq_true rfl)
  rw [lg_entry_eq]
  generalize (lg_sl ([.ref (am 0), .int (nI q)]) ++ List.replicate (2 - (lg_sl ([.ref (am 0), .int (nI q)])).length) Slot.unset).toArray = ls at hl ⊢
  have hl : lv_has ls 2 [(0, .ref (am 0)), (1, .int (nI q))] := hl
  refine lv_bipush (v := nI 16) hx hb d_M_onChip_0 (by decide) ?_
  refine lv_aload_n hx hb d_M_onChip_2 rfl (lv_at hl 0 rfl) ?_
  refine va_get (D := (dC, dI)) (ci := 5) (v := .ref (am 6)) (C := R_M) (T := F_M) (N := 20) hx hb hts (fun w h => List.mem_cons_of_mem _ (in_M w h)) hown hK hP 0 rfl rfl 9 (by decide) (hts (.fieldLink R_M 34 R_M "live" "[I") (List.mem_cons_of_mem _ t_721)) (fun _ h9 => h9) rfl d_M_onChip_3 ?_
  refine lv_iload_n hx hb d_M_onChip_6 rfl (lv_at hl 1 rfl) ?_
  refine lv_iconst (v := nI 3) hx hb d_M_onChip_7 (by decide) ?_
  refine lv_idiv hx hb d_M_onChip_8 (by decide) ?_
  refine tp_i (y := nI (q / 3)) (pk_div (by omega) (by omega) (by omega)) ?_
  refine va_iald hx hb hK hP 6 5 rfl rfl (vp_in_nI (by omega) (by decide)) d_M_onChip_9 ?_
  refine tp_i (y := mlive (q / 3)) (by rw [nI_clamp (by omega)]) ?_
  obtain ⟨p, hhp, ep⟩ := hlq
  refine tp_i (y := nI p) (ep) ?_
  refine lv_imul hx hb d_M_onChip_10 ?_
  refine tp_i (y := nI (16 * p)) (pk_mul _ _) ?_
  refine lv_iconst (v := nI 2) hx hb d_M_onChip_11 (by decide) ?_
  refine lv_iadd hx hb d_M_onChip_12 ?_
  refine tp_i (y := nI ((16 * p) + 2)) (nI_add _ _) ?_
  refine lv_iconst (v := nI 4) hx hb d_M_onChip_13 (by decide) ?_
  refine lv_iload_n hx hb d_M_onChip_14 rfl (lv_at hl 1 rfl) ?_
  refine lv_iconst (v := nI 3) hx hb d_M_onChip_15 (by decide) ?_
  refine lv_irem hx hb d_M_onChip_16 (by decide) ?_
  refine tp_i (y := nI (q % 3)) (pk_rem (by omega) (by omega) (by omega)) ?_
  refine lv_imul hx hb d_M_onChip_17 ?_
  refine tp_i (y := nI (4 * (q % 3))) (pk_mul _ _) ?_
  refine lv_iadd hx hb d_M_onChip_18 ?_
  refine tp_i (y := nI (((16 * p) + 2) + (4 * (q % 3)))) (nI_add _ _) ?_
  exact W.iret (v := nI (((16 * p) + 2) + (4 * (q % 3)))) hx hb hr (fun t ht hW => ⟨nI (((16 * p) + 2) + (4 * (q % 3))), rfl, ⟨16 * p + 2 + 4 * (q % 3), by omega, rfl⟩, ht⟩) (fun q hq => by cases hq) d_M_onChip_19
set_option maxHeartbeats 4000000 in
set_option maxRecDepth 100000 in
theorem c_M_isBad (l : Launch) (dC : Nat → ClassId) (dI : Nat → Nat → Nat) (am cm : Nat → Nat) (th : Int32) (mw mwr mfl mact : Nat → Int32) (on cut mrec : Int32) (mlog mlive had : Nat → Int32) (mser mcur mrd mwt worn : Int32) (pg : Nat → Int32) (pla sou fou : Int32) (rn : Nat) (q : Nat) (hmi : MI rn mlive mcur) (hq : q < rn) : Met l y_M_isBad w_M_isBad ({ frames := 3, cells := 0, slots := 0, locals := 69 }) (xR (dC, dI) vwCl (mt cm) (mw_ am cm th mw mwr mfl mact on cut (nI rn) mlog mlive had mser mcur mrd mwt worn pg pla sou fou) [.ref (am 0), .int (nI q)]) (vp_Si (fun r => B01 r)) 0 0 (fun _ => False) := by
  refine Met.ofW (cc := b_M_isBad) (maxL := 3) (ret := (some (.boolean))) (by decide) rfl ?_
  intro P e s m args below meth c0 s₁ B hml hv
  obtain ⟨rfl, hP, hK, hN⟩ := hv
  have hx := B.exec
  have hb := B.bytes
  have hr := B.returns
  have hts := atoms_spec (ws := w_M_isBad) B.pre
  have hown : s.vm.findClass R_M = some m.cls := findClass_of_methodNamed B.named
  have hlocks := B.notSynchronized
  have hl := lv_entry ([.ref (am 0), .int (nI q)]) (n := 3) (Nat.le_of_ble_eq_true rfl)
  rw [lg_entry_eq]
  generalize (lg_sl ([.ref (am 0), .int (nI q)]) ++ List.replicate (3 - (lg_sl ([.ref (am 0), .int (nI q)])).length) Slot.unset).toArray = ls at hl ⊢
  have hl : lv_has ls 3 [(0, .ref (am 0)), (1, .int (nI q))] := hl
  have h48 := hmi.1
  refine lv_aload_n hx hb d_M_isBad_0 rfl (lv_at hl 0 rfl) ?_
  refine va_get (D := (dC, dI)) (ci := 5) (v := .ref (am 6)) (C := R_M) (T := F_M) (N := 20) hx hb hts (fun w h => List.mem_cons_of_mem _ (in_M w h)) hown hK hP 0 rfl rfl 9 (by decide) (hts (.fieldLink R_M 34 R_M "live" "[I") (List.mem_cons_of_mem _ t_721)) (fun _ h9 => h9) rfl d_M_isBad_1 ?_
  refine lv_iload_n hx hb d_M_isBad_4 rfl (lv_at hl 1 rfl) ?_
  refine lv_iconst (v := nI 3) hx hb d_M_isBad_5 (by decide) ?_
  refine lv_idiv hx hb d_M_isBad_6 (by decide) ?_
  refine tp_i (y := nI (q / 3)) (pk_div (by omega) (by omega) (by omega)) ?_
  refine va_iald hx hb hK hP 6 5 rfl rfl (vp_in_nI (by omega) (by decide)) d_M_isBad_7 ?_
  refine tp_i (y := mlive (q / 3)) (by rw [nI_clamp (by omega)]) ?_
  rcases (show PG 32 (mlive (q / 3)) from hmi.2.1 _ (by omega)) with etop | ⟨p, hhp, etop⟩
  ·
    refine tp_i (y := (-1)) etop ?_
    refine lv_if_lt (tgt := 29) hx hb d_M_isBad_8 (by decide) (fun c8 => ?_) (fun c8 => ?_)
    ·
      refine lv_iconst (v := nI 0) hx hb d_M_isBad_29 (by decide) ?_
      exact W.zret (v := nI 0) hx hb hr (by first | rfl | decide | assumption) (fun t ht hW => ⟨nI 0, rfl, by first | exact Or.inl rfl | exact Or.inr rfl | assumption, ht⟩) (fun q hq => by cases hq) d_M_isBad_30
    ·
      exact absurd c8 (by decide)
  ·
    refine tp_i (y := nI p) etop ?_
    refine lv_if_lt (tgt := 29) hx hb d_M_isBad_8 (by decide) (fun c8 => ?_) (fun c8 => ?_)
    ·
      exact (cz_lt_t (by omega) c8).elim
    ·
      have c8 := cz_lt_f (by omega) c8
      refine lv_iload_n hx hb d_M_isBad_11 rfl (lv_at hl 1 rfl) ?_
      refine lv_iconst (v := nI 3) hx hb d_M_isBad_12 (by decide) ?_
      refine lv_iload_n hx hb d_M_isBad_13 rfl (lv_at hl 1 rfl) ?_
      refine lv_iconst (v := nI 3) hx hb d_M_isBad_14 (by decide) ?_
      refine lv_idiv hx hb d_M_isBad_15 (by decide) ?_
      refine tp_i (y := nI (q / 3)) (pk_div (by omega) (by omega) (by omega)) ?_
      refine lv_imul hx hb d_M_isBad_16 ?_
      refine tp_i (y := nI (3 * (q / 3))) (pk_mul _ _) ?_
      refine lv_aload_n hx hb d_M_isBad_17 rfl (lv_at hl 0 rfl) ?_
      refine va_get (D := (dC, dI)) (ci := 5) (v := .ref (am 7)) (C := R_M) (T := F_M) (N := 20) hx hb hts (fun w h => List.mem_cons_of_mem _ (in_M w h)) hown hK hP 0 rfl rfl 10 (by decide) (hts (.fieldLink R_M 37 R_M "had" "[I") (List.mem_cons_of_mem _ t_722)) (fun _ h9 => h9) rfl d_M_isBad_18 ?_
      refine lv_iload_n hx hb d_M_isBad_21 rfl (lv_at hl 1 rfl) ?_
      refine lv_iconst (v := nI 3) hx hb d_M_isBad_22 (by decide) ?_
      refine lv_idiv hx hb d_M_isBad_23 (by decide) ?_
      refine tp_i (y := nI (q / 3)) (pk_div (by omega) (by omega) (by omega)) ?_
      refine va_iald hx hb hK hP 7 6 rfl rfl (vp_in_nI (by omega) (by decide)) d_M_isBad_24 ?_
      refine tp_i (y := had (q / 3)) (by rw [nI_clamp (by omega)]) ?_
      refine lv_iadd hx hb d_M_isBad_25 ?_
      refine lv_icmp_lt (tgt := 31) hx hb d_M_isBad_26 (by decide) (fun c26 => ?_) (fun c26 => ?_)
      ·
        refine lv_aload_n hx hb d_M_isBad_31 rfl (lv_at hl 0 rfl) ?_
        refine lv_aload_n hx hb d_M_isBad_32 rfl (lv_at hl 0 rfl) ?_
        refine va_get (D := (dC, dI)) (ci := 5) (v := .ref (am 6)) (C := R_M) (T := F_M) (N := 20) hx hb hts (fun w h => List.mem_cons_of_mem _ (in_M w h)) hown hK hP 0 rfl rfl 9 (by decide) (hts (.fieldLink R_M 34 R_M "live" "[I") (List.mem_cons_of_mem _ t_721)) (fun _ h9 => h9) rfl d_M_isBad_33 ?_
        refine lv_iload_n hx hb d_M_isBad_36 rfl (lv_at hl 1 rfl) ?_
        refine lv_iconst (v := nI 3) hx hb d_M_isBad_37 (by decide) ?_
        refine lv_idiv hx hb d_M_isBad_38 (by decide) ?_
        refine tp_i (y := nI (q / 3)) (pk_div (by omega) (by omega) (by omega)) ?_
        refine va_iald hx hb hK hP 6 5 rfl rfl (vp_in_nI (by omega) (by decide)) d_M_isBad_39 ?_
        refine tp_i (y := mlive (q / 3)) (by rw [nI_clamp (by omega)]) ?_
        refine tp_i (y := nI p) (etop) ?_
        refine vp_callSi (va_runV (C := R_M) (As := [.int (nI p)]) (rest := []) ⟨hx, hb, hml, hown, hts⟩ (c_M_isRight l dC dI am cm th mw mwr mfl mact on cut (nI rn) mlog mlive had mser mcur mrd mwt worn pg pla sou fou p (by first | omega | rfl | assumption | decide)) (cwV 1 hts (g_V t_927 t_929 s_47 t_6 t_930) rfl rfl rfl (by decide +kernel) ⟨by decide, by decide⟩) (xR_v hP hK hN 0 rfl rfl) rfl rfl hl.1 rfl (lv_room (Nat.le_of_ble_eq_true rfl)) d_M_isBad_40 ⟨Nat.le_refl _, Nat.le_refl _⟩).run (fun r40 q40 => ?_)
        rcases q40 with ⟨rfl, hrt40⟩ | rfl
        ·
          refine lv_if_ne (tgt := 48) hx hb d_M_isBad_43 (by decide) (fun c43 => ?_) (fun c43 => ?_)
          ·
            refine lv_iload_n hx hb d_M_isBad_48 rfl (lv_at hl 1 rfl) ?_
            refine lv_if_ne (tgt := 58) hx hb d_M_isBad_49 (by decide) (fun c49 => ?_) (fun c49 => ?_)
            ·
              have c49 := cz_ne_t (by omega) c49
              refine lv_aload_n hx hb d_M_isBad_58 rfl (lv_at hl 0 rfl) ?_
              refine lv_aload_n hx hb d_M_isBad_59 rfl (lv_at hl 0 rfl) ?_
              refine va_get (D := (dC, dI)) (ci := 5) (v := .ref (am 1)) (C := R_M) (T := F_M) (N := 20) hx hb hts (fun w h => List.mem_cons_of_mem _ (in_M w h)) hown hK hP 0 rfl rfl 1 (by decide) (hts (.fieldLink R_M 7 R_M "chip" "[I") (List.mem_cons_of_mem _ t_713)) (fun _ h9 => h9) rfl d_M_isBad_60 ?_
              refine lv_aload_n hx hb d_M_isBad_63 rfl (lv_at hl 0 rfl) ?_
              refine lv_iload_n hx hb d_M_isBad_64 rfl (lv_at hl 1 rfl) ?_
              refine lv_iconst (v := nI 1) hx hb d_M_isBad_65 (by decide) ?_
              refine lv_isub hx hb d_M_isBad_66 ?_
              refine tp_i (y := nI (q - 1)) (pk_sub (by omega)) ?_
              refine vp_callSi (va_runV (C := R_M) (As := [.int (nI (q - 1))]) (rest := [.ref (am 1), .ref (am 0)]) ⟨hx, hb, hml, hown, hts⟩ (c_M_onChip l dC dI am cm th mw mwr mfl mact on cut (nI rn) mlog mlive had mser mcur mrd mwt worn pg pla sou fou (q - 1) (by first | omega | rfl | assumption | decide) (hmi.before hq etop hhp (by omega))) (cwV 1 hts (g_V t_931 t_933 s_48 t_6 t_934) rfl rfl rfl (by decide +kernel) ⟨by decide, by decide⟩) (xR_v hP hK hN 0 rfl rfl) rfl rfl hl.1 rfl (lv_room (Nat.le_of_ble_eq_true rfl)) d_M_isBad_67 ⟨Nat.le_refl _, Nat.le_refl _⟩).run (fun r67 q67 => ?_)
              obtain ⟨a67, ha67, rfl⟩ := q67
              refine lv_iconst (v := nI 4) hx hb d_M_isBad_70 (by decide) ?_
              refine vp_callSi (va_runV (C := R_M) (As := [.ref (am 1), .int (nI a67), .int (nI 4)]) (rest := []) ⟨hx, hb, hml, hown, hts⟩ (c_M_sumOf_c l dC dI am cm th mw mwr mfl mact on cut (nI rn) mlog mlive had mser mcur mrd mwt worn pg pla sou fou a67 4 (by first | omega | rfl | assumption | decide)) (cwV 3 hts (g_V t_800 t_802 s_24 t_6 t_803) rfl rfl rfl (by decide +kernel) ⟨by decide, by decide⟩) (xR_v hP hK hN 0 rfl rfl) rfl rfl hl.1 rfl (lv_room (Nat.le_of_ble_eq_true rfl)) d_M_isBad_71 ⟨Nat.le_refl _, Nat.le_refl _⟩).run (fun r71 q71 => ?_)
              refine lv_istore_n hx hb d_M_isBad_74 rfl hl (by decide) rfl (fun ls hl => ?_)
              have hl : lv_has ls 3 [(2, .int r71), (0, .ref (am 0)), (1, .int (nI q))] := hl
              refine lv_aload_n hx hb d_M_isBad_75 rfl (lv_at hl 1 rfl) ?_
              refine va_get (D := (dC, dI)) (ci := 5) (v := .ref (am 1)) (C := R_M) (T := F_M) (N := 20) hx hb hts (fun w h => List.mem_cons_of_mem _ (in_M w h)) hown hK hP 0 rfl rfl 1 (by decide) (hts (.fieldLink R_M 7 R_M "chip" "[I") (List.mem_cons_of_mem _ t_713)) (fun _ h9 => h9) rfl d_M_isBad_76 ?_
              refine lv_aload_n hx hb d_M_isBad_79 rfl (lv_at hl 1 rfl) ?_
              refine lv_iload_n hx hb d_M_isBad_80 rfl (lv_at hl 2 rfl) ?_
              refine vp_callSi (va_runV (C := R_M) (As := [.int (nI q)]) (rest := [.ref (am 1)]) ⟨hx, hb, hml, hown, hts⟩ (c_M_onChip l dC dI am cm th mw mwr mfl mact on cut (nI rn) mlog mlive had mser mcur mrd mwt worn pg pla sou fou q (by first | omega | rfl | assumption | decide) (⟨p, hhp, etop⟩)) (cwV 1 hts (g_V t_931 t_933 s_48 t_6 t_934) rfl rfl rfl (by decide +kernel) ⟨by decide, by decide⟩) (xR_v hP hK hN 0 rfl rfl) rfl rfl hl.1 rfl (lv_room (Nat.le_of_ble_eq_true rfl)) d_M_isBad_81 ⟨Nat.le_refl _, Nat.le_refl _⟩).run (fun r81 q81 => ?_)
              obtain ⟨a81, ha81, rfl⟩ := q81
              refine lv_iconst (v := nI 3) hx hb d_M_isBad_84 (by decide) ?_
              refine lv_iadd hx hb d_M_isBad_85 ?_
              refine tp_i (y := nI (a81 + 3)) (nI_add _ _) ?_
              refine va_iald hx hb hK hP 1 0 rfl rfl (vp_in_nI (by omega) (by decide)) d_M_isBad_86 ?_
              refine tp_i (y := mw (a81 + 3)) (by rw [nI_clamp (by omega)]) ?_
              refine lv_iload_n hx hb d_M_isBad_87 rfl (lv_at hl 0 rfl) ?_
              refine lv_icmp_eq (tgt := 95) hx hb d_M_isBad_88 (by decide) (fun c88 => ?_) (fun c88 => ?_)
              ·
                refine lv_iconst (v := nI 0) hx hb d_M_isBad_95 (by decide) ?_
                exact W.zret (v := nI 0) hx hb hr (by first | rfl | decide | assumption) (fun t ht hW => ⟨nI 0, rfl, by first | exact Or.inl rfl | exact Or.inr rfl | assumption, ht⟩) (fun q hq => by cases hq) d_M_isBad_96
              ·
                refine lv_iconst (v := nI 1) hx hb d_M_isBad_91 (by decide) ?_
                refine lv_goto (tgt := 96) hx hb d_M_isBad_92 (by decide) ?_
                exact W.zret (v := nI 1) hx hb hr (by first | rfl | decide | assumption) (fun t ht hW => ⟨nI 1, rfl, by first | exact Or.inl rfl | exact Or.inr rfl | assumption, ht⟩) (fun q hq => by cases hq) d_M_isBad_96
            ·
              have c49 := cz_ne_f (by omega) c49
              refine lv_sipush (v := nI 7989) hx hb d_M_isBad_52 (by decide) ?_
              refine lv_goto (tgt := 74) hx hb d_M_isBad_55 (by decide) ?_
              refine lv_istore_n hx hb d_M_isBad_74 rfl hl (by decide) rfl (fun ls hl => ?_)
              have hl : lv_has ls 3 [(2, .int (nI 7989)), (0, .ref (am 0)), (1, .int (nI q))] := hl
              refine lv_aload_n hx hb d_M_isBad_75 rfl (lv_at hl 1 rfl) ?_
              refine va_get (D := (dC, dI)) (ci := 5) (v := .ref (am 1)) (C := R_M) (T := F_M) (N := 20) hx hb hts (fun w h => List.mem_cons_of_mem _ (in_M w h)) hown hK hP 0 rfl rfl 1 (by decide) (hts (.fieldLink R_M 7 R_M "chip" "[I") (List.mem_cons_of_mem _ t_713)) (fun _ h9 => h9) rfl d_M_isBad_76 ?_
              refine lv_aload_n hx hb d_M_isBad_79 rfl (lv_at hl 1 rfl) ?_
              refine lv_iload_n hx hb d_M_isBad_80 rfl (lv_at hl 2 rfl) ?_
              refine vp_callSi (va_runV (C := R_M) (As := [.int (nI q)]) (rest := [.ref (am 1)]) ⟨hx, hb, hml, hown, hts⟩ (c_M_onChip l dC dI am cm th mw mwr mfl mact on cut (nI rn) mlog mlive had mser mcur mrd mwt worn pg pla sou fou q (by first | omega | rfl | assumption | decide) (⟨p, hhp, etop⟩)) (cwV 1 hts (g_V t_931 t_933 s_48 t_6 t_934) rfl rfl rfl (by decide +kernel) ⟨by decide, by decide⟩) (xR_v hP hK hN 0 rfl rfl) rfl rfl hl.1 rfl (lv_room (Nat.le_of_ble_eq_true rfl)) d_M_isBad_81 ⟨Nat.le_refl _, Nat.le_refl _⟩).run (fun r81 q81 => ?_)
              obtain ⟨a81, ha81, rfl⟩ := q81
              refine lv_iconst (v := nI 3) hx hb d_M_isBad_84 (by decide) ?_
              refine lv_iadd hx hb d_M_isBad_85 ?_
              refine tp_i (y := nI (a81 + 3)) (nI_add _ _) ?_
              refine va_iald hx hb hK hP 1 0 rfl rfl (vp_in_nI (by omega) (by decide)) d_M_isBad_86 ?_
              refine tp_i (y := mw (a81 + 3)) (by rw [nI_clamp (by omega)]) ?_
              refine lv_iload_n hx hb d_M_isBad_87 rfl (lv_at hl 0 rfl) ?_
              refine lv_icmp_eq (tgt := 95) hx hb d_M_isBad_88 (by decide) (fun c88 => ?_) (fun c88 => ?_)
              ·
                refine lv_iconst (v := nI 0) hx hb d_M_isBad_95 (by decide) ?_
                exact W.zret (v := nI 0) hx hb hr (by first | rfl | decide | assumption) (fun t ht hW => ⟨nI 0, rfl, by first | exact Or.inl rfl | exact Or.inr rfl | assumption, ht⟩) (fun q hq => by cases hq) d_M_isBad_96
              ·
                refine lv_iconst (v := nI 1) hx hb d_M_isBad_91 (by decide) ?_
                refine lv_goto (tgt := 96) hx hb d_M_isBad_92 (by decide) ?_
                exact W.zret (v := nI 1) hx hb hr (by first | rfl | decide | assumption) (fun t ht hW => ⟨nI 1, rfl, by first | exact Or.inl rfl | exact Or.inr rfl | assumption, ht⟩) (fun q hq => by cases hq) d_M_isBad_96
          ·
            exact absurd c43 (by decide)
        ·
          refine lv_if_ne (tgt := 48) hx hb d_M_isBad_43 (by decide) (fun c43 => ?_) (fun c43 => ?_)
          ·
            exact absurd c43 (by decide)
          ·
            refine lv_iconst (v := nI 1) hx hb d_M_isBad_46 (by decide) ?_
            exact W.zret (v := nI 1) hx hb hr (by first | rfl | decide | assumption) (fun t ht hW => ⟨nI 1, rfl, by first | exact Or.inl rfl | exact Or.inr rfl | assumption, ht⟩) (fun q hq => by cases hq) d_M_isBad_47
      ·
        refine lv_iconst (v := nI 0) hx hb d_M_isBad_29 (by decide) ?_
        exact W.zret (v := nI 0) hx hb hr (by first | rfl | decide | assumption) (fun t ht hW => ⟨nI 0, rfl, by first | exact Or.inl rfl | exact Or.inr rfl | assumption, ht⟩) (fun q hq => by cases hq) d_M_isBad_30
set_option maxHeartbeats 4000000 in
set_option maxRecDepth 100000 in
theorem c_M_audit (l : Launch) (dC : Nat → ClassId) (dI : Nat → Nat → Nat) (am cm : Nat → Nat) (sz : Nat) (th : Int32) (mw mwr mfl mact : Nat → Int32) (on cut mrec : Int32) (mlog mlive had : Nat → Int32) (mser mcur mrd mwt worn : Int32) (pg : Nat → Int32) (pla sou fou : Int32) (rn : Nat) (fr : Int32) (to : Int32) (hmi : MI rn mlive mcur) : Met l y_M_audit w_M_audit ({ frames := 4, cells := 0, slots := 0, locals := 91 }) (xP (dC, dI) vwCl (mt cm) (mw_ am cm th mw mwr mfl mact on cut (nI rn) mlog mlive had mser mcur mrd mwt worn pg pla sou fou) sz [.ref (am 0), .int fr, .int to]) (va_Qi (fun r (u : (Nat → Nat → Int32) × (Nat → Int32) × (Nat → Nat)) => True) (fun (u : (Nat → Nat → Int32) × (Nat → Int32) × (Nat → Nat)) (t : State) => xB (dC, dI) vwCl (mt cm) (xA 9 am sz) (mw_ am cm (u.2.1 0) mw mwr mfl mact on cut (nI rn) mlog mlive had mser mcur mrd mwt worn pg pla sou fou) t) (xA 9 am sz)) 0 0 (xA 9 am sz) := by
  refine Met.ofW (cc := b_M_audit) (maxL := 4) (ret := (some (.int))) (by decide) rfl ?_
  intro P e s m args below meth c0 s₁ B hml hv
  obtain ⟨rfl, hsz, hP, hK, hD0, hN⟩ := hv
  have hx := B.exec
  have hb := B.bytes
  have hr := B.returns
  have hts := atoms_spec (ws := w_M_audit) B.pre
  have hown : s.vm.findClass R_M = some m.cls := findClass_of_methodNamed B.named
  have hlocks := B.notSynchronized
  subst hsz
  have hD := mw_D (sz := s.heap.size) hD0
  have hS : va_S (xA 9 am s.heap.size) s.heap s.heap [] := va_S.rf
  have hA : ∀ q : Nat, s.heap.size ≤ q → (xA 9 am s.heap.size) q := fun q h => Or.inr h
  have hl := lv_entry ([.ref (am 0), .int fr, .int to]) (n := 4) (Nat.le_of_ble_eq_true rfl)
  rw [lg_entry_eq]
  generalize (lg_sl ([.ref (am 0), .int fr, .int to]) ++ List.replicate (4 - (lg_sl ([.ref (am 0), .int fr, .int to])).length) Slot.unset).toArray = ls at hl ⊢
  have hl : lv_has ls 4 [(0, .ref (am 0)), (1, .int fr), (2, .int to)] := hl
  have hnv0 := nv_le mlog rn
  have h48 := hmi.1
  refine lv_aload_n hx hb d_M_audit_0 rfl (lv_at hl 0 rfl) ?_
  refine lv_iconst (v := nI 1) hx hb d_M_audit_1 (by decide) ?_
  refine lv_aload_n hx hb d_M_audit_2 rfl (lv_at hl 0 rfl) ?_
  refine va_get (D := (dC, dI)) (ci := 5) (v := .int on) (C := R_M) (T := F_M) (N := 20) hx hb hts (fun w h => List.mem_cons_of_mem _ (in_M w h)) hown hK hP 0 rfl rfl 5 (by decide) (hts (.fieldLink R_M 23 R_M "on" "Z") (List.mem_cons_of_mem _ t_717)) (fun _ h9 => h9) rfl d_M_audit_3 ?_
  refine lv_if_ne (tgt := 13) hx hb d_M_audit_6 (by decide) (fun c6 => ?_) (fun c6 => ?_)
  ·
    refine lv_iconst (v := nI 0) hx hb d_M_audit_13 (by decide) ?_
    have hSz := hS.1
    refine va_calli (va_runV (C := R_M) (As := [.int (nI 1), .int (nI 0)]) (rest := []) ⟨hx, hb, hml, hown, hts⟩ (c_M_fails_0 l dC dI am cm s.heap.size th mw mwr mfl mact on cut (nI rn) mlog mlive had mser mcur mrd mwt worn pg pla sou fou (nI 1) ) (cwV 2 hts (g_V t_784 t_786 s_22 t_6 t_787) rfl rfl rfl (by decide +kernel) ⟨by decide, by decide⟩) (xP_v hP hK hD hN 0 rfl rfl) rfl rfl hl.1 rfl (lv_room (Nat.le_of_ble_eq_true rfl)) d_M_audit_14 ⟨Nat.le_refl _, Nat.le_refl _⟩) hS (fun q _ h => xA_up hS.1 q h) (fun q h => xA_up hS.1 q h) (fun r14 u14 t H1 locs1 ht hvm q14 hB hz1 hk1 hS => ?_)
    obtain ⟨hP1, hK1, hD1⟩ := hB
    rw [ht] at hP1
    have hD : va_D (xA 9 am s.heap.size) (mw_ am cm (nI 0) mw mwr mfl mact on cut (nI rn) mlog mlive had mser mcur mrd mwt worn pg pla sou fou) := hD1.weaken (fun _ q _ h => xA_up hSz _ h)
    have hP : va_P (dC, dI) vwCl (mw_ am cm (nI 0) mw mwr mfl mact on cut (nI rn) mlog mlive had mser mcur mrd mwt worn pg pla sou fou) H1 := hP1
    generalize H1 = H at hP hS ⊢
    generalize locs1 = locs at hS ⊢
    have q14 := q14.symm
    subst q14
    refine lv_if_eq (tgt := 22) hx hb d_M_audit_17 (by decide) (fun c17 => ?_) (fun c17 => ?_)
    ·
      refine lv_iconst (v := nI 1) hx hb d_M_audit_22 (by decide) ?_
      refine lv_istore_n hx hb d_M_audit_23 rfl hl (by decide) rfl (fun ls hl => ?_)
      have hl : lv_has ls 4 [(3, .int (nI 1)), (0, .ref (am 0)), (1, .int fr), (2, .int to)] := hl
      have lp24 : ∀ (n : Nat) (tq : Nat) (ls : Array Slot), (nv mlog rn + 1 - tq) < n → (1 ≤ tq) → (tq ≤ nv mlog rn + 1) → lv_has ls 4 [(0, .ref (am 0)), (1, .int fr), (2, .int to), (3, .int (nI tq))] → W P l e (headSpec w_M_audit ({ frames := 4, cells := 0, slots := 0, locals := 91 })).room s m (([.ref (am 0), .int fr, .int to] : List Value).toArray) below meth c0 H locs 0 0 (MQ below (va_Qi (fun r (u : (Nat → Nat → Int32) × (Nat → Int32) × (Nat → Nat)) => True) (fun (u : (Nat → Nat → Int32) × (Nat → Int32) × (Nat → Nat)) (t : State) => xB (dC, dI) vwCl (mt cm) (xA 9 am s.heap.size) (mw_ am cm (u.2.1 0) mw mwr mfl mact on cut (nI rn) mlog mlive had mser mcur mrd mwt worn pg pla sou fou) t) (xA 9 am s.heap.size)) (([.ref (am 0), .int fr, .int to] : List Value).toArray) s 0 0 (xA 9 am s.heap.size)) (F0 m 24 ls []) := by
        intro n
        induction n with
        | zero => intro tq ls hm; intros; omega
        | succ n ih24 =>
          intro tq ls hm ht1 ht2 hl
          refine lv_iload_n hx hb d_M_audit_24 rfl (lv_at hl 3 rfl) ?_
          refine lv_aload_n hx hb d_M_audit_25 rfl (lv_at hl 0 rfl) ?_
          refine vp_callSi (va_runV (C := R_M) (As := []) (rest := [.int (nI tq)]) ⟨hx, hb, hml, hown, hts⟩ (c_M_tickets l dC dI am cm (nI 0) mw mwr mfl mact on cut (nI rn) mlog mlive had mser mcur mrd mwt worn pg pla sou fou rn (by first | omega | rfl | assumption | decide)) (cwV 0 hts (g_V t_865 t_867 s_39 t_6 t_868) rfl rfl rfl (by decide +kernel) ⟨by decide, by decide⟩) (xR_v hP hK hN 0 rfl rfl) rfl rfl hl.1 rfl (lv_room (Nat.le_of_ble_eq_true rfl)) d_M_audit_26 ⟨Nat.le_refl _, Nat.le_refl _⟩).run (fun r26 q26 => ?_)
          have q26 := q26.symm
          subst q26
          have hnv26 := nv_le mlog rn
          refine lv_icmp_gt (tgt := 62) hx hb d_M_audit_29 (by decide) (fun c29 => ?_) (fun c29 => ?_)
          ·
            have c29 := cd_gt_t (by omega) (by omega) c29
            refine lv_iconst (v := nI 0) hx hb d_M_audit_62 (by decide) ?_
            exact W.iret (v := nI 0) hx hb hr (fun t ht hW => ⟨⟨nI 0, (fun i => [].getD i (fun _ => 0), fun i => [nI 0].getD i 0, fun i => [].getD i 0), rfl, by first | rfl | trivial | omega, ⟨by rw [ht]; exact hP, va_K.moved hW.alike hK, hD⟩⟩, hS.F ht⟩) hS.2.2 d_M_audit_63
          ·
            have c29 := cd_gt_f (by omega) (by omega) c29
            refine lv_iload_n hx hb d_M_audit_32 rfl (lv_at hl 3 rfl) ?_
            refine lv_iload_n hx hb d_M_audit_33 rfl (lv_at hl 1 rfl) ?_
            refine lv_icmp_lt (tgt := 56) hx hb d_M_audit_34 (by decide) (fun c34 => ?_) (fun c34 => ?_)
            ·
              refine lv_iinc (k := 3) (v := nI (tq + 1)) hx hb d_M_audit_56 hl rfl (nI_1 _) (by decide) rfl (fun ls hl => ?_)
              have hl : lv_has ls 4 [(3, .int (nI (tq + 1))), (0, .ref (am 0)), (1, .int fr), (2, .int to)] := hl
              refine lv_goto (tgt := 24) hx hb d_M_audit_59 (by decide) ?_
              exact ih24 (tq + 1) ls (by omega) (by omega) (by omega) (lv_sub hl [1, 2, 3, 0] rfl)
            ·
              refine lv_iload_n hx hb d_M_audit_37 rfl (lv_at hl 3 rfl) ?_
              refine lv_iload_n hx hb d_M_audit_38 rfl (lv_at hl 2 rfl) ?_
              refine lv_icmp_gt (tgt := 56) hx hb d_M_audit_39 (by decide) (fun c39 => ?_) (fun c39 => ?_)
              ·
                refine lv_iinc (k := 3) (v := nI (tq + 1)) hx hb d_M_audit_56 hl rfl (nI_1 _) (by decide) rfl (fun ls hl => ?_)
                have hl : lv_has ls 4 [(3, .int (nI (tq + 1))), (0, .ref (am 0)), (1, .int fr), (2, .int to)] := hl
                refine lv_goto (tgt := 24) hx hb d_M_audit_59 (by decide) ?_
                exact ih24 (tq + 1) ls (by omega) (by omega) (by omega) (lv_sub hl [1, 2, 3, 0] rfl)
              ·
                refine lv_aload_n hx hb d_M_audit_42 rfl (lv_at hl 0 rfl) ?_
                refine lv_aload_n hx hb d_M_audit_43 rfl (lv_at hl 0 rfl) ?_
                refine lv_iload_n hx hb d_M_audit_44 rfl (lv_at hl 3 rfl) ?_
                refine vp_callSi (va_runV (C := R_M) (As := [.int (nI tq)]) (rest := [.ref (am 0)]) ⟨hx, hb, hml, hown, hts⟩ (c_M_placeOf l dC dI am cm (nI 0) mw mwr mfl mact on cut (nI rn) mlog mlive had mser mcur mrd mwt worn pg pla sou fou rn (nI tq) (by first | omega | rfl | assumption | decide)) (cwV 1 hts (g_V t_881 t_883 s_42 t_6 t_884) rfl rfl rfl (by decide +kernel) ⟨by decide, by decide⟩) (xR_v hP hK hN 0 rfl rfl) rfl rfl hl.1 rfl (lv_room (Nat.le_of_ble_eq_true rfl)) d_M_audit_45 ⟨Nat.le_refl _, Nat.le_refl _⟩).run (fun r45 q45 => ?_)
                rcases q45 with ⟨p45, hp45, rfl⟩ | ⟨rfl, hno45⟩
                ·
                  refine vp_callSi (va_runV (C := R_M) (As := [.int (nI p45)]) (rest := []) ⟨hx, hb, hml, hown, hts⟩ (c_M_isBad l dC dI am cm (nI 0) mw mwr mfl mact on cut (nI rn) mlog mlive had mser mcur mrd mwt worn pg pla sou fou rn p45 (by first | omega | rfl | assumption | decide) (by first | omega | rfl | assumption | decide)) (cwV 1 hts (g_V t_923 t_925 s_46 t_6 t_926) rfl rfl rfl (by decide +kernel) ⟨by decide, by decide⟩) (xR_v hP hK hN 0 rfl rfl) rfl rfl hl.1 rfl (lv_room (Nat.le_of_ble_eq_true rfl)) d_M_audit_48 ⟨Nat.le_refl _, Nat.le_refl _⟩).run (fun r48 q48 => ?_)
                  have hk48 := q48
                  refine lv_if_eq (tgt := 56) hx hb d_M_audit_51 (by decide) (fun c51 => ?_) (fun c51 => ?_)
                  ·
                    refine lv_iinc (k := 3) (v := nI (tq + 1)) hx hb d_M_audit_56 hl rfl (nI_1 _) (by decide) rfl (fun ls hl => ?_)
                    have hl : lv_has ls 4 [(3, .int (nI (tq + 1))), (0, .ref (am 0)), (1, .int fr), (2, .int to)] := hl
                    refine lv_goto (tgt := 24) hx hb d_M_audit_59 (by decide) ?_
                    exact ih24 (tq + 1) ls (by omega) (by omega) (by omega) (lv_sub hl [1, 2, 3, 0] rfl)
                  ·
                    refine lv_iload_n hx hb d_M_audit_54 rfl (lv_at hl 3 rfl) ?_
                    exact W.iret (v := nI tq) hx hb hr (fun t ht hW => ⟨⟨nI tq, (fun i => [].getD i (fun _ => 0), fun i => [nI 0].getD i 0, fun i => [].getD i 0), rfl, by first | rfl | trivial | omega, ⟨by rw [ht]; exact hP, va_K.moved hW.alike hK, hD⟩⟩, hS.F ht⟩) hS.2.2 d_M_audit_55
                ·
                  exact absurd rfl (hno45 tq (by omega) (by omega))
      exact lp24 _ 1 ls (Nat.lt_succ_self _) (by omega) (by omega) (lv_sub hl [1, 2, 3, 0] rfl)
    ·
      exact absurd c17 (by decide)
  ·
    refine lv_iconst (v := nI 1) hx hb d_M_audit_9 (by decide) ?_
    refine lv_goto (tgt := 14) hx hb d_M_audit_10 (by decide) ?_
    have hSz := hS.1
    refine va_calli (va_runV (C := R_M) (As := [.int (nI 1), .int (nI 1)]) (rest := []) ⟨hx, hb, hml, hown, hts⟩ (c_M_fails_1 l dC dI am cm s.heap.size th mw mwr mfl mact on cut (nI rn) mlog mlive had mser mcur mrd mwt worn pg pla sou fou (nI 1) ) (cwV 2 hts (g_V t_784 t_786 s_22 t_6 t_787) rfl rfl rfl (by decide +kernel) ⟨by decide, by decide⟩) (xP_v hP hK hD hN 0 rfl rfl) rfl rfl hl.1 rfl (lv_room (Nat.le_of_ble_eq_true rfl)) d_M_audit_14 ⟨Nat.le_refl _, Nat.le_refl _⟩) hS (fun q _ h => xA_up hS.1 q h) (fun q h => xA_up hS.1 q h) (fun r14 u14 t H1 locs1 ht hvm q14 hB hz1 hk1 hS => ?_)
    obtain ⟨hP1, hK1, hD1⟩ := hB
    rw [ht] at hP1
    have hD : va_D (xA 9 am s.heap.size) (mw_ am cm (nI 1) mw mwr mfl mact on cut (nI rn) mlog mlive had mser mcur mrd mwt worn pg pla sou fou) := hD1.weaken (fun _ q _ h => xA_up hSz _ h)
    have hP : va_P (dC, dI) vwCl (mw_ am cm (nI 1) mw mwr mfl mact on cut (nI rn) mlog mlive had mser mcur mrd mwt worn pg pla sou fou) H1 := hP1
    generalize H1 = H at hP hS ⊢
    generalize locs1 = locs at hS ⊢
    have q14 := q14.symm
    subst q14
    refine lv_if_eq (tgt := 22) hx hb d_M_audit_17 (by decide) (fun c17 => ?_) (fun c17 => ?_)
    ·
      exact absurd c17 (by decide)
    ·
      refine lv_iconst (v := nI 0) hx hb d_M_audit_20 (by decide) ?_
      exact W.iret (v := nI 0) hx hb hr (fun t ht hW => ⟨⟨nI 0, (fun i => [].getD i (fun _ => 0), fun i => [nI 1].getD i 0, fun i => [].getD i 0), rfl, by first | rfl | trivial | omega, ⟨by rw [ht]; exact hP, va_K.moved hW.alike hK, hD⟩⟩, hS.F ht⟩) hS.2.2 d_M_audit_21
