set_option maxHeartbeats 4000000 in
set_option maxRecDepth 100000 in
theorem c_M_writeLeaf (l : Launch) (dC : Nat → ClassId) (dI : Nat → Nat → Nat) (am cm : Nat → Nat) (sz : Nat) (th : Int32) (mw mwr mfl mact : Nat → Int32) (on cut mrec : Int32) (mlog mlive had : Nat → Int32) (mser mcur mrd mwt worn : Int32) (pg : Nat → Int32) (pla sou fou : Int32) (rn : Nat) (lf : Nat) (nn : Nat) (hmi : MI rn mlive mcur) (hlf : lf < 16) (hnn : 3 * lf ≤ nn) (hn48 : nn ≤ 48) : Met l y_M_writeLeaf w_M_writeLeaf ({ frames := 6, cells := 0, slots := 0, locals := 131 }) (xP (dC, dI) vwCl (mt cm) (mw_ am cm th mw mwr mfl mact on cut (nI rn) mlog mlive had mser mcur mrd mwt worn pg pla sou fou) sz [.ref (am 0), .int (nI lf), .int (nI nn)]) (va_Qi (fun r (u : (Nat → Nat → Int32) × (Nat → Int32) × (Nat → Nat)) => ((r = nI 0 ∧ (u.2.2 0) = rn ∧ (u.1 0) lf ≠ -1) ∨ (r = -1 ∨ r = -2)) ∧ MI (u.2.2 0) (u.1 0) (u.2.1 1)) (fun (u : (Nat → Nat → Int32) × (Nat → Int32) × (Nat → Nat)) (t : State) => xB (dC, dI) vwCl (mt cm) (xA 9 am sz) (mw_ am cm th (u.1 1) (u.1 2) mfl mact (u.2.1 6) (u.2.1 5) (nI (u.2.2 0)) mlog (u.1 0) had (u.2.1 0) (u.2.1 1) (u.2.1 2) (u.2.1 3) (u.2.1 4) (u.1 3) pla sou fou) t) (xA 9 am sz)) 0 0 (xA 9 am sz) := by
  refine Met.ofW (cc := b_M_writeLeaf) (maxL := 6) (ret := (some (.int))) (by decide) rfl ?_
  intro P e s m args below meth c0 s₁ B hml hv
  obtain ⟨rfl, hsz, hP, hK, hD0, hN⟩ := hv
  have hx := B.exec
  have hb := B.bytes
  have hr := B.returns
  have hts := atoms_spec (ws := w_M_writeLeaf) B.pre
  have hown : s.vm.findClass R_M = some m.cls := findClass_of_methodNamed B.named
  have hlocks := B.notSynchronized
  subst hsz
  have hD := mw_D (sz := s.heap.size) hD0
  have hS : va_S (xA 9 am s.heap.size) s.heap s.heap [] := va_S.rf
  have hA : ∀ q : Nat, s.heap.size ≤ q → (xA 9 am s.heap.size) q := fun q h => Or.inr h
  have hl := lv_entry ([.ref (am 0), .int (nI lf), .int (nI nn)]) (n := 6) (Nat.le_of_ble_eq_true rfl)
  rw [lg_entry_eq]
  generalize (lg_sl ([.ref (am 0), .int (nI lf), .int (nI nn)]) ++ List.replicate (6 - (lg_sl ([.ref (am 0), .int (nI lf), .int (nI nn)])).length) Slot.unset).toArray = ls at hl ⊢
  have hl : lv_has ls 6 [(0, .ref (am 0)), (1, .int (nI lf)), (2, .int (nI nn))] := hl
  refine lv_aload_n hx hb d_M_writeLeaf_0 rfl (lv_at hl 0 rfl) ?_
  refine va_get (D := (dC, dI)) (ci := 5) (v := .int worn) (C := R_M) (T := F_M) (N := 20) hx hb hts (fun w h => List.mem_cons_of_mem _ (in_M w h)) hown hK hP 0 rfl rfl 15 (by decide) (hts (.fieldLink R_M 64 R_M "worn" "Z") (List.mem_cons_of_mem _ t_727)) (fun _ h9 => h9) rfl d_M_writeLeaf_1 ?_
  refine lv_if_eq (tgt := 11) hx hb d_M_writeLeaf_4 (by decide) (fun c4 => ?_) (fun c4 => ?_)
  ·
    refine lv_aload_n hx hb d_M_writeLeaf_11 rfl (lv_at hl 0 rfl) ?_
    have hSz := hS.1
    refine va_calli (va_runV (C := R_M) (As := []) (rest := []) ⟨hx, hb, hml, hown, hts⟩ (c_M_makeRoom l dC dI am cm s.heap.size th mw mwr mfl mact on cut (nI rn) mlog mlive had mser mcur mrd mwt worn pg pla sou fou rn (by first | omega | rfl | assumption | decide)) (cwV 0 hts (g_V t_812 t_814 s_26 t_6 t_815) rfl rfl rfl (by decide +kernel) ⟨by decide, by decide⟩) (xP_v hP hK hD hN 0 rfl rfl) rfl rfl hl.1 rfl (lv_room (Nat.le_of_ble_eq_true rfl)) d_M_writeLeaf_12 ⟨Nat.le_refl _, Nat.le_refl _⟩) hS (fun q _ h => xA_up hS.1 q h) (fun q h => xA_up hS.1 q h) (fun r12 u12 t H1 locs1 ht hvm q12 hB hz1 hk1 hS => ?_)
    obtain ⟨hP1, hK1, hD1⟩ := hB
    rw [ht] at hP1
    have hD : va_D (xA 9 am s.heap.size) (mw_ am cm th (u12.1 1) (u12.1 2) mfl mact (u12.2.1 6) (u12.2.1 5) (nI (u12.2.2 0)) mlog (u12.1 0) had (u12.2.1 0) (u12.2.1 1) (u12.2.1 2) (u12.2.1 3) (u12.2.1 4) (u12.1 3) pla sou fou) := hD1.weaken (fun _ q _ h => xA_up hSz _ h)
    have hP : va_P (dC, dI) vwCl (mw_ am cm th (u12.1 1) (u12.1 2) mfl mact (u12.2.1 6) (u12.2.1 5) (nI (u12.2.2 0)) mlog (u12.1 0) had (u12.2.1 0) (u12.2.1 1) (u12.2.1 2) (u12.2.1 3) (u12.2.1 4) (u12.1 3) pla sou fou) H1 := hP1
    generalize H1 = H at hP hS ⊢
    generalize locs1 = locs at hS ⊢
    rcases q12 with ⟨⟨rfl, er12, cq12, hcq12, ec12, jj12, hjj12, hfp12⟩ | rfl | rfl, hmi⟩
    ·
      refine lv_istore_n hx hb d_M_writeLeaf_15 rfl hl (by decide) rfl (fun ls hl => ?_)
      have hl : lv_has ls 6 [(3, .int (nI 0)), (0, .ref (am 0)), (1, .int (nI lf)), (2, .int (nI nn))] := hl
      refine lv_aload_n hx hb d_M_writeLeaf_16 rfl (lv_at hl 1 rfl) ?_
      refine lv_aload_n hx hb d_M_writeLeaf_17 rfl (lv_at hl 1 rfl) ?_
      refine va_get (D := (dC, dI)) (ci := 5) (v := .int (u12.2.1 4)) (C := R_M) (T := F_M) (N := 20) hx hb hts (fun w h => List.mem_cons_of_mem _ (in_M w h)) hown hK hP 0 rfl rfl 15 (by decide) (hts (.fieldLink R_M 64 R_M "worn" "Z") (List.mem_cons_of_mem _ t_727)) (fun _ h9 => h9) rfl d_M_writeLeaf_18 ?_
      refine lv_if_ne (tgt := 29) hx hb d_M_writeLeaf_21 (by decide) (fun c21 => ?_) (fun c21 => ?_)
      ·
        refine lv_iconst (v := nI 1) hx hb d_M_writeLeaf_29 (by decide) ?_
        refine lv_goto (tgt := 34) hx hb d_M_writeLeaf_30 (by decide) ?_
        refine va_put (D := (dC, dI)) (ci := 5) (v := .int (nI 1)) (ty := .boolean) (C := R_M) (T := F_M) (N := 20) hx hb hts (fun w h => List.mem_cons_of_mem _ (in_M w h)) t_M ok_M nm_M hown hK hP hD hS 0 rfl rfl 15 (by decide) (hts (.fieldLink R_M 64 R_M "worn" "Z") (List.mem_cons_of_mem _ t_727)) (fun _ h9 => h9) rfl (by decide +kernel) (by first | rfl | decide | assumption) rfl (Nat.le_of_ble_eq_true rfl) d_M_writeLeaf_34 (fun H locs hP hD hS => ?_)
        have hP : va_P (dC, dI) vwCl (mw_ am cm th (u12.1 1) (u12.1 2) mfl mact (u12.2.1 6) (u12.2.1 5) (nI (u12.2.2 0)) mlog (u12.1 0) had (u12.2.1 0) (u12.2.1 1) (u12.2.1 2) (u12.2.1 3) (nI 1) (u12.1 3) pla sou fou) H := hP
        have hD : va_D (xA 9 am s.heap.size) (mw_ am cm th (u12.1 1) (u12.1 2) mfl mact (u12.2.1 6) (u12.2.1 5) (nI (u12.2.2 0)) mlog (u12.1 0) had (u12.2.1 0) (u12.2.1 1) (u12.2.1 2) (u12.2.1 3) (nI 1) (u12.1 3) pla sou fou) := hD
        refine lv_iload_n hx hb d_M_writeLeaf_37 rfl (lv_at hl 0 rfl) ?_
        refine lv_if_eq (tgt := 43) hx hb d_M_writeLeaf_38 (by decide) (fun c38 => ?_) (fun c38 => ?_)
        ·
          refine lv_iload_n hx hb d_M_writeLeaf_43 rfl (lv_at hl 3 rfl) ?_
          refine lv_iconst (v := nI 3) hx hb d_M_writeLeaf_44 (by decide) ?_
          refine lv_iload_n hx hb d_M_writeLeaf_45 rfl (lv_at hl 2 rfl) ?_
          refine lv_imul hx hb d_M_writeLeaf_46 ?_
          refine tp_i (y := nI (3 * lf)) (pk_mul _ _) ?_
          refine lv_isub hx hb d_M_writeLeaf_47 ?_
          refine tp_i (y := nI (nn - (3 * lf))) (pk_sub (by omega)) ?_
          refine lv_iconst (v := nI 3) hx hb d_M_writeLeaf_48 (by decide) ?_
          refine lv_icmp_ge (tgt := 60) hx hb d_M_writeLeaf_49 (by decide) (fun c49 => ?_) (fun c49 => ?_)
          ·
            have c49 := cd_ge_t (by omega) (by omega) c49
            refine lv_iconst (v := nI 3) hx hb d_M_writeLeaf_60 (by decide) ?_
            refine lv_istore hx hb d_M_writeLeaf_61 hl (by decide) rfl (fun ls hl => ?_)
            have hl : lv_has ls 6 [(4, .int (nI 3)), (3, .int (nI 0)), (0, .ref (am 0)), (1, .int (nI lf)), (2, .int (nI nn))] := hl
            refine lv_aload_n hx hb d_M_writeLeaf_63 rfl (lv_at hl 2 rfl) ?_
            refine va_get (D := (dC, dI)) (ci := 5) (v := .ref (am 8)) (C := R_M) (T := F_M) (N := 20) hx hb hts (fun w h => List.mem_cons_of_mem _ (in_M w h)) hown hK hP 0 rfl rfl 16 (by decide) (hts (.fieldLink R_M 43 R_M "page" "[I") (List.mem_cons_of_mem _ t_728)) (fun _ h9 => h9) rfl d_M_writeLeaf_64 ?_
            refine lv_iconst (v := nI 0) hx hb d_M_writeLeaf_67 (by decide) ?_
            refine lv_iconst (v := nI 4) hx hb d_M_writeLeaf_68 (by decide) ?_
            refine lv_iload_n hx hb d_M_writeLeaf_69 rfl (lv_at hl 3 rfl) ?_
            refine lv_imul hx hb d_M_writeLeaf_70 ?_
            refine tp_i (y := nI (4 * lf)) (pk_mul _ _) ?_
            refine lv_iload hx hb d_M_writeLeaf_71 (lv_at hl 0 rfl) ?_
            refine lv_iadd hx hb d_M_writeLeaf_73 ?_
            refine tp_i (y := nI ((4 * lf) + 3)) (nI_add _ _) ?_
            refine va_iast hx hb hK hP hD hS 8 7 rfl rfl (vp_in_nI (by omega) (by decide)) d_M_writeLeaf_74 (fun H locs hP hD hS => ?_)
            rw [nI_clamp (by omega)] at hP hD
            have hP : va_P (dC, dI) vwCl (mw_ am cm th (u12.1 1) (u12.1 2) mfl mact (u12.2.1 6) (u12.2.1 5) (nI (u12.2.2 0)) mlog (u12.1 0) had (u12.2.1 0) (u12.2.1 1) (u12.2.1 2) (u12.2.1 3) (nI 1) (upd (u12.1 3) 0 (nI ((4 * lf) + 3))) pla sou fou) H := hP
            have hD : va_D (xA 9 am s.heap.size) (mw_ am cm th (u12.1 1) (u12.1 2) mfl mact (u12.2.1 6) (u12.2.1 5) (nI (u12.2.2 0)) mlog (u12.1 0) had (u12.2.1 0) (u12.2.1 1) (u12.2.1 2) (u12.2.1 3) (nI 1) (upd (u12.1 3) 0 (nI ((4 * lf) + 3))) pla sou fou) := hD
            refine lv_iconst (v := nI 0) hx hb d_M_writeLeaf_75 (by decide) ?_
            refine lv_istore hx hb d_M_writeLeaf_76 hl (by decide) rfl (fun ls hl => ?_)
            have hl : lv_has ls 6 [(5, .int (nI 0)), (4, .int (nI 3)), (3, .int (nI 0)), (0, .ref (am 0)), (1, .int (nI lf)), (2, .int (nI nn))] := hl
            have lp78 : ∀ (n : Nat) (k : Nat) (gv : Nat → Int32) (H : Heap) (locs : List Loc) (ls : Array Slot), (12 - k) < n → (k ≤ 12) → lv_has ls 6 [(0, .ref (am 0)), (1, .int (nI lf)), (2, .int (nI nn)), (4, .int (nI 3)), (5, .int (nI k))] → va_P (dC, dI) vwCl (mw_ am cm th (u12.1 1) (u12.1 2) mfl mact (u12.2.1 6) (u12.2.1 5) (nI (u12.2.2 0)) mlog (u12.1 0) had (u12.2.1 0) (u12.2.1 1) (u12.2.1 2) (u12.2.1 3) (nI 1) gv pla sou fou) H → va_D (xA 9 am s.heap.size) (mw_ am cm th (u12.1 1) (u12.1 2) mfl mact (u12.2.1 6) (u12.2.1 5) (nI (u12.2.2 0)) mlog (u12.1 0) had (u12.2.1 0) (u12.2.1 1) (u12.2.1 2) (u12.2.1 3) (nI 1) gv pla sou fou) → va_S (xA 9 am s.heap.size) s.heap H locs → W P l e (headSpec w_M_writeLeaf ({ frames := 6, cells := 0, slots := 0, locals := 131 })).room s m (([.ref (am 0), .int (nI lf), .int (nI nn)] : List Value).toArray) below meth c0 H locs 0 0 (MQ below (va_Qi (fun r (u : (Nat → Nat → Int32) × (Nat → Int32) × (Nat → Nat)) => ((r = nI 0 ∧ (u.2.2 0) = rn ∧ (u.1 0) lf ≠ -1) ∨ (r = -1 ∨ r = -2)) ∧ MI (u.2.2 0) (u.1 0) (u.2.1 1)) (fun (u : (Nat → Nat → Int32) × (Nat → Int32) × (Nat → Nat)) (t : State) => xB (dC, dI) vwCl (mt cm) (xA 9 am s.heap.size) (mw_ am cm th (u.1 1) (u.1 2) mfl mact (u.2.1 6) (u.2.1 5) (nI (u.2.2 0)) mlog (u.1 0) had (u.2.1 0) (u.2.1 1) (u.2.1 2) (u.2.1 3) (u.2.1 4) (u.1 3) pla sou fou) t) (xA 9 am s.heap.size)) (([.ref (am 0), .int (nI lf), .int (nI nn)] : List Value).toArray) s 0 0 (xA 9 am s.heap.size)) (F0 m 78 ls []) := by
              intro n
              induction n with
              | zero => intro k gv H locs ls hm; intros; omega
              | succ n ih78 =>
                intro k gv H locs ls hm hk hl hP hD hS
                refine lv_iload hx hb d_M_writeLeaf_78 (lv_at hl 4 rfl) ?_
                refine lv_bipush (v := nI 12) hx hb d_M_writeLeaf_80 (by decide) ?_
                refine lv_icmp_ge (tgt := 125) hx hb d_M_writeLeaf_82 (by decide) (fun c82 => ?_) (fun c82 => ?_)
                ·
                  have c82 := cd_ge_t (by omega) (by omega) c82
                  refine lv_aload_n hx hb d_M_writeLeaf_125 rfl (lv_at hl 0 rfl) ?_
                  refine lv_aload_n hx hb d_M_writeLeaf_126 rfl (lv_at hl 0 rfl) ?_
                  refine lv_aload_n hx hb d_M_writeLeaf_127 rfl (lv_at hl 0 rfl) ?_
                  refine va_get (D := (dC, dI)) (ci := 5) (v := .int (u12.2.1 1)) (C := R_M) (T := F_M) (N := 20) hx hb hts (fun w h => List.mem_cons_of_mem _ (in_M w h)) hown hK hP 0 rfl rfl 12 (by decide) (hts (.fieldLink R_M 40 R_M "cursor" "I") (List.mem_cons_of_mem _ t_724)) (fun _ h9 => h9) rfl d_M_writeLeaf_128 ?_
                  refine tp_i (y := nI cq12) (ec12) ?_
                  refine vp_callSi (va_runV (C := R_M) (As := [.int (nI cq12)]) (rest := [.ref (am 0)]) ⟨hx, hb, hml, hown, hts⟩ (c_M_firstFree l dC dI am cm th (u12.1 1) (u12.1 2) mfl mact (u12.2.1 6) (u12.2.1 5) (nI (u12.2.2 0)) mlog (u12.1 0) had (u12.2.1 0) (u12.2.1 1) (u12.2.1 2) (u12.2.1 3) (nI 1) gv pla sou fou cq12 (by first | omega | rfl | assumption | decide)) (cwV 1 hts (g_V t_816 t_818 s_27 t_6 t_819) rfl rfl rfl (by decide +kernel) ⟨by decide, by decide⟩) (xR_v hP hK hN 0 rfl rfl) rfl rfl hl.1 rfl (lv_room (Nat.le_of_ble_eq_true rfl)) d_M_writeLeaf_131 ⟨Nat.le_refl _, Nat.le_refl _⟩).run (fun r131 q131 => ?_)
                  rcases q131 with ⟨j131, hj131, rfl, hf131, hb131⟩ | ⟨rfl, hn131⟩
                  ·
                    refine lv_iload_n hx hb d_M_writeLeaf_134 rfl (lv_at hl 1 rfl) ?_
                    have hSz := hS.1
                    refine va_calli (va_runV (C := R_M) (As := [.int (nI (4 * cq12 + j131)), .int (nI lf)]) (rest := []) ⟨hx, hb, hml, hown, hts⟩ (c_M_write l dC dI am cm H.size th (u12.1 1) (u12.1 2) mfl mact (u12.2.1 6) (u12.2.1 5) (nI (u12.2.2 0)) mlog (u12.1 0) had (u12.2.1 0) (u12.2.1 1) (u12.2.1 2) (u12.2.1 3) (nI 1) gv pla sou fou (u12.2.2 0) (4 * cq12 + j131) lf (by first | omega | rfl | assumption | decide) (by first | omega | rfl | assumption | decide)) (cwV 2 hts (g_V t_844 t_846 s_34 t_6 t_847) rfl rfl rfl (by decide +kernel) ⟨by decide, by decide⟩) (xP_v hP hK hD hN 0 rfl rfl) rfl rfl hl.1 rfl (lv_room (Nat.le_of_ble_eq_true rfl)) d_M_writeLeaf_135 ⟨Nat.le_refl _, Nat.le_refl _⟩) hS (fun q _ h => xA_up hS.1 q h) (fun q h => xA_up hS.1 q h) (fun r135 u135 t H1 locs1 ht hvm q135 hB hz1 hk1 hS => ?_)
                    obtain ⟨hP1, hK1, hD1⟩ := hB
                    rw [ht] at hP1
                    have hD : va_D (xA 9 am s.heap.size) (mw_ am cm th (u135.1 1) (u12.1 2) mfl mact (u135.2.1 6) (u135.2.1 5) (nI (u135.2.2 0)) mlog (u135.1 0) had (u135.2.1 0) (u135.2.1 1) (u135.2.1 2) (u135.2.1 3) (u135.2.1 4) (u135.1 2) pla sou fou) := hD1.weaken (fun _ q _ h => xA_up hSz _ h)
                    have hP : va_P (dC, dI) vwCl (mw_ am cm th (u135.1 1) (u12.1 2) mfl mact (u135.2.1 6) (u135.2.1 5) (nI (u135.2.2 0)) mlog (u135.1 0) had (u135.2.1 0) (u135.2.1 1) (u135.2.1 2) (u135.2.1 3) (u135.2.1 4) (u135.1 2) pla sou fou) H1 := hP1
                    generalize H1 = H at hP hS ⊢
                    generalize locs1 = locs at hS ⊢
                    rcases q135 with ⟨rfl, er135, el135, ec135, ho135⟩ | ⟨rfl, hmi⟩
                    ·
                      refine lv_if_eq (tgt := 145) hx hb d_M_writeLeaf_138 (by decide) (fun c138 => ?_) (fun c138 => ?_)
                      ·
                        exact absurd c138 (by decide)
                      ·
                        refine lv_iconst (v := nI 0) hx hb d_M_writeLeaf_141 (by decide) ?_
                        refine lv_goto (tgt := 147) hx hb d_M_writeLeaf_142 (by decide) ?_
                        exact W.iret (v := nI 0) hx hb hr (fun t ht hW => ⟨⟨nI 0, (fun i => [u135.1 0, u135.1 1, u12.1 2, u135.1 2].getD i (fun _ => 0), fun i => [u135.2.1 0, u135.2.1 1, u135.2.1 2, u135.2.1 3, u135.2.1 4, u135.2.1 5, u135.2.1 6].getD i 0, fun i => [u135.2.2 0].getD i 0), rfl, by first | exact ⟨Or.inr (Or.inl rfl), hmi⟩ | exact ⟨Or.inr (Or.inr rfl), hmi⟩ | exact ⟨Or.inl ⟨rfl, er135.trans er12, put_ne el135 (by omega)⟩, MI.putE hmi (by omega) er135 el135 ec135⟩, ⟨by rw [ht]; exact hP, va_K.moved hW.alike hK, hD⟩⟩, hS.F ht⟩) hS.2.2 d_M_writeLeaf_147
                    ·
                      refine lv_if_eq (tgt := 145) hx hb d_M_writeLeaf_138 (by decide) (fun c138 => ?_) (fun c138 => ?_)
                      ·
                        refine lv_bipush (v := (-2)) hx hb d_M_writeLeaf_145 (by decide) ?_
                        exact W.iret (v := (-2)) hx hb hr (fun t ht hW => ⟨⟨(-2), (fun i => [u135.1 0, u135.1 1, u12.1 2, u135.1 2].getD i (fun _ => 0), fun i => [u135.2.1 0, u135.2.1 1, u135.2.1 2, u135.2.1 3, u135.2.1 4, u135.2.1 5, u135.2.1 6].getD i 0, fun i => [u135.2.2 0].getD i 0), rfl, by first | exact ⟨Or.inr (Or.inl rfl), hmi⟩ | exact ⟨Or.inr (Or.inr rfl), hmi⟩ | exact ⟨Or.inl ⟨rfl, er135.trans er12, put_ne el135 (by omega)⟩, MI.putE hmi (by omega) er135 el135 ec135⟩, ⟨by rw [ht]; exact hP, va_K.moved hW.alike hK, hD⟩⟩, hS.F ht⟩) hS.2.2 d_M_writeLeaf_147
                      ·
                        exact absurd c138 (by decide)
                  ·
                    exact absurd hfp12 (hn131 jj12 hjj12)
                ·
                  have c82 := cd_ge_f (by omega) (by omega) c82
                  refine lv_aload_n hx hb d_M_writeLeaf_85 rfl (lv_at hl 0 rfl) ?_
                  refine va_get (D := (dC, dI)) (ci := 5) (v := .ref (am 8)) (C := R_M) (T := F_M) (N := 20) hx hb hts (fun w h => List.mem_cons_of_mem _ (in_M w h)) hown hK hP 0 rfl rfl 16 (by decide) (hts (.fieldLink R_M 43 R_M "page" "[I") (List.mem_cons_of_mem _ t_728)) (fun _ h9 => h9) rfl d_M_writeLeaf_86 ?_
                  refine lv_iconst (v := nI 2) hx hb d_M_writeLeaf_89 (by decide) ?_
                  refine lv_iload hx hb d_M_writeLeaf_90 (lv_at hl 4 rfl) ?_
                  refine lv_iadd hx hb d_M_writeLeaf_92 ?_
                  refine tp_i (y := nI (2 + k)) (nI_add _ _) ?_
                  refine lv_iload hx hb d_M_writeLeaf_93 (lv_at hl 4 rfl) ?_
                  refine lv_iconst (v := nI 4) hx hb d_M_writeLeaf_95 (by decide) ?_
                  refine lv_iload hx hb d_M_writeLeaf_96 (lv_at hl 3 rfl) ?_
                  refine lv_imul hx hb d_M_writeLeaf_98 ?_
                  refine tp_i (y := nI (4 * 3)) (pk_mul _ _) ?_
                  refine lv_icmp_ge (tgt := 117) hx hb d_M_writeLeaf_99 (by decide) (fun c99 => ?_) (fun c99 => ?_)
                  ·
                    have c99 := cd_ge_t (by omega) (by omega) c99
                    refine lv_iconst (v := nI 0) hx hb d_M_writeLeaf_117 (by decide) ?_
                    refine va_iast hx hb hK hP hD hS 8 7 rfl rfl (vp_in_nI (by omega) (by decide)) d_M_writeLeaf_118 (fun H locs hP hD hS => ?_)
                    rw [nI_clamp (by omega)] at hP hD
                    have hP : va_P (dC, dI) vwCl (mw_ am cm th (u12.1 1) (u12.1 2) mfl mact (u12.2.1 6) (u12.2.1 5) (nI (u12.2.2 0)) mlog (u12.1 0) had (u12.2.1 0) (u12.2.1 1) (u12.2.1 2) (u12.2.1 3) (nI 1) (upd gv (2 + k) (nI 0)) pla sou fou) H := hP
                    have hD : va_D (xA 9 am s.heap.size) (mw_ am cm th (u12.1 1) (u12.1 2) mfl mact (u12.2.1 6) (u12.2.1 5) (nI (u12.2.2 0)) mlog (u12.1 0) had (u12.2.1 0) (u12.2.1 1) (u12.2.1 2) (u12.2.1 3) (nI 1) (upd gv (2 + k) (nI 0)) pla sou fou) := hD
                    refine lv_iinc (k := 4) (v := nI (k + 1)) hx hb d_M_writeLeaf_119 hl rfl (nI_1 _) (by decide) rfl (fun ls hl => ?_)
                    have hl : lv_has ls 6 [(5, .int (nI (k + 1))), (0, .ref (am 0)), (1, .int (nI lf)), (2, .int (nI nn)), (4, .int (nI 3))] := hl
                    refine lv_goto (tgt := 78) hx hb d_M_writeLeaf_122 (by decide) ?_
                    exact ih78 (k + 1) (upd gv (2 + k) (nI 0)) H locs ls (by omega) (by omega) (lv_sub hl [1, 2, 3, 4, 0] rfl) hP hD hS
                  ·
                    have c99 := cd_ge_f (by omega) (by omega) c99
                    refine lv_aload_n hx hb d_M_writeLeaf_102 rfl (lv_at hl 0 rfl) ?_
                    refine va_get (D := (dC, dI)) (ci := 5) (v := .ref (am 5)) (C := R_M) (T := F_M) (N := 20) hx hb hts (fun w h => List.mem_cons_of_mem _ (in_M w h)) hown hK hP 0 rfl rfl 8 (by decide) (hts (.fieldLink R_M 31 R_M "log" "[I") (List.mem_cons_of_mem _ t_720)) (fun _ h9 => h9) rfl d_M_writeLeaf_103 ?_
                    refine lv_bipush (v := nI 12) hx hb d_M_writeLeaf_106 (by decide) ?_
                    refine lv_iload_n hx hb d_M_writeLeaf_108 rfl (lv_at hl 1 rfl) ?_
                    refine lv_imul hx hb d_M_writeLeaf_109 ?_
                    refine tp_i (y := nI (12 * lf)) (pk_mul _ _) ?_
                    refine lv_iload hx hb d_M_writeLeaf_110 (lv_at hl 4 rfl) ?_
                    refine lv_iadd hx hb d_M_writeLeaf_112 ?_
                    refine tp_i (y := nI ((12 * lf) + k)) (nI_add _ _) ?_
                    refine va_iald hx hb hK hP 5 4 rfl rfl (vp_in_nI (by omega) (by decide)) d_M_writeLeaf_113 ?_
                    refine tp_i (y := mlog ((12 * lf) + k)) (by rw [nI_clamp (by omega)]) ?_
                    refine lv_goto (tgt := 118) hx hb d_M_writeLeaf_114 (by decide) ?_
                    refine va_iast hx hb hK hP hD hS 8 7 rfl rfl (vp_in_nI (by omega) (by decide)) d_M_writeLeaf_118 (fun H locs hP hD hS => ?_)
                    rw [nI_clamp (by omega)] at hP hD
                    have hP : va_P (dC, dI) vwCl (mw_ am cm th (u12.1 1) (u12.1 2) mfl mact (u12.2.1 6) (u12.2.1 5) (nI (u12.2.2 0)) mlog (u12.1 0) had (u12.2.1 0) (u12.2.1 1) (u12.2.1 2) (u12.2.1 3) (nI 1) (upd gv (2 + k) (mlog ((12 * lf) + k))) pla sou fou) H := hP
                    have hD : va_D (xA 9 am s.heap.size) (mw_ am cm th (u12.1 1) (u12.1 2) mfl mact (u12.2.1 6) (u12.2.1 5) (nI (u12.2.2 0)) mlog (u12.1 0) had (u12.2.1 0) (u12.2.1 1) (u12.2.1 2) (u12.2.1 3) (nI 1) (upd gv (2 + k) (mlog ((12 * lf) + k))) pla sou fou) := hD
                    refine lv_iinc (k := 4) (v := nI (k + 1)) hx hb d_M_writeLeaf_119 hl rfl (nI_1 _) (by decide) rfl (fun ls hl => ?_)
                    have hl : lv_has ls 6 [(5, .int (nI (k + 1))), (0, .ref (am 0)), (1, .int (nI lf)), (2, .int (nI nn)), (4, .int (nI 3))] := hl
                    refine lv_goto (tgt := 78) hx hb d_M_writeLeaf_122 (by decide) ?_
                    exact ih78 (k + 1) (upd gv (2 + k) (mlog ((12 * lf) + k))) H locs ls (by omega) (by omega) (lv_sub hl [1, 2, 3, 4, 0] rfl) hP hD hS
            exact lp78 _ 0 (upd (u12.1 3) 0 (nI ((4 * lf) + 3))) H locs ls (Nat.lt_succ_self _) (by omega) (lv_sub hl [3, 4, 5, 1, 0] rfl) hP hD hS
          ·
            have c49 := cd_ge_f (by omega) (by omega) c49
            refine lv_iload_n hx hb d_M_writeLeaf_52 rfl (lv_at hl 3 rfl) ?_
            refine lv_iconst (v := nI 3) hx hb d_M_writeLeaf_53 (by decide) ?_
            refine lv_iload_n hx hb d_M_writeLeaf_54 rfl (lv_at hl 2 rfl) ?_
            refine lv_imul hx hb d_M_writeLeaf_55 ?_
            refine tp_i (y := nI (3 * lf)) (pk_mul _ _) ?_
            refine lv_isub hx hb d_M_writeLeaf_56 ?_
            refine tp_i (y := nI (nn - (3 * lf))) (pk_sub (by omega)) ?_
            refine lv_goto (tgt := 61) hx hb d_M_writeLeaf_57 (by decide) ?_
            refine lv_istore hx hb d_M_writeLeaf_61 hl (by decide) rfl (fun ls hl => ?_)
            have hl : lv_has ls 6 [(4, .int (nI (nn - (3 * lf)))), (3, .int (nI 0)), (0, .ref (am 0)), (1, .int (nI lf)), (2, .int (nI nn))] := hl
            refine lv_aload_n hx hb d_M_writeLeaf_63 rfl (lv_at hl 2 rfl) ?_
            refine va_get (D := (dC, dI)) (ci := 5) (v := .ref (am 8)) (C := R_M) (T := F_M) (N := 20) hx hb hts (fun w h => List.mem_cons_of_mem _ (in_M w h)) hown hK hP 0 rfl rfl 16 (by decide) (hts (.fieldLink R_M 43 R_M "page" "[I") (List.mem_cons_of_mem _ t_728)) (fun _ h9 => h9) rfl d_M_writeLeaf_64 ?_
            refine lv_iconst (v := nI 0) hx hb d_M_writeLeaf_67 (by decide) ?_
            refine lv_iconst (v := nI 4) hx hb d_M_writeLeaf_68 (by decide) ?_
            refine lv_iload_n hx hb d_M_writeLeaf_69 rfl (lv_at hl 3 rfl) ?_
            refine lv_imul hx hb d_M_writeLeaf_70 ?_
            refine tp_i (y := nI (4 * lf)) (pk_mul _ _) ?_
            refine lv_iload hx hb d_M_writeLeaf_71 (lv_at hl 0 rfl) ?_
            refine lv_iadd hx hb d_M_writeLeaf_73 ?_
            refine tp_i (y := nI ((4 * lf) + (nn - (3 * lf)))) (nI_add _ _) ?_
            refine va_iast hx hb hK hP hD hS 8 7 rfl rfl (vp_in_nI (by omega) (by decide)) d_M_writeLeaf_74 (fun H locs hP hD hS => ?_)
            rw [nI_clamp (by omega)] at hP hD
            have hP : va_P (dC, dI) vwCl (mw_ am cm th (u12.1 1) (u12.1 2) mfl mact (u12.2.1 6) (u12.2.1 5) (nI (u12.2.2 0)) mlog (u12.1 0) had (u12.2.1 0) (u12.2.1 1) (u12.2.1 2) (u12.2.1 3) (nI 1) (upd (u12.1 3) 0 (nI ((4 * lf) + (nn - (3 * lf))))) pla sou fou) H := hP
            have hD : va_D (xA 9 am s.heap.size) (mw_ am cm th (u12.1 1) (u12.1 2) mfl mact (u12.2.1 6) (u12.2.1 5) (nI (u12.2.2 0)) mlog (u12.1 0) had (u12.2.1 0) (u12.2.1 1) (u12.2.1 2) (u12.2.1 3) (nI 1) (upd (u12.1 3) 0 (nI ((4 * lf) + (nn - (3 * lf))))) pla sou fou) := hD
            refine lv_iconst (v := nI 0) hx hb d_M_writeLeaf_75 (by decide) ?_
            refine lv_istore hx hb d_M_writeLeaf_76 hl (by decide) rfl (fun ls hl => ?_)
            have hl : lv_has ls 6 [(5, .int (nI 0)), (4, .int (nI (nn - (3 * lf)))), (3, .int (nI 0)), (0, .ref (am 0)), (1, .int (nI lf)), (2, .int (nI nn))] := hl
            have lp78 : ∀ (n : Nat) (k : Nat) (gv : Nat → Int32) (H : Heap) (locs : List Loc) (ls : Array Slot), (12 - k) < n → (k ≤ 12) → lv_has ls 6 [(0, .ref (am 0)), (1, .int (nI lf)), (2, .int (nI nn)), (4, .int (nI (nn - (3 * lf)))), (5, .int (nI k))] → va_P (dC, dI) vwCl (mw_ am cm th (u12.1 1) (u12.1 2) mfl mact (u12.2.1 6) (u12.2.1 5) (nI (u12.2.2 0)) mlog (u12.1 0) had (u12.2.1 0) (u12.2.1 1) (u12.2.1 2) (u12.2.1 3) (nI 1) gv pla sou fou) H → va_D (xA 9 am s.heap.size) (mw_ am cm th (u12.1 1) (u12.1 2) mfl mact (u12.2.1 6) (u12.2.1 5) (nI (u12.2.2 0)) mlog (u12.1 0) had (u12.2.1 0) (u12.2.1 1) (u12.2.1 2) (u12.2.1 3) (nI 1) gv pla sou fou) → va_S (xA 9 am s.heap.size) s.heap H locs → W P l e (headSpec w_M_writeLeaf ({ frames := 6, cells := 0, slots := 0, locals := 131 })).room s m (([.ref (am 0), .int (nI lf), .int (nI nn)] : List Value).toArray) below meth c0 H locs 0 0 (MQ below (va_Qi (fun r (u : (Nat → Nat → Int32) × (Nat → Int32) × (Nat → Nat)) => ((r = nI 0 ∧ (u.2.2 0) = rn ∧ (u.1 0) lf ≠ -1) ∨ (r = -1 ∨ r = -2)) ∧ MI (u.2.2 0) (u.1 0) (u.2.1 1)) (fun (u : (Nat → Nat → Int32) × (Nat → Int32) × (Nat → Nat)) (t : State) => xB (dC, dI) vwCl (mt cm) (xA 9 am s.heap.size) (mw_ am cm th (u.1 1) (u.1 2) mfl mact (u.2.1 6) (u.2.1 5) (nI (u.2.2 0)) mlog (u.1 0) had (u.2.1 0) (u.2.1 1) (u.2.1 2) (u.2.1 3) (u.2.1 4) (u.1 3) pla sou fou) t) (xA 9 am s.heap.size)) (([.ref (am 0), .int (nI lf), .int (nI nn)] : List Value).toArray) s 0 0 (xA 9 am s.heap.size)) (F0 m 78 ls []) := by
              intro n
              induction n with
              | zero => intro k gv H locs ls hm; intros; omega
              | succ n ih78 =>
                intro k gv H locs ls hm hk hl hP hD hS
                refine lv_iload hx hb d_M_writeLeaf_78 (lv_at hl 4 rfl) ?_
                refine lv_bipush (v := nI 12) hx hb d_M_writeLeaf_80 (by decide) ?_
                refine lv_icmp_ge (tgt := 125) hx hb d_M_writeLeaf_82 (by decide) (fun c82 => ?_) (fun c82 => ?_)
                ·
                  have c82 := cd_ge_t (by omega) (by omega) c82
                  refine lv_aload_n hx hb d_M_writeLeaf_125 rfl (lv_at hl 0 rfl) ?_
                  refine lv_aload_n hx hb d_M_writeLeaf_126 rfl (lv_at hl 0 rfl) ?_
                  refine lv_aload_n hx hb d_M_writeLeaf_127 rfl (lv_at hl 0 rfl) ?_
                  refine va_get (D := (dC, dI)) (ci := 5) (v := .int (u12.2.1 1)) (C := R_M) (T := F_M) (N := 20) hx hb hts (fun w h => List.mem_cons_of_mem _ (in_M w h)) hown hK hP 0 rfl rfl 12 (by decide) (hts (.fieldLink R_M 40 R_M "cursor" "I") (List.mem_cons_of_mem _ t_724)) (fun _ h9 => h9) rfl d_M_writeLeaf_128 ?_
                  refine tp_i (y := nI cq12) (ec12) ?_
                  refine vp_callSi (va_runV (C := R_M) (As := [.int (nI cq12)]) (rest := [.ref (am 0)]) ⟨hx, hb, hml, hown, hts⟩ (c_M_firstFree l dC dI am cm th (u12.1 1) (u12.1 2) mfl mact (u12.2.1 6) (u12.2.1 5) (nI (u12.2.2 0)) mlog (u12.1 0) had (u12.2.1 0) (u12.2.1 1) (u12.2.1 2) (u12.2.1 3) (nI 1) gv pla sou fou cq12 (by first | omega | rfl | assumption | decide)) (cwV 1 hts (g_V t_816 t_818 s_27 t_6 t_819) rfl rfl rfl (by decide +kernel) ⟨by decide, by decide⟩) (xR_v hP hK hN 0 rfl rfl) rfl rfl hl.1 rfl (lv_room (Nat.le_of_ble_eq_true rfl)) d_M_writeLeaf_131 ⟨Nat.le_refl _, Nat.le_refl _⟩).run (fun r131 q131 => ?_)
                  rcases q131 with ⟨j131, hj131, rfl, hf131, hb131⟩ | ⟨rfl, hn131⟩
                  ·
                    refine lv_iload_n hx hb d_M_writeLeaf_134 rfl (lv_at hl 1 rfl) ?_
                    have hSz := hS.1
                    refine va_calli (va_runV (C := R_M) (As := [.int (nI (4 * cq12 + j131)), .int (nI lf)]) (rest := []) ⟨hx, hb, hml, hown, hts⟩ (c_M_write l dC dI am cm H.size th (u12.1 1) (u12.1 2) mfl mact (u12.2.1 6) (u12.2.1 5) (nI (u12.2.2 0)) mlog (u12.1 0) had (u12.2.1 0) (u12.2.1 1) (u12.2.1 2) (u12.2.1 3) (nI 1) gv pla sou fou (u12.2.2 0) (4 * cq12 + j131) lf (by first | omega | rfl | assumption | decide) (by first | omega | rfl | assumption | decide)) (cwV 2 hts (g_V t_844 t_846 s_34 t_6 t_847) rfl rfl rfl (by decide +kernel) ⟨by decide, by decide⟩) (xP_v hP hK hD hN 0 rfl rfl) rfl rfl hl.1 rfl (lv_room (Nat.le_of_ble_eq_true rfl)) d_M_writeLeaf_135 ⟨Nat.le_refl _, Nat.le_refl _⟩) hS (fun q _ h => xA_up hS.1 q h) (fun q h => xA_up hS.1 q h) (fun r135 u135 t H1 locs1 ht hvm q135 hB hz1 hk1 hS => ?_)
                    obtain ⟨hP1, hK1, hD1⟩ := hB
                    rw [ht] at hP1
                    have hD : va_D (xA 9 am s.heap.size) (mw_ am cm th (u135.1 1) (u12.1 2) mfl mact (u135.2.1 6) (u135.2.1 5) (nI (u135.2.2 0)) mlog (u135.1 0) had (u135.2.1 0) (u135.2.1 1) (u135.2.1 2) (u135.2.1 3) (u135.2.1 4) (u135.1 2) pla sou fou) := hD1.weaken (fun _ q _ h => xA_up hSz _ h)
                    have hP : va_P (dC, dI) vwCl (mw_ am cm th (u135.1 1) (u12.1 2) mfl mact (u135.2.1 6) (u135.2.1 5) (nI (u135.2.2 0)) mlog (u135.1 0) had (u135.2.1 0) (u135.2.1 1) (u135.2.1 2) (u135.2.1 3) (u135.2.1 4) (u135.1 2) pla sou fou) H1 := hP1
                    generalize H1 = H at hP hS ⊢
                    generalize locs1 = locs at hS ⊢
                    rcases q135 with ⟨rfl, er135, el135, ec135, ho135⟩ | ⟨rfl, hmi⟩
                    ·
                      refine lv_if_eq (tgt := 145) hx hb d_M_writeLeaf_138 (by decide) (fun c138 => ?_) (fun c138 => ?_)
                      ·
                        exact absurd c138 (by decide)
                      ·
                        refine lv_iconst (v := nI 0) hx hb d_M_writeLeaf_141 (by decide) ?_
                        refine lv_goto (tgt := 147) hx hb d_M_writeLeaf_142 (by decide) ?_
                        exact W.iret (v := nI 0) hx hb hr (fun t ht hW => ⟨⟨nI 0, (fun i => [u135.1 0, u135.1 1, u12.1 2, u135.1 2].getD i (fun _ => 0), fun i => [u135.2.1 0, u135.2.1 1, u135.2.1 2, u135.2.1 3, u135.2.1 4, u135.2.1 5, u135.2.1 6].getD i 0, fun i => [u135.2.2 0].getD i 0), rfl, by first | exact ⟨Or.inr (Or.inl rfl), hmi⟩ | exact ⟨Or.inr (Or.inr rfl), hmi⟩ | exact ⟨Or.inl ⟨rfl, er135.trans er12, put_ne el135 (by omega)⟩, MI.putE hmi (by omega) er135 el135 ec135⟩, ⟨by rw [ht]; exact hP, va_K.moved hW.alike hK, hD⟩⟩, hS.F ht⟩) hS.2.2 d_M_writeLeaf_147
                    ·
                      refine lv_if_eq (tgt := 145) hx hb d_M_writeLeaf_138 (by decide) (fun c138 => ?_) (fun c138 => ?_)
                      ·
                        refine lv_bipush (v := (-2)) hx hb d_M_writeLeaf_145 (by decide) ?_
                        exact W.iret (v := (-2)) hx hb hr (fun t ht hW => ⟨⟨(-2), (fun i => [u135.1 0, u135.1 1, u12.1 2, u135.1 2].getD i (fun _ => 0), fun i => [u135.2.1 0, u135.2.1 1, u135.2.1 2, u135.2.1 3, u135.2.1 4, u135.2.1 5, u135.2.1 6].getD i 0, fun i => [u135.2.2 0].getD i 0), rfl, by first | exact ⟨Or.inr (Or.inl rfl), hmi⟩ | exact ⟨Or.inr (Or.inr rfl), hmi⟩ | exact ⟨Or.inl ⟨rfl, er135.trans er12, put_ne el135 (by omega)⟩, MI.putE hmi (by omega) er135 el135 ec135⟩, ⟨by rw [ht]; exact hP, va_K.moved hW.alike hK, hD⟩⟩, hS.F ht⟩) hS.2.2 d_M_writeLeaf_147
                      ·
                        exact absurd c138 (by decide)
                  ·
                    exact absurd hfp12 (hn131 jj12 hjj12)
                ·
                  have c82 := cd_ge_f (by omega) (by omega) c82
                  refine lv_aload_n hx hb d_M_writeLeaf_85 rfl (lv_at hl 0 rfl) ?_
                  refine va_get (D := (dC, dI)) (ci := 5) (v := .ref (am 8)) (C := R_M) (T := F_M) (N := 20) hx hb hts (fun w h => List.mem_cons_of_mem _ (in_M w h)) hown hK hP 0 rfl rfl 16 (by decide) (hts (.fieldLink R_M 43 R_M "page" "[I") (List.mem_cons_of_mem _ t_728)) (fun _ h9 => h9) rfl d_M_writeLeaf_86 ?_
                  refine lv_iconst (v := nI 2) hx hb d_M_writeLeaf_89 (by decide) ?_
                  refine lv_iload hx hb d_M_writeLeaf_90 (lv_at hl 4 rfl) ?_
                  refine lv_iadd hx hb d_M_writeLeaf_92 ?_
                  refine tp_i (y := nI (2 + k)) (nI_add _ _) ?_
                  refine lv_iload hx hb d_M_writeLeaf_93 (lv_at hl 4 rfl) ?_
                  refine lv_iconst (v := nI 4) hx hb d_M_writeLeaf_95 (by decide) ?_
                  refine lv_iload hx hb d_M_writeLeaf_96 (lv_at hl 3 rfl) ?_
                  refine lv_imul hx hb d_M_writeLeaf_98 ?_
                  refine tp_i (y := nI (4 * (nn - (3 * lf)))) (pk_mul _ _) ?_
                  refine lv_icmp_ge (tgt := 117) hx hb d_M_writeLeaf_99 (by decide) (fun c99 => ?_) (fun c99 => ?_)
                  ·
                    have c99 := cd_ge_t (by omega) (by omega) c99
                    refine lv_iconst (v := nI 0) hx hb d_M_writeLeaf_117 (by decide) ?_
                    refine va_iast hx hb hK hP hD hS 8 7 rfl rfl (vp_in_nI (by omega) (by decide)) d_M_writeLeaf_118 (fun H locs hP hD hS => ?_)
                    rw [nI_clamp (by omega)] at hP hD
                    have hP : va_P (dC, dI) vwCl (mw_ am cm th (u12.1 1) (u12.1 2) mfl mact (u12.2.1 6) (u12.2.1 5) (nI (u12.2.2 0)) mlog (u12.1 0) had (u12.2.1 0) (u12.2.1 1) (u12.2.1 2) (u12.2.1 3) (nI 1) (upd gv (2 + k) (nI 0)) pla sou fou) H := hP
                    have hD : va_D (xA 9 am s.heap.size) (mw_ am cm th (u12.1 1) (u12.1 2) mfl mact (u12.2.1 6) (u12.2.1 5) (nI (u12.2.2 0)) mlog (u12.1 0) had (u12.2.1 0) (u12.2.1 1) (u12.2.1 2) (u12.2.1 3) (nI 1) (upd gv (2 + k) (nI 0)) pla sou fou) := hD
                    refine lv_iinc (k := 4) (v := nI (k + 1)) hx hb d_M_writeLeaf_119 hl rfl (nI_1 _) (by decide) rfl (fun ls hl => ?_)
                    have hl : lv_has ls 6 [(5, .int (nI (k + 1))), (0, .ref (am 0)), (1, .int (nI lf)), (2, .int (nI nn)), (4, .int (nI (nn - (3 * lf))))] := hl
                    refine lv_goto (tgt := 78) hx hb d_M_writeLeaf_122 (by decide) ?_
                    exact ih78 (k + 1) (upd gv (2 + k) (nI 0)) H locs ls (by omega) (by omega) (lv_sub hl [1, 2, 3, 4, 0] rfl) hP hD hS
                  ·
                    have c99 := cd_ge_f (by omega) (by omega) c99
                    refine lv_aload_n hx hb d_M_writeLeaf_102 rfl (lv_at hl 0 rfl) ?_
                    refine va_get (D := (dC, dI)) (ci := 5) (v := .ref (am 5)) (C := R_M) (T := F_M) (N := 20) hx hb hts (fun w h => List.mem_cons_of_mem _ (in_M w h)) hown hK hP 0 rfl rfl 8 (by decide) (hts (.fieldLink R_M 31 R_M "log" "[I") (List.mem_cons_of_mem _ t_720)) (fun _ h9 => h9) rfl d_M_writeLeaf_103 ?_
                    refine lv_bipush (v := nI 12) hx hb d_M_writeLeaf_106 (by decide) ?_
                    refine lv_iload_n hx hb d_M_writeLeaf_108 rfl (lv_at hl 1 rfl) ?_
                    refine lv_imul hx hb d_M_writeLeaf_109 ?_
                    refine tp_i (y := nI (12 * lf)) (pk_mul _ _) ?_
                    refine lv_iload hx hb d_M_writeLeaf_110 (lv_at hl 4 rfl) ?_
                    refine lv_iadd hx hb d_M_writeLeaf_112 ?_
                    refine tp_i (y := nI ((12 * lf) + k)) (nI_add _ _) ?_
                    refine va_iald hx hb hK hP 5 4 rfl rfl (vp_in_nI (by omega) (by decide)) d_M_writeLeaf_113 ?_
                    refine tp_i (y := mlog ((12 * lf) + k)) (by rw [nI_clamp (by omega)]) ?_
                    refine lv_goto (tgt := 118) hx hb d_M_writeLeaf_114 (by decide) ?_
                    refine va_iast hx hb hK hP hD hS 8 7 rfl rfl (vp_in_nI (by omega) (by decide)) d_M_writeLeaf_118 (fun H locs hP hD hS => ?_)
                    rw [nI_clamp (by omega)] at hP hD
                    have hP : va_P (dC, dI) vwCl (mw_ am cm th (u12.1 1) (u12.1 2) mfl mact (u12.2.1 6) (u12.2.1 5) (nI (u12.2.2 0)) mlog (u12.1 0) had (u12.2.1 0) (u12.2.1 1) (u12.2.1 2) (u12.2.1 3) (nI 1) (upd gv (2 + k) (mlog ((12 * lf) + k))) pla sou fou) H := hP
                    have hD : va_D (xA 9 am s.heap.size) (mw_ am cm th (u12.1 1) (u12.1 2) mfl mact (u12.2.1 6) (u12.2.1 5) (nI (u12.2.2 0)) mlog (u12.1 0) had (u12.2.1 0) (u12.2.1 1) (u12.2.1 2) (u12.2.1 3) (nI 1) (upd gv (2 + k) (mlog ((12 * lf) + k))) pla sou fou) := hD
                    refine lv_iinc (k := 4) (v := nI (k + 1)) hx hb d_M_writeLeaf_119 hl rfl (nI_1 _) (by decide) rfl (fun ls hl => ?_)
                    have hl : lv_has ls 6 [(5, .int (nI (k + 1))), (0, .ref (am 0)), (1, .int (nI lf)), (2, .int (nI nn)), (4, .int (nI (nn - (3 * lf))))] := hl
                    refine lv_goto (tgt := 78) hx hb d_M_writeLeaf_122 (by decide) ?_
                    exact ih78 (k + 1) (upd gv (2 + k) (mlog ((12 * lf) + k))) H locs ls (by omega) (by omega) (lv_sub hl [1, 2, 3, 4, 0] rfl) hP hD hS
            exact lp78 _ 0 (upd (u12.1 3) 0 (nI ((4 * lf) + (nn - (3 * lf))))) H locs ls (Nat.lt_succ_self _) (by omega) (lv_sub hl [3, 4, 5, 1, 0] rfl) hP hD hS
        ·
          exact absurd c38 (by decide)
      ·
        refine lv_iload_n hx hb d_M_writeLeaf_24 rfl (lv_at hl 0 rfl) ?_
        refine lv_iconst (v := (-1)) hx hb d_M_writeLeaf_25 (by decide) ?_
        refine lv_icmp_ne (tgt := 33) hx hb d_M_writeLeaf_26 (by decide) (fun c26 => ?_) (fun c26 => ?_)
        ·
          refine lv_iconst (v := nI 0) hx hb d_M_writeLeaf_33 (by decide) ?_
          refine va_put (D := (dC, dI)) (ci := 5) (v := .int (nI 0)) (ty := .boolean) (C := R_M) (T := F_M) (N := 20) hx hb hts (fun w h => List.mem_cons_of_mem _ (in_M w h)) t_M ok_M nm_M hown hK hP hD hS 0 rfl rfl 15 (by decide) (hts (.fieldLink R_M 64 R_M "worn" "Z") (List.mem_cons_of_mem _ t_727)) (fun _ h9 => h9) rfl (by decide +kernel) (by first | rfl | decide | assumption) rfl (Nat.le_of_ble_eq_true rfl) d_M_writeLeaf_34 (fun H locs hP hD hS => ?_)
          have hP : va_P (dC, dI) vwCl (mw_ am cm th (u12.1 1) (u12.1 2) mfl mact (u12.2.1 6) (u12.2.1 5) (nI (u12.2.2 0)) mlog (u12.1 0) had (u12.2.1 0) (u12.2.1 1) (u12.2.1 2) (u12.2.1 3) (nI 0) (u12.1 3) pla sou fou) H := hP
          have hD : va_D (xA 9 am s.heap.size) (mw_ am cm th (u12.1 1) (u12.1 2) mfl mact (u12.2.1 6) (u12.2.1 5) (nI (u12.2.2 0)) mlog (u12.1 0) had (u12.2.1 0) (u12.2.1 1) (u12.2.1 2) (u12.2.1 3) (nI 0) (u12.1 3) pla sou fou) := hD
          refine lv_iload_n hx hb d_M_writeLeaf_37 rfl (lv_at hl 0 rfl) ?_
          refine lv_if_eq (tgt := 43) hx hb d_M_writeLeaf_38 (by decide) (fun c38 => ?_) (fun c38 => ?_)
          ·
            refine lv_iload_n hx hb d_M_writeLeaf_43 rfl (lv_at hl 3 rfl) ?_
            refine lv_iconst (v := nI 3) hx hb d_M_writeLeaf_44 (by decide) ?_
            refine lv_iload_n hx hb d_M_writeLeaf_45 rfl (lv_at hl 2 rfl) ?_
            refine lv_imul hx hb d_M_writeLeaf_46 ?_
            refine tp_i (y := nI (3 * lf)) (pk_mul _ _) ?_
            refine lv_isub hx hb d_M_writeLeaf_47 ?_
            refine tp_i (y := nI (nn - (3 * lf))) (pk_sub (by omega)) ?_
            refine lv_iconst (v := nI 3) hx hb d_M_writeLeaf_48 (by decide) ?_
            refine lv_icmp_ge (tgt := 60) hx hb d_M_writeLeaf_49 (by decide) (fun c49 => ?_) (fun c49 => ?_)
            ·
              have c49 := cd_ge_t (by omega) (by omega) c49
              refine lv_iconst (v := nI 3) hx hb d_M_writeLeaf_60 (by decide) ?_
              refine lv_istore hx hb d_M_writeLeaf_61 hl (by decide) rfl (fun ls hl => ?_)
              have hl : lv_has ls 6 [(4, .int (nI 3)), (3, .int (nI 0)), (0, .ref (am 0)), (1, .int (nI lf)), (2, .int (nI nn))] := hl
              refine lv_aload_n hx hb d_M_writeLeaf_63 rfl (lv_at hl 2 rfl) ?_
              refine va_get (D := (dC, dI)) (ci := 5) (v := .ref (am 8)) (C := R_M) (T := F_M) (N := 20) hx hb hts (fun w h => List.mem_cons_of_mem _ (in_M w h)) hown hK hP 0 rfl rfl 16 (by decide) (hts (.fieldLink R_M 43 R_M "page" "[I") (List.mem_cons_of_mem _ t_728)) (fun _ h9 => h9) rfl d_M_writeLeaf_64 ?_
              refine lv_iconst (v := nI 0) hx hb d_M_writeLeaf_67 (by decide) ?_
              refine lv_iconst (v := nI 4) hx hb d_M_writeLeaf_68 (by decide) ?_
              refine lv_iload_n hx hb d_M_writeLeaf_69 rfl (lv_at hl 3 rfl) ?_
              refine lv_imul hx hb d_M_writeLeaf_70 ?_
              refine tp_i (y := nI (4 * lf)) (pk_mul _ _) ?_
              refine lv_iload hx hb d_M_writeLeaf_71 (lv_at hl 0 rfl) ?_
              refine lv_iadd hx hb d_M_writeLeaf_73 ?_
              refine tp_i (y := nI ((4 * lf) + 3)) (nI_add _ _) ?_
              refine va_iast hx hb hK hP hD hS 8 7 rfl rfl (vp_in_nI (by omega) (by decide)) d_M_writeLeaf_74 (fun H locs hP hD hS => ?_)
              rw [nI_clamp (by omega)] at hP hD
              have hP : va_P (dC, dI) vwCl (mw_ am cm th (u12.1 1) (u12.1 2) mfl mact (u12.2.1 6) (u12.2.1 5) (nI (u12.2.2 0)) mlog (u12.1 0) had (u12.2.1 0) (u12.2.1 1) (u12.2.1 2) (u12.2.1 3) (nI 0) (upd (u12.1 3) 0 (nI ((4 * lf) + 3))) pla sou fou) H := hP
              have hD : va_D (xA 9 am s.heap.size) (mw_ am cm th (u12.1 1) (u12.1 2) mfl mact (u12.2.1 6) (u12.2.1 5) (nI (u12.2.2 0)) mlog (u12.1 0) had (u12.2.1 0) (u12.2.1 1) (u12.2.1 2) (u12.2.1 3) (nI 0) (upd (u12.1 3) 0 (nI ((4 * lf) + 3))) pla sou fou) := hD
              refine lv_iconst (v := nI 0) hx hb d_M_writeLeaf_75 (by decide) ?_
              refine lv_istore hx hb d_M_writeLeaf_76 hl (by decide) rfl (fun ls hl => ?_)
              have hl : lv_has ls 6 [(5, .int (nI 0)), (4, .int (nI 3)), (3, .int (nI 0)), (0, .ref (am 0)), (1, .int (nI lf)), (2, .int (nI nn))] := hl
              have lp78 : ∀ (n : Nat) (k : Nat) (gv : Nat → Int32) (H : Heap) (locs : List Loc) (ls : Array Slot), (12 - k) < n → (k ≤ 12) → lv_has ls 6 [(0, .ref (am 0)), (1, .int (nI lf)), (2, .int (nI nn)), (4, .int (nI 3)), (5, .int (nI k))] → va_P (dC, dI) vwCl (mw_ am cm th (u12.1 1) (u12.1 2) mfl mact (u12.2.1 6) (u12.2.1 5) (nI (u12.2.2 0)) mlog (u12.1 0) had (u12.2.1 0) (u12.2.1 1) (u12.2.1 2) (u12.2.1 3) (nI 0) gv pla sou fou) H → va_D (xA 9 am s.heap.size) (mw_ am cm th (u12.1 1) (u12.1 2) mfl mact (u12.2.1 6) (u12.2.1 5) (nI (u12.2.2 0)) mlog (u12.1 0) had (u12.2.1 0) (u12.2.1 1) (u12.2.1 2) (u12.2.1 3) (nI 0) gv pla sou fou) → va_S (xA 9 am s.heap.size) s.heap H locs → W P l e (headSpec w_M_writeLeaf ({ frames := 6, cells := 0, slots := 0, locals := 131 })).room s m (([.ref (am 0), .int (nI lf), .int (nI nn)] : List Value).toArray) below meth c0 H locs 0 0 (MQ below (va_Qi (fun r (u : (Nat → Nat → Int32) × (Nat → Int32) × (Nat → Nat)) => ((r = nI 0 ∧ (u.2.2 0) = rn ∧ (u.1 0) lf ≠ -1) ∨ (r = -1 ∨ r = -2)) ∧ MI (u.2.2 0) (u.1 0) (u.2.1 1)) (fun (u : (Nat → Nat → Int32) × (Nat → Int32) × (Nat → Nat)) (t : State) => xB (dC, dI) vwCl (mt cm) (xA 9 am s.heap.size) (mw_ am cm th (u.1 1) (u.1 2) mfl mact (u.2.1 6) (u.2.1 5) (nI (u.2.2 0)) mlog (u.1 0) had (u.2.1 0) (u.2.1 1) (u.2.1 2) (u.2.1 3) (u.2.1 4) (u.1 3) pla sou fou) t) (xA 9 am s.heap.size)) (([.ref (am 0), .int (nI lf), .int (nI nn)] : List Value).toArray) s 0 0 (xA 9 am s.heap.size)) (F0 m 78 ls []) := by
                intro n
                induction n with
                | zero => intro k gv H locs ls hm; intros; omega
                | succ n ih78 =>
                  intro k gv H locs ls hm hk hl hP hD hS
                  refine lv_iload hx hb d_M_writeLeaf_78 (lv_at hl 4 rfl) ?_
                  refine lv_bipush (v := nI 12) hx hb d_M_writeLeaf_80 (by decide) ?_
                  refine lv_icmp_ge (tgt := 125) hx hb d_M_writeLeaf_82 (by decide) (fun c82 => ?_) (fun c82 => ?_)
                  ·
                    have c82 := cd_ge_t (by omega) (by omega) c82
                    refine lv_aload_n hx hb d_M_writeLeaf_125 rfl (lv_at hl 0 rfl) ?_
                    refine lv_aload_n hx hb d_M_writeLeaf_126 rfl (lv_at hl 0 rfl) ?_
                    refine lv_aload_n hx hb d_M_writeLeaf_127 rfl (lv_at hl 0 rfl) ?_
                    refine va_get (D := (dC, dI)) (ci := 5) (v := .int (u12.2.1 1)) (C := R_M) (T := F_M) (N := 20) hx hb hts (fun w h => List.mem_cons_of_mem _ (in_M w h)) hown hK hP 0 rfl rfl 12 (by decide) (hts (.fieldLink R_M 40 R_M "cursor" "I") (List.mem_cons_of_mem _ t_724)) (fun _ h9 => h9) rfl d_M_writeLeaf_128 ?_
                    refine tp_i (y := nI cq12) (ec12) ?_
                    refine vp_callSi (va_runV (C := R_M) (As := [.int (nI cq12)]) (rest := [.ref (am 0)]) ⟨hx, hb, hml, hown, hts⟩ (c_M_firstFree l dC dI am cm th (u12.1 1) (u12.1 2) mfl mact (u12.2.1 6) (u12.2.1 5) (nI (u12.2.2 0)) mlog (u12.1 0) had (u12.2.1 0) (u12.2.1 1) (u12.2.1 2) (u12.2.1 3) (nI 0) gv pla sou fou cq12 (by first | omega | rfl | assumption | decide)) (cwV 1 hts (g_V t_816 t_818 s_27 t_6 t_819) rfl rfl rfl (by decide +kernel) ⟨by decide, by decide⟩) (xR_v hP hK hN 0 rfl rfl) rfl rfl hl.1 rfl (lv_room (Nat.le_of_ble_eq_true rfl)) d_M_writeLeaf_131 ⟨Nat.le_refl _, Nat.le_refl _⟩).run (fun r131 q131 => ?_)
                    rcases q131 with ⟨j131, hj131, rfl, hf131, hb131⟩ | ⟨rfl, hn131⟩
                    ·
                      refine lv_iload_n hx hb d_M_writeLeaf_134 rfl (lv_at hl 1 rfl) ?_
                      have hSz := hS.1
                      refine va_calli (va_runV (C := R_M) (As := [.int (nI (4 * cq12 + j131)), .int (nI lf)]) (rest := []) ⟨hx, hb, hml, hown, hts⟩ (c_M_write l dC dI am cm H.size th (u12.1 1) (u12.1 2) mfl mact (u12.2.1 6) (u12.2.1 5) (nI (u12.2.2 0)) mlog (u12.1 0) had (u12.2.1 0) (u12.2.1 1) (u12.2.1 2) (u12.2.1 3) (nI 0) gv pla sou fou (u12.2.2 0) (4 * cq12 + j131) lf (by first | omega | rfl | assumption | decide) (by first | omega | rfl | assumption | decide)) (cwV 2 hts (g_V t_844 t_846 s_34 t_6 t_847) rfl rfl rfl (by decide +kernel) ⟨by decide, by decide⟩) (xP_v hP hK hD hN 0 rfl rfl) rfl rfl hl.1 rfl (lv_room (Nat.le_of_ble_eq_true rfl)) d_M_writeLeaf_135 ⟨Nat.le_refl _, Nat.le_refl _⟩) hS (fun q _ h => xA_up hS.1 q h) (fun q h => xA_up hS.1 q h) (fun r135 u135 t H1 locs1 ht hvm q135 hB hz1 hk1 hS => ?_)
                      obtain ⟨hP1, hK1, hD1⟩ := hB
                      rw [ht] at hP1
                      have hD : va_D (xA 9 am s.heap.size) (mw_ am cm th (u135.1 1) (u12.1 2) mfl mact (u135.2.1 6) (u135.2.1 5) (nI (u135.2.2 0)) mlog (u135.1 0) had (u135.2.1 0) (u135.2.1 1) (u135.2.1 2) (u135.2.1 3) (u135.2.1 4) (u135.1 2) pla sou fou) := hD1.weaken (fun _ q _ h => xA_up hSz _ h)
                      have hP : va_P (dC, dI) vwCl (mw_ am cm th (u135.1 1) (u12.1 2) mfl mact (u135.2.1 6) (u135.2.1 5) (nI (u135.2.2 0)) mlog (u135.1 0) had (u135.2.1 0) (u135.2.1 1) (u135.2.1 2) (u135.2.1 3) (u135.2.1 4) (u135.1 2) pla sou fou) H1 := hP1
                      generalize H1 = H at hP hS ⊢
                      generalize locs1 = locs at hS ⊢
                      rcases q135 with ⟨rfl, er135, el135, ec135, ho135⟩ | ⟨rfl, hmi⟩
                      ·
                        refine lv_if_eq (tgt := 145) hx hb d_M_writeLeaf_138 (by decide) (fun c138 => ?_) (fun c138 => ?_)
                        ·
                          exact absurd c138 (by decide)
                        ·
                          refine lv_iconst (v := nI 0) hx hb d_M_writeLeaf_141 (by decide) ?_
                          refine lv_goto (tgt := 147) hx hb d_M_writeLeaf_142 (by decide) ?_
                          exact W.iret (v := nI 0) hx hb hr (fun t ht hW => ⟨⟨nI 0, (fun i => [u135.1 0, u135.1 1, u12.1 2, u135.1 2].getD i (fun _ => 0), fun i => [u135.2.1 0, u135.2.1 1, u135.2.1 2, u135.2.1 3, u135.2.1 4, u135.2.1 5, u135.2.1 6].getD i 0, fun i => [u135.2.2 0].getD i 0), rfl, by first | exact ⟨Or.inr (Or.inl rfl), hmi⟩ | exact ⟨Or.inr (Or.inr rfl), hmi⟩ | exact ⟨Or.inl ⟨rfl, er135.trans er12, put_ne el135 (by omega)⟩, MI.putE hmi (by omega) er135 el135 ec135⟩, ⟨by rw [ht]; exact hP, va_K.moved hW.alike hK, hD⟩⟩, hS.F ht⟩) hS.2.2 d_M_writeLeaf_147
                      ·
                        refine lv_if_eq (tgt := 145) hx hb d_M_writeLeaf_138 (by decide) (fun c138 => ?_) (fun c138 => ?_)
                        ·
                          refine lv_bipush (v := (-2)) hx hb d_M_writeLeaf_145 (by decide) ?_
                          exact W.iret (v := (-2)) hx hb hr (fun t ht hW => ⟨⟨(-2), (fun i => [u135.1 0, u135.1 1, u12.1 2, u135.1 2].getD i (fun _ => 0), fun i => [u135.2.1 0, u135.2.1 1, u135.2.1 2, u135.2.1 3, u135.2.1 4, u135.2.1 5, u135.2.1 6].getD i 0, fun i => [u135.2.2 0].getD i 0), rfl, by first | exact ⟨Or.inr (Or.inl rfl), hmi⟩ | exact ⟨Or.inr (Or.inr rfl), hmi⟩ | exact ⟨Or.inl ⟨rfl, er135.trans er12, put_ne el135 (by omega)⟩, MI.putE hmi (by omega) er135 el135 ec135⟩, ⟨by rw [ht]; exact hP, va_K.moved hW.alike hK, hD⟩⟩, hS.F ht⟩) hS.2.2 d_M_writeLeaf_147
                        ·
                          exact absurd c138 (by decide)
                    ·
                      exact absurd hfp12 (hn131 jj12 hjj12)
                  ·
                    have c82 := cd_ge_f (by omega) (by omega) c82
                    refine lv_aload_n hx hb d_M_writeLeaf_85 rfl (lv_at hl 0 rfl) ?_
                    refine va_get (D := (dC, dI)) (ci := 5) (v := .ref (am 8)) (C := R_M) (T := F_M) (N := 20) hx hb hts (fun w h => List.mem_cons_of_mem _ (in_M w h)) hown hK hP 0 rfl rfl 16 (by decide) (hts (.fieldLink R_M 43 R_M "page" "[I") (List.mem_cons_of_mem _ t_728)) (fun _ h9 => h9) rfl d_M_writeLeaf_86 ?_
                    refine lv_iconst (v := nI 2) hx hb d_M_writeLeaf_89 (by decide) ?_
                    refine lv_iload hx hb d_M_writeLeaf_90 (lv_at hl 4 rfl) ?_
                    refine lv_iadd hx hb d_M_writeLeaf_92 ?_
                    refine tp_i (y := nI (2 + k)) (nI_add _ _) ?_
                    refine lv_iload hx hb d_M_writeLeaf_93 (lv_at hl 4 rfl) ?_
                    refine lv_iconst (v := nI 4) hx hb d_M_writeLeaf_95 (by decide) ?_
                    refine lv_iload hx hb d_M_writeLeaf_96 (lv_at hl 3 rfl) ?_
                    refine lv_imul hx hb d_M_writeLeaf_98 ?_
                    refine tp_i (y := nI (4 * 3)) (pk_mul _ _) ?_
                    refine lv_icmp_ge (tgt := 117) hx hb d_M_writeLeaf_99 (by decide) (fun c99 => ?_) (fun c99 => ?_)
                    ·
                      have c99 := cd_ge_t (by omega) (by omega) c99
                      refine lv_iconst (v := nI 0) hx hb d_M_writeLeaf_117 (by decide) ?_
                      refine va_iast hx hb hK hP hD hS 8 7 rfl rfl (vp_in_nI (by omega) (by decide)) d_M_writeLeaf_118 (fun H locs hP hD hS => ?_)
                      rw [nI_clamp (by omega)] at hP hD
                      have hP : va_P (dC, dI) vwCl (mw_ am cm th (u12.1 1) (u12.1 2) mfl mact (u12.2.1 6) (u12.2.1 5) (nI (u12.2.2 0)) mlog (u12.1 0) had (u12.2.1 0) (u12.2.1 1) (u12.2.1 2) (u12.2.1 3) (nI 0) (upd gv (2 + k) (nI 0)) pla sou fou) H := hP
                      have hD : va_D (xA 9 am s.heap.size) (mw_ am cm th (u12.1 1) (u12.1 2) mfl mact (u12.2.1 6) (u12.2.1 5) (nI (u12.2.2 0)) mlog (u12.1 0) had (u12.2.1 0) (u12.2.1 1) (u12.2.1 2) (u12.2.1 3) (nI 0) (upd gv (2 + k) (nI 0)) pla sou fou) := hD
                      refine lv_iinc (k := 4) (v := nI (k + 1)) hx hb d_M_writeLeaf_119 hl rfl (nI_1 _) (by decide) rfl (fun ls hl => ?_)
                      have hl : lv_has ls 6 [(5, .int (nI (k + 1))), (0, .ref (am 0)), (1, .int (nI lf)), (2, .int (nI nn)), (4, .int (nI 3))] := hl
                      refine lv_goto (tgt := 78) hx hb d_M_writeLeaf_122 (by decide) ?_
                      exact ih78 (k + 1) (upd gv (2 + k) (nI 0)) H locs ls (by omega) (by omega) (lv_sub hl [1, 2, 3, 4, 0] rfl) hP hD hS
                    ·
                      have c99 := cd_ge_f (by omega) (by omega) c99
                      refine lv_aload_n hx hb d_M_writeLeaf_102 rfl (lv_at hl 0 rfl) ?_
                      refine va_get (D := (dC, dI)) (ci := 5) (v := .ref (am 5)) (C := R_M) (T := F_M) (N := 20) hx hb hts (fun w h => List.mem_cons_of_mem _ (in_M w h)) hown hK hP 0 rfl rfl 8 (by decide) (hts (.fieldLink R_M 31 R_M "log" "[I") (List.mem_cons_of_mem _ t_720)) (fun _ h9 => h9) rfl d_M_writeLeaf_103 ?_
                      refine lv_bipush (v := nI 12) hx hb d_M_writeLeaf_106 (by decide) ?_
                      refine lv_iload_n hx hb d_M_writeLeaf_108 rfl (lv_at hl 1 rfl) ?_
                      refine lv_imul hx hb d_M_writeLeaf_109 ?_
                      refine tp_i (y := nI (12 * lf)) (pk_mul _ _) ?_
                      refine lv_iload hx hb d_M_writeLeaf_110 (lv_at hl 4 rfl) ?_
                      refine lv_iadd hx hb d_M_writeLeaf_112 ?_
                      refine tp_i (y := nI ((12 * lf) + k)) (nI_add _ _) ?_
                      refine va_iald hx hb hK hP 5 4 rfl rfl (vp_in_nI (by omega) (by decide)) d_M_writeLeaf_113 ?_
                      refine tp_i (y := mlog ((12 * lf) + k)) (by rw [nI_clamp (by omega)]) ?_
                      refine lv_goto (tgt := 118) hx hb d_M_writeLeaf_114 (by decide) ?_
                      refine va_iast hx hb hK hP hD hS 8 7 rfl rfl (vp_in_nI (by omega) (by decide)) d_M_writeLeaf_118 (fun H locs hP hD hS => ?_)
                      rw [nI_clamp (by omega)] at hP hD
                      have hP : va_P (dC, dI) vwCl (mw_ am cm th (u12.1 1) (u12.1 2) mfl mact (u12.2.1 6) (u12.2.1 5) (nI (u12.2.2 0)) mlog (u12.1 0) had (u12.2.1 0) (u12.2.1 1) (u12.2.1 2) (u12.2.1 3) (nI 0) (upd gv (2 + k) (mlog ((12 * lf) + k))) pla sou fou) H := hP
                      have hD : va_D (xA 9 am s.heap.size) (mw_ am cm th (u12.1 1) (u12.1 2) mfl mact (u12.2.1 6) (u12.2.1 5) (nI (u12.2.2 0)) mlog (u12.1 0) had (u12.2.1 0) (u12.2.1 1) (u12.2.1 2) (u12.2.1 3) (nI 0) (upd gv (2 + k) (mlog ((12 * lf) + k))) pla sou fou) := hD
                      refine lv_iinc (k := 4) (v := nI (k + 1)) hx hb d_M_writeLeaf_119 hl rfl (nI_1 _) (by decide) rfl (fun ls hl => ?_)
                      have hl : lv_has ls 6 [(5, .int (nI (k + 1))), (0, .ref (am 0)), (1, .int (nI lf)), (2, .int (nI nn)), (4, .int (nI 3))] := hl
                      refine lv_goto (tgt := 78) hx hb d_M_writeLeaf_122 (by decide) ?_
                      exact ih78 (k + 1) (upd gv (2 + k) (mlog ((12 * lf) + k))) H locs ls (by omega) (by omega) (lv_sub hl [1, 2, 3, 4, 0] rfl) hP hD hS
              exact lp78 _ 0 (upd (u12.1 3) 0 (nI ((4 * lf) + 3))) H locs ls (Nat.lt_succ_self _) (by omega) (lv_sub hl [3, 4, 5, 1, 0] rfl) hP hD hS
            ·
              have c49 := cd_ge_f (by omega) (by omega) c49
              refine lv_iload_n hx hb d_M_writeLeaf_52 rfl (lv_at hl 3 rfl) ?_
              refine lv_iconst (v := nI 3) hx hb d_M_writeLeaf_53 (by decide) ?_
              refine lv_iload_n hx hb d_M_writeLeaf_54 rfl (lv_at hl 2 rfl) ?_
              refine lv_imul hx hb d_M_writeLeaf_55 ?_
              refine tp_i (y := nI (3 * lf)) (pk_mul _ _) ?_
              refine lv_isub hx hb d_M_writeLeaf_56 ?_
              refine tp_i (y := nI (nn - (3 * lf))) (pk_sub (by omega)) ?_
              refine lv_goto (tgt := 61) hx hb d_M_writeLeaf_57 (by decide) ?_
              refine lv_istore hx hb d_M_writeLeaf_61 hl (by decide) rfl (fun ls hl => ?_)
              have hl : lv_has ls 6 [(4, .int (nI (nn - (3 * lf)))), (3, .int (nI 0)), (0, .ref (am 0)), (1, .int (nI lf)), (2, .int (nI nn))] := hl
              refine lv_aload_n hx hb d_M_writeLeaf_63 rfl (lv_at hl 2 rfl) ?_
              refine va_get (D := (dC, dI)) (ci := 5) (v := .ref (am 8)) (C := R_M) (T := F_M) (N := 20) hx hb hts (fun w h => List.mem_cons_of_mem _ (in_M w h)) hown hK hP 0 rfl rfl 16 (by decide) (hts (.fieldLink R_M 43 R_M "page" "[I") (List.mem_cons_of_mem _ t_728)) (fun _ h9 => h9) rfl d_M_writeLeaf_64 ?_
              refine lv_iconst (v := nI 0) hx hb d_M_writeLeaf_67 (by decide) ?_
              refine lv_iconst (v := nI 4) hx hb d_M_writeLeaf_68 (by decide) ?_
              refine lv_iload_n hx hb d_M_writeLeaf_69 rfl (lv_at hl 3 rfl) ?_
              refine lv_imul hx hb d_M_writeLeaf_70 ?_
              refine tp_i (y := nI (4 * lf)) (pk_mul _ _) ?_
              refine lv_iload hx hb d_M_writeLeaf_71 (lv_at hl 0 rfl) ?_
              refine lv_iadd hx hb d_M_writeLeaf_73 ?_
              refine tp_i (y := nI ((4 * lf) + (nn - (3 * lf)))) (nI_add _ _) ?_
              refine va_iast hx hb hK hP hD hS 8 7 rfl rfl (vp_in_nI (by omega) (by decide)) d_M_writeLeaf_74 (fun H locs hP hD hS => ?_)
              rw [nI_clamp (by omega)] at hP hD
              have hP : va_P (dC, dI) vwCl (mw_ am cm th (u12.1 1) (u12.1 2) mfl mact (u12.2.1 6) (u12.2.1 5) (nI (u12.2.2 0)) mlog (u12.1 0) had (u12.2.1 0) (u12.2.1 1) (u12.2.1 2) (u12.2.1 3) (nI 0) (upd (u12.1 3) 0 (nI ((4 * lf) + (nn - (3 * lf))))) pla sou fou) H := hP
              have hD : va_D (xA 9 am s.heap.size) (mw_ am cm th (u12.1 1) (u12.1 2) mfl mact (u12.2.1 6) (u12.2.1 5) (nI (u12.2.2 0)) mlog (u12.1 0) had (u12.2.1 0) (u12.2.1 1) (u12.2.1 2) (u12.2.1 3) (nI 0) (upd (u12.1 3) 0 (nI ((4 * lf) + (nn - (3 * lf))))) pla sou fou) := hD
              refine lv_iconst (v := nI 0) hx hb d_M_writeLeaf_75 (by decide) ?_
              refine lv_istore hx hb d_M_writeLeaf_76 hl (by decide) rfl (fun ls hl => ?_)
              have hl : lv_has ls 6 [(5, .int (nI 0)), (4, .int (nI (nn - (3 * lf)))), (3, .int (nI 0)), (0, .ref (am 0)), (1, .int (nI lf)), (2, .int (nI nn))] := hl
              have lp78 : ∀ (n : Nat) (k : Nat) (gv : Nat → Int32) (H : Heap) (locs : List Loc) (ls : Array Slot), (12 - k) < n → (k ≤ 12) → lv_has ls 6 [(0, .ref (am 0)), (1, .int (nI lf)), (2, .int (nI nn)), (4, .int (nI (nn - (3 * lf)))), (5, .int (nI k))] → va_P (dC, dI) vwCl (mw_ am cm th (u12.1 1) (u12.1 2) mfl mact (u12.2.1 6) (u12.2.1 5) (nI (u12.2.2 0)) mlog (u12.1 0) had (u12.2.1 0) (u12.2.1 1) (u12.2.1 2) (u12.2.1 3) (nI 0) gv pla sou fou) H → va_D (xA 9 am s.heap.size) (mw_ am cm th (u12.1 1) (u12.1 2) mfl mact (u12.2.1 6) (u12.2.1 5) (nI (u12.2.2 0)) mlog (u12.1 0) had (u12.2.1 0) (u12.2.1 1) (u12.2.1 2) (u12.2.1 3) (nI 0) gv pla sou fou) → va_S (xA 9 am s.heap.size) s.heap H locs → W P l e (headSpec w_M_writeLeaf ({ frames := 6, cells := 0, slots := 0, locals := 131 })).room s m (([.ref (am 0), .int (nI lf), .int (nI nn)] : List Value).toArray) below meth c0 H locs 0 0 (MQ below (va_Qi (fun r (u : (Nat → Nat → Int32) × (Nat → Int32) × (Nat → Nat)) => ((r = nI 0 ∧ (u.2.2 0) = rn ∧ (u.1 0) lf ≠ -1) ∨ (r = -1 ∨ r = -2)) ∧ MI (u.2.2 0) (u.1 0) (u.2.1 1)) (fun (u : (Nat → Nat → Int32) × (Nat → Int32) × (Nat → Nat)) (t : State) => xB (dC, dI) vwCl (mt cm) (xA 9 am s.heap.size) (mw_ am cm th (u.1 1) (u.1 2) mfl mact (u.2.1 6) (u.2.1 5) (nI (u.2.2 0)) mlog (u.1 0) had (u.2.1 0) (u.2.1 1) (u.2.1 2) (u.2.1 3) (u.2.1 4) (u.1 3) pla sou fou) t) (xA 9 am s.heap.size)) (([.ref (am 0), .int (nI lf), .int (nI nn)] : List Value).toArray) s 0 0 (xA 9 am s.heap.size)) (F0 m 78 ls []) := by
                intro n
                induction n with
                | zero => intro k gv H locs ls hm; intros; omega
                | succ n ih78 =>
                  intro k gv H locs ls hm hk hl hP hD hS
                  refine lv_iload hx hb d_M_writeLeaf_78 (lv_at hl 4 rfl) ?_
                  refine lv_bipush (v := nI 12) hx hb d_M_writeLeaf_80 (by decide) ?_
                  refine lv_icmp_ge (tgt := 125) hx hb d_M_writeLeaf_82 (by decide) (fun c82 => ?_) (fun c82 => ?_)
                  ·
                    have c82 := cd_ge_t (by omega) (by omega) c82
                    refine lv_aload_n hx hb d_M_writeLeaf_125 rfl (lv_at hl 0 rfl) ?_
                    refine lv_aload_n hx hb d_M_writeLeaf_126 rfl (lv_at hl 0 rfl) ?_
                    refine lv_aload_n hx hb d_M_writeLeaf_127 rfl (lv_at hl 0 rfl) ?_
                    refine va_get (D := (dC, dI)) (ci := 5) (v := .int (u12.2.1 1)) (C := R_M) (T := F_M) (N := 20) hx hb hts (fun w h => List.mem_cons_of_mem _ (in_M w h)) hown hK hP 0 rfl rfl 12 (by decide) (hts (.fieldLink R_M 40 R_M "cursor" "I") (List.mem_cons_of_mem _ t_724)) (fun _ h9 => h9) rfl d_M_writeLeaf_128 ?_
                    refine tp_i (y := nI cq12) (ec12) ?_
                    refine vp_callSi (va_runV (C := R_M) (As := [.int (nI cq12)]) (rest := [.ref (am 0)]) ⟨hx, hb, hml, hown, hts⟩ (c_M_firstFree l dC dI am cm th (u12.1 1) (u12.1 2) mfl mact (u12.2.1 6) (u12.2.1 5) (nI (u12.2.2 0)) mlog (u12.1 0) had (u12.2.1 0) (u12.2.1 1) (u12.2.1 2) (u12.2.1 3) (nI 0) gv pla sou fou cq12 (by first | omega | rfl | assumption | decide)) (cwV 1 hts (g_V t_816 t_818 s_27 t_6 t_819) rfl rfl rfl (by decide +kernel) ⟨by decide, by decide⟩) (xR_v hP hK hN 0 rfl rfl) rfl rfl hl.1 rfl (lv_room (Nat.le_of_ble_eq_true rfl)) d_M_writeLeaf_131 ⟨Nat.le_refl _, Nat.le_refl _⟩).run (fun r131 q131 => ?_)
                    rcases q131 with ⟨j131, hj131, rfl, hf131, hb131⟩ | ⟨rfl, hn131⟩
                    ·
                      refine lv_iload_n hx hb d_M_writeLeaf_134 rfl (lv_at hl 1 rfl) ?_
                      have hSz := hS.1
                      refine va_calli (va_runV (C := R_M) (As := [.int (nI (4 * cq12 + j131)), .int (nI lf)]) (rest := []) ⟨hx, hb, hml, hown, hts⟩ (c_M_write l dC dI am cm H.size th (u12.1 1) (u12.1 2) mfl mact (u12.2.1 6) (u12.2.1 5) (nI (u12.2.2 0)) mlog (u12.1 0) had (u12.2.1 0) (u12.2.1 1) (u12.2.1 2) (u12.2.1 3) (nI 0) gv pla sou fou (u12.2.2 0) (4 * cq12 + j131) lf (by first | omega | rfl | assumption | decide) (by first | omega | rfl | assumption | decide)) (cwV 2 hts (g_V t_844 t_846 s_34 t_6 t_847) rfl rfl rfl (by decide +kernel) ⟨by decide, by decide⟩) (xP_v hP hK hD hN 0 rfl rfl) rfl rfl hl.1 rfl (lv_room (Nat.le_of_ble_eq_true rfl)) d_M_writeLeaf_135 ⟨Nat.le_refl _, Nat.le_refl _⟩) hS (fun q _ h => xA_up hS.1 q h) (fun q h => xA_up hS.1 q h) (fun r135 u135 t H1 locs1 ht hvm q135 hB hz1 hk1 hS => ?_)
                      obtain ⟨hP1, hK1, hD1⟩ := hB
                      rw [ht] at hP1
                      have hD : va_D (xA 9 am s.heap.size) (mw_ am cm th (u135.1 1) (u12.1 2) mfl mact (u135.2.1 6) (u135.2.1 5) (nI (u135.2.2 0)) mlog (u135.1 0) had (u135.2.1 0) (u135.2.1 1) (u135.2.1 2) (u135.2.1 3) (u135.2.1 4) (u135.1 2) pla sou fou) := hD1.weaken (fun _ q _ h => xA_up hSz _ h)
                      have hP : va_P (dC, dI) vwCl (mw_ am cm th (u135.1 1) (u12.1 2) mfl mact (u135.2.1 6) (u135.2.1 5) (nI (u135.2.2 0)) mlog (u135.1 0) had (u135.2.1 0) (u135.2.1 1) (u135.2.1 2) (u135.2.1 3) (u135.2.1 4) (u135.1 2) pla sou fou) H1 := hP1
                      generalize H1 = H at hP hS ⊢
                      generalize locs1 = locs at hS ⊢
                      rcases q135 with ⟨rfl, er135, el135, ec135, ho135⟩ | ⟨rfl, hmi⟩
                      ·
                        refine lv_if_eq (tgt := 145) hx hb d_M_writeLeaf_138 (by decide) (fun c138 => ?_) (fun c138 => ?_)
                        ·
                          exact absurd c138 (by decide)
                        ·
                          refine lv_iconst (v := nI 0) hx hb d_M_writeLeaf_141 (by decide) ?_
                          refine lv_goto (tgt := 147) hx hb d_M_writeLeaf_142 (by decide) ?_
                          exact W.iret (v := nI 0) hx hb hr (fun t ht hW => ⟨⟨nI 0, (fun i => [u135.1 0, u135.1 1, u12.1 2, u135.1 2].getD i (fun _ => 0), fun i => [u135.2.1 0, u135.2.1 1, u135.2.1 2, u135.2.1 3, u135.2.1 4, u135.2.1 5, u135.2.1 6].getD i 0, fun i => [u135.2.2 0].getD i 0), rfl, by first | exact ⟨Or.inr (Or.inl rfl), hmi⟩ | exact ⟨Or.inr (Or.inr rfl), hmi⟩ | exact ⟨Or.inl ⟨rfl, er135.trans er12, put_ne el135 (by omega)⟩, MI.putE hmi (by omega) er135 el135 ec135⟩, ⟨by rw [ht]; exact hP, va_K.moved hW.alike hK, hD⟩⟩, hS.F ht⟩) hS.2.2 d_M_writeLeaf_147
                      ·
                        refine lv_if_eq (tgt := 145) hx hb d_M_writeLeaf_138 (by decide) (fun c138 => ?_) (fun c138 => ?_)
                        ·
                          refine lv_bipush (v := (-2)) hx hb d_M_writeLeaf_145 (by decide) ?_
                          exact W.iret (v := (-2)) hx hb hr (fun t ht hW => ⟨⟨(-2), (fun i => [u135.1 0, u135.1 1, u12.1 2, u135.1 2].getD i (fun _ => 0), fun i => [u135.2.1 0, u135.2.1 1, u135.2.1 2, u135.2.1 3, u135.2.1 4, u135.2.1 5, u135.2.1 6].getD i 0, fun i => [u135.2.2 0].getD i 0), rfl, by first | exact ⟨Or.inr (Or.inl rfl), hmi⟩ | exact ⟨Or.inr (Or.inr rfl), hmi⟩ | exact ⟨Or.inl ⟨rfl, er135.trans er12, put_ne el135 (by omega)⟩, MI.putE hmi (by omega) er135 el135 ec135⟩, ⟨by rw [ht]; exact hP, va_K.moved hW.alike hK, hD⟩⟩, hS.F ht⟩) hS.2.2 d_M_writeLeaf_147
                        ·
                          exact absurd c138 (by decide)
                    ·
                      exact absurd hfp12 (hn131 jj12 hjj12)
                  ·
                    have c82 := cd_ge_f (by omega) (by omega) c82
                    refine lv_aload_n hx hb d_M_writeLeaf_85 rfl (lv_at hl 0 rfl) ?_
                    refine va_get (D := (dC, dI)) (ci := 5) (v := .ref (am 8)) (C := R_M) (T := F_M) (N := 20) hx hb hts (fun w h => List.mem_cons_of_mem _ (in_M w h)) hown hK hP 0 rfl rfl 16 (by decide) (hts (.fieldLink R_M 43 R_M "page" "[I") (List.mem_cons_of_mem _ t_728)) (fun _ h9 => h9) rfl d_M_writeLeaf_86 ?_
                    refine lv_iconst (v := nI 2) hx hb d_M_writeLeaf_89 (by decide) ?_
                    refine lv_iload hx hb d_M_writeLeaf_90 (lv_at hl 4 rfl) ?_
                    refine lv_iadd hx hb d_M_writeLeaf_92 ?_
                    refine tp_i (y := nI (2 + k)) (nI_add _ _) ?_
                    refine lv_iload hx hb d_M_writeLeaf_93 (lv_at hl 4 rfl) ?_
                    refine lv_iconst (v := nI 4) hx hb d_M_writeLeaf_95 (by decide) ?_
                    refine lv_iload hx hb d_M_writeLeaf_96 (lv_at hl 3 rfl) ?_
                    refine lv_imul hx hb d_M_writeLeaf_98 ?_
                    refine tp_i (y := nI (4 * (nn - (3 * lf)))) (pk_mul _ _) ?_
                    refine lv_icmp_ge (tgt := 117) hx hb d_M_writeLeaf_99 (by decide) (fun c99 => ?_) (fun c99 => ?_)
                    ·
                      have c99 := cd_ge_t (by omega) (by omega) c99
                      refine lv_iconst (v := nI 0) hx hb d_M_writeLeaf_117 (by decide) ?_
                      refine va_iast hx hb hK hP hD hS 8 7 rfl rfl (vp_in_nI (by omega) (by decide)) d_M_writeLeaf_118 (fun H locs hP hD hS => ?_)
                      rw [nI_clamp (by omega)] at hP hD
                      have hP : va_P (dC, dI) vwCl (mw_ am cm th (u12.1 1) (u12.1 2) mfl mact (u12.2.1 6) (u12.2.1 5) (nI (u12.2.2 0)) mlog (u12.1 0) had (u12.2.1 0) (u12.2.1 1) (u12.2.1 2) (u12.2.1 3) (nI 0) (upd gv (2 + k) (nI 0)) pla sou fou) H := hP
                      have hD : va_D (xA 9 am s.heap.size) (mw_ am cm th (u12.1 1) (u12.1 2) mfl mact (u12.2.1 6) (u12.2.1 5) (nI (u12.2.2 0)) mlog (u12.1 0) had (u12.2.1 0) (u12.2.1 1) (u12.2.1 2) (u12.2.1 3) (nI 0) (upd gv (2 + k) (nI 0)) pla sou fou) := hD
                      refine lv_iinc (k := 4) (v := nI (k + 1)) hx hb d_M_writeLeaf_119 hl rfl (nI_1 _) (by decide) rfl (fun ls hl => ?_)
                      have hl : lv_has ls 6 [(5, .int (nI (k + 1))), (0, .ref (am 0)), (1, .int (nI lf)), (2, .int (nI nn)), (4, .int (nI (nn - (3 * lf))))] := hl
                      refine lv_goto (tgt := 78) hx hb d_M_writeLeaf_122 (by decide) ?_
                      exact ih78 (k + 1) (upd gv (2 + k) (nI 0)) H locs ls (by omega) (by omega) (lv_sub hl [1, 2, 3, 4, 0] rfl) hP hD hS
                    ·
                      have c99 := cd_ge_f (by omega) (by omega) c99
                      refine lv_aload_n hx hb d_M_writeLeaf_102 rfl (lv_at hl 0 rfl) ?_
                      refine va_get (D := (dC, dI)) (ci := 5) (v := .ref (am 5)) (C := R_M) (T := F_M) (N := 20) hx hb hts (fun w h => List.mem_cons_of_mem _ (in_M w h)) hown hK hP 0 rfl rfl 8 (by decide) (hts (.fieldLink R_M 31 R_M "log" "[I") (List.mem_cons_of_mem _ t_720)) (fun _ h9 => h9) rfl d_M_writeLeaf_103 ?_
                      refine lv_bipush (v := nI 12) hx hb d_M_writeLeaf_106 (by decide) ?_
                      refine lv_iload_n hx hb d_M_writeLeaf_108 rfl (lv_at hl 1 rfl) ?_
                      refine lv_imul hx hb d_M_writeLeaf_109 ?_
                      refine tp_i (y := nI (12 * lf)) (pk_mul _ _) ?_
                      refine lv_iload hx hb d_M_writeLeaf_110 (lv_at hl 4 rfl) ?_
                      refine lv_iadd hx hb d_M_writeLeaf_112 ?_
                      refine tp_i (y := nI ((12 * lf) + k)) (nI_add _ _) ?_
                      refine va_iald hx hb hK hP 5 4 rfl rfl (vp_in_nI (by omega) (by decide)) d_M_writeLeaf_113 ?_
                      refine tp_i (y := mlog ((12 * lf) + k)) (by rw [nI_clamp (by omega)]) ?_
                      refine lv_goto (tgt := 118) hx hb d_M_writeLeaf_114 (by decide) ?_
                      refine va_iast hx hb hK hP hD hS 8 7 rfl rfl (vp_in_nI (by omega) (by decide)) d_M_writeLeaf_118 (fun H locs hP hD hS => ?_)
                      rw [nI_clamp (by omega)] at hP hD
                      have hP : va_P (dC, dI) vwCl (mw_ am cm th (u12.1 1) (u12.1 2) mfl mact (u12.2.1 6) (u12.2.1 5) (nI (u12.2.2 0)) mlog (u12.1 0) had (u12.2.1 0) (u12.2.1 1) (u12.2.1 2) (u12.2.1 3) (nI 0) (upd gv (2 + k) (mlog ((12 * lf) + k))) pla sou fou) H := hP
                      have hD : va_D (xA 9 am s.heap.size) (mw_ am cm th (u12.1 1) (u12.1 2) mfl mact (u12.2.1 6) (u12.2.1 5) (nI (u12.2.2 0)) mlog (u12.1 0) had (u12.2.1 0) (u12.2.1 1) (u12.2.1 2) (u12.2.1 3) (nI 0) (upd gv (2 + k) (mlog ((12 * lf) + k))) pla sou fou) := hD
                      refine lv_iinc (k := 4) (v := nI (k + 1)) hx hb d_M_writeLeaf_119 hl rfl (nI_1 _) (by decide) rfl (fun ls hl => ?_)
                      have hl : lv_has ls 6 [(5, .int (nI (k + 1))), (0, .ref (am 0)), (1, .int (nI lf)), (2, .int (nI nn)), (4, .int (nI (nn - (3 * lf))))] := hl
                      refine lv_goto (tgt := 78) hx hb d_M_writeLeaf_122 (by decide) ?_
                      exact ih78 (k + 1) (upd gv (2 + k) (mlog ((12 * lf) + k))) H locs ls (by omega) (by omega) (lv_sub hl [1, 2, 3, 4, 0] rfl) hP hD hS
              exact lp78 _ 0 (upd (u12.1 3) 0 (nI ((4 * lf) + (nn - (3 * lf))))) H locs ls (Nat.lt_succ_self _) (by omega) (lv_sub hl [3, 4, 5, 1, 0] rfl) hP hD hS
          ·
            exact absurd c38 (by decide)
        ·
          exact absurd c26 (nm_ne (by omega) (by decide))
    ·
      refine lv_istore_n hx hb d_M_writeLeaf_15 rfl hl (by decide) rfl (fun ls hl => ?_)
      have hl : lv_has ls 6 [(3, .int (-1)), (0, .ref (am 0)), (1, .int (nI lf)), (2, .int (nI nn))] := hl
      refine lv_aload_n hx hb d_M_writeLeaf_16 rfl (lv_at hl 1 rfl) ?_
      refine lv_aload_n hx hb d_M_writeLeaf_17 rfl (lv_at hl 1 rfl) ?_
      refine va_get (D := (dC, dI)) (ci := 5) (v := .int (u12.2.1 4)) (C := R_M) (T := F_M) (N := 20) hx hb hts (fun w h => List.mem_cons_of_mem _ (in_M w h)) hown hK hP 0 rfl rfl 15 (by decide) (hts (.fieldLink R_M 64 R_M "worn" "Z") (List.mem_cons_of_mem _ t_727)) (fun _ h9 => h9) rfl d_M_writeLeaf_18 ?_
      refine lv_if_ne (tgt := 29) hx hb d_M_writeLeaf_21 (by decide) (fun c21 => ?_) (fun c21 => ?_)
      ·
        refine lv_iconst (v := nI 1) hx hb d_M_writeLeaf_29 (by decide) ?_
        refine lv_goto (tgt := 34) hx hb d_M_writeLeaf_30 (by decide) ?_
        refine va_put (D := (dC, dI)) (ci := 5) (v := .int (nI 1)) (ty := .boolean) (C := R_M) (T := F_M) (N := 20) hx hb hts (fun w h => List.mem_cons_of_mem _ (in_M w h)) t_M ok_M nm_M hown hK hP hD hS 0 rfl rfl 15 (by decide) (hts (.fieldLink R_M 64 R_M "worn" "Z") (List.mem_cons_of_mem _ t_727)) (fun _ h9 => h9) rfl (by decide +kernel) (by first | rfl | decide | assumption) rfl (Nat.le_of_ble_eq_true rfl) d_M_writeLeaf_34 (fun H locs hP hD hS => ?_)
        have hP : va_P (dC, dI) vwCl (mw_ am cm th (u12.1 1) (u12.1 2) mfl mact (u12.2.1 6) (u12.2.1 5) (nI (u12.2.2 0)) mlog (u12.1 0) had (u12.2.1 0) (u12.2.1 1) (u12.2.1 2) (u12.2.1 3) (nI 1) (u12.1 3) pla sou fou) H := hP
        have hD : va_D (xA 9 am s.heap.size) (mw_ am cm th (u12.1 1) (u12.1 2) mfl mact (u12.2.1 6) (u12.2.1 5) (nI (u12.2.2 0)) mlog (u12.1 0) had (u12.2.1 0) (u12.2.1 1) (u12.2.1 2) (u12.2.1 3) (nI 1) (u12.1 3) pla sou fou) := hD
        refine lv_iload_n hx hb d_M_writeLeaf_37 rfl (lv_at hl 0 rfl) ?_
        refine lv_if_eq (tgt := 43) hx hb d_M_writeLeaf_38 (by decide) (fun c38 => ?_) (fun c38 => ?_)
        ·
          exact absurd c38 (by decide)
        ·
          refine lv_iload_n hx hb d_M_writeLeaf_41 rfl (lv_at hl 0 rfl) ?_
          exact W.iret (v := (-1)) hx hb hr (fun t ht hW => ⟨⟨(-1), (fun i => [u12.1 0, u12.1 1, u12.1 2, u12.1 3].getD i (fun _ => 0), fun i => [u12.2.1 0, u12.2.1 1, u12.2.1 2, u12.2.1 3, nI 1, u12.2.1 5, u12.2.1 6].getD i 0, fun i => [u12.2.2 0].getD i 0), rfl, by first | exact ⟨Or.inr (Or.inl rfl), hmi⟩ | exact ⟨Or.inr (Or.inr rfl), hmi⟩ | exact ⟨Or.inl ⟨rfl, er135.trans er12, put_ne el135 (by omega)⟩, MI.putE hmi (by omega) er135 el135 ec135⟩, ⟨by rw [ht]; exact hP, va_K.moved hW.alike hK, hD⟩⟩, hS.F ht⟩) hS.2.2 d_M_writeLeaf_42
      ·
        refine lv_iload_n hx hb d_M_writeLeaf_24 rfl (lv_at hl 0 rfl) ?_
        refine lv_iconst (v := (-1)) hx hb d_M_writeLeaf_25 (by decide) ?_
        refine lv_icmp_ne (tgt := 33) hx hb d_M_writeLeaf_26 (by decide) (fun c26 => ?_) (fun c26 => ?_)
        ·
          exact absurd c26 (by decide)
        ·
          refine lv_iconst (v := nI 1) hx hb d_M_writeLeaf_29 (by decide) ?_
          refine lv_goto (tgt := 34) hx hb d_M_writeLeaf_30 (by decide) ?_
          refine va_put (D := (dC, dI)) (ci := 5) (v := .int (nI 1)) (ty := .boolean) (C := R_M) (T := F_M) (N := 20) hx hb hts (fun w h => List.mem_cons_of_mem _ (in_M w h)) t_M ok_M nm_M hown hK hP hD hS 0 rfl rfl 15 (by decide) (hts (.fieldLink R_M 64 R_M "worn" "Z") (List.mem_cons_of_mem _ t_727)) (fun _ h9 => h9) rfl (by decide +kernel) (by first | rfl | decide | assumption) rfl (Nat.le_of_ble_eq_true rfl) d_M_writeLeaf_34 (fun H locs hP hD hS => ?_)
          have hP : va_P (dC, dI) vwCl (mw_ am cm th (u12.1 1) (u12.1 2) mfl mact (u12.2.1 6) (u12.2.1 5) (nI (u12.2.2 0)) mlog (u12.1 0) had (u12.2.1 0) (u12.2.1 1) (u12.2.1 2) (u12.2.1 3) (nI 1) (u12.1 3) pla sou fou) H := hP
          have hD : va_D (xA 9 am s.heap.size) (mw_ am cm th (u12.1 1) (u12.1 2) mfl mact (u12.2.1 6) (u12.2.1 5) (nI (u12.2.2 0)) mlog (u12.1 0) had (u12.2.1 0) (u12.2.1 1) (u12.2.1 2) (u12.2.1 3) (nI 1) (u12.1 3) pla sou fou) := hD
          refine lv_iload_n hx hb d_M_writeLeaf_37 rfl (lv_at hl 0 rfl) ?_
          refine lv_if_eq (tgt := 43) hx hb d_M_writeLeaf_38 (by decide) (fun c38 => ?_) (fun c38 => ?_)
          ·
            exact absurd c38 (by decide)
          ·
            refine lv_iload_n hx hb d_M_writeLeaf_41 rfl (lv_at hl 0 rfl) ?_
            exact W.iret (v := (-1)) hx hb hr (fun t ht hW => ⟨⟨(-1), (fun i => [u12.1 0, u12.1 1, u12.1 2, u12.1 3].getD i (fun _ => 0), fun i => [u12.2.1 0, u12.2.1 1, u12.2.1 2, u12.2.1 3, nI 1, u12.2.1 5, u12.2.1 6].getD i 0, fun i => [u12.2.2 0].getD i 0), rfl, by first | exact ⟨Or.inr (Or.inl rfl), hmi⟩ | exact ⟨Or.inr (Or.inr rfl), hmi⟩ | exact ⟨Or.inl ⟨rfl, er135.trans er12, put_ne el135 (by omega)⟩, MI.putE hmi (by omega) er135 el135 ec135⟩, ⟨by rw [ht]; exact hP, va_K.moved hW.alike hK, hD⟩⟩, hS.F ht⟩) hS.2.2 d_M_writeLeaf_42
    ·
      refine lv_istore_n hx hb d_M_writeLeaf_15 rfl hl (by decide) rfl (fun ls hl => ?_)
      have hl : lv_has ls 6 [(3, .int (-2)), (0, .ref (am 0)), (1, .int (nI lf)), (2, .int (nI nn))] := hl
      refine lv_aload_n hx hb d_M_writeLeaf_16 rfl (lv_at hl 1 rfl) ?_
      refine lv_aload_n hx hb d_M_writeLeaf_17 rfl (lv_at hl 1 rfl) ?_
      refine va_get (D := (dC, dI)) (ci := 5) (v := .int (u12.2.1 4)) (C := R_M) (T := F_M) (N := 20) hx hb hts (fun w h => List.mem_cons_of_mem _ (in_M w h)) hown hK hP 0 rfl rfl 15 (by decide) (hts (.fieldLink R_M 64 R_M "worn" "Z") (List.mem_cons_of_mem _ t_727)) (fun _ h9 => h9) rfl d_M_writeLeaf_18 ?_
      refine lv_if_ne (tgt := 29) hx hb d_M_writeLeaf_21 (by decide) (fun c21 => ?_) (fun c21 => ?_)
      ·
        refine lv_iconst (v := nI 1) hx hb d_M_writeLeaf_29 (by decide) ?_
        refine lv_goto (tgt := 34) hx hb d_M_writeLeaf_30 (by decide) ?_
        refine va_put (D := (dC, dI)) (ci := 5) (v := .int (nI 1)) (ty := .boolean) (C := R_M) (T := F_M) (N := 20) hx hb hts (fun w h => List.mem_cons_of_mem _ (in_M w h)) t_M ok_M nm_M hown hK hP hD hS 0 rfl rfl 15 (by decide) (hts (.fieldLink R_M 64 R_M "worn" "Z") (List.mem_cons_of_mem _ t_727)) (fun _ h9 => h9) rfl (by decide +kernel) (by first | rfl | decide | assumption) rfl (Nat.le_of_ble_eq_true rfl) d_M_writeLeaf_34 (fun H locs hP hD hS => ?_)
        have hP : va_P (dC, dI) vwCl (mw_ am cm th (u12.1 1) (u12.1 2) mfl mact (u12.2.1 6) (u12.2.1 5) (nI (u12.2.2 0)) mlog (u12.1 0) had (u12.2.1 0) (u12.2.1 1) (u12.2.1 2) (u12.2.1 3) (nI 1) (u12.1 3) pla sou fou) H := hP
        have hD : va_D (xA 9 am s.heap.size) (mw_ am cm th (u12.1 1) (u12.1 2) mfl mact (u12.2.1 6) (u12.2.1 5) (nI (u12.2.2 0)) mlog (u12.1 0) had (u12.2.1 0) (u12.2.1 1) (u12.2.1 2) (u12.2.1 3) (nI 1) (u12.1 3) pla sou fou) := hD
        refine lv_iload_n hx hb d_M_writeLeaf_37 rfl (lv_at hl 0 rfl) ?_
        refine lv_if_eq (tgt := 43) hx hb d_M_writeLeaf_38 (by decide) (fun c38 => ?_) (fun c38 => ?_)
        ·
          exact absurd c38 (by decide)
        ·
          refine lv_iload_n hx hb d_M_writeLeaf_41 rfl (lv_at hl 0 rfl) ?_
          exact W.iret (v := (-2)) hx hb hr (fun t ht hW => ⟨⟨(-2), (fun i => [u12.1 0, u12.1 1, u12.1 2, u12.1 3].getD i (fun _ => 0), fun i => [u12.2.1 0, u12.2.1 1, u12.2.1 2, u12.2.1 3, nI 1, u12.2.1 5, u12.2.1 6].getD i 0, fun i => [u12.2.2 0].getD i 0), rfl, by first | exact ⟨Or.inr (Or.inl rfl), hmi⟩ | exact ⟨Or.inr (Or.inr rfl), hmi⟩ | exact ⟨Or.inl ⟨rfl, er135.trans er12, put_ne el135 (by omega)⟩, MI.putE hmi (by omega) er135 el135 ec135⟩, ⟨by rw [ht]; exact hP, va_K.moved hW.alike hK, hD⟩⟩, hS.F ht⟩) hS.2.2 d_M_writeLeaf_42
      ·
        refine lv_iload_n hx hb d_M_writeLeaf_24 rfl (lv_at hl 0 rfl) ?_
        refine lv_iconst (v := (-1)) hx hb d_M_writeLeaf_25 (by decide) ?_
        refine lv_icmp_ne (tgt := 33) hx hb d_M_writeLeaf_26 (by decide) (fun c26 => ?_) (fun c26 => ?_)
        ·
          refine lv_iconst (v := nI 0) hx hb d_M_writeLeaf_33 (by decide) ?_
          refine va_put (D := (dC, dI)) (ci := 5) (v := .int (nI 0)) (ty := .boolean) (C := R_M) (T := F_M) (N := 20) hx hb hts (fun w h => List.mem_cons_of_mem _ (in_M w h)) t_M ok_M nm_M hown hK hP hD hS 0 rfl rfl 15 (by decide) (hts (.fieldLink R_M 64 R_M "worn" "Z") (List.mem_cons_of_mem _ t_727)) (fun _ h9 => h9) rfl (by decide +kernel) (by first | rfl | decide | assumption) rfl (Nat.le_of_ble_eq_true rfl) d_M_writeLeaf_34 (fun H locs hP hD hS => ?_)
          have hP : va_P (dC, dI) vwCl (mw_ am cm th (u12.1 1) (u12.1 2) mfl mact (u12.2.1 6) (u12.2.1 5) (nI (u12.2.2 0)) mlog (u12.1 0) had (u12.2.1 0) (u12.2.1 1) (u12.2.1 2) (u12.2.1 3) (nI 0) (u12.1 3) pla sou fou) H := hP
          have hD : va_D (xA 9 am s.heap.size) (mw_ am cm th (u12.1 1) (u12.1 2) mfl mact (u12.2.1 6) (u12.2.1 5) (nI (u12.2.2 0)) mlog (u12.1 0) had (u12.2.1 0) (u12.2.1 1) (u12.2.1 2) (u12.2.1 3) (nI 0) (u12.1 3) pla sou fou) := hD
          refine lv_iload_n hx hb d_M_writeLeaf_37 rfl (lv_at hl 0 rfl) ?_
          refine lv_if_eq (tgt := 43) hx hb d_M_writeLeaf_38 (by decide) (fun c38 => ?_) (fun c38 => ?_)
          ·
            exact absurd c38 (by decide)
          ·
            refine lv_iload_n hx hb d_M_writeLeaf_41 rfl (lv_at hl 0 rfl) ?_
            exact W.iret (v := (-2)) hx hb hr (fun t ht hW => ⟨⟨(-2), (fun i => [u12.1 0, u12.1 1, u12.1 2, u12.1 3].getD i (fun _ => 0), fun i => [u12.2.1 0, u12.2.1 1, u12.2.1 2, u12.2.1 3, nI 0, u12.2.1 5, u12.2.1 6].getD i 0, fun i => [u12.2.2 0].getD i 0), rfl, by first | exact ⟨Or.inr (Or.inl rfl), hmi⟩ | exact ⟨Or.inr (Or.inr rfl), hmi⟩ | exact ⟨Or.inl ⟨rfl, er135.trans er12, put_ne el135 (by omega)⟩, MI.putE hmi (by omega) er135 el135 ec135⟩, ⟨by rw [ht]; exact hP, va_K.moved hW.alike hK, hD⟩⟩, hS.F ht⟩) hS.2.2 d_M_writeLeaf_42
        ·
          exact absurd c26 (by decide)
  ·
    refine lv_iconst (v := (-1)) hx hb d_M_writeLeaf_7 (by decide) ?_
    refine lv_goto (tgt := 15) hx hb d_M_writeLeaf_8 (by decide) ?_
    refine lv_istore_n hx hb d_M_writeLeaf_15 rfl hl (by decide) rfl (fun ls hl => ?_)
    have hl : lv_has ls 6 [(3, .int (-1)), (0, .ref (am 0)), (1, .int (nI lf)), (2, .int (nI nn))] := hl
    refine lv_aload_n hx hb d_M_writeLeaf_16 rfl (lv_at hl 1 rfl) ?_
    refine lv_aload_n hx hb d_M_writeLeaf_17 rfl (lv_at hl 1 rfl) ?_
    refine va_get (D := (dC, dI)) (ci := 5) (v := .int worn) (C := R_M) (T := F_M) (N := 20) hx hb hts (fun w h => List.mem_cons_of_mem _ (in_M w h)) hown hK hP 0 rfl rfl 15 (by decide) (hts (.fieldLink R_M 64 R_M "worn" "Z") (List.mem_cons_of_mem _ t_727)) (fun _ h9 => h9) rfl d_M_writeLeaf_18 ?_
    refine lv_if_ne (tgt := 29) hx hb d_M_writeLeaf_21 (by decide) (fun c21 => ?_) (fun c21 => ?_)
    ·
      refine lv_iconst (v := nI 1) hx hb d_M_writeLeaf_29 (by decide) ?_
      refine lv_goto (tgt := 34) hx hb d_M_writeLeaf_30 (by decide) ?_
      refine va_put (D := (dC, dI)) (ci := 5) (v := .int (nI 1)) (ty := .boolean) (C := R_M) (T := F_M) (N := 20) hx hb hts (fun w h => List.mem_cons_of_mem _ (in_M w h)) t_M ok_M nm_M hown hK hP hD hS 0 rfl rfl 15 (by decide) (hts (.fieldLink R_M 64 R_M "worn" "Z") (List.mem_cons_of_mem _ t_727)) (fun _ h9 => h9) rfl (by decide +kernel) (by first | rfl | decide | assumption) rfl (Nat.le_of_ble_eq_true rfl) d_M_writeLeaf_34 (fun H locs hP hD hS => ?_)
      have hP : va_P (dC, dI) vwCl (mw_ am cm th mw mwr mfl mact on cut (nI rn) mlog mlive had mser mcur mrd mwt (nI 1) pg pla sou fou) H := hP
      have hD : va_D (xA 9 am s.heap.size) (mw_ am cm th mw mwr mfl mact on cut (nI rn) mlog mlive had mser mcur mrd mwt (nI 1) pg pla sou fou) := hD
      refine lv_iload_n hx hb d_M_writeLeaf_37 rfl (lv_at hl 0 rfl) ?_
      refine lv_if_eq (tgt := 43) hx hb d_M_writeLeaf_38 (by decide) (fun c38 => ?_) (fun c38 => ?_)
      ·
        exact absurd c38 (by decide)
      ·
        refine lv_iload_n hx hb d_M_writeLeaf_41 rfl (lv_at hl 0 rfl) ?_
        exact W.iret (v := (-1)) hx hb hr (fun t ht hW => ⟨⟨(-1), (fun i => [mlive, mw, mwr, pg].getD i (fun _ => 0), fun i => [mser, mcur, mrd, mwt, nI 1, cut, on].getD i 0, fun i => [rn].getD i 0), rfl, by first | exact ⟨Or.inr (Or.inl rfl), hmi⟩ | exact ⟨Or.inr (Or.inr rfl), hmi⟩ | exact ⟨Or.inl ⟨rfl, er135.trans er12, put_ne el135 (by omega)⟩, MI.putE hmi (by omega) er135 el135 ec135⟩, ⟨by rw [ht]; exact hP, va_K.moved hW.alike hK, hD⟩⟩, hS.F ht⟩) hS.2.2 d_M_writeLeaf_42
    ·
      refine lv_iload_n hx hb d_M_writeLeaf_24 rfl (lv_at hl 0 rfl) ?_
      refine lv_iconst (v := (-1)) hx hb d_M_writeLeaf_25 (by decide) ?_
      refine lv_icmp_ne (tgt := 33) hx hb d_M_writeLeaf_26 (by decide) (fun c26 => ?_) (fun c26 => ?_)
      ·
        exact absurd c26 (by decide)
      ·
        refine lv_iconst (v := nI 1) hx hb d_M_writeLeaf_29 (by decide) ?_
        refine lv_goto (tgt := 34) hx hb d_M_writeLeaf_30 (by decide) ?_
        refine va_put (D := (dC, dI)) (ci := 5) (v := .int (nI 1)) (ty := .boolean) (C := R_M) (T := F_M) (N := 20) hx hb hts (fun w h => List.mem_cons_of_mem _ (in_M w h)) t_M ok_M nm_M hown hK hP hD hS 0 rfl rfl 15 (by decide) (hts (.fieldLink R_M 64 R_M "worn" "Z") (List.mem_cons_of_mem _ t_727)) (fun _ h9 => h9) rfl (by decide +kernel) (by first | rfl | decide | assumption) rfl (Nat.le_of_ble_eq_true rfl) d_M_writeLeaf_34 (fun H locs hP hD hS => ?_)
        have hP : va_P (dC, dI) vwCl (mw_ am cm th mw mwr mfl mact on cut (nI rn) mlog mlive had mser mcur mrd mwt (nI 1) pg pla sou fou) H := hP
        have hD : va_D (xA 9 am s.heap.size) (mw_ am cm th mw mwr mfl mact on cut (nI rn) mlog mlive had mser mcur mrd mwt (nI 1) pg pla sou fou) := hD
        refine lv_iload_n hx hb d_M_writeLeaf_37 rfl (lv_at hl 0 rfl) ?_
        refine lv_if_eq (tgt := 43) hx hb d_M_writeLeaf_38 (by decide) (fun c38 => ?_) (fun c38 => ?_)
        ·
          exact absurd c38 (by decide)
        ·
          refine lv_iload_n hx hb d_M_writeLeaf_41 rfl (lv_at hl 0 rfl) ?_
          exact W.iret (v := (-1)) hx hb hr (fun t ht hW => ⟨⟨(-1), (fun i => [mlive, mw, mwr, pg].getD i (fun _ => 0), fun i => [mser, mcur, mrd, mwt, nI 1, cut, on].getD i 0, fun i => [rn].getD i 0), rfl, by first | exact ⟨Or.inr (Or.inl rfl), hmi⟩ | exact ⟨Or.inr (Or.inr rfl), hmi⟩ | exact ⟨Or.inl ⟨rfl, er135.trans er12, put_ne el135 (by omega)⟩, MI.putE hmi (by omega) er135 el135 ec135⟩, ⟨by rw [ht]; exact hP, va_K.moved hW.alike hK, hD⟩⟩, hS.F ht⟩) hS.2.2 d_M_writeLeaf_42
set_option maxHeartbeats 4000000 in
set_option maxRecDepth 100000 in
theorem c_M_at (l : Launch) (dC : Nat → ClassId) (dI : Nat → Nat → Nat) (am cm : Nat → Nat) (th : Int32) (mw mwr mfl mact : Nat → Int32) (on cut mrec : Int32) (mlog mlive had : Nat → Int32) (mser mcur mrd mwt worn : Int32) (pg : Nat → Int32) (pla sou fou : Int32) (q : Nat) (k : Nat) (hq : 4 * q + k < 192) : Met l y_M_at w_M_at ({ frames := 0, cells := 0, slots := 0, locals := 0 }) (xR (dC, dI) vwCl (mt cm) (mw_ am cm th mw mwr mfl mact on cut mrec mlog mlive had mser mcur mrd mwt worn pg pla sou fou) [.ref (am 0), .int (nI q), .int (nI k)]) (vp_Si (fun r => r = mlog (4 * q + k))) 0 0 (fun _ => False) := by
  refine Met.ofW (cc := b_M_at) (maxL := 3) (ret := (some (.int))) (by decide) rfl ?_
  intro P e s m args below meth c0 s₁ B hml hv
  obtain ⟨rfl, hP, hK, hN⟩ := hv
  have hx := B.exec
  have hb := B.bytes
  have hr := B.returns
  have hts := atoms_spec (ws := w_M_at) B.pre
  have hown : s.vm.findClass R_M = some m.cls := findClass_of_methodNamed B.named
  have hlocks := B.notSynchronized
  have hl := lv_entry ([.ref (am 0), .int (nI q), .int (nI k)]) (n := 3) (Nat.le_of_ble_eq_true rfl)
  rw [lg_entry_eq]
  generalize (lg_sl ([.ref (am 0), .int (nI q), .int (nI k)]) ++ List.replicate (3 - (lg_sl ([.ref (am 0), .int (nI q), .int (nI k)])).length) Slot.unset).toArray = ls at hl ⊢
  have hl : lv_has ls 3 [(0, .ref (am 0)), (1, .int (nI q)), (2, .int (nI k))] := hl
  refine lv_aload_n hx hb d_M_at_0 rfl (lv_at hl 0 rfl) ?_
  refine va_get (D := (dC, dI)) (ci := 5) (v := .ref (am 5)) (C := R_M) (T := F_M) (N := 20) hx hb hts (fun w h => List.mem_cons_of_mem _ (in_M w h)) hown hK hP 0 rfl rfl 8 (by decide) (hts (.fieldLink R_M 31 R_M "log" "[I") (List.mem_cons_of_mem _ t_720)) (fun _ h9 => h9) rfl d_M_at_1 ?_
  refine lv_iconst (v := nI 4) hx hb d_M_at_4 (by decide) ?_
  refine lv_iload_n hx hb d_M_at_5 rfl (lv_at hl 1 rfl) ?_
  refine lv_imul hx hb d_M_at_6 ?_
  refine tp_i (y := nI (4 * q)) (pk_mul _ _) ?_
  refine lv_iload_n hx hb d_M_at_7 rfl (lv_at hl 2 rfl) ?_
  refine lv_iadd hx hb d_M_at_8 ?_
  refine tp_i (y := nI ((4 * q) + k)) (nI_add _ _) ?_
  refine va_iald hx hb hK hP 5 4 rfl rfl (vp_in_nI (by omega) (by decide)) d_M_at_9 ?_
  refine tp_i (y := mlog ((4 * q) + k)) (by rw [nI_clamp (by omega)]) ?_
  exact W.iret (v := mlog ((4 * q) + k)) hx hb hr (fun t ht hW => ⟨mlog ((4 * q) + k), rfl, by first | rfl | trivial | omega, ht⟩) (fun q hq => by cases hq) d_M_at_10
set_option maxHeartbeats 4000000 in
set_option maxRecDepth 100000 in
theorem c_M_isVoiding (l : Launch) (dC : Nat → ClassId) (dI : Nat → Nat → Nat) (am cm : Nat → Nat) (th : Int32) (mw mwr mfl mact : Nat → Int32) (on cut mrec : Int32) (mlog mlive had : Nat → Int32) (mser mcur mrd mwt worn : Int32) (pg : Nat → Int32) (pla sou fou : Int32) (q : Nat) (hq : q < 48) : Met l y_M_isVoiding w_M_isVoiding ({ frames := 1, cells := 0, slots := 0, locals := 22 }) (xR (dC, dI) vwCl (mt cm) (mw_ am cm th mw mwr mfl mact on cut mrec mlog mlive had mser mcur mrd mwt worn pg pla sou fou) [.ref (am 0), .int (nI q)]) (vp_Si (fun r => (r = nI 1 ∧ vd mlog q) ∨ (r = nI 0 ∧ ¬ vd mlog q))) 0 0 (fun _ => False) := by
  refine Met.ofW (cc := b_M_isVoiding) (maxL := 2) (ret := (some (.boolean))) (by decide) rfl ?_
  intro P e s m args below meth c0 s₁ B hml hv
  obtain ⟨rfl, hP, hK, hN⟩ := hv
  have hx := B.exec
  have hb := B.bytes
  have hr := B.returns
  have hts := atoms_spec (ws := w_M_isVoiding) B.pre
  have hown : s.vm.findClass R_M = some m.cls := findClass_of_methodNamed B.named
  have hlocks := B.notSynchronized
  have hl := lv_entry ([.ref (am 0), .int (nI q)]) (n := 2) (Nat.le_of_ble_eq_true rfl)
  rw [lg_entry_eq]
  generalize (lg_sl ([.ref (am 0), .int (nI q)]) ++ List.replicate (2 - (lg_sl ([.ref (am 0), .int (nI q)])).length) Slot.unset).toArray = ls at hl ⊢
  have hl : lv_has ls 2 [(0, .ref (am 0)), (1, .int (nI q))] := hl
  refine lv_aload_n hx hb d_M_isVoiding_0 rfl (lv_at hl 0 rfl) ?_
  refine lv_iload_n hx hb d_M_isVoiding_1 rfl (lv_at hl 1 rfl) ?_
  refine lv_iconst (v := nI 2) hx hb d_M_isVoiding_2 (by decide) ?_
  refine vp_callSi (va_runV (C := R_M) (As := [.int (nI q), .int (nI 2)]) (rest := []) ⟨hx, hb, hml, hown, hts⟩ (c_M_at l dC dI am cm th mw mwr mfl mact on cut mrec mlog mlive had mser mcur mrd mwt worn pg pla sou fou q 2 (by first | omega | rfl | assumption | decide)) (cwV 2 hts (g_V t_873 t_875 s_41 t_6 t_876) rfl rfl rfl (by decide +kernel) ⟨by decide, by decide⟩) (xR_v hP hK hN 0 rfl rfl) rfl rfl hl.1 rfl (lv_room (Nat.le_of_ble_eq_true rfl)) d_M_isVoiding_3 ⟨Nat.le_refl _, Nat.le_refl _⟩).run (fun r3 q3 => ?_)
  have q3 := q3.symm
  subst q3
  refine lv_bipush (v := nI 26) hx hb d_M_isVoiding_6 (by decide) ?_
  refine lv_iushr hx hb d_M_isVoiding_8 rfl ?_
  refine lv_bipush (v := nI 63) hx hb d_M_isVoiding_9 (by decide) ?_
  refine lv_icmp_ne (tgt := 18) hx hb d_M_isVoiding_11 (by decide) (fun c11 => ?_) (fun c11 => ?_)
  ·
    refine lv_iconst (v := nI 0) hx hb d_M_isVoiding_18 (by decide) ?_
    exact W.zret (v := nI 0) hx hb hr (by first | rfl | decide | assumption) (fun t ht hW => ⟨nI 0, rfl, Or.inr ⟨rfl, c11⟩, ht⟩) (fun q hq => by cases hq) d_M_isVoiding_19
  ·
    refine lv_iconst (v := nI 1) hx hb d_M_isVoiding_14 (by decide) ?_
    refine lv_goto (tgt := 19) hx hb d_M_isVoiding_15 (by decide) ?_
    exact W.zret (v := nI 1) hx hb hr (by first | rfl | decide | assumption) (fun t ht hW => ⟨nI 1, rfl, Or.inl ⟨rfl, c11⟩, ht⟩) (fun q hq => by cases hq) d_M_isVoiding_19
set_option maxHeartbeats 4000000 in
set_option maxRecDepth 100000 in
theorem c_M_placeOf (l : Launch) (dC : Nat → ClassId) (dI : Nat → Nat → Nat) (am cm : Nat → Nat) (th : Int32) (mw mwr mfl mact : Nat → Int32) (on cut mrec : Int32) (mlog mlive had : Nat → Int32) (mser mcur mrd mwt worn : Int32) (pg : Nat → Int32) (pla sou fou : Int32) (rn : Nat) (num : Int32) (hr48 : rn ≤ 48) : Met l y_M_placeOf w_M_placeOf ({ frames := 2, cells := 0, slots := 0, locals := 43 }) (xR (dC, dI) vwCl (mt cm) (mw_ am cm th mw mwr mfl mact on cut (nI rn) mlog mlive had mser mcur mrd mwt worn pg pla sou fou) [.ref (am 0), .int num]) (vp_Si (fun r => (∃ p : Nat, p < rn ∧ r = nI p) ∨ (r = -1 ∧ ∀ t : Nat, 1 ≤ t → t ≤ nv mlog rn → num ≠ nI t))) 0 0 (fun _ => False) := by
  refine Met.ofW (cc := b_M_placeOf) (maxL := 4) (ret := (some (.int))) (by decide) rfl ?_
  intro P e s m args below meth c0 s₁ B hml hv
  obtain ⟨rfl, hP, hK, hN⟩ := hv
  have hx := B.exec
  have hb := B.bytes
  have hr := B.returns
  have hts := atoms_spec (ws := w_M_placeOf) B.pre
  have hown : s.vm.findClass R_M = some m.cls := findClass_of_methodNamed B.named
  have hlocks := B.notSynchronized
  have hl := lv_entry ([.ref (am 0), .int num]) (n := 4) (Nat.le_of_ble_eq_true rfl)
  rw [lg_entry_eq]
  generalize (lg_sl ([.ref (am 0), .int num]) ++ List.replicate (4 - (lg_sl ([.ref (am 0), .int num])).length) Slot.unset).toArray = ls at hl ⊢
  have hl : lv_has ls 4 [(0, .ref (am 0)), (1, .int num)] := hl
  refine lv_iconst (v := nI 0) hx hb d_M_placeOf_0 (by decide) ?_
  refine lv_istore_n hx hb d_M_placeOf_1 rfl hl (by decide) rfl (fun ls hl => ?_)
  have hl : lv_has ls 4 [(2, .int (nI 0)), (0, .ref (am 0)), (1, .int num)] := hl
  refine lv_iconst (v := nI 0) hx hb d_M_placeOf_2 (by decide) ?_
  refine lv_istore_n hx hb d_M_placeOf_3 rfl hl (by decide) rfl (fun ls hl => ?_)
  have hl : lv_has ls 4 [(3, .int (nI 0)), (2, .int (nI 0)), (0, .ref (am 0)), (1, .int num)] := hl
  have lp4 : ∀ (n : Nat) (k : Nat) (mm : Nat) (ls : Array Slot), (rn - k) < n → (k ≤ rn) → (mm = nv mlog k) → (∀ t, 1 ≤ t → t ≤ mm → num ≠ nI t) → lv_has ls 4 [(0, .ref (am 0)), (1, .int num), (2, .int (nI mm)), (3, .int (nI k))] → W P l e (headSpec w_M_placeOf ({ frames := 2, cells := 0, slots := 0, locals := 43 })).room s m (([.ref (am 0), .int num] : List Value).toArray) below meth c0 s.heap [] 0 0 (MQ below (vp_Si (fun r => (∃ p : Nat, p < rn ∧ r = nI p) ∨ (r = -1 ∧ ∀ t : Nat, 1 ≤ t → t ≤ nv mlog rn → num ≠ nI t))) (([.ref (am 0), .int num] : List Value).toArray) s 0 0 (fun _ => False)) (F0 m 4 ls []) := by
    intro n
    induction n with
    | zero => intro k mm ls hm; intros; omega
    | succ n ih4 =>
      intro k mm ls hm hk hmm hno hl
      refine lv_iload_n hx hb d_M_placeOf_4 rfl (lv_at hl 3 rfl) ?_
      refine lv_aload_n hx hb d_M_placeOf_5 rfl (lv_at hl 0 rfl) ?_
      refine va_get (D := (dC, dI)) (ci := 5) (v := .int (nI rn)) (C := R_M) (T := F_M) (N := 20) hx hb hts (fun w h => List.mem_cons_of_mem _ (in_M w h)) hown hK hP 0 rfl rfl 7 (by decide) (hts (.fieldLink R_M 52 R_M "records" "I") (List.mem_cons_of_mem _ t_719)) (fun _ h9 => h9) rfl d_M_placeOf_6 ?_
      refine lv_icmp_ge (tgt := 39) hx hb d_M_placeOf_9 (by decide) (fun c9 => ?_) (fun c9 => ?_)
      ·
        have c9 := cd_ge_t (by omega) (by omega) c9
        refine lv_iconst (v := (-1)) hx hb d_M_placeOf_39 (by decide) ?_
        exact W.iret (v := (-1)) hx hb hr (fun t ht hW => ⟨(-1), rfl, Or.inr ⟨rfl, fun t h1 h2 => hno t h1 (by rw [hmm, show k = rn by omega]; exact h2)⟩, ht⟩) (fun q hq => by cases hq) d_M_placeOf_40
      ·
        have c9 := cd_ge_f (by omega) (by omega) c9
        refine lv_aload_n hx hb d_M_placeOf_12 rfl (lv_at hl 0 rfl) ?_
        refine lv_iload_n hx hb d_M_placeOf_13 rfl (lv_at hl 3 rfl) ?_
        refine vp_callSi (va_runV (C := R_M) (As := [.int (nI k)]) (rest := []) ⟨hx, hb, hml, hown, hts⟩ (c_M_isVoiding l dC dI am cm th mw mwr mfl mact on cut (nI rn) mlog mlive had mser mcur mrd mwt worn pg pla sou fou k (by first | omega | rfl | assumption | decide)) (cwV 1 hts (g_V t_869 t_871 s_40 t_6 t_872) rfl rfl rfl (by decide +kernel) ⟨by decide, by decide⟩) (xR_v hP hK hN 0 rfl rfl) rfl rfl hl.1 rfl (lv_room (Nat.le_of_ble_eq_true rfl)) d_M_placeOf_14 ⟨Nat.le_refl _, Nat.le_refl _⟩).run (fun r14 q14 => ?_)
        rcases q14 with ⟨rfl, hvd14⟩ | ⟨rfl, hvd14⟩
        ·
          refine lv_if_eq (tgt := 23) hx hb d_M_placeOf_17 (by decide) (fun c17 => ?_) (fun c17 => ?_)
          ·
            exact absurd c17 (by decide)
          ·
            refine lv_goto (tgt := 33) hx hb d_M_placeOf_20 (by decide) ?_
            refine lv_iinc (k := 3) (v := nI (k + 1)) hx hb d_M_placeOf_33 hl rfl (nI_1 _) (by decide) rfl (fun ls hl => ?_)
            have hl : lv_has ls 4 [(3, .int (nI (k + 1))), (0, .ref (am 0)), (1, .int num), (2, .int (nI mm))] := hl
            refine lv_goto (tgt := 4) hx hb d_M_placeOf_36 (by decide) ?_
            exact ih4 (k + 1) mm ls (by omega) (by omega) (by rw [nv_y hvd14, hmm]) hno (lv_sub hl [1, 2, 3, 0] rfl)
        ·
          refine lv_if_eq (tgt := 23) hx hb d_M_placeOf_17 (by decide) (fun c17 => ?_) (fun c17 => ?_)
          ·
            refine lv_iinc (k := 2) (v := nI (mm + 1)) hx hb d_M_placeOf_23 hl rfl (nI_1 _) (by decide) rfl (fun ls hl => ?_)
            have hl : lv_has ls 4 [(2, .int (nI (mm + 1))), (0, .ref (am 0)), (1, .int num), (3, .int (nI k))] := hl
            refine lv_iload_n hx hb d_M_placeOf_26 rfl (lv_at hl 0 rfl) ?_
            refine lv_iload_n hx hb d_M_placeOf_27 rfl (lv_at hl 2 rfl) ?_
            refine lv_icmp_ne (tgt := 33) hx hb d_M_placeOf_28 (by decide) (fun c28 => ?_) (fun c28 => ?_)
            ·
              refine lv_iinc (k := 3) (v := nI (k + 1)) hx hb d_M_placeOf_33 hl rfl (nI_1 _) (by decide) rfl (fun ls hl => ?_)
              have hl : lv_has ls 4 [(3, .int (nI (k + 1))), (2, .int (nI (mm + 1))), (0, .ref (am 0)), (1, .int num)] := hl
              refine lv_goto (tgt := 4) hx hb d_M_placeOf_36 (by decide) ?_
              exact ih4 (k + 1) (mm + 1) ls (by omega) (by omega) (by rw [nv_n hvd14, hmm]) (no_s hno c28) (lv_sub hl [2, 3, 1, 0] rfl)
            ·
              refine lv_iload_n hx hb d_M_placeOf_31 rfl (lv_at hl 3 rfl) ?_
              exact W.iret (v := nI k) hx hb hr (fun t ht hW => ⟨nI k, rfl, Or.inl ⟨k, by omega, rfl⟩, ht⟩) (fun q hq => by cases hq) d_M_placeOf_32
          ·
            exact absurd c17 (by decide)
  exact lp4 _ 0 0 ls (Nat.lt_succ_self _) (by omega) rfl (fun t h1 h2 => absurd h1 (by omega)) (lv_sub hl [2, 3, 1, 0] rfl)
set_option maxHeartbeats 4000000 in
set_option maxRecDepth 100000 in
theorem c_M_tickets (l : Launch) (dC : Nat → ClassId) (dI : Nat → Nat → Nat) (am cm : Nat → Nat) (th : Int32) (mw mwr mfl mact : Nat → Int32) (on cut mrec : Int32) (mlog mlive had : Nat → Int32) (mser mcur mrd mwt worn : Int32) (pg : Nat → Int32) (pla sou fou : Int32) (rn : Nat) (hr48 : rn ≤ 48) : Met l y_M_tickets w_M_tickets ({ frames := 2, cells := 0, slots := 0, locals := 43 }) (xR (dC, dI) vwCl (mt cm) (mw_ am cm th mw mwr mfl mact on cut (nI rn) mlog mlive had mser mcur mrd mwt worn pg pla sou fou) [.ref (am 0)]) (vp_Si (fun r => r = nI (nv mlog rn))) 0 0 (fun _ => False) := by
  refine Met.ofW (cc := b_M_tickets) (maxL := 3) (ret := (some (.int))) (by decide) rfl ?_
  intro P e s m args below meth c0 s₁ B hml hv
  obtain ⟨rfl, hP, hK, hN⟩ := hv
  have hx := B.exec
  have hb := B.bytes
  have hr := B.returns
  have hts := atoms_spec (ws := w_M_tickets) B.pre
  have hown : s.vm.findClass R_M = some m.cls := findClass_of_methodNamed B.named
  have hlocks := B.notSynchronized
  have hl := lv_entry ([.ref (am 0)]) (n := 3) (Nat.le_of_ble_eq_true rfl)
  rw [lg_entry_eq]
  generalize (lg_sl ([.ref (am 0)]) ++ List.replicate (3 - (lg_sl ([.ref (am 0)])).length) Slot.unset).toArray = ls at hl ⊢
  have hl : lv_has ls 3 [(0, .ref (am 0))] := hl
  refine lv_iconst (v := nI 0) hx hb d_M_tickets_0 (by decide) ?_
  refine lv_istore_n hx hb d_M_tickets_1 rfl hl (by decide) rfl (fun ls hl => ?_)
  have hl : lv_has ls 3 [(1, .int (nI 0)), (0, .ref (am 0))] := hl
  refine lv_iconst (v := nI 0) hx hb d_M_tickets_2 (by decide) ?_
  refine lv_istore_n hx hb d_M_tickets_3 rfl hl (by decide) rfl (fun ls hl => ?_)
  have hl : lv_has ls 3 [(2, .int (nI 0)), (1, .int (nI 0)), (0, .ref (am 0))] := hl
  have lp4 : ∀ (n : Nat) (k : Nat) (mm : Nat) (ls : Array Slot), (rn - k) < n → (k ≤ rn) → (mm = nv mlog k) → lv_has ls 3 [(0, .ref (am 0)), (1, .int (nI mm)), (2, .int (nI k))] → W P l e (headSpec w_M_tickets ({ frames := 2, cells := 0, slots := 0, locals := 43 })).room s m (([.ref (am 0)] : List Value).toArray) below meth c0 s.heap [] 0 0 (MQ below (vp_Si (fun r => r = nI (nv mlog rn))) (([.ref (am 0)] : List Value).toArray) s 0 0 (fun _ => False)) (F0 m 4 ls []) := by
    intro n
    induction n with
    | zero => intro k mm ls hm; intros; omega
    | succ n ih4 =>
      intro k mm ls hm hk hmm hl
      refine lv_iload_n hx hb d_M_tickets_4 rfl (lv_at hl 2 rfl) ?_
      refine lv_aload_n hx hb d_M_tickets_5 rfl (lv_at hl 0 rfl) ?_
      refine va_get (D := (dC, dI)) (ci := 5) (v := .int (nI rn)) (C := R_M) (T := F_M) (N := 20) hx hb hts (fun w h => List.mem_cons_of_mem _ (in_M w h)) hown hK hP 0 rfl rfl 7 (by decide) (hts (.fieldLink R_M 52 R_M "records" "I") (List.mem_cons_of_mem _ t_719)) (fun _ h9 => h9) rfl d_M_tickets_6 ?_
      refine lv_icmp_ge (tgt := 34) hx hb d_M_tickets_9 (by decide) (fun c9 => ?_) (fun c9 => ?_)
      ·
        have c9 := cd_ge_t (by omega) (by omega) c9
        refine lv_iload_n hx hb d_M_tickets_34 rfl (lv_at hl 1 rfl) ?_
        exact W.iret (v := nI mm) hx hb hr (fun t ht hW => ⟨nI mm, rfl, by rw [hmm, show k = rn by omega], ht⟩) (fun q hq => by cases hq) d_M_tickets_35
      ·
        have c9 := cd_ge_f (by omega) (by omega) c9
        refine lv_iload_n hx hb d_M_tickets_12 rfl (lv_at hl 1 rfl) ?_
        refine lv_aload_n hx hb d_M_tickets_13 rfl (lv_at hl 0 rfl) ?_
        refine lv_iload_n hx hb d_M_tickets_14 rfl (lv_at hl 2 rfl) ?_
        refine vp_callSi (va_runV (C := R_M) (As := [.int (nI k)]) (rest := [.int (nI mm)]) ⟨hx, hb, hml, hown, hts⟩ (c_M_isVoiding l dC dI am cm th mw mwr mfl mact on cut (nI rn) mlog mlive had mser mcur mrd mwt worn pg pla sou fou k (by first | omega | rfl | assumption | decide)) (cwV 1 hts (g_V t_869 t_871 s_40 t_6 t_872) rfl rfl rfl (by decide +kernel) ⟨by decide, by decide⟩) (xR_v hP hK hN 0 rfl rfl) rfl rfl hl.1 rfl (lv_room (Nat.le_of_ble_eq_true rfl)) d_M_tickets_15 ⟨Nat.le_refl _, Nat.le_refl _⟩).run (fun r15 q15 => ?_)
        rcases q15 with ⟨rfl, hvd15⟩ | ⟨rfl, hvd15⟩
        ·
          refine lv_if_eq (tgt := 25) hx hb d_M_tickets_18 (by decide) (fun c18 => ?_) (fun c18 => ?_)
          ·
            exact absurd c18 (by decide)
          ·
            refine lv_iconst (v := nI 0) hx hb d_M_tickets_21 (by decide) ?_
            refine lv_goto (tgt := 26) hx hb d_M_tickets_22 (by decide) ?_
            refine lv_iadd hx hb d_M_tickets_26 ?_
            refine tp_i (y := nI (mm + 0)) (nI_add _ _) ?_
            refine lv_istore_n hx hb d_M_tickets_27 rfl hl (by decide) rfl (fun ls hl => ?_)
            have hl : lv_has ls 3 [(1, .int (nI (mm + 0))), (0, .ref (am 0)), (2, .int (nI k))] := hl
            refine lv_iinc (k := 2) (v := nI (k + 1)) hx hb d_M_tickets_28 hl rfl (nI_1 _) (by decide) rfl (fun ls hl => ?_)
            have hl : lv_has ls 3 [(2, .int (nI (k + 1))), (1, .int (nI (mm + 0))), (0, .ref (am 0))] := hl
            refine lv_goto (tgt := 4) hx hb d_M_tickets_31 (by decide) ?_
            exact ih4 (k + 1) (mm + 0) ls (by omega) (by omega) (by rw [nv_y hvd15, hmm, Nat.add_zero]) (lv_sub hl [2, 1, 0] rfl)
        ·
          refine lv_if_eq (tgt := 25) hx hb d_M_tickets_18 (by decide) (fun c18 => ?_) (fun c18 => ?_)
          ·
            refine lv_iconst (v := nI 1) hx hb d_M_tickets_25 (by decide) ?_
            refine lv_iadd hx hb d_M_tickets_26 ?_
            refine tp_i (y := nI (mm + 1)) (nI_add _ _) ?_
            refine lv_istore_n hx hb d_M_tickets_27 rfl hl (by decide) rfl (fun ls hl => ?_)
            have hl : lv_has ls 3 [(1, .int (nI (mm + 1))), (0, .ref (am 0)), (2, .int (nI k))] := hl
            refine lv_iinc (k := 2) (v := nI (k + 1)) hx hb d_M_tickets_28 hl rfl (nI_1 _) (by decide) rfl (fun ls hl => ?_)
            have hl : lv_has ls 3 [(2, .int (nI (k + 1))), (1, .int (nI (mm + 1))), (0, .ref (am 0))] := hl
            refine lv_goto (tgt := 4) hx hb d_M_tickets_31 (by decide) ?_
            exact ih4 (k + 1) (mm + 1) ls (by omega) (by omega) (by rw [nv_n hvd15, hmm]) (lv_sub hl [2, 1, 0] rfl)
          ·
            exact absurd c18 (by decide)
  exact lp4 _ 0 0 ls (Nat.lt_succ_self _) (by omega) rfl (lv_sub hl [2, 1, 0] rfl)
set_option maxHeartbeats 4000000 in
set_option maxRecDepth 100000 in
theorem c_M_voided (l : Launch) (dC : Nat → ClassId) (dI : Nat → Nat → Nat) (am cm : Nat → Nat) (th : Int32) (mw mwr mfl mact : Nat → Int32) (on cut mrec : Int32) (mlog mlive had : Nat → Int32) (mser mcur mrd mwt worn : Int32) (pg : Nat → Int32) (pla sou fou : Int32) (rn : Nat) (num : Int32) (hr48 : rn ≤ 48) : Met l y_M_voided w_M_voided ({ frames := 3, cells := 0, slots := 0, locals := 66 }) (xR (dC, dI) vwCl (mt cm) (mw_ am cm th mw mwr mfl mact on cut (nI rn) mlog mlive had mser mcur mrd mwt worn pg pla sou fou) [.ref (am 0), .int num]) (vp_Si (fun r => True)) 0 0 (fun _ => False) := by
  refine Met.ofW (cc := b_M_voided) (maxL := 3) (ret := (some (.int))) (by decide) rfl ?_
  intro P e s m args below meth c0 s₁ B hml hv
  obtain ⟨rfl, hP, hK, hN⟩ := hv
  have hx := B.exec
  have hb := B.bytes
  have hr := B.returns
  have hts := atoms_spec (ws := w_M_voided) B.pre
  have hown : s.vm.findClass R_M = some m.cls := findClass_of_methodNamed B.named
  have hlocks := B.notSynchronized
  have hl := lv_entry ([.ref (am 0), .int num]) (n := 3) (Nat.le_of_ble_eq_true rfl)
  rw [lg_entry_eq]
  generalize (lg_sl ([.ref (am 0), .int num]) ++ List.replicate (3 - (lg_sl ([.ref (am 0), .int num])).length) Slot.unset).toArray = ls at hl ⊢
  have hl : lv_has ls 3 [(0, .ref (am 0)), (1, .int num)] := hl
  refine lv_aload_n hx hb d_M_voided_0 rfl (lv_at hl 0 rfl) ?_
  refine lv_iload_n hx hb d_M_voided_1 rfl (lv_at hl 1 rfl) ?_
  refine vp_callSi (va_runV (C := R_M) (As := [.int num]) (rest := []) ⟨hx, hb, hml, hown, hts⟩ (c_M_placeOf l dC dI am cm th mw mwr mfl mact on cut (nI rn) mlog mlive had mser mcur mrd mwt worn pg pla sou fou rn num (by first | omega | rfl | assumption | decide)) (cwV 1 hts (g_V t_881 t_883 s_42 t_6 t_884) rfl rfl rfl (by decide +kernel) ⟨by decide, by decide⟩) (xR_v hP hK hN 0 rfl rfl) rfl rfl hl.1 rfl (lv_room (Nat.le_of_ble_eq_true rfl)) d_M_voided_2 ⟨Nat.le_refl _, Nat.le_refl _⟩).run (fun r2 q2 => ?_)
  rcases q2 with ⟨p2, hp2, rfl⟩ | ⟨rfl, hno2⟩
  ·
    refine lv_iconst (v := nI 1) hx hb d_M_voided_5 (by decide) ?_
    refine lv_iadd hx hb d_M_voided_6 ?_
    refine tp_i (y := nI (p2 + 1)) (nI_add _ _) ?_
    refine lv_istore_n hx hb d_M_voided_7 rfl hl (by decide) rfl (fun ls hl => ?_)
    have hl : lv_has ls 3 [(2, .int (nI (p2 + 1))), (0, .ref (am 0)), (1, .int num)] := hl
    have lp8 : ∀ (n : Nat) (k : Nat) (ls : Array Slot), (48 - k) < n → (k ≤ 48) → lv_has ls 3 [(0, .ref (am 0)), (1, .int num), (2, .int (nI k))] → W P l e (headSpec w_M_voided ({ frames := 3, cells := 0, slots := 0, locals := 66 })).room s m (([.ref (am 0), .int num] : List Value).toArray) below meth c0 s.heap [] 0 0 (MQ below (vp_Si (fun r => True)) (([.ref (am 0), .int num] : List Value).toArray) s 0 0 (fun _ => False)) (F0 m 8 ls []) := by
      intro n
      induction n with
      | zero => intro k ls hm; intros; omega
      | succ n ih8 =>
        intro k ls hm hk hl
        refine lv_iload_n hx hb d_M_voided_8 rfl (lv_at hl 2 rfl) ?_
        refine lv_aload_n hx hb d_M_voided_9 rfl (lv_at hl 0 rfl) ?_
        refine va_get (D := (dC, dI)) (ci := 5) (v := .int (nI rn)) (C := R_M) (T := F_M) (N := 20) hx hb hts (fun w h => List.mem_cons_of_mem _ (in_M w h)) hown hK hP 0 rfl rfl 7 (by decide) (hts (.fieldLink R_M 52 R_M "records" "I") (List.mem_cons_of_mem _ t_719)) (fun _ h9 => h9) rfl d_M_voided_10 ?_
        refine lv_icmp_ge (tgt := 63) hx hb d_M_voided_13 (by decide) (fun c13 => ?_) (fun c13 => ?_)
        ·
          have c13 := cd_ge_t (by omega) (by omega) c13
          refine lv_iconst (v := nI 0) hx hb d_M_voided_63 (by decide) ?_
          exact W.iret (v := nI 0) hx hb hr (fun t ht hW => ⟨nI 0, rfl, by first | rfl | trivial | omega, ht⟩) (fun q hq => by cases hq) d_M_voided_64
        ·
          have c13 := cd_ge_f (by omega) (by omega) c13
          refine lv_aload_n hx hb d_M_voided_16 rfl (lv_at hl 0 rfl) ?_
          refine lv_iload_n hx hb d_M_voided_17 rfl (lv_at hl 2 rfl) ?_
          refine vp_callSi (va_runV (C := R_M) (As := [.int (nI k)]) (rest := []) ⟨hx, hb, hml, hown, hts⟩ (c_M_isVoiding l dC dI am cm th mw mwr mfl mact on cut (nI rn) mlog mlive had mser mcur mrd mwt worn pg pla sou fou k (by first | omega | rfl | assumption | decide)) (cwV 1 hts (g_V t_869 t_871 s_40 t_6 t_872) rfl rfl rfl (by decide +kernel) ⟨by decide, by decide⟩) (xR_v hP hK hN 0 rfl rfl) rfl rfl hl.1 rfl (lv_room (Nat.le_of_ble_eq_true rfl)) d_M_voided_18 ⟨Nat.le_refl _, Nat.le_refl _⟩).run (fun r18 q18 => ?_)
          rcases q18 with ⟨rfl, hvd18⟩ | ⟨rfl, hvd18⟩
          ·
            refine lv_if_eq (tgt := 57) hx hb d_M_voided_21 (by decide) (fun c21 => ?_) (fun c21 => ?_)
            ·
              exact absurd c21 (by decide)
            ·
              refine lv_aload_n hx hb d_M_voided_24 rfl (lv_at hl 0 rfl) ?_
              refine lv_iload_n hx hb d_M_voided_25 rfl (lv_at hl 2 rfl) ?_
              refine lv_iconst (v := nI 0) hx hb d_M_voided_26 (by decide) ?_
              refine vp_callSi (va_runV (C := R_M) (As := [.int (nI k), .int (nI 0)]) (rest := []) ⟨hx, hb, hml, hown, hts⟩ (c_M_at l dC dI am cm th mw mwr mfl mact on cut (nI rn) mlog mlive had mser mcur mrd mwt worn pg pla sou fou k 0 (by first | omega | rfl | assumption | decide)) (cwV 2 hts (g_V t_873 t_875 s_41 t_6 t_876) rfl rfl rfl (by decide +kernel) ⟨by decide, by decide⟩) (xR_v hP hK hN 0 rfl rfl) rfl rfl hl.1 rfl (lv_room (Nat.le_of_ble_eq_true rfl)) d_M_voided_27 ⟨Nat.le_refl _, Nat.le_refl _⟩).run (fun r27 q27 => ?_)
              have q27 := q27.symm
              subst q27
              refine lv_iload_n hx hb d_M_voided_30 rfl (lv_at hl 1 rfl) ?_
              refine lv_icmp_ne (tgt := 57) hx hb d_M_voided_31 (by decide) (fun c31 => ?_) (fun c31 => ?_)
              ·
                refine lv_iinc (k := 2) (v := nI (k + 1)) hx hb d_M_voided_57 hl rfl (nI_1 _) (by decide) rfl (fun ls hl => ?_)
                have hl : lv_has ls 3 [(2, .int (nI (k + 1))), (0, .ref (am 0)), (1, .int num)] := hl
                refine lv_goto (tgt := 8) hx hb d_M_voided_60 (by decide) ?_
                exact ih8 (k + 1) ls (by omega) (by omega) (lv_sub hl [1, 2, 0] rfl)
              ·
                refine lv_aload_n hx hb d_M_voided_34 rfl (lv_at hl 0 rfl) ?_
                refine lv_iload_n hx hb d_M_voided_35 rfl (lv_at hl 2 rfl) ?_
                refine lv_iconst (v := nI 1) hx hb d_M_voided_36 (by decide) ?_
                refine vp_callSi (va_runV (C := R_M) (As := [.int (nI k), .int (nI 1)]) (rest := []) ⟨hx, hb, hml, hown, hts⟩ (c_M_at l dC dI am cm th mw mwr mfl mact on cut (nI rn) mlog mlive had mser mcur mrd mwt worn pg pla sou fou k 1 (by first | omega | rfl | assumption | decide)) (cwV 2 hts (g_V t_873 t_875 s_41 t_6 t_876) rfl rfl rfl (by decide +kernel) ⟨by decide, by decide⟩) (xR_v hP hK hN 0 rfl rfl) rfl rfl hl.1 rfl (lv_room (Nat.le_of_ble_eq_true rfl)) d_M_voided_37 ⟨Nat.le_refl _, Nat.le_refl _⟩).run (fun r37 q37 => ?_)
                have q37 := q37.symm
                subst q37
                refine lv_iconst (v := nI 0) hx hb d_M_voided_40 (by decide) ?_
                refine lv_iconst (v := nI 3) hx hb d_M_voided_41 (by decide) ?_
                refine vp_callSi (va_runS (As := [.int (mlog (4 * k + 1)), .int (nI 0), .int (nI 3)]) (rest := []) ⟨hx, hb, hml, hown, hts⟩ (c_M_isIn l dC dI (mlog (4 * k + 1)) (nI 0) (nI 3) ) (cwS 3 hts (g_S t_781 t_782 t_6 t_783) rfl rfl rfl (by decide +kernel) ⟨by decide, by decide⟩) (xR_s (va_P.sub hP [] rfl) (hK.sub [] rfl) hN) rfl rfl hl.1 rfl (lv_room (Nat.le_of_ble_eq_true rfl)) d_M_voided_42 ⟨Nat.le_refl _, Nat.le_refl _⟩).run (fun r42 q42 => ?_)
                rcases q42 with ⟨rfl, hin42⟩ | ⟨rfl, hin42⟩
                ·
                  refine lv_if_eq (tgt := 57) hx hb d_M_voided_45 (by decide) (fun c45 => ?_) (fun c45 => ?_)
                  ·
                    exact absurd c45 (by decide)
                  ·
                    refine lv_aload_n hx hb d_M_voided_48 rfl (lv_at hl 0 rfl) ?_
                    refine lv_iload_n hx hb d_M_voided_49 rfl (lv_at hl 2 rfl) ?_
                    refine lv_iconst (v := nI 1) hx hb d_M_voided_50 (by decide) ?_
                    refine vp_callSi (va_runV (C := R_M) (As := [.int (nI k), .int (nI 1)]) (rest := []) ⟨hx, hb, hml, hown, hts⟩ (c_M_at l dC dI am cm th mw mwr mfl mact on cut (nI rn) mlog mlive had mser mcur mrd mwt worn pg pla sou fou k 1 (by first | omega | rfl | assumption | decide)) (cwV 2 hts (g_V t_873 t_875 s_41 t_6 t_876) rfl rfl rfl (by decide +kernel) ⟨by decide, by decide⟩) (xR_v hP hK hN 0 rfl rfl) rfl rfl hl.1 rfl (lv_room (Nat.le_of_ble_eq_true rfl)) d_M_voided_51 ⟨Nat.le_refl _, Nat.le_refl _⟩).run (fun r51 q51 => ?_)
                    have q51 := q51.symm
                    subst q51
                    refine lv_iconst (v := nI 1) hx hb d_M_voided_54 (by decide) ?_
                    refine lv_iadd hx hb d_M_voided_55 ?_
                    exact W.iret (v := (mlog (4 * k + 1)) + (nI 1)) hx hb hr (fun t ht hW => ⟨(mlog (4 * k + 1)) + (nI 1), rfl, by first | rfl | trivial | omega, ht⟩) (fun q hq => by cases hq) d_M_voided_56
                ·
                  refine lv_if_eq (tgt := 57) hx hb d_M_voided_45 (by decide) (fun c45 => ?_) (fun c45 => ?_)
                  ·
                    refine lv_iinc (k := 2) (v := nI (k + 1)) hx hb d_M_voided_57 hl rfl (nI_1 _) (by decide) rfl (fun ls hl => ?_)
                    have hl : lv_has ls 3 [(2, .int (nI (k + 1))), (0, .ref (am 0)), (1, .int num)] := hl
                    refine lv_goto (tgt := 8) hx hb d_M_voided_60 (by decide) ?_
                    exact ih8 (k + 1) ls (by omega) (by omega) (lv_sub hl [1, 2, 0] rfl)
                  ·
                    exact absurd c45 (by decide)
          ·
            refine lv_if_eq (tgt := 57) hx hb d_M_voided_21 (by decide) (fun c21 => ?_) (fun c21 => ?_)
            ·
              refine lv_iinc (k := 2) (v := nI (k + 1)) hx hb d_M_voided_57 hl rfl (nI_1 _) (by decide) rfl (fun ls hl => ?_)
              have hl : lv_has ls 3 [(2, .int (nI (k + 1))), (0, .ref (am 0)), (1, .int num)] := hl
              refine lv_goto (tgt := 8) hx hb d_M_voided_60 (by decide) ?_
              exact ih8 (k + 1) ls (by omega) (by omega) (lv_sub hl [1, 2, 0] rfl)
            ·
              exact absurd c21 (by decide)
    exact lp8 _ (p2 + 1) ls (Nat.lt_succ_self _) (by omega) (lv_sub hl [1, 2, 0] rfl)
  ·
    refine lv_iconst (v := nI 1) hx hb d_M_voided_5 (by decide) ?_
    refine lv_iadd hx hb d_M_voided_6 ?_
    refine tp_i (y := nI 0) (by decide) ?_
    refine lv_istore_n hx hb d_M_voided_7 rfl hl (by decide) rfl (fun ls hl => ?_)
    have hl : lv_has ls 3 [(2, .int (nI 0)), (0, .ref (am 0)), (1, .int num)] := hl
    have lp8 : ∀ (n : Nat) (k : Nat) (ls : Array Slot), (48 - k) < n → (k ≤ 48) → lv_has ls 3 [(0, .ref (am 0)), (1, .int num), (2, .int (nI k))] → W P l e (headSpec w_M_voided ({ frames := 3, cells := 0, slots := 0, locals := 66 })).room s m (([.ref (am 0), .int num] : List Value).toArray) below meth c0 s.heap [] 0 0 (MQ below (vp_Si (fun r => True)) (([.ref (am 0), .int num] : List Value).toArray) s 0 0 (fun _ => False)) (F0 m 8 ls []) := by
      intro n
      induction n with
      | zero => intro k ls hm; intros; omega
      | succ n ih8 =>
        intro k ls hm hk hl
        refine lv_iload_n hx hb d_M_voided_8 rfl (lv_at hl 2 rfl) ?_
        refine lv_aload_n hx hb d_M_voided_9 rfl (lv_at hl 0 rfl) ?_
        refine va_get (D := (dC, dI)) (ci := 5) (v := .int (nI rn)) (C := R_M) (T := F_M) (N := 20) hx hb hts (fun w h => List.mem_cons_of_mem _ (in_M w h)) hown hK hP 0 rfl rfl 7 (by decide) (hts (.fieldLink R_M 52 R_M "records" "I") (List.mem_cons_of_mem _ t_719)) (fun _ h9 => h9) rfl d_M_voided_10 ?_
        refine lv_icmp_ge (tgt := 63) hx hb d_M_voided_13 (by decide) (fun c13 => ?_) (fun c13 => ?_)
        ·
          have c13 := cd_ge_t (by omega) (by omega) c13
          refine lv_iconst (v := nI 0) hx hb d_M_voided_63 (by decide) ?_
          exact W.iret (v := nI 0) hx hb hr (fun t ht hW => ⟨nI 0, rfl, by first | rfl | trivial | omega, ht⟩) (fun q hq => by cases hq) d_M_voided_64
        ·
          have c13 := cd_ge_f (by omega) (by omega) c13
          refine lv_aload_n hx hb d_M_voided_16 rfl (lv_at hl 0 rfl) ?_
          refine lv_iload_n hx hb d_M_voided_17 rfl (lv_at hl 2 rfl) ?_
          refine vp_callSi (va_runV (C := R_M) (As := [.int (nI k)]) (rest := []) ⟨hx, hb, hml, hown, hts⟩ (c_M_isVoiding l dC dI am cm th mw mwr mfl mact on cut (nI rn) mlog mlive had mser mcur mrd mwt worn pg pla sou fou k (by first | omega | rfl | assumption | decide)) (cwV 1 hts (g_V t_869 t_871 s_40 t_6 t_872) rfl rfl rfl (by decide +kernel) ⟨by decide, by decide⟩) (xR_v hP hK hN 0 rfl rfl) rfl rfl hl.1 rfl (lv_room (Nat.le_of_ble_eq_true rfl)) d_M_voided_18 ⟨Nat.le_refl _, Nat.le_refl _⟩).run (fun r18 q18 => ?_)
          rcases q18 with ⟨rfl, hvd18⟩ | ⟨rfl, hvd18⟩
          ·
            refine lv_if_eq (tgt := 57) hx hb d_M_voided_21 (by decide) (fun c21 => ?_) (fun c21 => ?_)
            ·
              exact absurd c21 (by decide)
            ·
              refine lv_aload_n hx hb d_M_voided_24 rfl (lv_at hl 0 rfl) ?_
              refine lv_iload_n hx hb d_M_voided_25 rfl (lv_at hl 2 rfl) ?_
              refine lv_iconst (v := nI 0) hx hb d_M_voided_26 (by decide) ?_
              refine vp_callSi (va_runV (C := R_M) (As := [.int (nI k), .int (nI 0)]) (rest := []) ⟨hx, hb, hml, hown, hts⟩ (c_M_at l dC dI am cm th mw mwr mfl mact on cut (nI rn) mlog mlive had mser mcur mrd mwt worn pg pla sou fou k 0 (by first | omega | rfl | assumption | decide)) (cwV 2 hts (g_V t_873 t_875 s_41 t_6 t_876) rfl rfl rfl (by decide +kernel) ⟨by decide, by decide⟩) (xR_v hP hK hN 0 rfl rfl) rfl rfl hl.1 rfl (lv_room (Nat.le_of_ble_eq_true rfl)) d_M_voided_27 ⟨Nat.le_refl _, Nat.le_refl _⟩).run (fun r27 q27 => ?_)
              have q27 := q27.symm
              subst q27
              refine lv_iload_n hx hb d_M_voided_30 rfl (lv_at hl 1 rfl) ?_
              refine lv_icmp_ne (tgt := 57) hx hb d_M_voided_31 (by decide) (fun c31 => ?_) (fun c31 => ?_)
              ·
                refine lv_iinc (k := 2) (v := nI (k + 1)) hx hb d_M_voided_57 hl rfl (nI_1 _) (by decide) rfl (fun ls hl => ?_)
                have hl : lv_has ls 3 [(2, .int (nI (k + 1))), (0, .ref (am 0)), (1, .int num)] := hl
                refine lv_goto (tgt := 8) hx hb d_M_voided_60 (by decide) ?_
                exact ih8 (k + 1) ls (by omega) (by omega) (lv_sub hl [1, 2, 0] rfl)
              ·
                refine lv_aload_n hx hb d_M_voided_34 rfl (lv_at hl 0 rfl) ?_
                refine lv_iload_n hx hb d_M_voided_35 rfl (lv_at hl 2 rfl) ?_
                refine lv_iconst (v := nI 1) hx hb d_M_voided_36 (by decide) ?_
                refine vp_callSi (va_runV (C := R_M) (As := [.int (nI k), .int (nI 1)]) (rest := []) ⟨hx, hb, hml, hown, hts⟩ (c_M_at l dC dI am cm th mw mwr mfl mact on cut (nI rn) mlog mlive had mser mcur mrd mwt worn pg pla sou fou k 1 (by first | omega | rfl | assumption | decide)) (cwV 2 hts (g_V t_873 t_875 s_41 t_6 t_876) rfl rfl rfl (by decide +kernel) ⟨by decide, by decide⟩) (xR_v hP hK hN 0 rfl rfl) rfl rfl hl.1 rfl (lv_room (Nat.le_of_ble_eq_true rfl)) d_M_voided_37 ⟨Nat.le_refl _, Nat.le_refl _⟩).run (fun r37 q37 => ?_)
                have q37 := q37.symm
                subst q37
                refine lv_iconst (v := nI 0) hx hb d_M_voided_40 (by decide) ?_
                refine lv_iconst (v := nI 3) hx hb d_M_voided_41 (by decide) ?_
                refine vp_callSi (va_runS (As := [.int (mlog (4 * k + 1)), .int (nI 0), .int (nI 3)]) (rest := []) ⟨hx, hb, hml, hown, hts⟩ (c_M_isIn l dC dI (mlog (4 * k + 1)) (nI 0) (nI 3) ) (cwS 3 hts (g_S t_781 t_782 t_6 t_783) rfl rfl rfl (by decide +kernel) ⟨by decide, by decide⟩) (xR_s (va_P.sub hP [] rfl) (hK.sub [] rfl) hN) rfl rfl hl.1 rfl (lv_room (Nat.le_of_ble_eq_true rfl)) d_M_voided_42 ⟨Nat.le_refl _, Nat.le_refl _⟩).run (fun r42 q42 => ?_)
                rcases q42 with ⟨rfl, hin42⟩ | ⟨rfl, hin42⟩
                ·
                  refine lv_if_eq (tgt := 57) hx hb d_M_voided_45 (by decide) (fun c45 => ?_) (fun c45 => ?_)
                  ·
                    exact absurd c45 (by decide)
                  ·
                    refine lv_aload_n hx hb d_M_voided_48 rfl (lv_at hl 0 rfl) ?_
                    refine lv_iload_n hx hb d_M_voided_49 rfl (lv_at hl 2 rfl) ?_
                    refine lv_iconst (v := nI 1) hx hb d_M_voided_50 (by decide) ?_
                    refine vp_callSi (va_runV (C := R_M) (As := [.int (nI k), .int (nI 1)]) (rest := []) ⟨hx, hb, hml, hown, hts⟩ (c_M_at l dC dI am cm th mw mwr mfl mact on cut (nI rn) mlog mlive had mser mcur mrd mwt worn pg pla sou fou k 1 (by first | omega | rfl | assumption | decide)) (cwV 2 hts (g_V t_873 t_875 s_41 t_6 t_876) rfl rfl rfl (by decide +kernel) ⟨by decide, by decide⟩) (xR_v hP hK hN 0 rfl rfl) rfl rfl hl.1 rfl (lv_room (Nat.le_of_ble_eq_true rfl)) d_M_voided_51 ⟨Nat.le_refl _, Nat.le_refl _⟩).run (fun r51 q51 => ?_)
                    have q51 := q51.symm
                    subst q51
                    refine lv_iconst (v := nI 1) hx hb d_M_voided_54 (by decide) ?_
                    refine lv_iadd hx hb d_M_voided_55 ?_
                    exact W.iret (v := (mlog (4 * k + 1)) + (nI 1)) hx hb hr (fun t ht hW => ⟨(mlog (4 * k + 1)) + (nI 1), rfl, by first | rfl | trivial | omega, ht⟩) (fun q hq => by cases hq) d_M_voided_56
                ·
                  refine lv_if_eq (tgt := 57) hx hb d_M_voided_45 (by decide) (fun c45 => ?_) (fun c45 => ?_)
                  ·
                    refine lv_iinc (k := 2) (v := nI (k + 1)) hx hb d_M_voided_57 hl rfl (nI_1 _) (by decide) rfl (fun ls hl => ?_)
                    have hl : lv_has ls 3 [(2, .int (nI (k + 1))), (0, .ref (am 0)), (1, .int num)] := hl
                    refine lv_goto (tgt := 8) hx hb d_M_voided_60 (by decide) ?_
                    exact ih8 (k + 1) ls (by omega) (by omega) (lv_sub hl [1, 2, 0] rfl)
                  ·
                    exact absurd c45 (by decide)
          ·
            refine lv_if_eq (tgt := 57) hx hb d_M_voided_21 (by decide) (fun c21 => ?_) (fun c21 => ?_)
            ·
              refine lv_iinc (k := 2) (v := nI (k + 1)) hx hb d_M_voided_57 hl rfl (nI_1 _) (by decide) rfl (fun ls hl => ?_)
              have hl : lv_has ls 3 [(2, .int (nI (k + 1))), (0, .ref (am 0)), (1, .int num)] := hl
              refine lv_goto (tgt := 8) hx hb d_M_voided_60 (by decide) ?_
              exact ih8 (k + 1) ls (by omega) (by omega) (lv_sub hl [1, 2, 0] rfl)
            ·
              exact absurd c21 (by decide)
    exact lp8 _ 0 ls (Nat.lt_succ_self _) (by omega) (lv_sub hl [1, 2, 0] rfl)
set_option maxHeartbeats 4000000 in
set_option maxRecDepth 100000 in
theorem c_M_durable (l : Launch) (dC : Nat → ClassId) (dI : Nat → Nat → Nat) (am cm : Nat → Nat) (th : Int32) (mw mwr mfl mact : Nat → Int32) (on cut mrec : Int32) (mlog mlive had : Nat → Int32) (mser mcur mrd mwt worn : Int32) (pg : Nat → Int32) (pla sou fou : Int32)  : Met l y_M_durable w_M_durable ({ frames := 0, cells := 0, slots := 0, locals := 0 }) (xR (dC, dI) vwCl (mt cm) (mw_ am cm th mw mwr mfl mact on cut mrec mlog mlive had mser mcur mrd mwt worn pg pla sou fou) [.ref (am 0)]) (vp_Si (fun r => True)) 0 0 (fun _ => False) := by
  refine Met.ofW (cc := b_M_durable) (maxL := 3) (ret := (some (.int))) (by decide) rfl ?_
  intro P e s m args below meth c0 s₁ B hml hv
  obtain ⟨rfl, hP, hK, hN⟩ := hv
  have hx := B.exec
  have hb := B.bytes
  have hr := B.returns
  have hts := atoms_spec (ws := w_M_durable) B.pre
  have hown : s.vm.findClass R_M = some m.cls := findClass_of_methodNamed B.named
  have hlocks := B.notSynchronized
  have hl := lv_entry ([.ref (am 0)]) (n := 3) (Nat.le_of_ble_eq_true rfl)
  rw [lg_entry_eq]
  generalize (lg_sl ([.ref (am 0)]) ++ List.replicate (3 - (lg_sl ([.ref (am 0)])).length) Slot.unset).toArray = ls at hl ⊢
  have hl : lv_has ls 3 [(0, .ref (am 0))] := hl
  refine lv_iconst (v := nI 0) hx hb d_M_durable_0 (by decide) ?_
  refine lv_istore_n hx hb d_M_durable_1 rfl hl (by decide) rfl (fun ls hl => ?_)
  have hl : lv_has ls 3 [(1, .int (nI 0)), (0, .ref (am 0))] := hl
  refine lv_iconst (v := nI 0) hx hb d_M_durable_2 (by decide) ?_
  refine lv_istore_n hx hb d_M_durable_3 rfl hl (by decide) rfl (fun ls hl => ?_)
  have hl : lv_has ls 3 [(2, .int (nI 0)), (1, .int (nI 0)), (0, .ref (am 0))] := hl
  have lp4 : ∀ (n : Nat) (k : Nat) (x : Int32) (ls : Array Slot), (16 - k) < n → (k ≤ 16) → lv_has ls 3 [(0, .ref (am 0)), (1, .int x), (2, .int (nI k))] → W P l e (headSpec w_M_durable ({ frames := 0, cells := 0, slots := 0, locals := 0 })).room s m (([.ref (am 0)] : List Value).toArray) below meth c0 s.heap [] 0 0 (MQ below (vp_Si (fun r => True)) (([.ref (am 0)] : List Value).toArray) s 0 0 (fun _ => False)) (F0 m 4 ls []) := by
    intro n
    induction n with
    | zero => intro k x ls hm; intros; omega
    | succ n ih4 =>
      intro k x ls hm hk hl
      refine lv_iload_n hx hb d_M_durable_4 rfl (lv_at hl 2 rfl) ?_
      refine lv_bipush (v := nI 16) hx hb d_M_durable_5 (by decide) ?_
      refine lv_icmp_ge (tgt := 38) hx hb d_M_durable_7 (by decide) (fun c7 => ?_) (fun c7 => ?_)
      ·
        have c7 := cd_ge_t (by omega) (by omega) c7
        refine lv_iload_n hx hb d_M_durable_38 rfl (lv_at hl 1 rfl) ?_
        exact W.iret (v := x) hx hb hr (fun t ht hW => ⟨x, rfl, by first | rfl | trivial | omega, ht⟩) (fun q hq => by cases hq) d_M_durable_39
      ·
        have c7 := cd_ge_f (by omega) (by omega) c7
        refine lv_iload_n hx hb d_M_durable_10 rfl (lv_at hl 1 rfl) ?_
        refine lv_aload_n hx hb d_M_durable_11 rfl (lv_at hl 0 rfl) ?_
        refine va_get (D := (dC, dI)) (ci := 5) (v := .ref (am 6)) (C := R_M) (T := F_M) (N := 20) hx hb hts (fun w h => List.mem_cons_of_mem _ (in_M w h)) hown hK hP 0 rfl rfl 9 (by decide) (hts (.fieldLink R_M 34 R_M "live" "[I") (List.mem_cons_of_mem _ t_721)) (fun _ h9 => h9) rfl d_M_durable_12 ?_
        refine lv_iload_n hx hb d_M_durable_15 rfl (lv_at hl 2 rfl) ?_
        refine va_iald hx hb hK hP 6 5 rfl rfl (vp_in_nI (by omega) (by decide)) d_M_durable_16 ?_
        refine tp_i (y := mlive k) (by rw [nI_clamp (by omega)]) ?_
        refine lv_if_lt (tgt := 29) hx hb d_M_durable_17 (by decide) (fun c17 => ?_) (fun c17 => ?_)
        ·
          refine lv_iconst (v := nI 0) hx hb d_M_durable_29 (by decide) ?_
          refine lv_iadd hx hb d_M_durable_30 ?_
          refine lv_istore_n hx hb d_M_durable_31 rfl hl (by decide) rfl (fun ls hl => ?_)
          have hl : lv_has ls 3 [(1, .int (x + (nI 0))), (0, .ref (am 0)), (2, .int (nI k))] := hl
          refine lv_iinc (k := 2) (v := nI (k + 1)) hx hb d_M_durable_32 hl rfl (nI_1 _) (by decide) rfl (fun ls hl => ?_)
          have hl : lv_has ls 3 [(2, .int (nI (k + 1))), (1, .int (x + (nI 0))), (0, .ref (am 0))] := hl
          refine lv_goto (tgt := 4) hx hb d_M_durable_35 (by decide) ?_
          exact ih4 (k + 1) (x + (nI 0)) ls (by omega) (by omega) (lv_sub hl [2, 1, 0] rfl)
        ·
          refine lv_aload_n hx hb d_M_durable_20 rfl (lv_at hl 0 rfl) ?_
          refine va_get (D := (dC, dI)) (ci := 5) (v := .ref (am 7)) (C := R_M) (T := F_M) (N := 20) hx hb hts (fun w h => List.mem_cons_of_mem _ (in_M w h)) hown hK hP 0 rfl rfl 10 (by decide) (hts (.fieldLink R_M 37 R_M "had" "[I") (List.mem_cons_of_mem _ t_722)) (fun _ h9 => h9) rfl d_M_durable_21 ?_
          refine lv_iload_n hx hb d_M_durable_24 rfl (lv_at hl 2 rfl) ?_
          refine va_iald hx hb hK hP 7 6 rfl rfl (vp_in_nI (by omega) (by decide)) d_M_durable_25 ?_
          refine tp_i (y := had k) (by rw [nI_clamp (by omega)]) ?_
          refine lv_goto (tgt := 30) hx hb d_M_durable_26 (by decide) ?_
          refine lv_iadd hx hb d_M_durable_30 ?_
          refine lv_istore_n hx hb d_M_durable_31 rfl hl (by decide) rfl (fun ls hl => ?_)
          have hl : lv_has ls 3 [(1, .int (x + (had k))), (0, .ref (am 0)), (2, .int (nI k))] := hl
          refine lv_iinc (k := 2) (v := nI (k + 1)) hx hb d_M_durable_32 hl rfl (nI_1 _) (by decide) rfl (fun ls hl => ?_)
          have hl : lv_has ls 3 [(2, .int (nI (k + 1))), (1, .int (x + (had k))), (0, .ref (am 0))] := hl
          refine lv_goto (tgt := 4) hx hb d_M_durable_35 (by decide) ?_
          exact ih4 (k + 1) (x + (had k)) ls (by omega) (by omega) (lv_sub hl [2, 1, 0] rfl)
  exact lp4 _ 0 (nI 0) ls (Nat.lt_succ_self _) (by omega) (lv_sub hl [2, 1, 0] rfl)
set_option maxHeartbeats 4000000 in
set_option maxRecDepth 100000 in
theorem c_M_liveCount (l : Launch) (dC : Nat → ClassId) (dI : Nat → Nat → Nat) (am cm : Nat → Nat) (th : Int32) (mw mwr mfl mact : Nat → Int32) (on cut mrec : Int32) (mlog mlive had : Nat → Int32) (mser mcur mrd mwt worn : Int32) (pg : Nat → Int32) (pla sou fou : Int32)  : Met l y_M_liveCount w_M_liveCount ({ frames := 0, cells := 0, slots := 0, locals := 0 }) (xR (dC, dI) vwCl (mt cm) (mw_ am cm th mw mwr mfl mact on cut mrec mlog mlive had mser mcur mrd mwt worn pg pla sou fou) [.ref (am 0)]) (vp_Si (fun r => True)) 0 0 (fun _ => False) := by
  refine Met.ofW (cc := b_M_liveCount) (maxL := 3) (ret := (some (.int))) (by decide) rfl ?_
  intro P e s m args below meth c0 s₁ B hml hv
  obtain ⟨rfl, hP, hK, hN⟩ := hv
  have hx := B.exec
  have hb := B.bytes
  have hr := B.returns
  have hts := atoms_spec (ws := w_M_liveCount) B.pre
  have hown : s.vm.findClass R_M = some m.cls := findClass_of_methodNamed B.named
  have hlocks := B.notSynchronized
  have hl := lv_entry ([.ref (am 0)]) (n := 3) (Nat.le_of_ble_eq_true rfl)
  rw [lg_entry_eq]
  generalize (lg_sl ([.ref (am 0)]) ++ List.replicate (3 - (lg_sl ([.ref (am 0)])).length) Slot.unset).toArray = ls at hl ⊢
  have hl : lv_has ls 3 [(0, .ref (am 0))] := hl
  refine lv_iconst (v := nI 0) hx hb d_M_liveCount_0 (by decide) ?_
  refine lv_istore_n hx hb d_M_liveCount_1 rfl hl (by decide) rfl (fun ls hl => ?_)
  have hl : lv_has ls 3 [(1, .int (nI 0)), (0, .ref (am 0))] := hl
  refine lv_iconst (v := nI 0) hx hb d_M_liveCount_2 (by decide) ?_
  refine lv_istore_n hx hb d_M_liveCount_3 rfl hl (by decide) rfl (fun ls hl => ?_)
  have hl : lv_has ls 3 [(2, .int (nI 0)), (1, .int (nI 0)), (0, .ref (am 0))] := hl
  have lp4 : ∀ (n : Nat) (k : Nat) (x : Int32) (ls : Array Slot), (16 - k) < n → (k ≤ 16) → lv_has ls 3 [(0, .ref (am 0)), (1, .int x), (2, .int (nI k))] → W P l e (headSpec w_M_liveCount ({ frames := 0, cells := 0, slots := 0, locals := 0 })).room s m (([.ref (am 0)] : List Value).toArray) below meth c0 s.heap [] 0 0 (MQ below (vp_Si (fun r => True)) (([.ref (am 0)] : List Value).toArray) s 0 0 (fun _ => False)) (F0 m 4 ls []) := by
    intro n
    induction n with
    | zero => intro k x ls hm; intros; omega
    | succ n ih4 =>
      intro k x ls hm hk hl
      refine lv_iload_n hx hb d_M_liveCount_4 rfl (lv_at hl 2 rfl) ?_
      refine lv_bipush (v := nI 16) hx hb d_M_liveCount_5 (by decide) ?_
      refine lv_icmp_ge (tgt := 33) hx hb d_M_liveCount_7 (by decide) (fun c7 => ?_) (fun c7 => ?_)
      ·
        have c7 := cd_ge_t (by omega) (by omega) c7
        refine lv_iload_n hx hb d_M_liveCount_33 rfl (lv_at hl 1 rfl) ?_
        exact W.iret (v := x) hx hb hr (fun t ht hW => ⟨x, rfl, by first | rfl | trivial | omega, ht⟩) (fun q hq => by cases hq) d_M_liveCount_34
      ·
        have c7 := cd_ge_f (by omega) (by omega) c7
        refine lv_iload_n hx hb d_M_liveCount_10 rfl (lv_at hl 1 rfl) ?_
        refine lv_aload_n hx hb d_M_liveCount_11 rfl (lv_at hl 0 rfl) ?_
        refine va_get (D := (dC, dI)) (ci := 5) (v := .ref (am 6)) (C := R_M) (T := F_M) (N := 20) hx hb hts (fun w h => List.mem_cons_of_mem _ (in_M w h)) hown hK hP 0 rfl rfl 9 (by decide) (hts (.fieldLink R_M 34 R_M "live" "[I") (List.mem_cons_of_mem _ t_721)) (fun _ h9 => h9) rfl d_M_liveCount_12 ?_
        refine lv_iload_n hx hb d_M_liveCount_15 rfl (lv_at hl 2 rfl) ?_
        refine va_iald hx hb hK hP 6 5 rfl rfl (vp_in_nI (by omega) (by decide)) d_M_liveCount_16 ?_
        refine tp_i (y := mlive k) (by rw [nI_clamp (by omega)]) ?_
        refine lv_if_lt (tgt := 24) hx hb d_M_liveCount_17 (by decide) (fun c17 => ?_) (fun c17 => ?_)
        ·
          refine lv_iconst (v := nI 0) hx hb d_M_liveCount_24 (by decide) ?_
          refine lv_iadd hx hb d_M_liveCount_25 ?_
          refine lv_istore_n hx hb d_M_liveCount_26 rfl hl (by decide) rfl (fun ls hl => ?_)
          have hl : lv_has ls 3 [(1, .int (x + (nI 0))), (0, .ref (am 0)), (2, .int (nI k))] := hl
          refine lv_iinc (k := 2) (v := nI (k + 1)) hx hb d_M_liveCount_27 hl rfl (nI_1 _) (by decide) rfl (fun ls hl => ?_)
          have hl : lv_has ls 3 [(2, .int (nI (k + 1))), (1, .int (x + (nI 0))), (0, .ref (am 0))] := hl
          refine lv_goto (tgt := 4) hx hb d_M_liveCount_30 (by decide) ?_
          exact ih4 (k + 1) (x + (nI 0)) ls (by omega) (by omega) (lv_sub hl [2, 1, 0] rfl)
        ·
          refine lv_iconst (v := nI 1) hx hb d_M_liveCount_20 (by decide) ?_
          refine lv_goto (tgt := 25) hx hb d_M_liveCount_21 (by decide) ?_
          refine lv_iadd hx hb d_M_liveCount_25 ?_
          refine lv_istore_n hx hb d_M_liveCount_26 rfl hl (by decide) rfl (fun ls hl => ?_)
          have hl : lv_has ls 3 [(1, .int (x + (nI 1))), (0, .ref (am 0)), (2, .int (nI k))] := hl
          refine lv_iinc (k := 2) (v := nI (k + 1)) hx hb d_M_liveCount_27 hl rfl (nI_1 _) (by decide) rfl (fun ls hl => ?_)
          have hl : lv_has ls 3 [(2, .int (nI (k + 1))), (1, .int (x + (nI 1))), (0, .ref (am 0))] := hl
          refine lv_goto (tgt := 4) hx hb d_M_liveCount_30 (by decide) ?_
          exact ih4 (k + 1) (x + (nI 1)) ls (by omega) (by omega) (lv_sub hl [2, 1, 0] rfl)
  exact lp4 _ 0 (nI 0) ls (Nat.lt_succ_self _) (by omega) (lv_sub hl [2, 1, 0] rfl)
set_option maxHeartbeats 4000000 in
set_option maxRecDepth 100000 in
theorem c_M_freePages (l : Launch) (dC : Nat → ClassId) (dI : Nat → Nat → Nat) (am cm : Nat → Nat) (th : Int32) (mw mwr mfl mact : Nat → Int32) (on cut mrec : Int32) (mlog mlive had : Nat → Int32) (mser mcur mrd mwt worn : Int32) (pg : Nat → Int32) (pla sou fou : Int32)  : Met l y_M_freePages w_M_freePages ({ frames := 1, cells := 0, slots := 0, locals := 23 }) (xR (dC, dI) vwCl (mt cm) (mw_ am cm th mw mwr mfl mact on cut mrec mlog mlive had mser mcur mrd mwt worn pg pla sou fou) [.ref (am 0)]) (vp_Si (fun r => True)) 0 0 (fun _ => False) := by
  refine Met.ofW (cc := b_M_freePages) (maxL := 3) (ret := (some (.int))) (by decide) rfl ?_
  intro P e s m args below meth c0 s₁ B hml hv
  obtain ⟨rfl, hP, hK, hN⟩ := hv
  have hx := B.exec
  have hb := B.bytes
  have hr := B.returns
  have hts := atoms_spec (ws := w_M_freePages) B.pre
  have hown : s.vm.findClass R_M = some m.cls := findClass_of_methodNamed B.named
  have hlocks := B.notSynchronized
  have hl := lv_entry ([.ref (am 0)]) (n := 3) (Nat.le_of_ble_eq_true rfl)
  rw [lg_entry_eq]
  generalize (lg_sl ([.ref (am 0)]) ++ List.replicate (3 - (lg_sl ([.ref (am 0)])).length) Slot.unset).toArray = ls at hl ⊢
  have hl : lv_has ls 3 [(0, .ref (am 0))] := hl
  refine lv_iconst (v := nI 0) hx hb d_M_freePages_0 (by decide) ?_
  refine lv_istore_n hx hb d_M_freePages_1 rfl hl (by decide) rfl (fun ls hl => ?_)
  have hl : lv_has ls 3 [(1, .int (nI 0)), (0, .ref (am 0))] := hl
  refine lv_iconst (v := nI 0) hx hb d_M_freePages_2 (by decide) ?_
  refine lv_istore_n hx hb d_M_freePages_3 rfl hl (by decide) rfl (fun ls hl => ?_)
  have hl : lv_has ls 3 [(2, .int (nI 0)), (1, .int (nI 0)), (0, .ref (am 0))] := hl
  have lp4 : ∀ (n : Nat) (k : Nat) (x : Int32) (ls : Array Slot), (32 - k) < n → (k ≤ 32) → lv_has ls 3 [(0, .ref (am 0)), (1, .int x), (2, .int (nI k))] → W P l e (headSpec w_M_freePages ({ frames := 1, cells := 0, slots := 0, locals := 23 })).room s m (([.ref (am 0)] : List Value).toArray) below meth c0 s.heap [] 0 0 (MQ below (vp_Si (fun r => True)) (([.ref (am 0)] : List Value).toArray) s 0 0 (fun _ => False)) (F0 m 4 ls []) := by
    intro n
    induction n with
    | zero => intro k x ls hm; intros; omega
    | succ n ih4 =>
      intro k x ls hm hk hl
      refine lv_iload_n hx hb d_M_freePages_4 rfl (lv_at hl 2 rfl) ?_
      refine lv_bipush (v := nI 32) hx hb d_M_freePages_5 (by decide) ?_
      refine lv_icmp_ge (tgt := 43) hx hb d_M_freePages_7 (by decide) (fun c7 => ?_) (fun c7 => ?_)
      ·
        have c7 := cd_ge_t (by omega) (by omega) c7
        refine lv_iload_n hx hb d_M_freePages_43 rfl (lv_at hl 1 rfl) ?_
        exact W.iret (v := x) hx hb hr (fun t ht hW => ⟨x, rfl, by first | rfl | trivial | omega, ht⟩) (fun q hq => by cases hq) d_M_freePages_44
      ·
        have c7 := cd_ge_f (by omega) (by omega) c7
        refine lv_iload_n hx hb d_M_freePages_10 rfl (lv_at hl 1 rfl) ?_
        refine lv_aload_n hx hb d_M_freePages_11 rfl (lv_at hl 0 rfl) ?_
        refine lv_iload_n hx hb d_M_freePages_12 rfl (lv_at hl 2 rfl) ?_
        refine vp_callSi (va_runV (C := R_M) (As := [.int (nI k)]) (rest := [.int x]) ⟨hx, hb, hml, hown, hts⟩ (c_M_isFree l dC dI am cm th mw mwr mfl mact on cut mrec mlog mlive had mser mcur mrd mwt worn pg pla sou fou k (by first | omega | rfl | assumption | decide)) (cwV 1 hts (g_V t_820 t_822 s_28 t_6 t_823) rfl rfl rfl (by decide +kernel) ⟨by decide, by decide⟩) (xR_v hP hK hN 0 rfl rfl) rfl rfl hl.1 rfl (lv_room (Nat.le_of_ble_eq_true rfl)) d_M_freePages_13 ⟨Nat.le_refl _, Nat.le_refl _⟩).run (fun r13 q13 => ?_)
        rcases q13 with ⟨rfl, hb13⟩ | ⟨rfl, hb13⟩
        ·
          refine lv_if_eq (tgt := 34) hx hb d_M_freePages_16 (by decide) (fun c16 => ?_) (fun c16 => ?_)
          ·
            exact absurd c16 (by decide)
          ·
            refine lv_aload_n hx hb d_M_freePages_19 rfl (lv_at hl 0 rfl) ?_
            refine va_get (D := (dC, dI)) (ci := 5) (v := .ref (am 3)) (C := R_M) (T := F_M) (N := 20) hx hb hts (fun w h => List.mem_cons_of_mem _ (in_M w h)) hown hK hP 0 rfl rfl 3 (by decide) (hts (.fieldLink R_M 16 R_M "failed" "[Z") (List.mem_cons_of_mem _ t_715)) (fun _ h9 => h9) rfl d_M_freePages_20 ?_
            refine lv_iload_n hx hb d_M_freePages_23 rfl (lv_at hl 2 rfl) ?_
            refine lv_iconst (v := nI 4) hx hb d_M_freePages_24 (by decide) ?_
            refine lv_idiv hx hb d_M_freePages_25 (by decide) ?_
            refine tp_i (y := nI (k / 4)) (pk_div (by omega) (by omega) (by omega)) ?_
            refine va_zald hx hb hK hP 3 2 rfl rfl (vp_in_nI (by omega) (by decide)) d_M_freePages_26 ?_
            refine tp_i (y := mfl (k / 4)) (by rw [nI_clamp (by omega)]) ?_
            refine lv_if_ne (tgt := 34) hx hb d_M_freePages_27 (by decide) (fun c27 => ?_) (fun c27 => ?_)
            ·
              refine lv_iconst (v := nI 0) hx hb d_M_freePages_34 (by decide) ?_
              refine lv_iadd hx hb d_M_freePages_35 ?_
              refine lv_istore_n hx hb d_M_freePages_36 rfl hl (by decide) rfl (fun ls hl => ?_)
              have hl : lv_has ls 3 [(1, .int (x + (nI 0))), (0, .ref (am 0)), (2, .int (nI k))] := hl
              refine lv_iinc (k := 2) (v := nI (k + 1)) hx hb d_M_freePages_37 hl rfl (nI_1 _) (by decide) rfl (fun ls hl => ?_)
              have hl : lv_has ls 3 [(2, .int (nI (k + 1))), (1, .int (x + (nI 0))), (0, .ref (am 0))] := hl
              refine lv_goto (tgt := 4) hx hb d_M_freePages_40 (by decide) ?_
              exact ih4 (k + 1) (x + (nI 0)) ls (by omega) (by omega) (lv_sub hl [2, 1, 0] rfl)
            ·
              refine lv_iconst (v := nI 1) hx hb d_M_freePages_30 (by decide) ?_
              refine lv_goto (tgt := 35) hx hb d_M_freePages_31 (by decide) ?_
              refine lv_iadd hx hb d_M_freePages_35 ?_
              refine lv_istore_n hx hb d_M_freePages_36 rfl hl (by decide) rfl (fun ls hl => ?_)
              have hl : lv_has ls 3 [(1, .int (x + (nI 1))), (0, .ref (am 0)), (2, .int (nI k))] := hl
              refine lv_iinc (k := 2) (v := nI (k + 1)) hx hb d_M_freePages_37 hl rfl (nI_1 _) (by decide) rfl (fun ls hl => ?_)
              have hl : lv_has ls 3 [(2, .int (nI (k + 1))), (1, .int (x + (nI 1))), (0, .ref (am 0))] := hl
              refine lv_goto (tgt := 4) hx hb d_M_freePages_40 (by decide) ?_
              exact ih4 (k + 1) (x + (nI 1)) ls (by omega) (by omega) (lv_sub hl [2, 1, 0] rfl)
        ·
          refine lv_if_eq (tgt := 34) hx hb d_M_freePages_16 (by decide) (fun c16 => ?_) (fun c16 => ?_)
          ·
            refine lv_iconst (v := nI 0) hx hb d_M_freePages_34 (by decide) ?_
            refine lv_iadd hx hb d_M_freePages_35 ?_
            refine lv_istore_n hx hb d_M_freePages_36 rfl hl (by decide) rfl (fun ls hl => ?_)
            have hl : lv_has ls 3 [(1, .int (x + (nI 0))), (0, .ref (am 0)), (2, .int (nI k))] := hl
            refine lv_iinc (k := 2) (v := nI (k + 1)) hx hb d_M_freePages_37 hl rfl (nI_1 _) (by decide) rfl (fun ls hl => ?_)
            have hl : lv_has ls 3 [(2, .int (nI (k + 1))), (1, .int (x + (nI 0))), (0, .ref (am 0))] := hl
            refine lv_goto (tgt := 4) hx hb d_M_freePages_40 (by decide) ?_
            exact ih4 (k + 1) (x + (nI 0)) ls (by omega) (by omega) (lv_sub hl [2, 1, 0] rfl)
          ·
            exact absurd c16 (by decide)
  exact lp4 _ 0 (nI 0) ls (Nat.lt_succ_self _) (by omega) (lv_sub hl [2, 1, 0] rfl)
set_option maxHeartbeats 4000000 in
set_option maxRecDepth 100000 in
theorem c_M_take (l : Launch) (dC : Nat → ClassId) (dI : Nat → Nat → Nat) (am cm : Nat → Nat) (sz : Nat) (th : Int32) (mw mwr mfl mact : Nat → Int32) (on cut mrec : Int32) (mlog mlive had : Nat → Int32) (mser mcur mrd mwt worn : Int32) (pg : Nat → Int32) (pla sou fou : Int32) (rn : Nat) (a1 : Int32) (a2 : Int32) (a3 : Int32) (hmi : MI rn mlive mcur) (hr47 : rn < 48) : Met l y_M_take w_M_take ({ frames := 7, cells := 0, slots := 0, locals := 156 }) (xP (dC, dI) vwCl (mt cm) (mw_ am cm th mw mwr mfl mact on cut (nI rn) mlog mlive had mser mcur mrd mwt worn pg pla sou fou) sz [.ref (am 0), .int a1, .int a2, .int a3]) (va_Qi (fun r (u : (Nat → Nat → Int32) × (Nat → Int32) × (Nat → Nat)) => MI (u.2.2 0) (u.1 0) (u.2.1 1)) (fun (u : (Nat → Nat → Int32) × (Nat → Int32) × (Nat → Nat)) (t : State) => xB (dC, dI) vwCl (mt cm) (xA 9 am sz) (mw_ am cm th (u.1 1) (u.1 2) mfl mact (u.2.1 6) (u.2.1 5) (nI (u.2.2 0)) (u.1 4) (u.1 0) (u.1 5) (u.2.1 0) (u.2.1 1) (u.2.1 2) (u.2.1 3) (u.2.1 4) (u.1 3) pla sou fou) t) (xA 9 am sz)) 0 0 (xA 9 am sz) := by
  refine Met.ofW (cc := b_M_take) (maxL := 6) (ret := (some (.int))) (by decide) rfl ?_
  intro P e s m args below meth c0 s₁ B hml hv
  obtain ⟨rfl, hsz, hP, hK, hD0, hN⟩ := hv
  have hx := B.exec
  have hb := B.bytes
  have hr := B.returns
  have hts := atoms_spec (ws := w_M_take) B.pre
  have hown : s.vm.findClass R_M = some m.cls := findClass_of_methodNamed B.named
  have hlocks := B.notSynchronized
  subst hsz
  have hD := mw_D (sz := s.heap.size) hD0
  have hS : va_S (xA 9 am s.heap.size) s.heap s.heap [] := va_S.rf
  have hA : ∀ q : Nat, s.heap.size ≤ q → (xA 9 am s.heap.size) q := fun q h => Or.inr h
  have hl := lv_entry ([.ref (am 0), .int a1, .int a2, .int a3]) (n := 6) (Nat.le_of_ble_eq_true rfl)
  rw [lg_entry_eq]
  generalize (lg_sl ([.ref (am 0), .int a1, .int a2, .int a3]) ++ List.replicate (6 - (lg_sl ([.ref (am 0), .int a1, .int a2, .int a3])).length) Slot.unset).toArray = ls at hl ⊢
  have hl : lv_has ls 6 [(0, .ref (am 0)), (1, .int a1), (2, .int a2), (3, .int a3)] := hl
  refine lv_aload_n hx hb d_M_take_0 rfl (lv_at hl 0 rfl) ?_
  refine va_get (D := (dC, dI)) (ci := 5) (v := .int worn) (C := R_M) (T := F_M) (N := 20) hx hb hts (fun w h => List.mem_cons_of_mem _ (in_M w h)) hown hK hP 0 rfl rfl 15 (by decide) (hts (.fieldLink R_M 64 R_M "worn" "Z") (List.mem_cons_of_mem _ t_727)) (fun _ h9 => h9) rfl d_M_take_1 ?_
  refine lv_if_eq (tgt := 9) hx hb d_M_take_4 (by decide) (fun c4 => ?_) (fun c4 => ?_)
  ·
    refine lv_aload_n hx hb d_M_take_9 rfl (lv_at hl 0 rfl) ?_
    refine va_get (D := (dC, dI)) (ci := 5) (v := .int (nI rn)) (C := R_M) (T := F_M) (N := 20) hx hb hts (fun w h => List.mem_cons_of_mem _ (in_M w h)) hown hK hP 0 rfl rfl 7 (by decide) (hts (.fieldLink R_M 52 R_M "records" "I") (List.mem_cons_of_mem _ t_719)) (fun _ h9 => h9) rfl d_M_take_10 ?_
    refine lv_istore hx hb d_M_take_13 hl (by decide) rfl (fun ls hl => ?_)
    have hl : lv_has ls 6 [(4, .int (nI rn)), (0, .ref (am 0)), (1, .int a1), (2, .int a2), (3, .int a3)] := hl
    refine lv_aload_n hx hb d_M_take_15 rfl (lv_at hl 1 rfl) ?_
    refine va_get (D := (dC, dI)) (ci := 5) (v := .ref (am 5)) (C := R_M) (T := F_M) (N := 20) hx hb hts (fun w h => List.mem_cons_of_mem _ (in_M w h)) hown hK hP 0 rfl rfl 8 (by decide) (hts (.fieldLink R_M 31 R_M "log" "[I") (List.mem_cons_of_mem _ t_720)) (fun _ h9 => h9) rfl d_M_take_16 ?_
    refine lv_iconst (v := nI 4) hx hb d_M_take_19 (by decide) ?_
    refine lv_iload hx hb d_M_take_20 (lv_at hl 0 rfl) ?_
    refine lv_imul hx hb d_M_take_22 ?_
    refine tp_i (y := nI (4 * rn)) (pk_mul _ _) ?_
    refine lv_iload_n hx hb d_M_take_23 rfl (lv_at hl 2 rfl) ?_
    refine va_iast hx hb hK hP hD hS 5 4 rfl rfl (vp_in_nI (by omega) (by decide)) d_M_take_24 (fun H locs hP hD hS => ?_)
    rw [nI_clamp (by omega)] at hP hD
    have hP : va_P (dC, dI) vwCl (mw_ am cm th mw mwr mfl mact on cut (nI rn) (upd mlog (4 * rn) a1) mlive had mser mcur mrd mwt worn pg pla sou fou) H := hP
    have hD : va_D (xA 9 am s.heap.size) (mw_ am cm th mw mwr mfl mact on cut (nI rn) (upd mlog (4 * rn) a1) mlive had mser mcur mrd mwt worn pg pla sou fou) := hD
    refine lv_aload_n hx hb d_M_take_25 rfl (lv_at hl 1 rfl) ?_
    refine va_get (D := (dC, dI)) (ci := 5) (v := .ref (am 5)) (C := R_M) (T := F_M) (N := 20) hx hb hts (fun w h => List.mem_cons_of_mem _ (in_M w h)) hown hK hP 0 rfl rfl 8 (by decide) (hts (.fieldLink R_M 31 R_M "log" "[I") (List.mem_cons_of_mem _ t_720)) (fun _ h9 => h9) rfl d_M_take_26 ?_
    refine lv_iconst (v := nI 4) hx hb d_M_take_29 (by decide) ?_
    refine lv_iload hx hb d_M_take_30 (lv_at hl 0 rfl) ?_
    refine lv_imul hx hb d_M_take_32 ?_
    refine tp_i (y := nI (4 * rn)) (pk_mul _ _) ?_
    refine lv_iconst (v := nI 1) hx hb d_M_take_33 (by decide) ?_
    refine lv_iadd hx hb d_M_take_34 ?_
    refine tp_i (y := nI ((4 * rn) + 1)) (nI_add _ _) ?_
    refine lv_iload_n hx hb d_M_take_35 rfl (lv_at hl 3 rfl) ?_
    refine va_iast hx hb hK hP hD hS 5 4 rfl rfl (vp_in_nI (by omega) (by decide)) d_M_take_36 (fun H locs hP hD hS => ?_)
    rw [nI_clamp (by omega)] at hP hD
    have hP : va_P (dC, dI) vwCl (mw_ am cm th mw mwr mfl mact on cut (nI rn) (upd (upd mlog (4 * rn) a1) ((4 * rn) + 1) a2) mlive had mser mcur mrd mwt worn pg pla sou fou) H := hP
    have hD : va_D (xA 9 am s.heap.size) (mw_ am cm th mw mwr mfl mact on cut (nI rn) (upd (upd mlog (4 * rn) a1) ((4 * rn) + 1) a2) mlive had mser mcur mrd mwt worn pg pla sou fou) := hD
    refine lv_aload_n hx hb d_M_take_37 rfl (lv_at hl 1 rfl) ?_
    refine va_get (D := (dC, dI)) (ci := 5) (v := .ref (am 5)) (C := R_M) (T := F_M) (N := 20) hx hb hts (fun w h => List.mem_cons_of_mem _ (in_M w h)) hown hK hP 0 rfl rfl 8 (by decide) (hts (.fieldLink R_M 31 R_M "log" "[I") (List.mem_cons_of_mem _ t_720)) (fun _ h9 => h9) rfl d_M_take_38 ?_
    refine lv_iconst (v := nI 4) hx hb d_M_take_41 (by decide) ?_
    refine lv_iload hx hb d_M_take_42 (lv_at hl 0 rfl) ?_
    refine lv_imul hx hb d_M_take_44 ?_
    refine tp_i (y := nI (4 * rn)) (pk_mul _ _) ?_
    refine lv_iconst (v := nI 2) hx hb d_M_take_45 (by decide) ?_
    refine lv_iadd hx hb d_M_take_46 ?_
    refine tp_i (y := nI ((4 * rn) + 2)) (nI_add _ _) ?_
    refine lv_iload_n hx hb d_M_take_47 rfl (lv_at hl 4 rfl) ?_
    refine va_iast hx hb hK hP hD hS 5 4 rfl rfl (vp_in_nI (by omega) (by decide)) d_M_take_48 (fun H locs hP hD hS => ?_)
    rw [nI_clamp (by omega)] at hP hD
    have hP : va_P (dC, dI) vwCl (mw_ am cm th mw mwr mfl mact on cut (nI rn) (upd (upd (upd mlog (4 * rn) a1) ((4 * rn) + 1) a2) ((4 * rn) + 2) a3) mlive had mser mcur mrd mwt worn pg pla sou fou) H := hP
    have hD : va_D (xA 9 am s.heap.size) (mw_ am cm th mw mwr mfl mact on cut (nI rn) (upd (upd (upd mlog (4 * rn) a1) ((4 * rn) + 1) a2) ((4 * rn) + 2) a3) mlive had mser mcur mrd mwt worn pg pla sou fou) := hD
    refine lv_aload_n hx hb d_M_take_49 rfl (lv_at hl 1 rfl) ?_
    refine va_get (D := (dC, dI)) (ci := 5) (v := .ref (am 5)) (C := R_M) (T := F_M) (N := 20) hx hb hts (fun w h => List.mem_cons_of_mem _ (in_M w h)) hown hK hP 0 rfl rfl 8 (by decide) (hts (.fieldLink R_M 31 R_M "log" "[I") (List.mem_cons_of_mem _ t_720)) (fun _ h9 => h9) rfl d_M_take_50 ?_
    refine lv_iconst (v := nI 4) hx hb d_M_take_53 (by decide) ?_
    refine lv_iload hx hb d_M_take_54 (lv_at hl 0 rfl) ?_
    refine lv_imul hx hb d_M_take_56 ?_
    refine tp_i (y := nI (4 * rn)) (pk_mul _ _) ?_
    refine lv_iconst (v := nI 3) hx hb d_M_take_57 (by decide) ?_
    refine lv_iadd hx hb d_M_take_58 ?_
    refine tp_i (y := nI ((4 * rn) + 3)) (nI_add _ _) ?_
    refine lv_iload hx hb d_M_take_59 (lv_at hl 0 rfl) ?_
    refine lv_if_ne (tgt := 70) hx hb d_M_take_61 (by decide) (fun c61 => ?_) (fun c61 => ?_)
    ·
      have c61 := cz_ne_t (by omega) c61
      refine lv_aload_n hx hb d_M_take_70 rfl (lv_at hl 1 rfl) ?_
      refine lv_aload_n hx hb d_M_take_71 rfl (lv_at hl 1 rfl) ?_
      refine va_get (D := (dC, dI)) (ci := 5) (v := .ref (am 5)) (C := R_M) (T := F_M) (N := 20) hx hb hts (fun w h => List.mem_cons_of_mem _ (in_M w h)) hown hK hP 0 rfl rfl 8 (by decide) (hts (.fieldLink R_M 31 R_M "log" "[I") (List.mem_cons_of_mem _ t_720)) (fun _ h9 => h9) rfl d_M_take_72 ?_
      refine lv_iconst (v := nI 4) hx hb d_M_take_75 (by decide) ?_
      refine lv_iload hx hb d_M_take_76 (lv_at hl 0 rfl) ?_
      refine lv_imul hx hb d_M_take_78 ?_
      refine tp_i (y := nI (4 * rn)) (pk_mul _ _) ?_
      refine lv_iconst (v := nI 4) hx hb d_M_take_79 (by decide) ?_
      refine lv_isub hx hb d_M_take_80 ?_
      refine tp_i (y := nI ((4 * rn) - 4)) (pk_sub (by omega)) ?_
      refine lv_iconst (v := nI 4) hx hb d_M_take_81 (by decide) ?_
      refine vp_callSi (va_runV (C := R_M) (As := [.ref (am 5), .int (nI ((4 * rn) - 4)), .int (nI 4)]) (rest := [.int (nI ((4 * rn) + 3)), .ref (am 5)]) ⟨hx, hb, hml, hown, hts⟩ (c_M_sumOf_l l dC dI am cm th mw mwr mfl mact on cut (nI rn) (upd (upd (upd mlog (4 * rn) a1) ((4 * rn) + 1) a2) ((4 * rn) + 2) a3) mlive had mser mcur mrd mwt worn pg pla sou fou ((4 * rn) - 4) 4 (by first | omega | rfl | assumption | decide)) (cwV 3 hts (g_V t_800 t_802 s_24 t_6 t_803) rfl rfl rfl (by decide +kernel) ⟨by decide, by decide⟩) (xR_v hP hK hN 0 rfl rfl) rfl rfl hl.1 rfl (lv_room (Nat.le_of_ble_eq_true rfl)) d_M_take_82 ⟨Nat.le_refl _, Nat.le_refl _⟩).run (fun r82 q82 => ?_)
      refine va_iast hx hb hK hP hD hS 5 4 rfl rfl (vp_in_nI (by omega) (by decide)) d_M_take_85 (fun H locs hP hD hS => ?_)
      rw [nI_clamp (by omega)] at hP hD
      have hP : va_P (dC, dI) vwCl (mw_ am cm th mw mwr mfl mact on cut (nI rn) (upd (upd (upd (upd mlog (4 * rn) a1) ((4 * rn) + 1) a2) ((4 * rn) + 2) a3) ((4 * rn) + 3) r82) mlive had mser mcur mrd mwt worn pg pla sou fou) H := hP
      have hD : va_D (xA 9 am s.heap.size) (mw_ am cm th mw mwr mfl mact on cut (nI rn) (upd (upd (upd (upd mlog (4 * rn) a1) ((4 * rn) + 1) a2) ((4 * rn) + 2) a3) ((4 * rn) + 3) r82) mlive had mser mcur mrd mwt worn pg pla sou fou) := hD
      refine lv_iload hx hb d_M_take_86 (lv_at hl 0 rfl) ?_
      refine lv_iconst (v := nI 3) hx hb d_M_take_88 (by decide) ?_
      refine lv_irem hx hb d_M_take_89 (by decide) ?_
      refine tp_i (y := nI (rn % 3)) (pk_rem (by omega) (by omega) (by omega)) ?_
      refine lv_iconst (v := nI 2) hx hb d_M_take_90 (by decide) ?_
      refine lv_icmp_ge (tgt := 106) hx hb d_M_take_91 (by decide) (fun c91 => ?_) (fun c91 => ?_)
      ·
        have c91 := cd_ge_t (by omega) (by omega) c91
        refine lv_aload_n hx hb d_M_take_106 rfl (lv_at hl 1 rfl) ?_
        refine lv_iload hx hb d_M_take_107 (lv_at hl 0 rfl) ?_
        refine lv_iconst (v := nI 3) hx hb d_M_take_109 (by decide) ?_
        refine lv_idiv hx hb d_M_take_110 (by decide) ?_
        refine tp_i (y := nI (rn / 3)) (pk_div (by omega) (by omega) (by omega)) ?_
        refine lv_iload hx hb d_M_take_111 (lv_at hl 0 rfl) ?_
        refine lv_iconst (v := nI 1) hx hb d_M_take_113 (by decide) ?_
        refine lv_iadd hx hb d_M_take_114 ?_
        refine tp_i (y := nI (rn + 1)) (nI_add _ _) ?_
        have hSz := hS.1
        refine va_calli (va_runV (C := R_M) (As := [.int (nI (rn / 3)), .int (nI (rn + 1))]) (rest := []) ⟨hx, hb, hml, hown, hts⟩ (c_M_writeLeaf l dC dI am cm H.size th mw mwr mfl mact on cut (nI rn) (upd (upd (upd (upd mlog (4 * rn) a1) ((4 * rn) + 1) a2) ((4 * rn) + 2) a3) ((4 * rn) + 3) r82) mlive had mser mcur mrd mwt worn pg pla sou fou rn (rn / 3) (rn + 1) (by first | omega | rfl | assumption | decide) (by first | omega | rfl | assumption | decide) (by first | omega | rfl | assumption | decide) (by first | omega | rfl | assumption | decide)) (cwV 2 hts (g_V t_808 t_810 s_25 t_6 t_811) rfl rfl rfl (by decide +kernel) ⟨by decide, by decide⟩) (xP_v hP hK hD hN 0 rfl rfl) rfl rfl hl.1 rfl (lv_room (Nat.le_of_ble_eq_true rfl)) d_M_take_115 ⟨Nat.le_refl _, Nat.le_refl _⟩) hS (fun q _ h => xA_up hS.1 q h) (fun q h => xA_up hS.1 q h) (fun r115 u115 t H1 locs1 ht hvm q115 hB hz1 hk1 hS => ?_)
        obtain ⟨hP1, hK1, hD1⟩ := hB
        rw [ht] at hP1
        have hD : va_D (xA 9 am s.heap.size) (mw_ am cm th (u115.1 1) (u115.1 2) mfl mact (u115.2.1 6) (u115.2.1 5) (nI (u115.2.2 0)) (upd (upd (upd (upd mlog (4 * rn) a1) ((4 * rn) + 1) a2) ((4 * rn) + 2) a3) ((4 * rn) + 3) r82) (u115.1 0) had (u115.2.1 0) (u115.2.1 1) (u115.2.1 2) (u115.2.1 3) (u115.2.1 4) (u115.1 3) pla sou fou) := hD1.weaken (fun _ q _ h => xA_up hSz _ h)
        have hP : va_P (dC, dI) vwCl (mw_ am cm th (u115.1 1) (u115.1 2) mfl mact (u115.2.1 6) (u115.2.1 5) (nI (u115.2.2 0)) (upd (upd (upd (upd mlog (4 * rn) a1) ((4 * rn) + 1) a2) ((4 * rn) + 2) a3) ((4 * rn) + 3) r82) (u115.1 0) had (u115.2.1 0) (u115.2.1 1) (u115.2.1 2) (u115.2.1 3) (u115.2.1 4) (u115.1 3) pla sou fou) H1 := hP1
        generalize H1 = H at hP hS ⊢
        generalize locs1 = locs at hS ⊢
        rcases q115 with ⟨⟨rfl, er115, hne115⟩ | rfl | rfl, hmi⟩
        ·
          refine lv_istore hx hb d_M_take_118 hl (by decide) rfl (fun ls hl => ?_)
          have hl : lv_has ls 6 [(5, .int (nI 0)), (4, .int (nI rn)), (0, .ref (am 0)), (1, .int a1), (2, .int a2), (3, .int a3)] := hl
          refine lv_iload hx hb d_M_take_120 (lv_at hl 0 rfl) ?_
          refine lv_if_eq (tgt := 128) hx hb d_M_take_122 (by decide) (fun c122 => ?_) (fun c122 => ?_)
          ·
            refine lv_aload_n hx hb d_M_take_128 rfl (lv_at hl 2 rfl) ?_
            refine lv_dup hx hb d_M_take_129 rfl ?_
            refine va_get (D := (dC, dI)) (ci := 5) (v := .int (nI (u115.2.2 0))) (C := R_M) (T := F_M) (N := 20) hx hb hts (fun w h => List.mem_cons_of_mem _ (in_M w h)) hown hK hP 0 rfl rfl 7 (by decide) (hts (.fieldLink R_M 52 R_M "records" "I") (List.mem_cons_of_mem _ t_719)) (fun _ h9 => h9) rfl d_M_take_130 ?_
            refine lv_iconst (v := nI 1) hx hb d_M_take_133 (by decide) ?_
            refine lv_iadd hx hb d_M_take_134 ?_
            refine tp_i (y := nI ((u115.2.2 0) + 1)) (nI_add _ _) ?_
            refine va_put (D := (dC, dI)) (ci := 5) (v := .int (nI ((u115.2.2 0) + 1))) (ty := .int) (C := R_M) (T := F_M) (N := 20) hx hb hts (fun w h => List.mem_cons_of_mem _ (in_M w h)) t_M ok_M nm_M hown hK hP hD hS 0 rfl rfl 7 (by decide) (hts (.fieldLink R_M 52 R_M "records" "I") (List.mem_cons_of_mem _ t_719)) (fun _ h9 => h9) rfl (by decide +kernel) rfl rfl (Nat.le_of_ble_eq_true rfl) d_M_take_135 (fun H locs hP hD hS => ?_)
            have hP : va_P (dC, dI) vwCl (mw_ am cm th (u115.1 1) (u115.1 2) mfl mact (u115.2.1 6) (u115.2.1 5) (nI ((u115.2.2 0) + 1)) (upd (upd (upd (upd mlog (4 * rn) a1) ((4 * rn) + 1) a2) ((4 * rn) + 2) a3) ((4 * rn) + 3) r82) (u115.1 0) had (u115.2.1 0) (u115.2.1 1) (u115.2.1 2) (u115.2.1 3) (u115.2.1 4) (u115.1 3) pla sou fou) H := hP
            have hD : va_D (xA 9 am s.heap.size) (mw_ am cm th (u115.1 1) (u115.1 2) mfl mact (u115.2.1 6) (u115.2.1 5) (nI ((u115.2.2 0) + 1)) (upd (upd (upd (upd mlog (4 * rn) a1) ((4 * rn) + 1) a2) ((4 * rn) + 2) a3) ((4 * rn) + 3) r82) (u115.1 0) had (u115.2.1 0) (u115.2.1 1) (u115.2.1 2) (u115.2.1 3) (u115.2.1 4) (u115.1 3) pla sou fou) := hD
            refine lv_aload_n hx hb d_M_take_138 rfl (lv_at hl 2 rfl) ?_
            refine va_get (D := (dC, dI)) (ci := 5) (v := .ref (am 7)) (C := R_M) (T := F_M) (N := 20) hx hb hts (fun w h => List.mem_cons_of_mem _ (in_M w h)) hown hK hP 0 rfl rfl 10 (by decide) (hts (.fieldLink R_M 37 R_M "had" "[I") (List.mem_cons_of_mem _ t_722)) (fun _ h9 => h9) rfl d_M_take_139 ?_
            refine lv_iload hx hb d_M_take_142 (lv_at hl 1 rfl) ?_
            refine lv_iconst (v := nI 3) hx hb d_M_take_144 (by decide) ?_
            refine lv_idiv hx hb d_M_take_145 (by decide) ?_
            refine tp_i (y := nI (rn / 3)) (pk_div (by omega) (by omega) (by omega)) ?_
            refine lv_iconst (v := nI 3) hx hb d_M_take_146 (by decide) ?_
            refine va_iast hx hb hK hP hD hS 7 6 rfl rfl (vp_in_nI (by omega) (by decide)) d_M_take_147 (fun H locs hP hD hS => ?_)
            rw [nI_clamp (by omega)] at hP hD
            have hP : va_P (dC, dI) vwCl (mw_ am cm th (u115.1 1) (u115.1 2) mfl mact (u115.2.1 6) (u115.2.1 5) (nI ((u115.2.2 0) + 1)) (upd (upd (upd (upd mlog (4 * rn) a1) ((4 * rn) + 1) a2) ((4 * rn) + 2) a3) ((4 * rn) + 3) r82) (u115.1 0) (upd had (rn / 3) (nI 3)) (u115.2.1 0) (u115.2.1 1) (u115.2.1 2) (u115.2.1 3) (u115.2.1 4) (u115.1 3) pla sou fou) H := hP
            have hD : va_D (xA 9 am s.heap.size) (mw_ am cm th (u115.1 1) (u115.1 2) mfl mact (u115.2.1 6) (u115.2.1 5) (nI ((u115.2.2 0) + 1)) (upd (upd (upd (upd mlog (4 * rn) a1) ((4 * rn) + 1) a2) ((4 * rn) + 2) a3) ((4 * rn) + 3) r82) (u115.1 0) (upd had (rn / 3) (nI 3)) (u115.2.1 0) (u115.2.1 1) (u115.2.1 2) (u115.2.1 3) (u115.2.1 4) (u115.1 3) pla sou fou) := hD
            refine lv_iconst (v := nI 0) hx hb d_M_take_148 (by decide) ?_
            exact W.iret (v := nI 0) hx hb hr (fun t ht hW => ⟨⟨nI 0, (fun i => [u115.1 0, u115.1 1, u115.1 2, u115.1 3, upd (upd (upd (upd mlog (4 * rn) a1) ((4 * rn) + 1) a2) ((4 * rn) + 2) a3) ((4 * rn) + 3) r82, upd had (rn / 3) (nI 3)].getD i (fun _ => 0), fun i => [u115.2.1 0, u115.2.1 1, u115.2.1 2, u115.2.1 3, u115.2.1 4, u115.2.1 5, u115.2.1 6].getD i 0, fun i => [(u115.2.2 0) + 1].getD i 0), rfl, by first | exact MI.more hmi (by omega) (fun _ => by rw [er115]; exact hne115) | exact MI.more hmi (by omega) (fun h => absurd h (by omega)) | exact hmi, ⟨by rw [ht]; exact hP, va_K.moved hW.alike hK, hD⟩⟩, hS.F ht⟩) hS.2.2 d_M_take_149
          ·
            exact absurd c122 (by decide)
        ·
          refine lv_istore hx hb d_M_take_118 hl (by decide) rfl (fun ls hl => ?_)
          have hl : lv_has ls 6 [(5, .int (-1)), (4, .int (nI rn)), (0, .ref (am 0)), (1, .int a1), (2, .int a2), (3, .int a3)] := hl
          refine lv_iload hx hb d_M_take_120 (lv_at hl 0 rfl) ?_
          refine lv_if_eq (tgt := 128) hx hb d_M_take_122 (by decide) (fun c122 => ?_) (fun c122 => ?_)
          ·
            exact absurd c122 (by decide)
          ·
            refine lv_iload hx hb d_M_take_125 (lv_at hl 0 rfl) ?_
            exact W.iret (v := (-1)) hx hb hr (fun t ht hW => ⟨⟨(-1), (fun i => [u115.1 0, u115.1 1, u115.1 2, u115.1 3, upd (upd (upd (upd mlog (4 * rn) a1) ((4 * rn) + 1) a2) ((4 * rn) + 2) a3) ((4 * rn) + 3) r82, had].getD i (fun _ => 0), fun i => [u115.2.1 0, u115.2.1 1, u115.2.1 2, u115.2.1 3, u115.2.1 4, u115.2.1 5, u115.2.1 6].getD i 0, fun i => [u115.2.2 0].getD i 0), rfl, by first | exact MI.more hmi (by omega) (fun _ => by rw [er115]; exact hne115) | exact MI.more hmi (by omega) (fun h => absurd h (by omega)) | exact hmi, ⟨by rw [ht]; exact hP, va_K.moved hW.alike hK, hD⟩⟩, hS.F ht⟩) hS.2.2 d_M_take_127
        ·
          refine lv_istore hx hb d_M_take_118 hl (by decide) rfl (fun ls hl => ?_)
          have hl : lv_has ls 6 [(5, .int (-2)), (4, .int (nI rn)), (0, .ref (am 0)), (1, .int a1), (2, .int a2), (3, .int a3)] := hl
          refine lv_iload hx hb d_M_take_120 (lv_at hl 0 rfl) ?_
          refine lv_if_eq (tgt := 128) hx hb d_M_take_122 (by decide) (fun c122 => ?_) (fun c122 => ?_)
          ·
            exact absurd c122 (by decide)
          ·
            refine lv_iload hx hb d_M_take_125 (lv_at hl 0 rfl) ?_
            exact W.iret (v := (-2)) hx hb hr (fun t ht hW => ⟨⟨(-2), (fun i => [u115.1 0, u115.1 1, u115.1 2, u115.1 3, upd (upd (upd (upd mlog (4 * rn) a1) ((4 * rn) + 1) a2) ((4 * rn) + 2) a3) ((4 * rn) + 3) r82, had].getD i (fun _ => 0), fun i => [u115.2.1 0, u115.2.1 1, u115.2.1 2, u115.2.1 3, u115.2.1 4, u115.2.1 5, u115.2.1 6].getD i 0, fun i => [u115.2.2 0].getD i 0), rfl, by first | exact MI.more hmi (by omega) (fun _ => by rw [er115]; exact hne115) | exact MI.more hmi (by omega) (fun h => absurd h (by omega)) | exact hmi, ⟨by rw [ht]; exact hP, va_K.moved hW.alike hK, hD⟩⟩, hS.F ht⟩) hS.2.2 d_M_take_127
      ·
        have c91 := cd_ge_f (by omega) (by omega) c91
        refine lv_aload_n hx hb d_M_take_94 rfl (lv_at hl 1 rfl) ?_
        refine lv_dup hx hb d_M_take_95 rfl ?_
        refine va_get (D := (dC, dI)) (ci := 5) (v := .int (nI rn)) (C := R_M) (T := F_M) (N := 20) hx hb hts (fun w h => List.mem_cons_of_mem _ (in_M w h)) hown hK hP 0 rfl rfl 7 (by decide) (hts (.fieldLink R_M 52 R_M "records" "I") (List.mem_cons_of_mem _ t_719)) (fun _ h9 => h9) rfl d_M_take_96 ?_
        refine lv_iconst (v := nI 1) hx hb d_M_take_99 (by decide) ?_
        refine lv_iadd hx hb d_M_take_100 ?_
        refine tp_i (y := nI (rn + 1)) (nI_add _ _) ?_
        refine va_put (D := (dC, dI)) (ci := 5) (v := .int (nI (rn + 1))) (ty := .int) (C := R_M) (T := F_M) (N := 20) hx hb hts (fun w h => List.mem_cons_of_mem _ (in_M w h)) t_M ok_M nm_M hown hK hP hD hS 0 rfl rfl 7 (by decide) (hts (.fieldLink R_M 52 R_M "records" "I") (List.mem_cons_of_mem _ t_719)) (fun _ h9 => h9) rfl (by decide +kernel) rfl rfl (Nat.le_of_ble_eq_true rfl) d_M_take_101 (fun H locs hP hD hS => ?_)
        have hP : va_P (dC, dI) vwCl (mw_ am cm th mw mwr mfl mact on cut (nI (rn + 1)) (upd (upd (upd (upd mlog (4 * rn) a1) ((4 * rn) + 1) a2) ((4 * rn) + 2) a3) ((4 * rn) + 3) r82) mlive had mser mcur mrd mwt worn pg pla sou fou) H := hP
        have hD : va_D (xA 9 am s.heap.size) (mw_ am cm th mw mwr mfl mact on cut (nI (rn + 1)) (upd (upd (upd (upd mlog (4 * rn) a1) ((4 * rn) + 1) a2) ((4 * rn) + 2) a3) ((4 * rn) + 3) r82) mlive had mser mcur mrd mwt worn pg pla sou fou) := hD
        refine lv_iconst (v := nI 0) hx hb d_M_take_104 (by decide) ?_
        exact W.iret (v := nI 0) hx hb hr (fun t ht hW => ⟨⟨nI 0, (fun i => [mlive, mw, mwr, pg, upd (upd (upd (upd mlog (4 * rn) a1) ((4 * rn) + 1) a2) ((4 * rn) + 2) a3) ((4 * rn) + 3) r82, had].getD i (fun _ => 0), fun i => [mser, mcur, mrd, mwt, worn, cut, on].getD i 0, fun i => [rn + 1].getD i 0), rfl, by first | exact MI.more hmi (by omega) (fun _ => by rw [er115]; exact hne115) | exact MI.more hmi (by omega) (fun h => absurd h (by omega)) | exact hmi, ⟨by rw [ht]; exact hP, va_K.moved hW.alike hK, hD⟩⟩, hS.F ht⟩) hS.2.2 d_M_take_105
    ·
      have c61 := cz_ne_f (by omega) c61
      refine lv_sipush (v := nI 7989) hx hb d_M_take_64 (by decide) ?_
      refine lv_goto (tgt := 85) hx hb d_M_take_67 (by decide) ?_
      refine va_iast hx hb hK hP hD hS 5 4 rfl rfl (vp_in_nI (by omega) (by decide)) d_M_take_85 (fun H locs hP hD hS => ?_)
      rw [nI_clamp (by omega)] at hP hD
      have hP : va_P (dC, dI) vwCl (mw_ am cm th mw mwr mfl mact on cut (nI rn) (upd (upd (upd (upd mlog (4 * rn) a1) ((4 * rn) + 1) a2) ((4 * rn) + 2) a3) ((4 * rn) + 3) (nI 7989)) mlive had mser mcur mrd mwt worn pg pla sou fou) H := hP
      have hD : va_D (xA 9 am s.heap.size) (mw_ am cm th mw mwr mfl mact on cut (nI rn) (upd (upd (upd (upd mlog (4 * rn) a1) ((4 * rn) + 1) a2) ((4 * rn) + 2) a3) ((4 * rn) + 3) (nI 7989)) mlive had mser mcur mrd mwt worn pg pla sou fou) := hD
      refine lv_iload hx hb d_M_take_86 (lv_at hl 0 rfl) ?_
      refine lv_iconst (v := nI 3) hx hb d_M_take_88 (by decide) ?_
      refine lv_irem hx hb d_M_take_89 (by decide) ?_
      refine tp_i (y := nI (rn % 3)) (pk_rem (by omega) (by omega) (by omega)) ?_
      refine lv_iconst (v := nI 2) hx hb d_M_take_90 (by decide) ?_
      refine lv_icmp_ge (tgt := 106) hx hb d_M_take_91 (by decide) (fun c91 => ?_) (fun c91 => ?_)
      ·
        have c91 := cd_ge_t (by omega) (by omega) c91
        refine lv_aload_n hx hb d_M_take_106 rfl (lv_at hl 1 rfl) ?_
        refine lv_iload hx hb d_M_take_107 (lv_at hl 0 rfl) ?_
        refine lv_iconst (v := nI 3) hx hb d_M_take_109 (by decide) ?_
        refine lv_idiv hx hb d_M_take_110 (by decide) ?_
        refine tp_i (y := nI (rn / 3)) (pk_div (by omega) (by omega) (by omega)) ?_
        refine lv_iload hx hb d_M_take_111 (lv_at hl 0 rfl) ?_
        refine lv_iconst (v := nI 1) hx hb d_M_take_113 (by decide) ?_
        refine lv_iadd hx hb d_M_take_114 ?_
        refine tp_i (y := nI (rn + 1)) (nI_add _ _) ?_
        have hSz := hS.1
        refine va_calli (va_runV (C := R_M) (As := [.int (nI (rn / 3)), .int (nI (rn + 1))]) (rest := []) ⟨hx, hb, hml, hown, hts⟩ (c_M_writeLeaf l dC dI am cm H.size th mw mwr mfl mact on cut (nI rn) (upd (upd (upd (upd mlog (4 * rn) a1) ((4 * rn) + 1) a2) ((4 * rn) + 2) a3) ((4 * rn) + 3) (nI 7989)) mlive had mser mcur mrd mwt worn pg pla sou fou rn (rn / 3) (rn + 1) (by first | omega | rfl | assumption | decide) (by first | omega | rfl | assumption | decide) (by first | omega | rfl | assumption | decide) (by first | omega | rfl | assumption | decide)) (cwV 2 hts (g_V t_808 t_810 s_25 t_6 t_811) rfl rfl rfl (by decide +kernel) ⟨by decide, by decide⟩) (xP_v hP hK hD hN 0 rfl rfl) rfl rfl hl.1 rfl (lv_room (Nat.le_of_ble_eq_true rfl)) d_M_take_115 ⟨Nat.le_refl _, Nat.le_refl _⟩) hS (fun q _ h => xA_up hS.1 q h) (fun q h => xA_up hS.1 q h) (fun r115 u115 t H1 locs1 ht hvm q115 hB hz1 hk1 hS => ?_)
        obtain ⟨hP1, hK1, hD1⟩ := hB
        rw [ht] at hP1
        have hD : va_D (xA 9 am s.heap.size) (mw_ am cm th (u115.1 1) (u115.1 2) mfl mact (u115.2.1 6) (u115.2.1 5) (nI (u115.2.2 0)) (upd (upd (upd (upd mlog (4 * rn) a1) ((4 * rn) + 1) a2) ((4 * rn) + 2) a3) ((4 * rn) + 3) (nI 7989)) (u115.1 0) had (u115.2.1 0) (u115.2.1 1) (u115.2.1 2) (u115.2.1 3) (u115.2.1 4) (u115.1 3) pla sou fou) := hD1.weaken (fun _ q _ h => xA_up hSz _ h)
        have hP : va_P (dC, dI) vwCl (mw_ am cm th (u115.1 1) (u115.1 2) mfl mact (u115.2.1 6) (u115.2.1 5) (nI (u115.2.2 0)) (upd (upd (upd (upd mlog (4 * rn) a1) ((4 * rn) + 1) a2) ((4 * rn) + 2) a3) ((4 * rn) + 3) (nI 7989)) (u115.1 0) had (u115.2.1 0) (u115.2.1 1) (u115.2.1 2) (u115.2.1 3) (u115.2.1 4) (u115.1 3) pla sou fou) H1 := hP1
        generalize H1 = H at hP hS ⊢
        generalize locs1 = locs at hS ⊢
        rcases q115 with ⟨⟨rfl, er115, hne115⟩ | rfl | rfl, hmi⟩
        ·
          refine lv_istore hx hb d_M_take_118 hl (by decide) rfl (fun ls hl => ?_)
          have hl : lv_has ls 6 [(5, .int (nI 0)), (4, .int (nI rn)), (0, .ref (am 0)), (1, .int a1), (2, .int a2), (3, .int a3)] := hl
          refine lv_iload hx hb d_M_take_120 (lv_at hl 0 rfl) ?_
          refine lv_if_eq (tgt := 128) hx hb d_M_take_122 (by decide) (fun c122 => ?_) (fun c122 => ?_)
          ·
            refine lv_aload_n hx hb d_M_take_128 rfl (lv_at hl 2 rfl) ?_
            refine lv_dup hx hb d_M_take_129 rfl ?_
            refine va_get (D := (dC, dI)) (ci := 5) (v := .int (nI (u115.2.2 0))) (C := R_M) (T := F_M) (N := 20) hx hb hts (fun w h => List.mem_cons_of_mem _ (in_M w h)) hown hK hP 0 rfl rfl 7 (by decide) (hts (.fieldLink R_M 52 R_M "records" "I") (List.mem_cons_of_mem _ t_719)) (fun _ h9 => h9) rfl d_M_take_130 ?_
            refine lv_iconst (v := nI 1) hx hb d_M_take_133 (by decide) ?_
            refine lv_iadd hx hb d_M_take_134 ?_
            refine tp_i (y := nI ((u115.2.2 0) + 1)) (nI_add _ _) ?_
            refine va_put (D := (dC, dI)) (ci := 5) (v := .int (nI ((u115.2.2 0) + 1))) (ty := .int) (C := R_M) (T := F_M) (N := 20) hx hb hts (fun w h => List.mem_cons_of_mem _ (in_M w h)) t_M ok_M nm_M hown hK hP hD hS 0 rfl rfl 7 (by decide) (hts (.fieldLink R_M 52 R_M "records" "I") (List.mem_cons_of_mem _ t_719)) (fun _ h9 => h9) rfl (by decide +kernel) rfl rfl (Nat.le_of_ble_eq_true rfl) d_M_take_135 (fun H locs hP hD hS => ?_)
            have hP : va_P (dC, dI) vwCl (mw_ am cm th (u115.1 1) (u115.1 2) mfl mact (u115.2.1 6) (u115.2.1 5) (nI ((u115.2.2 0) + 1)) (upd (upd (upd (upd mlog (4 * rn) a1) ((4 * rn) + 1) a2) ((4 * rn) + 2) a3) ((4 * rn) + 3) (nI 7989)) (u115.1 0) had (u115.2.1 0) (u115.2.1 1) (u115.2.1 2) (u115.2.1 3) (u115.2.1 4) (u115.1 3) pla sou fou) H := hP
            have hD : va_D (xA 9 am s.heap.size) (mw_ am cm th (u115.1 1) (u115.1 2) mfl mact (u115.2.1 6) (u115.2.1 5) (nI ((u115.2.2 0) + 1)) (upd (upd (upd (upd mlog (4 * rn) a1) ((4 * rn) + 1) a2) ((4 * rn) + 2) a3) ((4 * rn) + 3) (nI 7989)) (u115.1 0) had (u115.2.1 0) (u115.2.1 1) (u115.2.1 2) (u115.2.1 3) (u115.2.1 4) (u115.1 3) pla sou fou) := hD
            refine lv_aload_n hx hb d_M_take_138 rfl (lv_at hl 2 rfl) ?_
            refine va_get (D := (dC, dI)) (ci := 5) (v := .ref (am 7)) (C := R_M) (T := F_M) (N := 20) hx hb hts (fun w h => List.mem_cons_of_mem _ (in_M w h)) hown hK hP 0 rfl rfl 10 (by decide) (hts (.fieldLink R_M 37 R_M "had" "[I") (List.mem_cons_of_mem _ t_722)) (fun _ h9 => h9) rfl d_M_take_139 ?_
            refine lv_iload hx hb d_M_take_142 (lv_at hl 1 rfl) ?_
            refine lv_iconst (v := nI 3) hx hb d_M_take_144 (by decide) ?_
            refine lv_idiv hx hb d_M_take_145 (by decide) ?_
            refine tp_i (y := nI (rn / 3)) (pk_div (by omega) (by omega) (by omega)) ?_
            refine lv_iconst (v := nI 3) hx hb d_M_take_146 (by decide) ?_
            refine va_iast hx hb hK hP hD hS 7 6 rfl rfl (vp_in_nI (by omega) (by decide)) d_M_take_147 (fun H locs hP hD hS => ?_)
            rw [nI_clamp (by omega)] at hP hD
            have hP : va_P (dC, dI) vwCl (mw_ am cm th (u115.1 1) (u115.1 2) mfl mact (u115.2.1 6) (u115.2.1 5) (nI ((u115.2.2 0) + 1)) (upd (upd (upd (upd mlog (4 * rn) a1) ((4 * rn) + 1) a2) ((4 * rn) + 2) a3) ((4 * rn) + 3) (nI 7989)) (u115.1 0) (upd had (rn / 3) (nI 3)) (u115.2.1 0) (u115.2.1 1) (u115.2.1 2) (u115.2.1 3) (u115.2.1 4) (u115.1 3) pla sou fou) H := hP
            have hD : va_D (xA 9 am s.heap.size) (mw_ am cm th (u115.1 1) (u115.1 2) mfl mact (u115.2.1 6) (u115.2.1 5) (nI ((u115.2.2 0) + 1)) (upd (upd (upd (upd mlog (4 * rn) a1) ((4 * rn) + 1) a2) ((4 * rn) + 2) a3) ((4 * rn) + 3) (nI 7989)) (u115.1 0) (upd had (rn / 3) (nI 3)) (u115.2.1 0) (u115.2.1 1) (u115.2.1 2) (u115.2.1 3) (u115.2.1 4) (u115.1 3) pla sou fou) := hD
            refine lv_iconst (v := nI 0) hx hb d_M_take_148 (by decide) ?_
            exact W.iret (v := nI 0) hx hb hr (fun t ht hW => ⟨⟨nI 0, (fun i => [u115.1 0, u115.1 1, u115.1 2, u115.1 3, upd (upd (upd (upd mlog (4 * rn) a1) ((4 * rn) + 1) a2) ((4 * rn) + 2) a3) ((4 * rn) + 3) (nI 7989), upd had (rn / 3) (nI 3)].getD i (fun _ => 0), fun i => [u115.2.1 0, u115.2.1 1, u115.2.1 2, u115.2.1 3, u115.2.1 4, u115.2.1 5, u115.2.1 6].getD i 0, fun i => [(u115.2.2 0) + 1].getD i 0), rfl, by first | exact MI.more hmi (by omega) (fun _ => by rw [er115]; exact hne115) | exact MI.more hmi (by omega) (fun h => absurd h (by omega)) | exact hmi, ⟨by rw [ht]; exact hP, va_K.moved hW.alike hK, hD⟩⟩, hS.F ht⟩) hS.2.2 d_M_take_149
          ·
            exact absurd c122 (by decide)
        ·
          refine lv_istore hx hb d_M_take_118 hl (by decide) rfl (fun ls hl => ?_)
          have hl : lv_has ls 6 [(5, .int (-1)), (4, .int (nI rn)), (0, .ref (am 0)), (1, .int a1), (2, .int a2), (3, .int a3)] := hl
          refine lv_iload hx hb d_M_take_120 (lv_at hl 0 rfl) ?_
          refine lv_if_eq (tgt := 128) hx hb d_M_take_122 (by decide) (fun c122 => ?_) (fun c122 => ?_)
          ·
            exact absurd c122 (by decide)
          ·
            refine lv_iload hx hb d_M_take_125 (lv_at hl 0 rfl) ?_
            exact W.iret (v := (-1)) hx hb hr (fun t ht hW => ⟨⟨(-1), (fun i => [u115.1 0, u115.1 1, u115.1 2, u115.1 3, upd (upd (upd (upd mlog (4 * rn) a1) ((4 * rn) + 1) a2) ((4 * rn) + 2) a3) ((4 * rn) + 3) (nI 7989), had].getD i (fun _ => 0), fun i => [u115.2.1 0, u115.2.1 1, u115.2.1 2, u115.2.1 3, u115.2.1 4, u115.2.1 5, u115.2.1 6].getD i 0, fun i => [u115.2.2 0].getD i 0), rfl, by first | exact MI.more hmi (by omega) (fun _ => by rw [er115]; exact hne115) | exact MI.more hmi (by omega) (fun h => absurd h (by omega)) | exact hmi, ⟨by rw [ht]; exact hP, va_K.moved hW.alike hK, hD⟩⟩, hS.F ht⟩) hS.2.2 d_M_take_127
        ·
          refine lv_istore hx hb d_M_take_118 hl (by decide) rfl (fun ls hl => ?_)
          have hl : lv_has ls 6 [(5, .int (-2)), (4, .int (nI rn)), (0, .ref (am 0)), (1, .int a1), (2, .int a2), (3, .int a3)] := hl
          refine lv_iload hx hb d_M_take_120 (lv_at hl 0 rfl) ?_
          refine lv_if_eq (tgt := 128) hx hb d_M_take_122 (by decide) (fun c122 => ?_) (fun c122 => ?_)
          ·
            exact absurd c122 (by decide)
          ·
            refine lv_iload hx hb d_M_take_125 (lv_at hl 0 rfl) ?_
            exact W.iret (v := (-2)) hx hb hr (fun t ht hW => ⟨⟨(-2), (fun i => [u115.1 0, u115.1 1, u115.1 2, u115.1 3, upd (upd (upd (upd mlog (4 * rn) a1) ((4 * rn) + 1) a2) ((4 * rn) + 2) a3) ((4 * rn) + 3) (nI 7989), had].getD i (fun _ => 0), fun i => [u115.2.1 0, u115.2.1 1, u115.2.1 2, u115.2.1 3, u115.2.1 4, u115.2.1 5, u115.2.1 6].getD i 0, fun i => [u115.2.2 0].getD i 0), rfl, by first | exact MI.more hmi (by omega) (fun _ => by rw [er115]; exact hne115) | exact MI.more hmi (by omega) (fun h => absurd h (by omega)) | exact hmi, ⟨by rw [ht]; exact hP, va_K.moved hW.alike hK, hD⟩⟩, hS.F ht⟩) hS.2.2 d_M_take_127
      ·
        have c91 := cd_ge_f (by omega) (by omega) c91
        refine lv_aload_n hx hb d_M_take_94 rfl (lv_at hl 1 rfl) ?_
        refine lv_dup hx hb d_M_take_95 rfl ?_
        refine va_get (D := (dC, dI)) (ci := 5) (v := .int (nI rn)) (C := R_M) (T := F_M) (N := 20) hx hb hts (fun w h => List.mem_cons_of_mem _ (in_M w h)) hown hK hP 0 rfl rfl 7 (by decide) (hts (.fieldLink R_M 52 R_M "records" "I") (List.mem_cons_of_mem _ t_719)) (fun _ h9 => h9) rfl d_M_take_96 ?_
        refine lv_iconst (v := nI 1) hx hb d_M_take_99 (by decide) ?_
        refine lv_iadd hx hb d_M_take_100 ?_
        refine tp_i (y := nI (rn + 1)) (nI_add _ _) ?_
        refine va_put (D := (dC, dI)) (ci := 5) (v := .int (nI (rn + 1))) (ty := .int) (C := R_M) (T := F_M) (N := 20) hx hb hts (fun w h => List.mem_cons_of_mem _ (in_M w h)) t_M ok_M nm_M hown hK hP hD hS 0 rfl rfl 7 (by decide) (hts (.fieldLink R_M 52 R_M "records" "I") (List.mem_cons_of_mem _ t_719)) (fun _ h9 => h9) rfl (by decide +kernel) rfl rfl (Nat.le_of_ble_eq_true rfl) d_M_take_101 (fun H locs hP hD hS => ?_)
        have hP : va_P (dC, dI) vwCl (mw_ am cm th mw mwr mfl mact on cut (nI (rn + 1)) (upd (upd (upd (upd mlog (4 * rn) a1) ((4 * rn) + 1) a2) ((4 * rn) + 2) a3) ((4 * rn) + 3) (nI 7989)) mlive had mser mcur mrd mwt worn pg pla sou fou) H := hP
        have hD : va_D (xA 9 am s.heap.size) (mw_ am cm th mw mwr mfl mact on cut (nI (rn + 1)) (upd (upd (upd (upd mlog (4 * rn) a1) ((4 * rn) + 1) a2) ((4 * rn) + 2) a3) ((4 * rn) + 3) (nI 7989)) mlive had mser mcur mrd mwt worn pg pla sou fou) := hD
        refine lv_iconst (v := nI 0) hx hb d_M_take_104 (by decide) ?_
        exact W.iret (v := nI 0) hx hb hr (fun t ht hW => ⟨⟨nI 0, (fun i => [mlive, mw, mwr, pg, upd (upd (upd (upd mlog (4 * rn) a1) ((4 * rn) + 1) a2) ((4 * rn) + 2) a3) ((4 * rn) + 3) (nI 7989), had].getD i (fun _ => 0), fun i => [mser, mcur, mrd, mwt, worn, cut, on].getD i 0, fun i => [rn + 1].getD i 0), rfl, by first | exact MI.more hmi (by omega) (fun _ => by rw [er115]; exact hne115) | exact MI.more hmi (by omega) (fun h => absurd h (by omega)) | exact hmi, ⟨by rw [ht]; exact hP, va_K.moved hW.alike hK, hD⟩⟩, hS.F ht⟩) hS.2.2 d_M_take_105
  ·
    refine lv_iconst (v := (-1)) hx hb d_M_take_7 (by decide) ?_
    exact W.iret (v := (-1)) hx hb hr (fun t ht hW => ⟨⟨(-1), (fun i => [mlive, mw, mwr, pg, mlog, had].getD i (fun _ => 0), fun i => [mser, mcur, mrd, mwt, worn, cut, on].getD i 0, fun i => [rn].getD i 0), rfl, by first | exact MI.more hmi (by omega) (fun _ => by rw [er115]; exact hne115) | exact MI.more hmi (by omega) (fun h => absurd h (by omega)) | exact hmi, ⟨by rw [ht]; exact hP, va_K.moved hW.alike hK, hD⟩⟩, hS.F ht⟩) hS.2.2 d_M_take_8
