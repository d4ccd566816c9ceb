set_option maxHeartbeats 4000000 in
set_option maxRecDepth 100000 in
theorem lc_436 {p : Program} {e : Env} {s : State} {m : MethodId} {below : List Frame} {meth : Method} {cd_ : Code} {l : Launch} {b L : Nat} {xs : Nat → Int32} {dC : Nat → ClassId} {dI : Nat → Nat → Nat} {ad cd am cm : Nat → Nat} {ao co az : Nat} (hx : p.tables.exec = Jvm.exec) (hb : cd_.code = code) (hr : meth.sig.returnType = ret) (hlocks : meth.locks = false) (hml : cd_.maxLocals = 8) (hown : s.vm.findClass R_L = some m.cls) (hts : ∀ w ∈ (Cond.initialized R_R :: gw), w.before #[Value.ref b] s = true) (hX : va_X b L xs s s.heap) (hbl : b < s.heap.size) (hbA : ¬ (fun q => s.heap.size ≤ q) b) (hz : tz s s.heap az) (haz : az < s.heap.size) (hn : nwz s) (hcI : va_Nc E_I E_S s ∧ va_Nc E_S E_A s) (hN : nk s) (hl9 : l.stackTraces = false) (hA : ∀ q, s.heap.size ≤ q → (fun q => s.heap.size ≤ q) q) (hK : va_K (dC, dI) vwCl ((co, .long) :: (xt cd ++ mt cm)) s) (hL : L ≤ 2560) (c : Nat) (hg : 5 * c + 5 ≤ L) (ih : ∀ (w wr fl : Nat → Int32) (pw sc : Int32) (lw rot vb : Nat → Int32) (rec tk : Int32) (live row : Nat → Int32) (cur ser dur wo : Int32) (bts : Nat → Int32) (us : Int32) (act : Nat → Int32) (rd rs : Int32) (th : Int32) (mw mwr mfl mact : Nat → Int32) (on cut mrec : Int32) (mlog mlive had : Nat → Int32) (mser mcur mrd mwt worn : Int32) (pg : Nat → Int32) (pla sou fou : Int32) (fo : Nat → Int64) (H : Heap) (locs : List Loc) (ls : Array Slot), XI w wr fl pw sc lw rot vb rec tk live row cur ser dur wo bts us act rd rs → MJ mrec mlive mcur → va_P (dC, dI) vwCl ((ao, .inl (co, 1, .inr (.inl fo))) :: ((xw ad cd w wr fl pw sc lw rot vb rec tk live row cur ser dur wo bts us act rd rs) ++ (mw_ am cm th mw mwr mfl mact on cut mrec mlog mlive had mser mcur mrd mwt worn pg pla sou fou))) H → va_D (fun q => s.heap.size ≤ q) ((ao, .inl (co, 1, .inr (.inl fo))) :: ((xw ad cd w wr fl pw sc lw rot vb rec tk live row cur ser dur wo bts us act rd rs) ++ (mw_ am cm th mw mwr mfl mact on cut mrec mlog mlive had mser mcur mrd mwt worn pg pla sou fou))) → va_S (fun q => s.heap.size ≤ q) s.heap H locs → lv_has ls 8 [(0, .ref b), (1, .ref (ad 0)), (2, .ref (am 0)), (3, .ref ao), (4, .int (nI (5 * (c + 1))))] → W p l e room_1 s m #[Value.ref b] below meth cd_ H locs (25 + (c + 1)) (1775 + 6 * (c + 1)) (lw_Z below #[Value.ref b] s) (F0 m 23 ls [])) {w wr fl : Nat → Int32} {pw sc : Int32} {lw rot vb : Nat → Int32} {rec tk : Int32} {live row : Nat → Int32} {cur ser dur wo : Int32} {bts : Nat → Int32} {us : Int32} {act : Nat → Int32} {rd rs : Int32} {th : Int32} {mw mwr mfl mact : Nat → Int32} {on cut mrec : Int32} {mlog mlive had : Nat → Int32} {mser mcur mrd mwt worn : Int32} {pg : Nat → Int32} {pla sou fou : Int32} {fo : Nat → Int64} {H : Heap} {locs : List Loc} {ls : Array Slot} (hXI : XI w wr fl pw sc lw rot vb rec tk live row cur ser dur wo bts us act rd rs) (hMJ : MJ mrec mlive mcur) (hP : va_P (dC, dI) vwCl ((ao, .inl (co, 1, .inr (.inl fo))) :: ((xw ad cd w wr fl pw sc lw rot vb rec tk live row cur ser dur wo bts us act rd rs) ++ (mw_ am cm th mw mwr mfl mact on cut mrec mlog mlive had mser mcur mrd mwt worn pg pla sou fou))) H) (hD : va_D (fun q => s.heap.size ≤ q) ((ao, .inl (co, 1, .inr (.inl fo))) :: ((xw ad cd w wr fl pw sc lw rot vb rec tk live row cur ser dur wo bts us act rd rs) ++ (mw_ am cm th mw mwr mfl mact on cut mrec mlog mlive had mser mcur mrd mwt worn pg pla sou fou)))) (hS : va_S (fun q => s.heap.size ≤ q) s.heap H locs) (hl : lv_has ls 8 [(0, .ref b), (1, .ref (ad 0)), (2, .ref (am 0)), (3, .ref ao), (4, .int (nI (5 * c)))]) : W p l e room_1 s m #[Value.ref b] below meth cd_ H locs (25 + c) (1775 + 6 * c) (lw_Z below #[Value.ref b] s) (F0 m 436 ls []) := by
  obtain ⟨rn, tn, un, rfl, rfl, rfl, hrt, hr48, hus, hpw, hwo, hfl, hrot, hlv, hcu⟩ := hXI
  obtain ⟨qn, rfl, hmi⟩ := hMJ
  have ht48 : tn ≤ 48 := by omega
  have hq48 := hmi.1
  refine lv_aload_n hx hb d_L_law_436 rfl (lv_at hl 1 rfl) ?_
  refine lv_aload_n hx hb d_L_law_437 rfl (lv_at hl 0 rfl) ?_
  refine lv_iload hx hb d_L_law_438 (lv_at hl 4 rfl) ?_
  refine lv_iconst (v := nI 1) hx hb d_L_law_440 (by decide) ?_
  refine lv_iadd hx hb d_L_law_441 ?_
  refine tp_i (y := nI ((5 * c) + 1)) (nI_add _ _) ?_
  refine va_sld hx hb hX hbl hbA hS (vp_in_nI (by omega) (by first | decide | omega)) d_L_law_442 ?_
  refine tp_i (y := xs ((5 * c) + 1)) (by rw [nI_clamp (by omega)]) ?_
  refine lv_aload_n hx hb d_L_law_443 rfl (lv_at hl 0 rfl) ?_
  refine lv_iload hx hb d_L_law_444 (lv_at hl 4 rfl) ?_
  refine lv_iconst (v := nI 2) hx hb d_L_law_446 (by decide) ?_
  refine lv_iadd hx hb d_L_law_447 ?_
  refine tp_i (y := nI ((5 * c) + 2)) (nI_add _ _) ?_
  refine va_sld hx hb hX hbl hbA hS (vp_in_nI (by omega) (by first | decide | omega)) d_L_law_448 ?_
  refine tp_i (y := xs ((5 * c) + 2)) (by rw [nI_clamp (by omega)]) ?_
  refine lv_aload_n hx hb d_L_law_449 rfl (lv_at hl 3 rfl) ?_
  have hPc := hP.sub (ws' := ((ao, .inl (co, 1, .inr (.inl fo))) :: (xw ad cd w wr fl pw sc lw rot vb (nI rn) (nI tn) live row cur ser dur wo bts (nI un) act rd rs))) [0, 1, 2, 3, 4, 5, 6, 7, 8, 9, 10, 11, 12, 13, 14, 15] rfl
  have hKc := hK.sub (tys' := ((co, .long) :: xt cd)) [0, 1, 2, 3, 4, 5, 6, 7, 8, 9, 10] rfl
  have hDc := hD.sub (ws' := ((ao, .inl (co, 1, .inr (.inl fo))) :: (xw ad cd w wr fl pw sc lw rot vb (nI rn) (nI tn) live row cur ser dur wo bts (nI un) act rd rs))) [0, 1, 2, 3, 4, 5, 6, 7, 8, 9, 10, 11, 12, 13, 14, 15] (by decide) rfl
  have hFc := va_free (wc := ((ao, .inl (co, 1, .inr (.inl fo))) :: (xw ad cd w wr fl pw sc lw rot vb (nI rn) (nI tn) live row cur ser dur wo bts (nI un) act rd rs))) hD hS hA [0, 1, 2, 3, 4, 5, 6, 7, 8, 9, 10, 11, 12, 13, 14, 15] rfl
  have hzH : tz s H az := hz.moved (Vm.Alike.refl s.vm) (hS.2.1 az haz (Nat.not_le.mpr haz))
  have hSz := hS.1
  refine va_calli (sw_run (n := 4) (As := [.ref (ad 0), .int (xs ((5 * c) + 1)), .int (xs ((5 * c) + 2)), .ref ao]) (rest := []) ⟨hx, hb, hml, hown, hts⟩ (cw_L_audit l hl9 dC dI ad cd ao co H.size az w wr fl pw sc lw rot vb (nI rn) (nI tn) live row cur ser dur wo bts (nI un) act rd rs fo tn (xs ((5 * c) + 1)) (xs ((5 * c) + 2)) (by first | omega | rfl | assumption | decide) (by first | omega | rfl | assumption | decide) (by first | omega | rfl | assumption | decide) (by first | omega | rfl | assumption | decide)) (g_c t_582) List.mem_cons_self (hts _ (List.mem_cons_of_mem _ t_580)) (hts _ (List.mem_cons_of_mem _ t_581)) (hts _ (List.mem_cons_of_mem _ t_0)) rfl rfl (by decide) (by decide) (by decide +kernel) (oP_s hPc hKc hDc hzH hn hcI hN) rfl rfl hl.1 rfl (lv_room (Nat.le_of_ble_eq_true rfl)) d_L_law_450 ⟨(show 25 + c + 1 ≤ 1052 by omega), (show 1775 + 6 * c + 6 ≤ 9985 by omega)⟩) hS (fun q _ h => hFc q (ow_A h)) (fun q h => hFc q (ow_A h)) (fun r450 u450 t H1 locs1 ht hvm q450 hB hz1 hk1 hS => ?_)
  obtain ⟨hP1, hK1, hD1⟩ := hB
  rw [ht] at hP1
  obtain ⟨hP, hD⟩ := va_join (wr := [(am 0, .inr (5, [.int th, .ref (am 1), .ref (am 2), .ref (am 3), .ref (am 4), .int on, .int cut, .int (nI qn), .ref (am 5), .ref (am 6), .ref (am 7), .int mser, .int mcur, .int mrd, .int mwt, .int worn, .ref (am 8), .int pla, .int sou, .int fou])), (am 1, .inl (cm 1, 512, .inl mw)), (am 2, .inl (cm 2, 8, .inl mwr)), (am 3, .inl (cm 3, 8, .inl mfl)), (am 4, .inl (cm 4, 40, .inl mact)), (am 5, .inl (cm 5, 192, .inl mlog)), (am 6, .inl (cm 6, 16, .inl mlive)), (am 7, .inl (cm 7, 16, .inl had)), (am 8, .inl (cm 8, 16, .inl pg))]) (w1 := ((ao, .inl (co, 1, .inr (.inl u450.2))) :: (xw ad cd w wr fl pw sc lw rot vb (nI rn) (nI tn) live row cur ser dur wo bts (nI un) act rd rs))) hP hD [0, 1, 2, 3, 4, 5, 6, 7, 8, 9, 10, 11, 12, 13, 14, 15] [16, 17, 18, 19, 20, 21, 22, 23, 24] rfl rfl (by decide) (by decide) (fun q h1 h2 => hk1 q h1 (fun z => h2 (ow_A z))) hFc hP1 (hD1.weaken (fun _ _ _ h => ow_A h))
  have hP : va_P (dC, dI) vwCl ((ao, .inl (co, 1, .inr (.inl u450.2))) :: ((xw ad cd w wr fl pw sc lw rot vb (nI rn) (nI tn) live row cur ser dur wo bts (nI un) act rd rs) ++ (mw_ am cm th mw mwr mfl mact on cut (nI qn) mlog mlive had mser mcur mrd mwt worn pg pla sou fou))) H1 := hP.sub [9, 10, 11, 12, 13, 14, 15, 16, 17, 18, 19, 20, 21, 22, 23, 24, 0, 1, 2, 3, 4, 5, 6, 7, 8] rfl
  have hD : va_D (fun q => s.heap.size ≤ q) ((ao, .inl (co, 1, .inr (.inl u450.2))) :: ((xw ad cd w wr fl pw sc lw rot vb (nI rn) (nI tn) live row cur ser dur wo bts (nI un) act rd rs) ++ (mw_ am cm th mw mwr mfl mact on cut (nI qn) mlog mlive had mser mcur mrd mwt worn pg pla sou fou))) := hD.sub [9, 10, 11, 12, 13, 14, 15, 16, 17, 18, 19, 20, 21, 22, 23, 24, 0, 1, 2, 3, 4, 5, 6, 7, 8] (by decide) rfl
  generalize H1 = H at hP hS ⊢
  generalize locs1 = locs at hS ⊢
  obtain hk450 := q450
  refine lv_istore hx hb d_L_law_453 hl (by decide) rfl (fun ls hl => ?_)
  have hl : lv_has ls 8 [(5, .int r450), (0, .ref b), (1, .ref (ad 0)), (2, .ref (am 0)), (3, .ref ao), (4, .int (nI (5 * c)))] := hl
  refine lv_aload_n hx hb d_L_law_455 rfl (lv_at hl 3 rfl) ?_
  refine lv_aload_n hx hb d_L_law_456 rfl (lv_at hl 1 rfl) ?_
  refine lv_iload hx hb d_L_law_457 (lv_at hl 5 rfl) ?_
  refine lv_iconst (v := nI 1) hx hb d_L_law_459 (by decide) ?_
  refine lv_iadd hx hb d_L_law_460 ?_
  refine tp_i (y := nI ((5 * c) + 1)) (nI_add _ _) ?_
  refine va_sld hx hb hX hbl hbA hS (vp_in_nI (by omega) (by first | decide | omega)) d_L_law_461 ?_
  refine tp_i (y := xs ((5 * c) + 1)) (by rw [nI_clamp (by omega)]) ?_
  refine lv_aload_n hx hb d_L_law_462 rfl (lv_at hl 1 rfl) ?_
  refine lv_iload hx hb d_L_law_463 (lv_at hl 5 rfl) ?_
  refine lv_iconst (v := nI 2) hx hb d_L_law_465 (by decide) ?_
  refine lv_iadd hx hb d_L_law_466 ?_
  refine tp_i (y := nI ((5 * c) + 2)) (nI_add _ _) ?_
  refine va_sld hx hb hX hbl hbA hS (vp_in_nI (by omega) (by first | decide | omega)) d_L_law_467 ?_
  refine tp_i (y := xs ((5 * c) + 2)) (by rw [nI_clamp (by omega)]) ?_
  have hPc := hP.sub (ws' := (mw_ am cm th mw mwr mfl mact on cut (nI qn) mlog mlive had mser mcur mrd mwt worn pg pla sou fou)) [16, 17, 18, 19, 20, 21, 22, 23, 24] rfl
  have hKc := hK.sub (tys' := (mt cm)) [11, 12, 13, 14, 15, 16, 17, 18] rfl
  have hDc := hD.sub (ws' := (mw_ am cm th mw mwr mfl mact on cut (nI qn) mlog mlive had mser mcur mrd mwt worn pg pla sou fou)) [16, 17, 18, 19, 20, 21, 22, 23, 24] (by decide) rfl
  have hFc := va_free (wc := (mw_ am cm th mw mwr mfl mact on cut (nI qn) mlog mlive had mser mcur mrd mwt worn pg pla sou fou)) hD hS hA [16, 17, 18, 19, 20, 21, 22, 23, 24] rfl
  have hSz := hS.1
  refine va_calli (va_runV (C := R_M) (As := [.int (xs ((5 * c) + 1)), .int (xs ((5 * c) + 2))]) (rest := []) ⟨hx, hb, hml, hown, hts⟩ (c_M_audit l dC dI am cm H.size th mw mwr mfl mact on cut (nI qn) mlog mlive had mser mcur mrd mwt worn pg pla sou fou qn (xs ((5 * c) + 1)) (xs ((5 * c) + 2)) (by first | omega | rfl | assumption | decide)) (cwV 2 hts (g_V t_919 t_920 t_921 t_6 t_922) rfl rfl rfl (by decide +kernel) ⟨by decide, by decide⟩) (xP_v hPc hKc hDc hN 0 rfl rfl) rfl rfl hl.1 rfl (lv_room (Nat.le_of_ble_eq_true rfl)) d_L_law_468 ⟨(show 25 + c + 1 ≤ 1052 by omega), (show 1775 + 6 * c + 6 ≤ 9985 by omega)⟩) hS (fun q _ h => hFc q (mw_A h)) (fun q h => hFc q (mw_A h)) (fun r468 u468 t H1 locs1 ht hvm q468 hB hz1 hk1 hS => ?_)
  obtain ⟨hP1, hK1, hD1⟩ := hB
  rw [ht] at hP1
  obtain ⟨hP, hD⟩ := va_join (wr := [(ao, .inl (co, 1, .inr (.inl u450.2))), (ad 0, .inr (4, [.ref (ad 1), .ref (ad 2), .ref (ad 3), .ref (ad 4), .ref (ad 5), .int rd, .int rs])), (ad 1, .inr (3, [.ref (ad 2), .ref (ad 6), .ref (ad 7), .int cur, .int ser, .int dur, .int wo])), (ad 2, .inr (0, [.ref (ad 8), .ref (ad 9), .ref (ad 10), .int pw, .int sc])), (ad 3, .inr (2, [.ref (ad 11), .ref (ad 12), .ref (ad 13), .int (nI rn), .int (nI tn)])), (ad 4, .inr (1, [.ref (ad 14), .int (nI un)])), (ad 5, .inl (cd 5, 40, .inl act)), (ad 6, .inl (cd 6, 16, .inl live)), (ad 7, .inl (cd 7, 16, .inl row)), (ad 8, .inl (cd 8, 512, .inl w)), (ad 9, .inl (cd 9, 8, .inl wr)), (ad 10, .inl (cd 10, 8, .inl fl)), (ad 11, .inl (cd 11, 192, .inl lw)), (ad 12, .inl (cd 12, 48, .inl rot)), (ad 13, .inl (cd 13, 48, .inl vb)), (ad 14, .inl (cd 14, 32, .inl bts))]) (w1 := (mw_ am cm (u468.2.1 0) mw mwr mfl mact on cut (nI qn) mlog mlive had mser mcur mrd mwt worn pg pla sou fou)) hP hD [16, 17, 18, 19, 20, 21, 22, 23, 24] [0, 1, 2, 3, 4, 5, 6, 7, 8, 9, 10, 11, 12, 13, 14, 15] rfl rfl (by decide) (by decide) (fun q h1 h2 => hk1 q h1 (fun z => h2 (mw_A z))) hFc hP1 (hD1.weaken (fun _ _ _ h => mw_A h))
  have hP : va_P (dC, dI) vwCl ((ao, .inl (co, 1, .inr (.inl u450.2))) :: ((xw ad cd w wr fl pw sc lw rot vb (nI rn) (nI tn) live row cur ser dur wo bts (nI un) act rd rs) ++ (mw_ am cm (u468.2.1 0) mw mwr mfl mact on cut (nI qn) mlog mlive had mser mcur mrd mwt worn pg pla sou fou))) H1 := hP.sub [0, 1, 2, 3, 4, 5, 6, 7, 8, 9, 10, 11, 12, 13, 14, 15, 16, 17, 18, 19, 20, 21, 22, 23, 24] rfl
  have hD : va_D (fun q => s.heap.size ≤ q) ((ao, .inl (co, 1, .inr (.inl u450.2))) :: ((xw ad cd w wr fl pw sc lw rot vb (nI rn) (nI tn) live row cur ser dur wo bts (nI un) act rd rs) ++ (mw_ am cm (u468.2.1 0) mw mwr mfl mact on cut (nI qn) mlog mlive had mser mcur mrd mwt worn pg pla sou fou))) := hD.sub [0, 1, 2, 3, 4, 5, 6, 7, 8, 9, 10, 11, 12, 13, 14, 15, 16, 17, 18, 19, 20, 21, 22, 23, 24] (by decide) rfl
  generalize H1 = H at hP hS ⊢
  generalize locs1 = locs at hS ⊢
  have hk468 := q468
  refine lv_istore hx hb d_L_law_471 hl (by decide) rfl (fun ls hl => ?_)
  have hl : lv_has ls 8 [(6, .int r468), (5, .int r450), (0, .ref b), (1, .ref (ad 0)), (2, .ref (am 0)), (3, .ref ao), (4, .int (nI (5 * c)))] := hl
  refine lv_goto (tgt := 808) hx hb d_L_law_473 (by decide) ?_
  refine lv_iinc (k := 6) (v := nI ((5 * c) + 5)) hx hb d_L_law_808 hl rfl (by rw [show Int32.ofInt 5 = nI 5 by decide]; exact nI_add _ _) (by decide) rfl (fun ls hl => ?_)
  have hl : lv_has ls 8 [(4, .int (nI ((5 * c) + 5))), (6, .int r468), (5, .int r450), (0, .ref b), (1, .ref (ad 0)), (2, .ref (am 0)), (3, .ref ao)] := hl
  refine lv_goto (tgt := 23) hx hb d_L_law_811 (by decide) ?_
  refine W.widen (k := 25 + (c + 1)) (n := 1775 + 6 * (c + 1)) (by omega) (by omega) ?_
  exact ih w wr fl pw sc lw rot vb (nI rn) (nI tn) live row cur ser dur wo bts (nI un) act rd rs (u468.2.1 0) mw mwr mfl mact on cut (nI qn) mlog mlive had mser mcur mrd mwt worn pg pla sou fou u450.2 H locs ls (XI_mk (rn := rn) (tn := tn) (un := un) (by omega) (by omega) (by omega) (by first | assumption | exact B01.n1) (by first | assumption | exact B01.n0) (by first | assumption) (by first | assumption) (by first | assumption) (by first | assumption | exact PG.m1)) (MJ_mk (rn := qn) hmi) hP hD hS (lv_sub hl [3, 4, 5, 6, 0] rfl)
