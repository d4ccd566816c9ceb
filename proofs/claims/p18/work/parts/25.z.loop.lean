set_option maxHeartbeats 4000000 in
set_option maxRecDepth 100000 in
theorem law_loop {p : Program} {e : Env} {s : State} {m : MethodId} {below : List Frame} {meth : Method} {cd_ : Code} {l : Launch} {b L : Nat} {xs : Nat → Int32} {dC : Nat → ClassId} {dI : Nat → Nat → Nat} {ad cd am cm : Nat → Nat} {ao co az : Nat} (hx : p.tables.exec = Jvm.exec) (hb : cd_.code = code) (hr : meth.sig.returnType = ret) (hlocks : meth.locks = false) (hml : cd_.maxLocals = 8) (hown : s.vm.findClass R_L = some m.cls) (hts : ∀ w ∈ (Cond.initialized R_R :: gw), w.before #[Value.ref b] s = true) (hX : va_X b L xs s s.heap) (hbl : b < s.heap.size) (hbA : ¬ (fun q => s.heap.size ≤ q) b) (hz : tz s s.heap az) (haz : az < s.heap.size) (hn : nwz s) (hcI : va_Nc E_I E_S s ∧ va_Nc E_S E_A s) (hN : nk s) (hl9 : l.stackTraces = false) (hA : ∀ q, s.heap.size ≤ q → (fun q => s.heap.size ≤ q) q) (hK : va_K (dC, dI) vwCl ((co, .long) :: (xt cd ++ mt cm)) s) (hL : L ≤ 2560) (c nn : Nat) (hm : L + 1 - c ≤ nn) (hc : 5 * c ≤ L) : ∀ (w wr fl : Nat → Int32) (pw sc : Int32) (lw rot vb : Nat → Int32) (rec tk : Int32) (live row : Nat → Int32) (cur ser dur wo : Int32) (bts : Nat → Int32) (us : Int32) (act : Nat → Int32) (rd rs : Int32) (th : Int32) (mw mwr mfl mact : Nat → Int32) (on cut mrec : Int32) (mlog mlive had : Nat → Int32) (mser mcur mrd mwt worn : Int32) (pg : Nat → Int32) (pla sou fou : Int32) (fo : Nat → Int64) (H : Heap) (locs : List Loc) (ls : Array Slot), XI w wr fl pw sc lw rot vb rec tk live row cur ser dur wo bts us act rd rs → MJ mrec mlive mcur → va_P (dC, dI) vwCl ((ao, .inl (co, 1, .inr (.inl fo))) :: ((xw ad cd w wr fl pw sc lw rot vb rec tk live row cur ser dur wo bts us act rd rs) ++ (mw_ am cm th mw mwr mfl mact on cut mrec mlog mlive had mser mcur mrd mwt worn pg pla sou fou))) H → va_D (fun q => s.heap.size ≤ q) ((ao, .inl (co, 1, .inr (.inl fo))) :: ((xw ad cd w wr fl pw sc lw rot vb rec tk live row cur ser dur wo bts us act rd rs) ++ (mw_ am cm th mw mwr mfl mact on cut mrec mlog mlive had mser mcur mrd mwt worn pg pla sou fou))) → va_S (fun q => s.heap.size ≤ q) s.heap H locs → lv_has ls 8 [(0, .ref b), (1, .ref (ad 0)), (2, .ref (am 0)), (3, .ref ao), (4, .int (nI (5 * c)))] → W p l e room_1 s m #[Value.ref b] below meth cd_ H locs (25 + c) (1775 + 6 * c) (lw_Z below #[Value.ref b] s) (F0 m 23 ls []) := by
  induction nn generalizing c with
  | zero => omega
  | succ nn ih0 =>
      intro w wr fl pw sc lw rot vb rec tk live row cur ser dur wo bts us act rd rs th mw mwr mfl mact on cut mrec mlog mlive had mser mcur mrd mwt worn pg pla sou fou fo H locs ls hXI hMJ hP hD hS hl
      have ih : 5 * c + 5 ≤ L → ∀ (w wr fl : Nat → Int32) (pw sc : Int32) (lw rot vb : Nat → Int32) (rec tk : Int32) (live row : Nat → Int32) (cur ser dur wo : Int32) (bts : Nat → Int32) (us : Int32) (act : Nat → Int32) (rd rs : Int32) (th : Int32) (mw mwr mfl mact : Nat → Int32) (on cut mrec : Int32) (mlog mlive had : Nat → Int32) (mser mcur mrd mwt worn : Int32) (pg : Nat → Int32) (pla sou fou : Int32) (fo : Nat → Int64) (H : Heap) (locs : List Loc) (ls : Array Slot), XI w wr fl pw sc lw rot vb rec tk live row cur ser dur wo bts us act rd rs → MJ mrec mlive mcur → va_P (dC, dI) vwCl ((ao, .inl (co, 1, .inr (.inl fo))) :: ((xw ad cd w wr fl pw sc lw rot vb rec tk live row cur ser dur wo bts us act rd rs) ++ (mw_ am cm th mw mwr mfl mact on cut mrec mlog mlive had mser mcur mrd mwt worn pg pla sou fou))) H → va_D (fun q => s.heap.size ≤ q) ((ao, .inl (co, 1, .inr (.inl fo))) :: ((xw ad cd w wr fl pw sc lw rot vb rec tk live row cur ser dur wo bts us act rd rs) ++ (mw_ am cm th mw mwr mfl mact on cut mrec mlog mlive had mser mcur mrd mwt worn pg pla sou fou))) → va_S (fun q => s.heap.size ≤ q) s.heap H locs → lv_has ls 8 [(0, .ref b), (1, .ref (ad 0)), (2, .ref (am 0)), (3, .ref ao), (4, .int (nI (5 * (c + 1))))] → W p l e room_1 s m #[Value.ref b] below meth cd_ H locs (25 + (c + 1)) (1775 + 6 * (c + 1)) (lw_Z below #[Value.ref b] s) (F0 m 23 ls []) := fun hg => ih0 (c + 1) (by omega) (by omega)
      refine lv_iload hx hb d_L_law_23 (lv_at hl 4 rfl) ?_
      rcases (show 5 * c + 5 ≤ L ∨ (5 ≤ L ∧ L < 5 * c + 5) ∨ L < 5 by omega) with hg | hg | hg
      ·
        refine lv_aload_n hx hb d_L_law_25 rfl (lv_at hl 0 rfl) ?_
        refine va_slen hx hb hX hbl hbA hS d_L_law_26 ?_
        refine lv_iconst (v := nI 5) hx hb d_L_law_27 (by decide) ?_
        refine lv_isub hx hb d_L_law_28 ?_
        refine tp_i (y := nI (L - 5)) (pk_sub (by omega)) ?_
        refine lv_icmp_gt (tgt := 814) hx hb d_L_law_29 (by decide) (fun c29 => ?_) (fun c29 => ?_)
        ·
          exact absurd (cd_gt_t (by omega) (by omega) c29) (show ¬ L - 5 < 5 * c by omega)
        ·
          refine lv_aload_n hx hb d_L_law_32 rfl (lv_at hl 0 rfl) ?_
          refine lv_iload hx hb d_L_law_33 (lv_at hl 4 rfl) ?_
          refine va_sld hx hb hX hbl hbA hS (vp_in_nI (by omega) (by first | decide | omega)) d_L_law_35 ?_
          refine tp_i (y := xs (5 * c)) (by rw [nI_clamp (by omega)]) ?_
          refine lv_bipush (v := nI 31) hx hb d_L_law_36 (by decide) ?_
          refine lv_iand hx hb d_L_law_38 ?_
          refine lv_topi (fun sx esx => ?_)
          rcases sw_in sx 18 with hsw | ⟨j, hj, ej⟩
          ·
            refine lv_tableOut (tgt := 808) hx hb d_L_law_39 hsw (by decide) ?_
            refine lv_iinc (k := 4) (v := nI ((5 * c) + 5)) hx hb d_L_law_808 hl rfl (by rw [show Int32.ofInt 5 = nI 5 by decide]; exact nI_add _ _) (by decide) rfl (fun ls hl => ?_)
            have hl : lv_has ls 8 [(4, .int (nI ((5 * c) + 5))), (0, .ref b), (1, .ref (ad 0)), (2, .ref (am 0)), (3, .ref ao)] := hl
            refine lv_goto (tgt := 23) hx hb d_L_law_811 (by decide) ?_
            obtain ⟨rn, tn, un, rfl, rfl, rfl, hrt, hr48, hus, hpw, hwo, hfl, hrot, hlv, hcu⟩ := hXI
            obtain ⟨qn, rfl, hmi⟩ := hMJ
            have ht48 : tn ≤ 48 := by omega
            have hq48 := hmi.1
            refine W.widen (k := 25 + (c + 1)) (n := 1775 + 6 * (c + 1)) (by omega) (by omega) ?_
            exact ih hg w wr fl pw sc lw rot vb (nI rn) (nI tn) live row cur ser dur wo bts (nI un) act rd rs th mw mwr mfl mact on cut (nI qn) mlog mlive had mser mcur mrd mwt worn pg pla sou fou fo H locs ls (XI_mk (rn := rn) (tn := tn) (un := un) (by omega) (by omega) (by omega) (by first | assumption | exact B01.n1) (by first | assumption | exact B01.n0) (by first | assumption) (by first | assumption) (by first | assumption) (by first | assumption | exact PG.m1)) (MJ_mk (rn := qn) hmi) hP hD hS (lv_sub hl [1, 2, 3, 4, 0] rfl)
          ·
            rcases (show j = 0 ∨ j = 1 ∨ j = 2 ∨ j = 3 ∨ j = 4 ∨ j = 5 ∨ j = 6 ∨ j = 7 ∨ j = 8 ∨ j = 9 ∨ j = 10 ∨ j = 11 ∨ j = 12 ∨ j = 13 ∨ j = 14 ∨ j = 15 ∨ j = 16 ∨ j = 17 ∨ j = 18 by omega) with rfl | rfl | rfl | rfl | rfl | rfl | rfl | rfl | rfl | rfl | rfl | rfl | rfl | rfl | rfl | rfl | rfl | rfl | rfl
            ·
              subst ej
              refine lv_tableIn (off := 89) (tgt := 128) hx hb d_L_law_39 (by decide) (by decide) rfl (by decide) ?_
              exact lc_128 hx hb hr hlocks hml hown hts hX hbl hbA hz haz hn hcI hN hl9 hA hK hL c hg (ih hg) hXI hMJ hP hD hS hl
            ·
              subst ej
              refine lv_tableIn (off := 117) (tgt := 156) hx hb d_L_law_39 (by decide) (by decide) rfl (by decide) ?_
              exact lc_156 hx hb hr hlocks hml hown hts hX hbl hbA hz haz hn hcI hN hl9 hA hK hL c hg (ih hg) hXI hMJ hP hD hS hl
            ·
              subst ej
              refine lv_tableIn (off := 181) (tgt := 220) hx hb d_L_law_39 (by decide) (by decide) rfl (by decide) ?_
              exact lc_220 hx hb hr hlocks hml hown hts hX hbl hbA hz haz hn hcI hN hl9 hA hK hL c hg (ih hg) hXI hMJ hP hD hS hl
            ·
              subst ej
              refine lv_tableIn (off := 221) (tgt := 260) hx hb d_L_law_39 (by decide) (by decide) rfl (by decide) ?_
              exact lc_260 hx hb hr hlocks hml hown hts hX hbl hbA hz haz hn hcI hN hl9 hA hK hL c hg (ih hg) hXI hMJ hP hD hS hl
            ·
              subst ej
              refine lv_tableIn (off := 237) (tgt := 276) hx hb d_L_law_39 (by decide) (by decide) rfl (by decide) ?_
              exact lc_276 hx hb hr hlocks hml hown hts hX hbl hbA hz haz hn hcI hN hl9 hA hK hL c hg (ih hg) hXI hMJ hP hD hS hl
            ·
              subst ej
              refine lv_tableIn (off := 277) (tgt := 316) hx hb d_L_law_39 (by decide) (by decide) rfl (by decide) ?_
              exact lc_316 hx hb hr hlocks hml hown hts hX hbl hbA hz haz hn hcI hN hl9 hA hK hL c hg (ih hg) hXI hMJ hP hD hS hl
            ·
              subst ej
              refine lv_tableIn (off := 317) (tgt := 356) hx hb d_L_law_39 (by decide) (by decide) rfl (by decide) ?_
              exact lc_356 hx hb hr hlocks hml hown hts hX hbl hbA hz haz hn hcI hN hl9 hA hK hL c hg (ih hg) hXI hMJ hP hD hS hl
            ·
              subst ej
              refine lv_tableIn (off := 357) (tgt := 396) hx hb d_L_law_39 (by decide) (by decide) rfl (by decide) ?_
              exact lc_396 hx hb hr hlocks hml hown hts hX hbl hbA hz haz hn hcI hN hl9 hA hK hL c hg (ih hg) hXI hMJ hP hD hS hl
            ·
              subst ej
              refine lv_tableIn (off := 397) (tgt := 436) hx hb d_L_law_39 (by decide) (by decide) rfl (by decide) ?_
              exact lc_436 hx hb hr hlocks hml hown hts hX hbl hbA hz haz hn hcI hN hl9 hA hK hL c hg (ih hg) hXI hMJ hP hD hS hl
            ·
              subst ej
              refine lv_tableIn (off := 437) (tgt := 476) hx hb d_L_law_39 (by decide) (by decide) rfl (by decide) ?_
              exact lc_476 hx hb hr hlocks hml hown hts hX hbl hbA hz haz hn hcI hN hl9 hA hK hL c hg (ih hg) hXI hMJ hP hD hS hl
            ·
              subst ej
              refine lv_tableIn (off := 489) (tgt := 528) hx hb d_L_law_39 (by decide) (by decide) rfl (by decide) ?_
              exact lc_528 hx hb hr hlocks hml hown hts hX hbl hbA hz haz hn hcI hN hl9 hA hK hL c hg (ih hg) hXI hMJ hP hD hS hl
            ·
              subst ej
              refine lv_tableIn (off := 542) (tgt := 581) hx hb d_L_law_39 (by decide) (by decide) rfl (by decide) ?_
              exact lc_581 hx hb hr hlocks hml hown hts hX hbl hbA hz haz hn hcI hN hl9 hA hK hL c hg (ih hg) hXI hMJ hP hD hS hl
            ·
              subst ej
              refine lv_tableIn (off := 567) (tgt := 606) hx hb d_L_law_39 (by decide) (by decide) rfl (by decide) ?_
              exact lc_606 hx hb hr hlocks hml hown hts hX hbl hbA hz haz hn hcI hN hl9 hA hK hL c hg (ih hg) hXI hMJ hP hD hS hl
            ·
              subst ej
              refine lv_tableIn (off := 578) (tgt := 617) hx hb d_L_law_39 (by decide) (by decide) rfl (by decide) ?_
              exact lc_617 hx hb hr hlocks hml hown hts hX hbl hbA hz haz hn hcI hN hl9 hA hK hL c hg (ih hg) hXI hMJ hP hD hS hl
            ·
              subst ej
              refine lv_tableIn (off := 591) (tgt := 630) hx hb d_L_law_39 (by decide) (by decide) rfl (by decide) ?_
              exact lc_630 hx hb hr hlocks hml hown hts hX hbl hbA hz haz hn hcI hN hl9 hA hK hL c hg (ih hg) hXI hMJ hP hD hS hl
            ·
              subst ej
              refine lv_tableIn (off := 619) (tgt := 658) hx hb d_L_law_39 (by decide) (by decide) rfl (by decide) ?_
              exact lc_658 hx hb hr hlocks hml hown hts hX hbl hbA hz haz hn hcI hN hl9 hA hK hL c hg (ih hg) hXI hMJ hP hD hS hl
            ·
              subst ej
              refine lv_tableIn (off := 644) (tgt := 683) hx hb d_L_law_39 (by decide) (by decide) rfl (by decide) ?_
              exact lc_683 hx hb hr hlocks hml hown hts hX hbl hbA hz haz hn hcI hN hl9 hA hK hL c hg (ih hg) hXI hMJ hP hD hS hl
            ·
              subst ej
              refine lv_tableIn (off := 704) (tgt := 743) hx hb d_L_law_39 (by decide) (by decide) rfl (by decide) ?_
              exact lc_743 hx hb hr hlocks hml hown hts hX hbl hbA hz haz hn hcI hN hl9 hA hK hL c hg (ih hg) hXI hMJ hP hD hS hl
            ·
              subst ej
              refine lv_tableIn (off := 744) (tgt := 783) hx hb d_L_law_39 (by decide) (by decide) rfl (by decide) ?_
              exact lc_783 hx hb hr hlocks hml hown hts hX hbl hbA hz haz hn hcI hN hl9 hA hK hL c hg (ih hg) hXI hMJ hP hD hS hl
      ·
        refine lv_aload_n hx hb d_L_law_25 rfl (lv_at hl 0 rfl) ?_
        refine va_slen hx hb hX hbl hbA hS d_L_law_26 ?_
        refine lv_iconst (v := nI 5) hx hb d_L_law_27 (by decide) ?_
        refine lv_isub hx hb d_L_law_28 ?_
        refine tp_i (y := nI (L - 5)) (pk_sub (by omega)) ?_
        refine lv_icmp_gt (tgt := 814) hx hb d_L_law_29 (by decide) (fun c29 => ?_) (fun c29 => ?_)
        ·
          refine lv_iconst (v := 1) hx hb d_L_law_814 (by decide) ?_
          refine va_forget (fun q hq => hS.2.2 q hq) ?_
          refine W.widen (k := 1052) (n := 9985) (show 25 + c ≤ 1052 by omega) (show 1775 + 6 * c ≤ 9985 by omega) ?_
          exact lw_ret hx hb hr hlocks d_L_law_815
        ·
          exact absurd ((nI_ltI (by omega) (by omega)).mpr (show L - 5 < 5 * c by omega)) c29
      ·
        refine lv_aload_n hx hb d_L_law_25 rfl (lv_at hl 0 rfl) ?_
        refine va_slen hx hb hX hbl hbA hS d_L_law_26 ?_
        refine lv_iconst (v := nI 5) hx hb d_L_law_27 (by decide) ?_
        refine lv_isub hx hb d_L_law_28 ?_
        refine lv_icmp_gt (tgt := 814) hx hb d_L_law_29 (by decide) (fun c29 => ?_) (fun c29 => ?_)
        ·
          refine lv_iconst (v := 1) hx hb d_L_law_814 (by decide) ?_
          refine va_forget (fun q hq => hS.2.2 q hq) ?_
          refine W.widen (k := 1052) (n := 9985) (show 25 + c ≤ 1052 by omega) (show 1775 + 6 * c ≤ 9985 by omega) ?_
          exact lw_ret hx hb hr hlocks d_L_law_815
        ·
          exact absurd (show nI L - nI 5 < nI (5 * c) by rw [show 5 * c = 0 by omega, nI_0]; exact pk_sneg (by decide) (by omega)) c29
