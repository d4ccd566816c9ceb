set_option maxHeartbeats 4000000 in
set_option maxRecDepth 100000 in
theorem c_M_say (l : Launch) (dC : Nat → ClassId) (dI : Nat → Nat → Nat) (am cm : Nat → Nat) (sz : Nat) (th : Int32) (mw mwr mfl mact : Nat → Int32) (on cut mrec : Int32) (mlog mlive had : Nat → Int32) (mser mcur mrd mwt worn : Int32) (pg : Nat → Int32) (pla sou fou : Int32) (by_ : Int32) : Met l y_M_say w_M_say ({ frames := 0, cells := 0, slots := 0, locals := 0 }) (xP (dC, dI) vwCl (mt cm) (mw_ am cm th mw mwr mfl mact on cut mrec mlog mlive had mser mcur mrd mwt worn pg pla sou fou) sz [.ref (am 0), .int by_]) (va_Qv (fun (u : (Nat → Nat → Int32) × (Nat → Int32) × (Nat → Nat)) => True) (fun (u : (Nat → Nat → Int32) × (Nat → Int32) × (Nat → Nat)) (t : State) => xB (dC, dI) vwCl (mt cm) (xA 9 am sz) (mw_ am cm th mw mwr mfl mact on cut mrec mlog mlive had mser mcur mrd mwt worn pg (u.2.1 0) sou (u.2.1 1)) t) (xA 9 am sz)) 0 0 (xA 9 am sz) := by
  refine Met.ofW (cc := b_M_say) (maxL := 2) (ret := none) (by decide) rfl ?_
  intro P e s m args below meth c0 s₁ B hml hv
  obtain ⟨rfl, hsz, hP, hK, hD0, hN⟩ := hv
  have hx := B.exec
  have hb := B.bytes
  have hr := B.returns
  have hts := atoms_spec (ws := w_M_say) B.pre
  have hown : s.vm.findClass R_M = some m.cls := findClass_of_methodNamed B.named
  have hlocks := B.notSynchronized
  subst hsz
  have hD := mw_D (sz := s.heap.size) hD0
  have hS : va_S (xA 9 am s.heap.size) s.heap s.heap [] := va_S.rf
  have hA : ∀ q : Nat, s.heap.size ≤ q → (xA 9 am s.heap.size) q := fun q h => Or.inr h
  have hl := lv_entry ([.ref (am 0), .int by_]) (n := 2) (Nat.le_of_ble_eq_true rfl)
  rw [lg_entry_eq]
  generalize (lg_sl ([.ref (am 0), .int by_]) ++ List.replicate (2 - (lg_sl ([.ref (am 0), .int by_])).length) Slot.unset).toArray = ls at hl ⊢
  have hl : lv_has ls 2 [(0, .ref (am 0)), (1, .int by_)] := hl
  refine lv_aload_n hx hb d_M_say_0 rfl (lv_at hl 0 rfl) ?_
  refine va_get (D := (dC, dI)) (ci := 5) (v := .int pla) (C := R_M) (T := F_M) (N := 20) hx hb hts (fun w h => List.mem_cons_of_mem _ (in_M w h)) hown hK hP 0 rfl rfl 17 (by decide) (hts (.fieldLink R_M 172 R_M "place" "I") (List.mem_cons_of_mem _ t_729)) (fun _ h9 => h9) rfl d_M_say_1 ?_
  refine lv_aload_n hx hb d_M_say_4 rfl (lv_at hl 0 rfl) ?_
  refine va_get (D := (dC, dI)) (ci := 5) (v := .int sou) (C := R_M) (T := F_M) (N := 20) hx hb hts (fun w h => List.mem_cons_of_mem _ (in_M w h)) hown hK hP 0 rfl rfl 18 (by decide) (hts (.fieldLink R_M 175 R_M "sought" "I") (List.mem_cons_of_mem _ t_730)) (fun _ h9 => h9) rfl d_M_say_5 ?_
  refine lv_icmp_ne (tgt := 16) hx hb d_M_say_8 (by decide) (fun c8 => ?_) (fun c8 => ?_)
  ·
    refine lv_aload_n hx hb d_M_say_16 rfl (lv_at hl 0 rfl) ?_
    refine lv_dup hx hb d_M_say_17 rfl ?_
    refine va_get (D := (dC, dI)) (ci := 5) (v := .int pla) (C := R_M) (T := F_M) (N := 20) hx hb hts (fun w h => List.mem_cons_of_mem _ (in_M w h)) hown hK hP 0 rfl rfl 17 (by decide) (hts (.fieldLink R_M 172 R_M "place" "I") (List.mem_cons_of_mem _ t_729)) (fun _ h9 => h9) rfl d_M_say_18 ?_
    refine lv_iconst (v := nI 1) hx hb d_M_say_21 (by decide) ?_
    refine lv_iadd hx hb d_M_say_22 ?_
    refine va_put (D := (dC, dI)) (ci := 5) (v := .int (pla + (nI 1))) (ty := .int) (C := R_M) (T := F_M) (N := 20) hx hb hts (fun w h => List.mem_cons_of_mem _ (in_M w h)) t_M ok_M nm_M hown hK hP hD hS 0 rfl rfl 17 (by decide) (hts (.fieldLink R_M 172 R_M "place" "I") (List.mem_cons_of_mem _ t_729)) (fun _ h9 => h9) rfl (by decide +kernel) rfl rfl (Nat.le_of_ble_eq_true rfl) d_M_say_23 (fun H locs hP hD hS => ?_)
    have hP : va_P (dC, dI) vwCl (mw_ am cm th mw mwr mfl mact on cut mrec mlog mlive had mser mcur mrd mwt worn pg (pla + (nI 1)) sou fou) H := hP
    have hD : va_D (xA 9 am s.heap.size) (mw_ am cm th mw mwr mfl mact on cut mrec mlog mlive had mser mcur mrd mwt worn pg (pla + (nI 1)) sou fou) := hD
    exact W.vret hx hb hr (fun t ht hW => ⟨⟨(fun i => [].getD i (fun _ => 0), fun i => [pla + (nI 1), fou].getD i 0, fun i => [].getD i 0), rfl, by first | rfl | trivial | omega, ⟨by rw [ht]; exact hP, va_K.moved hW.alike hK, hD⟩⟩, hS.F ht⟩) hS.2.2 d_M_say_26
  ·
    refine lv_aload_n hx hb d_M_say_11 rfl (lv_at hl 0 rfl) ?_
    refine lv_iload_n hx hb d_M_say_12 rfl (lv_at hl 1 rfl) ?_
    refine va_put (D := (dC, dI)) (ci := 5) (v := .int by_) (ty := .int) (C := R_M) (T := F_M) (N := 20) hx hb hts (fun w h => List.mem_cons_of_mem _ (in_M w h)) t_M ok_M nm_M hown hK hP hD hS 0 rfl rfl 19 (by decide) (hts (.fieldLink R_M 178 R_M "found" "I") (List.mem_cons_of_mem _ t_731)) (fun _ h9 => h9) rfl (by decide +kernel) rfl rfl (Nat.le_of_ble_eq_true rfl) d_M_say_13 (fun H locs hP hD hS => ?_)
    have hP : va_P (dC, dI) vwCl (mw_ am cm th mw mwr mfl mact on cut mrec mlog mlive had mser mcur mrd mwt worn pg pla sou by_) H := hP
    have hD : va_D (xA 9 am s.heap.size) (mw_ am cm th mw mwr mfl mact on cut mrec mlog mlive had mser mcur mrd mwt worn pg pla sou by_) := hD
    refine lv_aload_n hx hb d_M_say_16 rfl (lv_at hl 0 rfl) ?_
    refine lv_dup hx hb d_M_say_17 rfl ?_
    refine va_get (D := (dC, dI)) (ci := 5) (v := .int pla) (C := R_M) (T := F_M) (N := 20) hx hb hts (fun w h => List.mem_cons_of_mem _ (in_M w h)) hown hK hP 0 rfl rfl 17 (by decide) (hts (.fieldLink R_M 172 R_M "place" "I") (List.mem_cons_of_mem _ t_729)) (fun _ h9 => h9) rfl d_M_say_18 ?_
    refine lv_iconst (v := nI 1) hx hb d_M_say_21 (by decide) ?_
    refine lv_iadd hx hb d_M_say_22 ?_
    refine va_put (D := (dC, dI)) (ci := 5) (v := .int (pla + (nI 1))) (ty := .int) (C := R_M) (T := F_M) (N := 20) hx hb hts (fun w h => List.mem_cons_of_mem _ (in_M w h)) t_M ok_M nm_M hown hK hP hD hS 0 rfl rfl 17 (by decide) (hts (.fieldLink R_M 172 R_M "place" "I") (List.mem_cons_of_mem _ t_729)) (fun _ h9 => h9) rfl (by decide +kernel) rfl rfl (Nat.le_of_ble_eq_true rfl) d_M_say_23 (fun H locs hP hD hS => ?_)
    have hP : va_P (dC, dI) vwCl (mw_ am cm th mw mwr mfl mact on cut mrec mlog mlive had mser mcur mrd mwt worn pg (pla + (nI 1)) sou by_) H := hP
    have hD : va_D (xA 9 am s.heap.size) (mw_ am cm th mw mwr mfl mact on cut mrec mlog mlive had mser mcur mrd mwt worn pg (pla + (nI 1)) sou by_) := hD
    exact W.vret hx hb hr (fun t ht hW => ⟨⟨(fun i => [].getD i (fun _ => 0), fun i => [pla + (nI 1), by_].getD i 0, fun i => [].getD i 0), rfl, by first | rfl | trivial | omega, ⟨by rw [ht]; exact hP, va_K.moved hW.alike hK, hD⟩⟩, hS.F ht⟩) hS.2.2 d_M_say_26
set_option maxHeartbeats 4000000 in
set_option maxRecDepth 100000 in
theorem c_M_sayNumber (l : Launch) (dC : Nat → ClassId) (dI : Nat → Nat → Nat) (am cm : Nat → Nat) (sz : Nat) (th : Int32) (mw mwr mfl mact : Nat → Int32) (on cut mrec : Int32) (mlog mlive had : Nat → Int32) (mser mcur mrd mwt worn : Int32) (pg : Nat → Int32) (pla sou fou : Int32) (x : Int32) : Met l y_M_sayNumber w_M_sayNumber ({ frames := 1, cells := 0, slots := 0, locals := 21 }) (xP (dC, dI) vwCl (mt cm) (mw_ am cm th mw mwr mfl mact on cut mrec mlog mlive had mser mcur mrd mwt worn pg pla sou fou) sz [.ref (am 0), .long x.toInt64]) (va_Qv (fun (u : (Nat → Nat → Int32) × (Nat → Int32) × (Nat → Nat)) => True) (fun (u : (Nat → Nat → Int32) × (Nat → Int32) × (Nat → Nat)) (t : State) => xB (dC, dI) vwCl (mt cm) (xA 9 am sz) (mw_ am cm th mw mwr mfl mact on cut mrec mlog mlive had mser mcur mrd mwt worn pg (u.2.1 0) sou (u.2.1 1)) t) (xA 9 am sz)) 0 0 (xA 9 am sz) := by
  refine Met.ofW (cc := b_M_sayNumber) (maxL := 7) (ret := none) (by decide) rfl ?_
  intro P e s m args below meth c0 s₁ B hml hv
  obtain ⟨rfl, hsz, hP, hK, hD0, hN⟩ := hv
  have hx := B.exec
  have hb := B.bytes
  have hr := B.returns
  have hts := atoms_spec (ws := w_M_sayNumber) B.pre
  have hown : s.vm.findClass R_M = some m.cls := findClass_of_methodNamed B.named
  have hlocks := B.notSynchronized
  subst hsz
  have hD := mw_D (sz := s.heap.size) hD0
  have hS : va_S (xA 9 am s.heap.size) s.heap s.heap [] := va_S.rf
  have hA : ∀ q : Nat, s.heap.size ≤ q → (xA 9 am s.heap.size) q := fun q h => Or.inr h
  have hl := lv_entry ([.ref (am 0), .long x.toInt64]) (n := 7) (Nat.le_of_ble_eq_true rfl)
  rw [lg_entry_eq]
  generalize (lg_sl ([.ref (am 0), .long x.toInt64]) ++ List.replicate (7 - (lg_sl ([.ref (am 0), .long x.toInt64])).length) Slot.unset).toArray = ls at hl ⊢
  have hl : lv_has ls 7 [(0, .ref (am 0)), (1, .long x.toInt64)] := hl
  obtain ⟨L, hL, hLn, hLp⟩ := lab x
  refine lv_lload_n hx hb d_M_sayNumber_0 rfl (lv_at hl 1 rfl) ?_
  refine lv_lconst (v := 0) hx hb d_M_sayNumber_1 (by decide) ?_
  refine W.lcmp hx hb d_M_sayNumber_2 ?_
  refine lv_if_ge (tgt := 11) hx hb d_M_sayNumber_3 (by decide) (fun c3 => ?_) (fun c3 => ?_)
  ·
    refine lv_lload_n hx hb d_M_sayNumber_11 rfl (lv_at hl 1 rfl) ?_
    refine tp_l (y := lN L) (hLp c3) ?_
    refine lv_lstore_n hx hb d_M_sayNumber_12 rfl hl (by decide) rfl (fun ls hl => ?_)
    have hl : lv_has ls 7 [(3, .long (lN L)), (0, .ref (am 0)), (1, .long x.toInt64)] := hl
    refine lv_lload_n hx hb d_M_sayNumber_13 rfl (lv_at hl 2 rfl) ?_
    refine lv_lconst (v := 0) hx hb d_M_sayNumber_14 (by decide) ?_
    refine W.lcmp hx hb d_M_sayNumber_15 ?_
    refine lv_if_ge (tgt := 25) hx hb d_M_sayNumber_16 (by decide) (fun c16 => ?_) (fun c16 => ?_)
    ·
      refine lv_lconst (v := 1) hx hb d_M_sayNumber_25 (by decide) ?_
      refine tp_l (y := lN 1) (rfl) ?_
      refine lv_lstore hx hb d_M_sayNumber_26 hl (by decide) rfl (fun ls hl => ?_)
      have hl : lv_has ls 7 [(5, .long (lN 1)), (3, .long (lN L)), (0, .ref (am 0)), (1, .long x.toInt64)] := hl
      have lp28 : ∀ (n : Nat) (T : Nat) (ls : Array Slot), (2 ^ 32 - T) < n → (0 < T) → (T ≤ 2 ^ 31) → lv_has ls 7 [(0, .ref (am 0)), (3, .long (lN L)), (5, .long (lN T))] → W P l e (headSpec w_M_sayNumber ({ frames := 1, cells := 0, slots := 0, locals := 21 })).room s m (([.ref (am 0), .long x.toInt64] : List Value).toArray) below meth c0 s.heap [] 0 0 (MQ below (va_Qv (fun (u : (Nat → Nat → Int32) × (Nat → Int32) × (Nat → Nat)) => True) (fun (u : (Nat → Nat → Int32) × (Nat → Int32) × (Nat → Nat)) (t : State) => xB (dC, dI) vwCl (mt cm) (xA 9 am s.heap.size) (mw_ am cm th mw mwr mfl mact on cut mrec mlog mlive had mser mcur mrd mwt worn pg (u.2.1 0) sou (u.2.1 1)) t) (xA 9 am s.heap.size)) (([.ref (am 0), .long x.toInt64] : List Value).toArray) s 0 0 (xA 9 am s.heap.size)) (F0 m 28 ls []) := by
        intro n
        induction n with
        | zero => intro T ls hm; intros; omega
        | succ n ih28 =>
          intro T ls hm hT0 hT hl
          refine lv_lload_n hx hb d_M_sayNumber_28 rfl (lv_at hl 1 rfl) ?_
          refine lv_lload hx hb d_M_sayNumber_29 (lv_at hl 2 rfl) ?_
          refine lv_ldiv hx hb d_M_sayNumber_31 (lN_ne hT0 (by omega)) ?_
          refine lv_ldc2 (v := 9) hx hb hown (hts (.constantLong R_M 185 9) (List.mem_cons_of_mem _ t_947)) d_M_sayNumber_32 ?_
          refine W.lcmp hx hb d_M_sayNumber_35 ?_
          refine lv_if_le (tgt := 50) hx hb d_M_sayNumber_36 (by decide) (fun c36 => ?_) (fun c36 => ?_)
          ·
            have lp50 : ∀ (n : Nat) (T2 : Nat) (pv : Int32) (fv : Int32) (H : Heap) (locs : List Loc) (ls : Array Slot), T2 < n → (T2 < 2 ^ 40) → lv_has ls 7 [(0, .ref (am 0)), (3, .long (lN L)), (5, .long (lN T2))] → va_P (dC, dI) vwCl (mw_ am cm th mw mwr mfl mact on cut mrec mlog mlive had mser mcur mrd mwt worn pg pv sou fv) H → va_D (xA 9 am s.heap.size) (mw_ am cm th mw mwr mfl mact on cut mrec mlog mlive had mser mcur mrd mwt worn pg pv sou fv) → va_S (xA 9 am s.heap.size) s.heap H locs → W P l e (headSpec w_M_sayNumber ({ frames := 1, cells := 0, slots := 0, locals := 21 })).room s m (([.ref (am 0), .long x.toInt64] : List Value).toArray) below meth c0 H locs 0 0 (MQ below (va_Qv (fun (u : (Nat → Nat → Int32) × (Nat → Int32) × (Nat → Nat)) => True) (fun (u : (Nat → Nat → Int32) × (Nat → Int32) × (Nat → Nat)) (t : State) => xB (dC, dI) vwCl (mt cm) (xA 9 am s.heap.size) (mw_ am cm th mw mwr mfl mact on cut mrec mlog mlive had mser mcur mrd mwt worn pg (u.2.1 0) sou (u.2.1 1)) t) (xA 9 am s.heap.size)) (([.ref (am 0), .long x.toInt64] : List Value).toArray) s 0 0 (xA 9 am s.heap.size)) (F0 m 50 ls []) := by
              intro n
              induction n with
              | zero => intro T2 pv fv H locs ls hm; intros; omega
              | succ n ih50 =>
                intro T2 pv fv H locs ls hm hT2 hl hP hD hS
                refine lv_lload hx hb d_M_sayNumber_50 (lv_at hl 2 rfl) ?_
                refine lv_lconst (v := 0) hx hb d_M_sayNumber_52 (by decide) ?_
                refine W.lcmp hx hb d_M_sayNumber_53 ?_
                refine lv_if_le (tgt := 85) hx hb d_M_sayNumber_54 (by decide) (fun c54 => ?_) (fun c54 => ?_)
                ·
                  exact W.vret hx hb hr (fun t ht hW => ⟨⟨(fun i => [].getD i (fun _ => 0), fun i => [pv, fv].getD i 0, fun i => [].getD i 0), rfl, by first | rfl | trivial | omega, ⟨by rw [ht]; exact hP, va_K.moved hW.alike hK, hD⟩⟩, hS.F ht⟩) hS.2.2 d_M_sayNumber_85
                ·
                  have hp0 := l_pos hT2 c54
                  refine lv_aload_n hx hb d_M_sayNumber_57 rfl (lv_at hl 0 rfl) ?_
                  refine lv_ldc2 (v := 48) hx hb hown (hts (.constantLong R_M 189 48) (List.mem_cons_of_mem _ t_949)) d_M_sayNumber_58 ?_
                  refine lv_lload_n hx hb d_M_sayNumber_61 rfl (lv_at hl 1 rfl) ?_
                  refine lv_lload hx hb d_M_sayNumber_62 (lv_at hl 2 rfl) ?_
                  refine lv_ldiv hx hb d_M_sayNumber_64 (lN_ne hp0 (by omega)) ?_
                  refine lv_ldc2 (v := 10) hx hb hown (hts (.constantLong R_M 187 10) (List.mem_cons_of_mem _ t_948)) d_M_sayNumber_65 ?_
                  refine lv_lrem hx hb d_M_sayNumber_68 (by decide) ?_
                  refine lv_ladd hx hb d_M_sayNumber_69 ?_
                  refine lv_l2i (v := (48 + (((lN L) / (lN T2)) - ((lN L) / (lN T2)) / 10 * 10)).toInt32) hx hb d_M_sayNumber_70 rfl ?_
                  have hSz := hS.1
                  refine va_callv (va_runV (C := R_M) (As := [.int ((48 + (((lN L) / (lN T2)) - ((lN L) / (lN T2)) / 10 * 10)).toInt32)]) (rest := []) ⟨hx, hb, hml, hown, hts⟩ (c_M_say l dC dI am cm H.size th mw mwr mfl mact on cut mrec mlog mlive had mser mcur mrd mwt worn pg pv sou fv ((48 + (((lN L) / (lN T2)) - ((lN L) / (lN T2)) / 10 * 10)).toInt32) ) (cwV 1 hts (g_V t_943 t_945 s_50 t_6 t_946) rfl rfl rfl (by decide +kernel) ⟨by decide, by decide⟩) (xP_v hP hK hD hN 0 rfl rfl) rfl rfl hl.1 rfl (lv_room (Nat.le_of_ble_eq_true rfl)) d_M_sayNumber_71 ⟨Nat.le_refl _, Nat.le_refl _⟩) hS (fun q _ h => xA_up hS.1 q h) (fun q h => xA_up hS.1 q h) (fun u71 t H1 locs1 ht hvm q71 hB hz1 hk1 hS => ?_)
                  obtain ⟨hP1, hK1, hD1⟩ := hB
                  rw [ht] at hP1
                  have hD : va_D (xA 9 am s.heap.size) (mw_ am cm th mw mwr mfl mact on cut mrec mlog mlive had mser mcur mrd mwt worn pg (u71.2.1 0) sou (u71.2.1 1)) := hD1.weaken (fun _ q _ h => xA_up hSz _ h)
                  have hP : va_P (dC, dI) vwCl (mw_ am cm th mw mwr mfl mact on cut mrec mlog mlive had mser mcur mrd mwt worn pg (u71.2.1 0) sou (u71.2.1 1)) H1 := hP1
                  generalize H1 = H at hP hS ⊢
                  generalize locs1 = locs at hS ⊢
                  have hk71 := q71
                  refine lv_lload hx hb d_M_sayNumber_74 (lv_at hl 2 rfl) ?_
                  refine lv_ldc2 (v := 10) hx hb hown (hts (.constantLong R_M 187 10) (List.mem_cons_of_mem _ t_948)) d_M_sayNumber_76 ?_
                  refine lv_ldiv hx hb d_M_sayNumber_79 (by decide) ?_
                  refine tp_l (y := lN (T2 / 10)) (l_div10 hT2) ?_
                  refine lv_lstore hx hb d_M_sayNumber_80 hl (by decide) rfl (fun ls hl => ?_)
                  have hl : lv_has ls 7 [(5, .long (lN (T2 / 10))), (0, .ref (am 0)), (3, .long (lN L))] := hl
                  refine lv_goto (tgt := 50) hx hb d_M_sayNumber_82 (by decide) ?_
                  exact ih50 (T2 / 10) (u71.2.1 0) (u71.2.1 1) H locs ls (by omega) (by omega) (lv_sub hl [1, 2, 0] rfl) hP hD hS
            exact lp50 _ T pla fou s.heap [] ls (Nat.lt_succ_self _) (by omega) (lv_sub hl [0, 1, 2] rfl) hP hD hS
          ·
            have h10 := l_gt9 hL hT0 (by omega) c36
            refine lv_lload hx hb d_M_sayNumber_39 (lv_at hl 2 rfl) ?_
            refine lv_ldc2 (v := 10) hx hb hown (hts (.constantLong R_M 187 10) (List.mem_cons_of_mem _ t_948)) d_M_sayNumber_41 ?_
            refine lv_lmul hx hb d_M_sayNumber_44 ?_
            refine tp_l (y := lN (T * 10)) (l_mul10 T) ?_
            refine lv_lstore hx hb d_M_sayNumber_45 hl (by decide) rfl (fun ls hl => ?_)
            have hl : lv_has ls 7 [(5, .long (lN (T * 10))), (0, .ref (am 0)), (3, .long (lN L))] := hl
            refine lv_goto (tgt := 28) hx hb d_M_sayNumber_47 (by decide) ?_
            exact ih28 (T * 10) ls (by omega) (by omega) (by omega) (lv_sub hl [1, 2, 0] rfl)
      exact lp28 _ 1 ls (Nat.lt_succ_self _) (by omega) (by decide) (lv_sub hl [2, 1, 0] rfl)
    ·
      refine lv_aload_n hx hb d_M_sayNumber_19 rfl (lv_at hl 1 rfl) ?_
      refine lv_bipush (v := nI 45) hx hb d_M_sayNumber_20 (by decide) ?_
      have hSz := hS.1
      refine va_callv (va_runV (C := R_M) (As := [.int (nI 45)]) (rest := []) ⟨hx, hb, hml, hown, hts⟩ (c_M_say l dC dI am cm s.heap.size th mw mwr mfl mact on cut mrec mlog mlive had mser mcur mrd mwt worn pg pla sou fou (nI 45) ) (cwV 1 hts (g_V t_943 t_945 s_50 t_6 t_946) rfl rfl rfl (by decide +kernel) ⟨by decide, by decide⟩) (xP_v hP hK hD hN 0 rfl rfl) rfl rfl hl.1 rfl (lv_room (Nat.le_of_ble_eq_true rfl)) d_M_sayNumber_22 ⟨Nat.le_refl _, Nat.le_refl _⟩) hS (fun q _ h => xA_up hS.1 q h) (fun q h => xA_up hS.1 q h) (fun u22 t H1 locs1 ht hvm q22 hB hz1 hk1 hS => ?_)
      obtain ⟨hP1, hK1, hD1⟩ := hB
      rw [ht] at hP1
      have hD : va_D (xA 9 am s.heap.size) (mw_ am cm th mw mwr mfl mact on cut mrec mlog mlive had mser mcur mrd mwt worn pg (u22.2.1 0) sou (u22.2.1 1)) := hD1.weaken (fun _ q _ h => xA_up hSz _ h)
      have hP : va_P (dC, dI) vwCl (mw_ am cm th mw mwr mfl mact on cut mrec mlog mlive had mser mcur mrd mwt worn pg (u22.2.1 0) sou (u22.2.1 1)) H1 := hP1
      generalize H1 = H at hP hS ⊢
      generalize locs1 = locs at hS ⊢
      have hk22 := q22
      refine lv_lconst (v := 1) hx hb d_M_sayNumber_25 (by decide) ?_
      refine tp_l (y := lN 1) (rfl) ?_
      refine lv_lstore hx hb d_M_sayNumber_26 hl (by decide) rfl (fun ls hl => ?_)
      have hl : lv_has ls 7 [(5, .long (lN 1)), (3, .long (lN L)), (0, .ref (am 0)), (1, .long x.toInt64)] := hl
      have lp28 : ∀ (n : Nat) (T : Nat) (ls : Array Slot), (2 ^ 32 - T) < n → (0 < T) → (T ≤ 2 ^ 31) → lv_has ls 7 [(0, .ref (am 0)), (3, .long (lN L)), (5, .long (lN T))] → W P l e (headSpec w_M_sayNumber ({ frames := 1, cells := 0, slots := 0, locals := 21 })).room s m (([.ref (am 0), .long x.toInt64] : List Value).toArray) below meth c0 H locs 0 0 (MQ below (va_Qv (fun (u : (Nat → Nat → Int32) × (Nat → Int32) × (Nat → Nat)) => True) (fun (u : (Nat → Nat → Int32) × (Nat → Int32) × (Nat → Nat)) (t : State) => xB (dC, dI) vwCl (mt cm) (xA 9 am s.heap.size) (mw_ am cm th mw mwr mfl mact on cut mrec mlog mlive had mser mcur mrd mwt worn pg (u.2.1 0) sou (u.2.1 1)) t) (xA 9 am s.heap.size)) (([.ref (am 0), .long x.toInt64] : List Value).toArray) s 0 0 (xA 9 am s.heap.size)) (F0 m 28 ls []) := by
        intro n
        induction n with
        | zero => intro T ls hm; intros; omega
        | succ n ih28 =>
          intro T ls hm hT0 hT hl
          refine lv_lload_n hx hb d_M_sayNumber_28 rfl (lv_at hl 1 rfl) ?_
          refine lv_lload hx hb d_M_sayNumber_29 (lv_at hl 2 rfl) ?_
          refine lv_ldiv hx hb d_M_sayNumber_31 (lN_ne hT0 (by omega)) ?_
          refine lv_ldc2 (v := 9) hx hb hown (hts (.constantLong R_M 185 9) (List.mem_cons_of_mem _ t_947)) d_M_sayNumber_32 ?_
          refine W.lcmp hx hb d_M_sayNumber_35 ?_
          refine lv_if_le (tgt := 50) hx hb d_M_sayNumber_36 (by decide) (fun c36 => ?_) (fun c36 => ?_)
          ·
            have lp50 : ∀ (n : Nat) (T2 : Nat) (pv : Int32) (fv : Int32) (H : Heap) (locs : List Loc) (ls : Array Slot), T2 < n → (T2 < 2 ^ 40) → lv_has ls 7 [(0, .ref (am 0)), (3, .long (lN L)), (5, .long (lN T2))] → va_P (dC, dI) vwCl (mw_ am cm th mw mwr mfl mact on cut mrec mlog mlive had mser mcur mrd mwt worn pg pv sou fv) H → va_D (xA 9 am s.heap.size) (mw_ am cm th mw mwr mfl mact on cut mrec mlog mlive had mser mcur mrd mwt worn pg pv sou fv) → va_S (xA 9 am s.heap.size) s.heap H locs → W P l e (headSpec w_M_sayNumber ({ frames := 1, cells := 0, slots := 0, locals := 21 })).room s m (([.ref (am 0), .long x.toInt64] : List Value).toArray) below meth c0 H locs 0 0 (MQ below (va_Qv (fun (u : (Nat → Nat → Int32) × (Nat → Int32) × (Nat → Nat)) => True) (fun (u : (Nat → Nat → Int32) × (Nat → Int32) × (Nat → Nat)) (t : State) => xB (dC, dI) vwCl (mt cm) (xA 9 am s.heap.size) (mw_ am cm th mw mwr mfl mact on cut mrec mlog mlive had mser mcur mrd mwt worn pg (u.2.1 0) sou (u.2.1 1)) t) (xA 9 am s.heap.size)) (([.ref (am 0), .long x.toInt64] : List Value).toArray) s 0 0 (xA 9 am s.heap.size)) (F0 m 50 ls []) := by
              intro n
              induction n with
              | zero => intro T2 pv fv H locs ls hm; intros; omega
              | succ n ih50 =>
                intro T2 pv fv H locs ls hm hT2 hl hP hD hS
                refine lv_lload hx hb d_M_sayNumber_50 (lv_at hl 2 rfl) ?_
                refine lv_lconst (v := 0) hx hb d_M_sayNumber_52 (by decide) ?_
                refine W.lcmp hx hb d_M_sayNumber_53 ?_
                refine lv_if_le (tgt := 85) hx hb d_M_sayNumber_54 (by decide) (fun c54 => ?_) (fun c54 => ?_)
                ·
                  exact W.vret hx hb hr (fun t ht hW => ⟨⟨(fun i => [].getD i (fun _ => 0), fun i => [pv, fv].getD i 0, fun i => [].getD i 0), rfl, by first | rfl | trivial | omega, ⟨by rw [ht]; exact hP, va_K.moved hW.alike hK, hD⟩⟩, hS.F ht⟩) hS.2.2 d_M_sayNumber_85
                ·
                  have hp0 := l_pos hT2 c54
                  refine lv_aload_n hx hb d_M_sayNumber_57 rfl (lv_at hl 0 rfl) ?_
                  refine lv_ldc2 (v := 48) hx hb hown (hts (.constantLong R_M 189 48) (List.mem_cons_of_mem _ t_949)) d_M_sayNumber_58 ?_
                  refine lv_lload_n hx hb d_M_sayNumber_61 rfl (lv_at hl 1 rfl) ?_
                  refine lv_lload hx hb d_M_sayNumber_62 (lv_at hl 2 rfl) ?_
                  refine lv_ldiv hx hb d_M_sayNumber_64 (lN_ne hp0 (by omega)) ?_
                  refine lv_ldc2 (v := 10) hx hb hown (hts (.constantLong R_M 187 10) (List.mem_cons_of_mem _ t_948)) d_M_sayNumber_65 ?_
                  refine lv_lrem hx hb d_M_sayNumber_68 (by decide) ?_
                  refine lv_ladd hx hb d_M_sayNumber_69 ?_
                  refine lv_l2i (v := (48 + (((lN L) / (lN T2)) - ((lN L) / (lN T2)) / 10 * 10)).toInt32) hx hb d_M_sayNumber_70 rfl ?_
                  have hSz := hS.1
                  refine va_callv (va_runV (C := R_M) (As := [.int ((48 + (((lN L) / (lN T2)) - ((lN L) / (lN T2)) / 10 * 10)).toInt32)]) (rest := []) ⟨hx, hb, hml, hown, hts⟩ (c_M_say l dC dI am cm H.size th mw mwr mfl mact on cut mrec mlog mlive had mser mcur mrd mwt worn pg pv sou fv ((48 + (((lN L) / (lN T2)) - ((lN L) / (lN T2)) / 10 * 10)).toInt32) ) (cwV 1 hts (g_V t_943 t_945 s_50 t_6 t_946) rfl rfl rfl (by decide +kernel) ⟨by decide, by decide⟩) (xP_v hP hK hD hN 0 rfl rfl) rfl rfl hl.1 rfl (lv_room (Nat.le_of_ble_eq_true rfl)) d_M_sayNumber_71 ⟨Nat.le_refl _, Nat.le_refl _⟩) hS (fun q _ h => xA_up hS.1 q h) (fun q h => xA_up hS.1 q h) (fun u71 t H1 locs1 ht hvm q71 hB hz1 hk1 hS => ?_)
                  obtain ⟨hP1, hK1, hD1⟩ := hB
                  rw [ht] at hP1
                  have hD : va_D (xA 9 am s.heap.size) (mw_ am cm th mw mwr mfl mact on cut mrec mlog mlive had mser mcur mrd mwt worn pg (u71.2.1 0) sou (u71.2.1 1)) := hD1.weaken (fun _ q _ h => xA_up hSz _ h)
                  have hP : va_P (dC, dI) vwCl (mw_ am cm th mw mwr mfl mact on cut mrec mlog mlive had mser mcur mrd mwt worn pg (u71.2.1 0) sou (u71.2.1 1)) H1 := hP1
                  generalize H1 = H at hP hS ⊢
                  generalize locs1 = locs at hS ⊢
                  have hk71 := q71
                  refine lv_lload hx hb d_M_sayNumber_74 (lv_at hl 2 rfl) ?_
                  refine lv_ldc2 (v := 10) hx hb hown (hts (.constantLong R_M 187 10) (List.mem_cons_of_mem _ t_948)) d_M_sayNumber_76 ?_
                  refine lv_ldiv hx hb d_M_sayNumber_79 (by decide) ?_
                  refine tp_l (y := lN (T2 / 10)) (l_div10 hT2) ?_
                  refine lv_lstore hx hb d_M_sayNumber_80 hl (by decide) rfl (fun ls hl => ?_)
                  have hl : lv_has ls 7 [(5, .long (lN (T2 / 10))), (0, .ref (am 0)), (3, .long (lN L))] := hl
                  refine lv_goto (tgt := 50) hx hb d_M_sayNumber_82 (by decide) ?_
                  exact ih50 (T2 / 10) (u71.2.1 0) (u71.2.1 1) H locs ls (by omega) (by omega) (lv_sub hl [1, 2, 0] rfl) hP hD hS
            exact lp50 _ T (u22.2.1 0) (u22.2.1 1) H locs ls (Nat.lt_succ_self _) (by omega) (lv_sub hl [0, 1, 2] rfl) hP hD hS
          ·
            have h10 := l_gt9 hL hT0 (by omega) c36
            refine lv_lload hx hb d_M_sayNumber_39 (lv_at hl 2 rfl) ?_
            refine lv_ldc2 (v := 10) hx hb hown (hts (.constantLong R_M 187 10) (List.mem_cons_of_mem _ t_948)) d_M_sayNumber_41 ?_
            refine lv_lmul hx hb d_M_sayNumber_44 ?_
            refine tp_l (y := lN (T * 10)) (l_mul10 T) ?_
            refine lv_lstore hx hb d_M_sayNumber_45 hl (by decide) rfl (fun ls hl => ?_)
            have hl : lv_has ls 7 [(5, .long (lN (T * 10))), (0, .ref (am 0)), (3, .long (lN L))] := hl
            refine lv_goto (tgt := 28) hx hb d_M_sayNumber_47 (by decide) ?_
            exact ih28 (T * 10) ls (by omega) (by omega) (by omega) (lv_sub hl [1, 2, 0] rfl)
      exact lp28 _ 1 ls (Nat.lt_succ_self _) (by omega) (by decide) (lv_sub hl [2, 1, 0] rfl)
  ·
    refine lv_lload_n hx hb d_M_sayNumber_6 rfl (lv_at hl 1 rfl) ?_
    refine lv_lneg hx hb d_M_sayNumber_7 ?_
    refine lv_goto (tgt := 12) hx hb d_M_sayNumber_8 (by decide) ?_
    refine tp_l (y := lN L) (hLn c3) ?_
    refine lv_lstore_n hx hb d_M_sayNumber_12 rfl hl (by decide) rfl (fun ls hl => ?_)
    have hl : lv_has ls 7 [(3, .long (lN L)), (0, .ref (am 0)), (1, .long x.toInt64)] := hl
    refine lv_lload_n hx hb d_M_sayNumber_13 rfl (lv_at hl 2 rfl) ?_
    refine lv_lconst (v := 0) hx hb d_M_sayNumber_14 (by decide) ?_
    refine W.lcmp hx hb d_M_sayNumber_15 ?_
    refine lv_if_ge (tgt := 25) hx hb d_M_sayNumber_16 (by decide) (fun c16 => ?_) (fun c16 => ?_)
    ·
      refine lv_lconst (v := 1) hx hb d_M_sayNumber_25 (by decide) ?_
      refine tp_l (y := lN 1) (rfl) ?_
      refine lv_lstore hx hb d_M_sayNumber_26 hl (by decide) rfl (fun ls hl => ?_)
      have hl : lv_has ls 7 [(5, .long (lN 1)), (3, .long (lN L)), (0, .ref (am 0)), (1, .long x.toInt64)] := hl
      have lp28 : ∀ (n : Nat) (T : Nat) (ls : Array Slot), (2 ^ 32 - T) < n → (0 < T) → (T ≤ 2 ^ 31) → lv_has ls 7 [(0, .ref (am 0)), (3, .long (lN L)), (5, .long (lN T))] → W P l e (headSpec w_M_sayNumber ({ frames := 1, cells := 0, slots := 0, locals := 21 })).room s m (([.ref (am 0), .long x.toInt64] : List Value).toArray) below meth c0 s.heap [] 0 0 (MQ below (va_Qv (fun (u : (Nat → Nat → Int32) × (Nat → Int32) × (Nat → Nat)) => True) (fun (u : (Nat → Nat → Int32) × (Nat → Int32) × (Nat → Nat)) (t : State) => xB (dC, dI) vwCl (mt cm) (xA 9 am s.heap.size) (mw_ am cm th mw mwr mfl mact on cut mrec mlog mlive had mser mcur mrd mwt worn pg (u.2.1 0) sou (u.2.1 1)) t) (xA 9 am s.heap.size)) (([.ref (am 0), .long x.toInt64] : List Value).toArray) s 0 0 (xA 9 am s.heap.size)) (F0 m 28 ls []) := by
        intro n
        induction n with
        | zero => intro T ls hm; intros; omega
        | succ n ih28 =>
          intro T ls hm hT0 hT hl
          refine lv_lload_n hx hb d_M_sayNumber_28 rfl (lv_at hl 1 rfl) ?_
          refine lv_lload hx hb d_M_sayNumber_29 (lv_at hl 2 rfl) ?_
          refine lv_ldiv hx hb d_M_sayNumber_31 (lN_ne hT0 (by omega)) ?_
          refine lv_ldc2 (v := 9) hx hb hown (hts (.constantLong R_M 185 9) (List.mem_cons_of_mem _ t_947)) d_M_sayNumber_32 ?_
          refine W.lcmp hx hb d_M_sayNumber_35 ?_
          refine lv_if_le (tgt := 50) hx hb d_M_sayNumber_36 (by decide) (fun c36 => ?_) (fun c36 => ?_)
          ·
            have lp50 : ∀ (n : Nat) (T2 : Nat) (pv : Int32) (fv : Int32) (H : Heap) (locs : List Loc) (ls : Array Slot), T2 < n → (T2 < 2 ^ 40) → lv_has ls 7 [(0, .ref (am 0)), (3, .long (lN L)), (5, .long (lN T2))] → va_P (dC, dI) vwCl (mw_ am cm th mw mwr mfl mact on cut mrec mlog mlive had mser mcur mrd mwt worn pg pv sou fv) H → va_D (xA 9 am s.heap.size) (mw_ am cm th mw mwr mfl mact on cut mrec mlog mlive had mser mcur mrd mwt worn pg pv sou fv) → va_S (xA 9 am s.heap.size) s.heap H locs → W P l e (headSpec w_M_sayNumber ({ frames := 1, cells := 0, slots := 0, locals := 21 })).room s m (([.ref (am 0), .long x.toInt64] : List Value).toArray) below meth c0 H locs 0 0 (MQ below (va_Qv (fun (u : (Nat → Nat → Int32) × (Nat → Int32) × (Nat → Nat)) => True) (fun (u : (Nat → Nat → Int32) × (Nat → Int32) × (Nat → Nat)) (t : State) => xB (dC, dI) vwCl (mt cm) (xA 9 am s.heap.size) (mw_ am cm th mw mwr mfl mact on cut mrec mlog mlive had mser mcur mrd mwt worn pg (u.2.1 0) sou (u.2.1 1)) t) (xA 9 am s.heap.size)) (([.ref (am 0), .long x.toInt64] : List Value).toArray) s 0 0 (xA 9 am s.heap.size)) (F0 m 50 ls []) := by
              intro n
              induction n with
              | zero => intro T2 pv fv H locs ls hm; intros; omega
              | succ n ih50 =>
                intro T2 pv fv H locs ls hm hT2 hl hP hD hS
                refine lv_lload hx hb d_M_sayNumber_50 (lv_at hl 2 rfl) ?_
                refine lv_lconst (v := 0) hx hb d_M_sayNumber_52 (by decide) ?_
                refine W.lcmp hx hb d_M_sayNumber_53 ?_
                refine lv_if_le (tgt := 85) hx hb d_M_sayNumber_54 (by decide) (fun c54 => ?_) (fun c54 => ?_)
                ·
                  exact W.vret hx hb hr (fun t ht hW => ⟨⟨(fun i => [].getD i (fun _ => 0), fun i => [pv, fv].getD i 0, fun i => [].getD i 0), rfl, by first | rfl | trivial | omega, ⟨by rw [ht]; exact hP, va_K.moved hW.alike hK, hD⟩⟩, hS.F ht⟩) hS.2.2 d_M_sayNumber_85
                ·
                  have hp0 := l_pos hT2 c54
                  refine lv_aload_n hx hb d_M_sayNumber_57 rfl (lv_at hl 0 rfl) ?_
                  refine lv_ldc2 (v := 48) hx hb hown (hts (.constantLong R_M 189 48) (List.mem_cons_of_mem _ t_949)) d_M_sayNumber_58 ?_
                  refine lv_lload_n hx hb d_M_sayNumber_61 rfl (lv_at hl 1 rfl) ?_
                  refine lv_lload hx hb d_M_sayNumber_62 (lv_at hl 2 rfl) ?_
                  refine lv_ldiv hx hb d_M_sayNumber_64 (lN_ne hp0 (by omega)) ?_
                  refine lv_ldc2 (v := 10) hx hb hown (hts (.constantLong R_M 187 10) (List.mem_cons_of_mem _ t_948)) d_M_sayNumber_65 ?_
                  refine lv_lrem hx hb d_M_sayNumber_68 (by decide) ?_
                  refine lv_ladd hx hb d_M_sayNumber_69 ?_
                  refine lv_l2i (v := (48 + (((lN L) / (lN T2)) - ((lN L) / (lN T2)) / 10 * 10)).toInt32) hx hb d_M_sayNumber_70 rfl ?_
                  have hSz := hS.1
                  refine va_callv (va_runV (C := R_M) (As := [.int ((48 + (((lN L) / (lN T2)) - ((lN L) / (lN T2)) / 10 * 10)).toInt32)]) (rest := []) ⟨hx, hb, hml, hown, hts⟩ (c_M_say l dC dI am cm H.size th mw mwr mfl mact on cut mrec mlog mlive had mser mcur mrd mwt worn pg pv sou fv ((48 + (((lN L) / (lN T2)) - ((lN L) / (lN T2)) / 10 * 10)).toInt32) ) (cwV 1 hts (g_V t_943 t_945 s_50 t_6 t_946) rfl rfl rfl (by decide +kernel) ⟨by decide, by decide⟩) (xP_v hP hK hD hN 0 rfl rfl) rfl rfl hl.1 rfl (lv_room (Nat.le_of_ble_eq_true rfl)) d_M_sayNumber_71 ⟨Nat.le_refl _, Nat.le_refl _⟩) hS (fun q _ h => xA_up hS.1 q h) (fun q h => xA_up hS.1 q h) (fun u71 t H1 locs1 ht hvm q71 hB hz1 hk1 hS => ?_)
                  obtain ⟨hP1, hK1, hD1⟩ := hB
                  rw [ht] at hP1
                  have hD : va_D (xA 9 am s.heap.size) (mw_ am cm th mw mwr mfl mact on cut mrec mlog mlive had mser mcur mrd mwt worn pg (u71.2.1 0) sou (u71.2.1 1)) := hD1.weaken (fun _ q _ h => xA_up hSz _ h)
                  have hP : va_P (dC, dI) vwCl (mw_ am cm th mw mwr mfl mact on cut mrec mlog mlive had mser mcur mrd mwt worn pg (u71.2.1 0) sou (u71.2.1 1)) H1 := hP1
                  generalize H1 = H at hP hS ⊢
                  generalize locs1 = locs at hS ⊢
                  have hk71 := q71
                  refine lv_lload hx hb d_M_sayNumber_74 (lv_at hl 2 rfl) ?_
                  refine lv_ldc2 (v := 10) hx hb hown (hts (.constantLong R_M 187 10) (List.mem_cons_of_mem _ t_948)) d_M_sayNumber_76 ?_
                  refine lv_ldiv hx hb d_M_sayNumber_79 (by decide) ?_
                  refine tp_l (y := lN (T2 / 10)) (l_div10 hT2) ?_
                  refine lv_lstore hx hb d_M_sayNumber_80 hl (by decide) rfl (fun ls hl => ?_)
                  have hl : lv_has ls 7 [(5, .long (lN (T2 / 10))), (0, .ref (am 0)), (3, .long (lN L))] := hl
                  refine lv_goto (tgt := 50) hx hb d_M_sayNumber_82 (by decide) ?_
                  exact ih50 (T2 / 10) (u71.2.1 0) (u71.2.1 1) H locs ls (by omega) (by omega) (lv_sub hl [1, 2, 0] rfl) hP hD hS
            exact lp50 _ T pla fou s.heap [] ls (Nat.lt_succ_self _) (by omega) (lv_sub hl [0, 1, 2] rfl) hP hD hS
          ·
            have h10 := l_gt9 hL hT0 (by omega) c36
            refine lv_lload hx hb d_M_sayNumber_39 (lv_at hl 2 rfl) ?_
            refine lv_ldc2 (v := 10) hx hb hown (hts (.constantLong R_M 187 10) (List.mem_cons_of_mem _ t_948)) d_M_sayNumber_41 ?_
            refine lv_lmul hx hb d_M_sayNumber_44 ?_
            refine tp_l (y := lN (T * 10)) (l_mul10 T) ?_
            refine lv_lstore hx hb d_M_sayNumber_45 hl (by decide) rfl (fun ls hl => ?_)
            have hl : lv_has ls 7 [(5, .long (lN (T * 10))), (0, .ref (am 0)), (3, .long (lN L))] := hl
            refine lv_goto (tgt := 28) hx hb d_M_sayNumber_47 (by decide) ?_
            exact ih28 (T * 10) ls (by omega) (by omega) (by omega) (lv_sub hl [1, 2, 0] rfl)
      exact lp28 _ 1 ls (Nat.lt_succ_self _) (by omega) (by decide) (lv_sub hl [2, 1, 0] rfl)
    ·
      refine lv_aload_n hx hb d_M_sayNumber_19 rfl (lv_at hl 1 rfl) ?_
      refine lv_bipush (v := nI 45) hx hb d_M_sayNumber_20 (by decide) ?_
      have hSz := hS.1
      refine va_callv (va_runV (C := R_M) (As := [.int (nI 45)]) (rest := []) ⟨hx, hb, hml, hown, hts⟩ (c_M_say l dC dI am cm s.heap.size th mw mwr mfl mact on cut mrec mlog mlive had mser mcur mrd mwt worn pg pla sou fou (nI 45) ) (cwV 1 hts (g_V t_943 t_945 s_50 t_6 t_946) rfl rfl rfl (by decide +kernel) ⟨by decide, by decide⟩) (xP_v hP hK hD hN 0 rfl rfl) rfl rfl hl.1 rfl (lv_room (Nat.le_of_ble_eq_true rfl)) d_M_sayNumber_22 ⟨Nat.le_refl _, Nat.le_refl _⟩) hS (fun q _ h => xA_up hS.1 q h) (fun q h => xA_up hS.1 q h) (fun u22 t H1 locs1 ht hvm q22 hB hz1 hk1 hS => ?_)
      obtain ⟨hP1, hK1, hD1⟩ := hB
      rw [ht] at hP1
      have hD : va_D (xA 9 am s.heap.size) (mw_ am cm th mw mwr mfl mact on cut mrec mlog mlive had mser mcur mrd mwt worn pg (u22.2.1 0) sou (u22.2.1 1)) := hD1.weaken (fun _ q _ h => xA_up hSz _ h)
      have hP : va_P (dC, dI) vwCl (mw_ am cm th mw mwr mfl mact on cut mrec mlog mlive had mser mcur mrd mwt worn pg (u22.2.1 0) sou (u22.2.1 1)) H1 := hP1
      generalize H1 = H at hP hS ⊢
      generalize locs1 = locs at hS ⊢
      have hk22 := q22
      refine lv_lconst (v := 1) hx hb d_M_sayNumber_25 (by decide) ?_
      refine tp_l (y := lN 1) (rfl) ?_
      refine lv_lstore hx hb d_M_sayNumber_26 hl (by decide) rfl (fun ls hl => ?_)
      have hl : lv_has ls 7 [(5, .long (lN 1)), (3, .long (lN L)), (0, .ref (am 0)), (1, .long x.toInt64)] := hl
      have lp28 : ∀ (n : Nat) (T : Nat) (ls : Array Slot), (2 ^ 32 - T) < n → (0 < T) → (T ≤ 2 ^ 31) → lv_has ls 7 [(0, .ref (am 0)), (3, .long (lN L)), (5, .long (lN T))] → W P l e (headSpec w_M_sayNumber ({ frames := 1, cells := 0, slots := 0, locals := 21 })).room s m (([.ref (am 0), .long x.toInt64] : List Value).toArray) below meth c0 H locs 0 0 (MQ below (va_Qv (fun (u : (Nat → Nat → Int32) × (Nat → Int32) × (Nat → Nat)) => True) (fun (u : (Nat → Nat → Int32) × (Nat → Int32) × (Nat → Nat)) (t : State) => xB (dC, dI) vwCl (mt cm) (xA 9 am s.heap.size) (mw_ am cm th mw mwr mfl mact on cut mrec mlog mlive had mser mcur mrd mwt worn pg (u.2.1 0) sou (u.2.1 1)) t) (xA 9 am s.heap.size)) (([.ref (am 0), .long x.toInt64] : List Value).toArray) s 0 0 (xA 9 am s.heap.size)) (F0 m 28 ls []) := by
        intro n
        induction n with
        | zero => intro T ls hm; intros; omega
        | succ n ih28 =>
          intro T ls hm hT0 hT hl
          refine lv_lload_n hx hb d_M_sayNumber_28 rfl (lv_at hl 1 rfl) ?_
          refine lv_lload hx hb d_M_sayNumber_29 (lv_at hl 2 rfl) ?_
          refine lv_ldiv hx hb d_M_sayNumber_31 (lN_ne hT0 (by omega)) ?_
          refine lv_ldc2 (v := 9) hx hb hown (hts (.constantLong R_M 185 9) (List.mem_cons_of_mem _ t_947)) d_M_sayNumber_32 ?_
          refine W.lcmp hx hb d_M_sayNumber_35 ?_
          refine lv_if_le (tgt := 50) hx hb d_M_sayNumber_36 (by decide) (fun c36 => ?_) (fun c36 => ?_)
          ·
            have lp50 : ∀ (n : Nat) (T2 : Nat) (pv : Int32) (fv : Int32) (H : Heap) (locs : List Loc) (ls : Array Slot), T2 < n → (T2 < 2 ^ 40) → lv_has ls 7 [(0, .ref (am 0)), (3, .long (lN L)), (5, .long (lN T2))] → va_P (dC, dI) vwCl (mw_ am cm th mw mwr mfl mact on cut mrec mlog mlive had mser mcur mrd mwt worn pg pv sou fv) H → va_D (xA 9 am s.heap.size) (mw_ am cm th mw mwr mfl mact on cut mrec mlog mlive had mser mcur mrd mwt worn pg pv sou fv) → va_S (xA 9 am s.heap.size) s.heap H locs → W P l e (headSpec w_M_sayNumber ({ frames := 1, cells := 0, slots := 0, locals := 21 })).room s m (([.ref (am 0), .long x.toInt64] : List Value).toArray) below meth c0 H locs 0 0 (MQ below (va_Qv (fun (u : (Nat → Nat → Int32) × (Nat → Int32) × (Nat → Nat)) => True) (fun (u : (Nat → Nat → Int32) × (Nat → Int32) × (Nat → Nat)) (t : State) => xB (dC, dI) vwCl (mt cm) (xA 9 am s.heap.size) (mw_ am cm th mw mwr mfl mact on cut mrec mlog mlive had mser mcur mrd mwt worn pg (u.2.1 0) sou (u.2.1 1)) t) (xA 9 am s.heap.size)) (([.ref (am 0), .long x.toInt64] : List Value).toArray) s 0 0 (xA 9 am s.heap.size)) (F0 m 50 ls []) := by
              intro n
              induction n with
              | zero => intro T2 pv fv H locs ls hm; intros; omega
              | succ n ih50 =>
                intro T2 pv fv H locs ls hm hT2 hl hP hD hS
                refine lv_lload hx hb d_M_sayNumber_50 (lv_at hl 2 rfl) ?_
                refine lv_lconst (v := 0) hx hb d_M_sayNumber_52 (by decide) ?_
                refine W.lcmp hx hb d_M_sayNumber_53 ?_
                refine lv_if_le (tgt := 85) hx hb d_M_sayNumber_54 (by decide) (fun c54 => ?_) (fun c54 => ?_)
                ·
                  exact W.vret hx hb hr (fun t ht hW => ⟨⟨(fun i => [].getD i (fun _ => 0), fun i => [pv, fv].getD i 0, fun i => [].getD i 0), rfl, by first | rfl | trivial | omega, ⟨by rw [ht]; exact hP, va_K.moved hW.alike hK, hD⟩⟩, hS.F ht⟩) hS.2.2 d_M_sayNumber_85
                ·
                  have hp0 := l_pos hT2 c54
                  refine lv_aload_n hx hb d_M_sayNumber_57 rfl (lv_at hl 0 rfl) ?_
                  refine lv_ldc2 (v := 48) hx hb hown (hts (.constantLong R_M 189 48) (List.mem_cons_of_mem _ t_949)) d_M_sayNumber_58 ?_
                  refine lv_lload_n hx hb d_M_sayNumber_61 rfl (lv_at hl 1 rfl) ?_
                  refine lv_lload hx hb d_M_sayNumber_62 (lv_at hl 2 rfl) ?_
                  refine lv_ldiv hx hb d_M_sayNumber_64 (lN_ne hp0 (by omega)) ?_
                  refine lv_ldc2 (v := 10) hx hb hown (hts (.constantLong R_M 187 10) (List.mem_cons_of_mem _ t_948)) d_M_sayNumber_65 ?_
                  refine lv_lrem hx hb d_M_sayNumber_68 (by decide) ?_
                  refine lv_ladd hx hb d_M_sayNumber_69 ?_
                  refine lv_l2i (v := (48 + (((lN L) / (lN T2)) - ((lN L) / (lN T2)) / 10 * 10)).toInt32) hx hb d_M_sayNumber_70 rfl ?_
                  have hSz := hS.1
                  refine va_callv (va_runV (C := R_M) (As := [.int ((48 + (((lN L) / (lN T2)) - ((lN L) / (lN T2)) / 10 * 10)).toInt32)]) (rest := []) ⟨hx, hb, hml, hown, hts⟩ (c_M_say l dC dI am cm H.size th mw mwr mfl mact on cut mrec mlog mlive had mser mcur mrd mwt worn pg pv sou fv ((48 + (((lN L) / (lN T2)) - ((lN L) / (lN T2)) / 10 * 10)).toInt32) ) (cwV 1 hts (g_V t_943 t_945 s_50 t_6 t_946) rfl rfl rfl (by decide +kernel) ⟨by decide, by decide⟩) (xP_v hP hK hD hN 0 rfl rfl) rfl rfl hl.1 rfl (lv_room (Nat.le_of_ble_eq_true rfl)) d_M_sayNumber_71 ⟨Nat.le_refl _, Nat.le_refl _⟩) hS (fun q _ h => xA_up hS.1 q h) (fun q h => xA_up hS.1 q h) (fun u71 t H1 locs1 ht hvm q71 hB hz1 hk1 hS => ?_)
                  obtain ⟨hP1, hK1, hD1⟩ := hB
                  rw [ht] at hP1
                  have hD : va_D (xA 9 am s.heap.size) (mw_ am cm th mw mwr mfl mact on cut mrec mlog mlive had mser mcur mrd mwt worn pg (u71.2.1 0) sou (u71.2.1 1)) := hD1.weaken (fun _ q _ h => xA_up hSz _ h)
                  have hP : va_P (dC, dI) vwCl (mw_ am cm th mw mwr mfl mact on cut mrec mlog mlive had mser mcur mrd mwt worn pg (u71.2.1 0) sou (u71.2.1 1)) H1 := hP1
                  generalize H1 = H at hP hS ⊢
                  generalize locs1 = locs at hS ⊢
                  have hk71 := q71
                  refine lv_lload hx hb d_M_sayNumber_74 (lv_at hl 2 rfl) ?_
                  refine lv_ldc2 (v := 10) hx hb hown (hts (.constantLong R_M 187 10) (List.mem_cons_of_mem _ t_948)) d_M_sayNumber_76 ?_
                  refine lv_ldiv hx hb d_M_sayNumber_79 (by decide) ?_
                  refine tp_l (y := lN (T2 / 10)) (l_div10 hT2) ?_
                  refine lv_lstore hx hb d_M_sayNumber_80 hl (by decide) rfl (fun ls hl => ?_)
                  have hl : lv_has ls 7 [(5, .long (lN (T2 / 10))), (0, .ref (am 0)), (3, .long (lN L))] := hl
                  refine lv_goto (tgt := 50) hx hb d_M_sayNumber_82 (by decide) ?_
                  exact ih50 (T2 / 10) (u71.2.1 0) (u71.2.1 1) H locs ls (by omega) (by omega) (lv_sub hl [1, 2, 0] rfl) hP hD hS
            exact lp50 _ T (u22.2.1 0) (u22.2.1 1) H locs ls (Nat.lt_succ_self _) (by omega) (lv_sub hl [0, 1, 2] rfl) hP hD hS
          ·
            have h10 := l_gt9 hL hT0 (by omega) c36
            refine lv_lload hx hb d_M_sayNumber_39 (lv_at hl 2 rfl) ?_
            refine lv_ldc2 (v := 10) hx hb hown (hts (.constantLong R_M 187 10) (List.mem_cons_of_mem _ t_948)) d_M_sayNumber_41 ?_
            refine lv_lmul hx hb d_M_sayNumber_44 ?_
            refine tp_l (y := lN (T * 10)) (l_mul10 T) ?_
            refine lv_lstore hx hb d_M_sayNumber_45 hl (by decide) rfl (fun ls hl => ?_)
            have hl : lv_has ls 7 [(5, .long (lN (T * 10))), (0, .ref (am 0)), (3, .long (lN L))] := hl
            refine lv_goto (tgt := 28) hx hb d_M_sayNumber_47 (by decide) ?_
            exact ih28 (T * 10) ls (by omega) (by omega) (by omega) (lv_sub hl [1, 2, 0] rfl)
      exact lp28 _ 1 ls (Nat.lt_succ_self _) (by omega) (by decide) (lv_sub hl [2, 1, 0] rfl)
set_option maxHeartbeats 4000000 in
set_option maxRecDepth 100000 in
theorem c_M_exportByte (l : Launch) (dC : Nat → ClassId) (dI : Nat → Nat → Nat) (am cm : Nat → Nat) (sz : Nat) (th : Int32) (mw mwr mfl mact : Nat → Int32) (on cut mrec : Int32) (mlog mlive had : Nat → Int32) (mser mcur mrd mwt worn : Int32) (pg : Nat → Int32) (pla sou fou : Int32) (rn : Nat) (fr : Int32) (to : Int32) (ix : Int32) (hr48 : rn ≤ 48) : Met l y_M_exportByte w_M_exportByte ({ frames := 4, cells := 0, slots := 0, locals := 88 }) (xP (dC, dI) vwCl (mt cm) (mw_ am cm th mw mwr mfl mact on cut (nI rn) mlog mlive had mser mcur mrd mwt worn pg pla sou fou) sz [.ref (am 0), .int fr, .int to, .int ix]) (va_Qi (fun r (u : (Nat → Nat → Int32) × (Nat → Int32) × (Nat → Nat)) => True) (fun (u : (Nat → Nat → Int32) × (Nat → Int32) × (Nat → Nat)) (t : State) => xB (dC, dI) vwCl (mt cm) (xA 9 am sz) (mw_ am cm (u.2.1 0) mw mwr mfl mact on cut (nI rn) mlog mlive had mser mcur mrd mwt worn pg (u.2.1 1) (u.2.1 2) (u.2.1 3)) t) (xA 9 am sz)) 0 0 (xA 9 am sz) := by
  refine Met.ofW (cc := b_M_exportByte) (maxL := 6) (ret := (some (.int))) (by decide) rfl ?_
  intro P e s m args below meth c0 s₁ B hml hv
  obtain ⟨rfl, hsz, hP, hK, hD0, hN⟩ := hv
  have hx := B.exec
  have hb := B.bytes
  have hr := B.returns
  have hts := atoms_spec (ws := w_M_exportByte) B.pre
  have hown : s.vm.findClass R_M = some m.cls := findClass_of_methodNamed B.named
  have hlocks := B.notSynchronized
  subst hsz
  have hD := mw_D (sz := s.heap.size) hD0
  have hS : va_S (xA 9 am s.heap.size) s.heap s.heap [] := va_S.rf
  have hA : ∀ q : Nat, s.heap.size ≤ q → (xA 9 am s.heap.size) q := fun q h => Or.inr h
  have hl := lv_entry ([.ref (am 0), .int fr, .int to, .int ix]) (n := 6) (Nat.le_of_ble_eq_true rfl)
  rw [lg_entry_eq]
  generalize (lg_sl ([.ref (am 0), .int fr, .int to, .int ix]) ++ List.replicate (6 - (lg_sl ([.ref (am 0), .int fr, .int to, .int ix])).length) Slot.unset).toArray = ls at hl ⊢
  have hl : lv_has ls 6 [(0, .ref (am 0)), (1, .int fr), (2, .int to), (3, .int ix)] := hl
  have hnv0 := nv_le mlog rn
  refine lv_aload_n hx hb d_M_exportByte_0 rfl (lv_at hl 0 rfl) ?_
  refine lv_iconst (v := nI 1) hx hb d_M_exportByte_1 (by decide) ?_
  refine lv_aload_n hx hb d_M_exportByte_2 rfl (lv_at hl 0 rfl) ?_
  refine va_get (D := (dC, dI)) (ci := 5) (v := .int on) (C := R_M) (T := F_M) (N := 20) hx hb hts (fun w h => List.mem_cons_of_mem _ (in_M w h)) hown hK hP 0 rfl rfl 5 (by decide) (hts (.fieldLink R_M 23 R_M "on" "Z") (List.mem_cons_of_mem _ t_717)) (fun _ h9 => h9) rfl d_M_exportByte_3 ?_
  refine lv_if_ne (tgt := 13) hx hb d_M_exportByte_6 (by decide) (fun c6 => ?_) (fun c6 => ?_)
  ·
    refine lv_iconst (v := nI 0) hx hb d_M_exportByte_13 (by decide) ?_
    have hSz := hS.1
    refine va_calli (va_runV (C := R_M) (As := [.int (nI 1), .int (nI 0)]) (rest := []) ⟨hx, hb, hml, hown, hts⟩ (c_M_fails_0 l dC dI am cm s.heap.size th mw mwr mfl mact on cut (nI rn) mlog mlive had mser mcur mrd mwt worn pg pla sou fou (nI 1) ) (cwV 2 hts (g_V t_784 t_786 s_22 t_6 t_787) rfl rfl rfl (by decide +kernel) ⟨by decide, by decide⟩) (xP_v hP hK hD hN 0 rfl rfl) rfl rfl hl.1 rfl (lv_room (Nat.le_of_ble_eq_true rfl)) d_M_exportByte_14 ⟨Nat.le_refl _, Nat.le_refl _⟩) hS (fun q _ h => xA_up hS.1 q h) (fun q h => xA_up hS.1 q h) (fun r14 u14 t H1 locs1 ht hvm q14 hB hz1 hk1 hS => ?_)
    obtain ⟨hP1, hK1, hD1⟩ := hB
    rw [ht] at hP1
    have hD : va_D (xA 9 am s.heap.size) (mw_ am cm (nI 0) mw mwr mfl mact on cut (nI rn) mlog mlive had mser mcur mrd mwt worn pg pla sou fou) := hD1.weaken (fun _ q _ h => xA_up hSz _ h)
    have hP : va_P (dC, dI) vwCl (mw_ am cm (nI 0) mw mwr mfl mact on cut (nI rn) mlog mlive had mser mcur mrd mwt worn pg pla sou fou) H1 := hP1
    generalize H1 = H at hP hS ⊢
    generalize locs1 = locs at hS ⊢
    have q14 := q14.symm
    subst q14
    refine lv_if_eq (tgt := 22) hx hb d_M_exportByte_17 (by decide) (fun c17 => ?_) (fun c17 => ?_)
    ·
      refine lv_aload_n hx hb d_M_exportByte_22 rfl (lv_at hl 0 rfl) ?_
      refine lv_iconst (v := nI 0) hx hb d_M_exportByte_23 (by decide) ?_
      refine va_put (D := (dC, dI)) (ci := 5) (v := .int (nI 0)) (ty := .int) (C := R_M) (T := F_M) (N := 20) hx hb hts (fun w h => List.mem_cons_of_mem _ (in_M w h)) t_M ok_M nm_M hown hK hP hD hS 0 rfl rfl 17 (by decide) (hts (.fieldLink R_M 172 R_M "place" "I") (List.mem_cons_of_mem _ t_729)) (fun _ h9 => h9) rfl (by decide +kernel) rfl rfl (Nat.le_of_ble_eq_true rfl) d_M_exportByte_24 (fun H locs hP hD hS => ?_)
      have hP : va_P (dC, dI) vwCl (mw_ am cm (nI 0) mw mwr mfl mact on cut (nI rn) mlog mlive had mser mcur mrd mwt worn pg (nI 0) sou fou) H := hP
      have hD : va_D (xA 9 am s.heap.size) (mw_ am cm (nI 0) mw mwr mfl mact on cut (nI rn) mlog mlive had mser mcur mrd mwt worn pg (nI 0) sou fou) := hD
      refine lv_aload_n hx hb d_M_exportByte_27 rfl (lv_at hl 0 rfl) ?_
      refine lv_iload_n hx hb d_M_exportByte_28 rfl (lv_at hl 3 rfl) ?_
      refine va_put (D := (dC, dI)) (ci := 5) (v := .int ix) (ty := .int) (C := R_M) (T := F_M) (N := 20) hx hb hts (fun w h => List.mem_cons_of_mem _ (in_M w h)) t_M ok_M nm_M hown hK hP hD hS 0 rfl rfl 18 (by decide) (hts (.fieldLink R_M 175 R_M "sought" "I") (List.mem_cons_of_mem _ t_730)) (fun _ h9 => h9) rfl (by decide +kernel) rfl rfl (Nat.le_of_ble_eq_true rfl) d_M_exportByte_29 (fun H locs hP hD hS => ?_)
      have hP : va_P (dC, dI) vwCl (mw_ am cm (nI 0) mw mwr mfl mact on cut (nI rn) mlog mlive had mser mcur mrd mwt worn pg (nI 0) ix fou) H := hP
      have hD : va_D (xA 9 am s.heap.size) (mw_ am cm (nI 0) mw mwr mfl mact on cut (nI rn) mlog mlive had mser mcur mrd mwt worn pg (nI 0) ix fou) := hD
      refine lv_aload_n hx hb d_M_exportByte_32 rfl (lv_at hl 0 rfl) ?_
      refine lv_iconst (v := (-1)) hx hb d_M_exportByte_33 (by decide) ?_
      refine va_put (D := (dC, dI)) (ci := 5) (v := .int (-1)) (ty := .int) (C := R_M) (T := F_M) (N := 20) hx hb hts (fun w h => List.mem_cons_of_mem _ (in_M w h)) t_M ok_M nm_M hown hK hP hD hS 0 rfl rfl 19 (by decide) (hts (.fieldLink R_M 178 R_M "found" "I") (List.mem_cons_of_mem _ t_731)) (fun _ h9 => h9) rfl (by decide +kernel) rfl rfl (Nat.le_of_ble_eq_true rfl) d_M_exportByte_34 (fun H locs hP hD hS => ?_)
      have hP : va_P (dC, dI) vwCl (mw_ am cm (nI 0) mw mwr mfl mact on cut (nI rn) mlog mlive had mser mcur mrd mwt worn pg (nI 0) ix (-1)) H := hP
      have hD : va_D (xA 9 am s.heap.size) (mw_ am cm (nI 0) mw mwr mfl mact on cut (nI rn) mlog mlive had mser mcur mrd mwt worn pg (nI 0) ix (-1)) := hD
      refine lv_iconst (v := nI 1) hx hb d_M_exportByte_37 (by decide) ?_
      refine lv_istore hx hb d_M_exportByte_38 hl (by decide) rfl (fun ls hl => ?_)
      have hl : lv_has ls 6 [(4, .int (nI 1)), (0, .ref (am 0)), (1, .int fr), (2, .int to), (3, .int ix)] := hl
      have lp40 : ∀ (n : Nat) (tq : Nat) (pv : Int32) (fv : Int32) (H : Heap) (locs : List Loc) (ls : Array Slot), (nv mlog rn + 1 - tq) < n → (1 ≤ tq) → (tq ≤ nv mlog rn + 1) → lv_has ls 6 [(0, .ref (am 0)), (1, .int fr), (2, .int to), (4, .int (nI tq))] → va_P (dC, dI) vwCl (mw_ am cm (nI 0) mw mwr mfl mact on cut (nI rn) mlog mlive had mser mcur mrd mwt worn pg pv ix fv) H → va_D (xA 9 am s.heap.size) (mw_ am cm (nI 0) mw mwr mfl mact on cut (nI rn) mlog mlive had mser mcur mrd mwt worn pg pv ix fv) → va_S (xA 9 am s.heap.size) s.heap H locs → W P l e (headSpec w_M_exportByte ({ frames := 4, cells := 0, slots := 0, locals := 88 })).room s m (([.ref (am 0), .int fr, .int to, .int ix] : List Value).toArray) below meth c0 H locs 0 0 (MQ below (va_Qi (fun r (u : (Nat → Nat → Int32) × (Nat → Int32) × (Nat → Nat)) => True) (fun (u : (Nat → Nat → Int32) × (Nat → Int32) × (Nat → Nat)) (t : State) => xB (dC, dI) vwCl (mt cm) (xA 9 am s.heap.size) (mw_ am cm (u.2.1 0) mw mwr mfl mact on cut (nI rn) mlog mlive had mser mcur mrd mwt worn pg (u.2.1 1) (u.2.1 2) (u.2.1 3)) t) (xA 9 am s.heap.size)) (([.ref (am 0), .int fr, .int to, .int ix] : List Value).toArray) s 0 0 (xA 9 am s.heap.size)) (F0 m 40 ls []) := by
        intro n
        induction n with
        | zero => intro tq pv fv H locs ls hm; intros; omega
        | succ n ih40 =>
          intro tq pv fv H locs ls hm ht1 ht2 hl hP hD hS
          refine lv_iload hx hb d_M_exportByte_40 (lv_at hl 3 rfl) ?_
          refine lv_aload_n hx hb d_M_exportByte_42 rfl (lv_at hl 0 rfl) ?_
          refine vp_callSi (va_runV (C := R_M) (As := []) (rest := [.int (nI tq)]) ⟨hx, hb, hml, hown, hts⟩ (c_M_tickets l dC dI am cm (nI 0) mw mwr mfl mact on cut (nI rn) mlog mlive had mser mcur mrd mwt worn pg pv ix fv rn (by first | omega | rfl | assumption | decide)) (cwV 0 hts (g_V t_865 t_867 s_39 t_6 t_868) rfl rfl rfl (by decide +kernel) ⟨by decide, by decide⟩) (xR_v hP hK hN 0 rfl rfl) rfl rfl hl.1 rfl (lv_room (Nat.le_of_ble_eq_true rfl)) d_M_exportByte_43 ⟨Nat.le_refl _, Nat.le_refl _⟩).run (fun r43 q43 => ?_)
          have q43 := q43.symm
          subst q43
          have hnv43 := nv_le mlog rn
          refine lv_icmp_gt (tgt := 168) hx hb d_M_exportByte_46 (by decide) (fun c46 => ?_) (fun c46 => ?_)
          ·
            have c46 := cd_gt_t (by omega) (by omega) c46
            refine lv_aload_n hx hb d_M_exportByte_168 rfl (lv_at hl 0 rfl) ?_
            refine va_get (D := (dC, dI)) (ci := 5) (v := .int fv) (C := R_M) (T := F_M) (N := 20) hx hb hts (fun w h => List.mem_cons_of_mem _ (in_M w h)) hown hK hP 0 rfl rfl 19 (by decide) (hts (.fieldLink R_M 178 R_M "found" "I") (List.mem_cons_of_mem _ t_731)) (fun _ h9 => h9) rfl d_M_exportByte_169 ?_
            exact W.iret (v := fv) hx hb hr (fun t ht hW => ⟨⟨fv, (fun i => [].getD i (fun _ => 0), fun i => [nI 0, pv, ix, fv].getD i 0, fun i => [].getD i 0), rfl, by first | rfl | trivial | omega, ⟨by rw [ht]; exact hP, va_K.moved hW.alike hK, hD⟩⟩, hS.F ht⟩) hS.2.2 d_M_exportByte_172
          ·
            have c46 := cd_gt_f (by omega) (by omega) c46
            refine lv_iload hx hb d_M_exportByte_49 (lv_at hl 3 rfl) ?_
            refine lv_iload_n hx hb d_M_exportByte_51 rfl (lv_at hl 1 rfl) ?_
            refine lv_icmp_lt (tgt := 162) hx hb d_M_exportByte_52 (by decide) (fun c52 => ?_) (fun c52 => ?_)
            ·
              refine lv_iinc (k := 3) (v := nI (tq + 1)) hx hb d_M_exportByte_162 hl rfl (nI_1 _) (by decide) rfl (fun ls hl => ?_)
              have hl : lv_has ls 6 [(4, .int (nI (tq + 1))), (0, .ref (am 0)), (1, .int fr), (2, .int to)] := hl
              refine lv_goto (tgt := 40) hx hb d_M_exportByte_165 (by decide) ?_
              exact ih40 (tq + 1) pv fv H locs ls (by omega) (by omega) (by omega) (lv_sub hl [1, 2, 3, 0] rfl) hP hD hS
            ·
              refine lv_iload hx hb d_M_exportByte_55 (lv_at hl 3 rfl) ?_
              refine lv_iload_n hx hb d_M_exportByte_57 rfl (lv_at hl 2 rfl) ?_
              refine lv_icmp_le (tgt := 64) hx hb d_M_exportByte_58 (by decide) (fun c58 => ?_) (fun c58 => ?_)
              ·
                refine lv_aload_n hx hb d_M_exportByte_64 rfl (lv_at hl 0 rfl) ?_
                refine lv_iload hx hb d_M_exportByte_65 (lv_at hl 3 rfl) ?_
                refine vp_callSi (va_runV (C := R_M) (As := [.int (nI tq)]) (rest := []) ⟨hx, hb, hml, hown, hts⟩ (c_M_placeOf l dC dI am cm (nI 0) mw mwr mfl mact on cut (nI rn) mlog mlive had mser mcur mrd mwt worn pg pv ix fv rn (nI tq) (by first | omega | rfl | assumption | decide)) (cwV 1 hts (g_V t_881 t_883 s_42 t_6 t_884) rfl rfl rfl (by decide +kernel) ⟨by decide, by decide⟩) (xR_v hP hK hN 0 rfl rfl) rfl rfl hl.1 rfl (lv_room (Nat.le_of_ble_eq_true rfl)) d_M_exportByte_67 ⟨Nat.le_refl _, Nat.le_refl _⟩).run (fun r67 q67 => ?_)
                rcases q67 with ⟨p67, hp67, rfl⟩ | ⟨rfl, hno67⟩
                ·
                  refine lv_istore hx hb d_M_exportByte_70 hl (by decide) rfl (fun ls hl => ?_)
                  have hl : lv_has ls 6 [(5, .int (nI p67)), (0, .ref (am 0)), (1, .int fr), (2, .int to), (4, .int (nI tq))] := hl
                  refine lv_aload_n hx hb d_M_exportByte_72 rfl (lv_at hl 1 rfl) ?_
                  refine lv_iload hx hb d_M_exportByte_73 (lv_at hl 4 rfl) ?_
                  refine lv_i2l (v := (nI tq).toInt64) hx hb d_M_exportByte_75 rfl ?_
                  have hSz := hS.1
                  refine va_callv (va_runV (C := R_M) (As := [.long ((nI tq).toInt64)]) (rest := []) ⟨hx, hb, hml, hown, hts⟩ (c_M_sayNumber l dC dI am cm H.size (nI 0) mw mwr mfl mact on cut (nI rn) mlog mlive had mser mcur mrd mwt worn pg pv ix fv (nI tq) ) (cwV 1 hts (g_V t_939 t_941 s_49 t_6 t_942) rfl rfl rfl (by decide +kernel) ⟨by decide, by decide⟩) (xP_v hP hK hD hN 0 rfl rfl) rfl rfl hl.1 rfl (lv_room (Nat.le_of_ble_eq_true rfl)) d_M_exportByte_76 ⟨Nat.le_refl _, Nat.le_refl _⟩) hS (fun q _ h => xA_up hS.1 q h) (fun q h => xA_up hS.1 q h) (fun u76 t H1 locs1 ht hvm q76 hB hz1 hk1 hS => ?_)
                  obtain ⟨hP1, hK1, hD1⟩ := hB
                  rw [ht] at hP1
                  have hD : va_D (xA 9 am s.heap.size) (mw_ am cm (nI 0) mw mwr mfl mact on cut (nI rn) mlog mlive had mser mcur mrd mwt worn pg (u76.2.1 0) ix (u76.2.1 1)) := hD1.weaken (fun _ q _ h => xA_up hSz _ h)
                  have hP : va_P (dC, dI) vwCl (mw_ am cm (nI 0) mw mwr mfl mact on cut (nI rn) mlog mlive had mser mcur mrd mwt worn pg (u76.2.1 0) ix (u76.2.1 1)) H1 := hP1
                  generalize H1 = H at hP hS ⊢
                  generalize locs1 = locs at hS ⊢
                  refine lv_aload_n hx hb d_M_exportByte_79 rfl (lv_at hl 1 rfl) ?_
                  refine lv_bipush (v := nI 32) hx hb d_M_exportByte_80 (by decide) ?_
                  have hSz := hS.1
                  refine va_callv (va_runV (C := R_M) (As := [.int (nI 32)]) (rest := []) ⟨hx, hb, hml, hown, hts⟩ (c_M_say l dC dI am cm H.size (nI 0) mw mwr mfl mact on cut (nI rn) mlog mlive had mser mcur mrd mwt worn pg (u76.2.1 0) ix (u76.2.1 1) (nI 32) ) (cwV 1 hts (g_V t_943 t_945 s_50 t_6 t_946) rfl rfl rfl (by decide +kernel) ⟨by decide, by decide⟩) (xP_v hP hK hD hN 0 rfl rfl) rfl rfl hl.1 rfl (lv_room (Nat.le_of_ble_eq_true rfl)) d_M_exportByte_82 ⟨Nat.le_refl _, Nat.le_refl _⟩) hS (fun q _ h => xA_up hS.1 q h) (fun q h => xA_up hS.1 q h) (fun u82 t H1 locs1 ht hvm q82 hB hz1 hk1 hS => ?_)
                  obtain ⟨hP1, hK1, hD1⟩ := hB
                  rw [ht] at hP1
                  have hD : va_D (xA 9 am s.heap.size) (mw_ am cm (nI 0) mw mwr mfl mact on cut (nI rn) mlog mlive had mser mcur mrd mwt worn pg (u82.2.1 0) ix (u82.2.1 1)) := hD1.weaken (fun _ q _ h => xA_up hSz _ h)
                  have hP : va_P (dC, dI) vwCl (mw_ am cm (nI 0) mw mwr mfl mact on cut (nI rn) mlog mlive had mser mcur mrd mwt worn pg (u82.2.1 0) ix (u82.2.1 1)) H1 := hP1
                  generalize H1 = H at hP hS ⊢
                  generalize locs1 = locs at hS ⊢
                  have hk82 := q82
                  refine lv_aload_n hx hb d_M_exportByte_85 rfl (lv_at hl 1 rfl) ?_
                  refine lv_aload_n hx hb d_M_exportByte_86 rfl (lv_at hl 1 rfl) ?_
                  refine lv_iload hx hb d_M_exportByte_87 (lv_at hl 0 rfl) ?_
                  refine lv_iconst (v := nI 0) hx hb d_M_exportByte_89 (by decide) ?_
                  refine vp_callSi (va_runV (C := R_M) (As := [.int (nI p67), .int (nI 0)]) (rest := [.ref (am 0)]) ⟨hx, hb, hml, hown, hts⟩ (c_M_at l dC dI am cm (nI 0) mw mwr mfl mact on cut (nI rn) mlog mlive had mser mcur mrd mwt worn pg (u82.2.1 0) ix (u82.2.1 1) p67 0 (by first | omega | rfl | assumption | decide)) (cwV 2 hts (g_V t_873 t_875 s_41 t_6 t_876) rfl rfl rfl (by decide +kernel) ⟨by decide, by decide⟩) (xR_v hP hK hN 0 rfl rfl) rfl rfl hl.1 rfl (lv_room (Nat.le_of_ble_eq_true rfl)) d_M_exportByte_90 ⟨Nat.le_refl _, Nat.le_refl _⟩).run (fun r90 q90 => ?_)
                  have q90 := q90.symm
                  subst q90
                  refine lv_i2l (v := (mlog (4 * p67 + 0)).toInt64) hx hb d_M_exportByte_93 rfl ?_
                  have hSz := hS.1
                  refine va_callv (va_runV (C := R_M) (As := [.long ((mlog (4 * p67 + 0)).toInt64)]) (rest := []) ⟨hx, hb, hml, hown, hts⟩ (c_M_sayNumber l dC dI am cm H.size (nI 0) mw mwr mfl mact on cut (nI rn) mlog mlive had mser mcur mrd mwt worn pg (u82.2.1 0) ix (u82.2.1 1) (mlog (4 * p67 + 0)) ) (cwV 1 hts (g_V t_939 t_941 s_49 t_6 t_942) rfl rfl rfl (by decide +kernel) ⟨by decide, by decide⟩) (xP_v hP hK hD hN 0 rfl rfl) rfl rfl hl.1 rfl (lv_room (Nat.le_of_ble_eq_true rfl)) d_M_exportByte_94 ⟨Nat.le_refl _, Nat.le_refl _⟩) hS (fun q _ h => xA_up hS.1 q h) (fun q h => xA_up hS.1 q h) (fun u94 t H1 locs1 ht hvm q94 hB hz1 hk1 hS => ?_)
                  obtain ⟨hP1, hK1, hD1⟩ := hB
                  rw [ht] at hP1
                  have hD : va_D (xA 9 am s.heap.size) (mw_ am cm (nI 0) mw mwr mfl mact on cut (nI rn) mlog mlive had mser mcur mrd mwt worn pg (u94.2.1 0) ix (u94.2.1 1)) := hD1.weaken (fun _ q _ h => xA_up hSz _ h)
                  have hP : va_P (dC, dI) vwCl (mw_ am cm (nI 0) mw mwr mfl mact on cut (nI rn) mlog mlive had mser mcur mrd mwt worn pg (u94.2.1 0) ix (u94.2.1 1)) H1 := hP1
                  generalize H1 = H at hP hS ⊢
                  generalize locs1 = locs at hS ⊢
                  refine lv_aload_n hx hb d_M_exportByte_97 rfl (lv_at hl 1 rfl) ?_
                  refine lv_bipush (v := nI 32) hx hb d_M_exportByte_98 (by decide) ?_
                  have hSz := hS.1
                  refine va_callv (va_runV (C := R_M) (As := [.int (nI 32)]) (rest := []) ⟨hx, hb, hml, hown, hts⟩ (c_M_say l dC dI am cm H.size (nI 0) mw mwr mfl mact on cut (nI rn) mlog mlive had mser mcur mrd mwt worn pg (u94.2.1 0) ix (u94.2.1 1) (nI 32) ) (cwV 1 hts (g_V t_943 t_945 s_50 t_6 t_946) rfl rfl rfl (by decide +kernel) ⟨by decide, by decide⟩) (xP_v hP hK hD hN 0 rfl rfl) rfl rfl hl.1 rfl (lv_room (Nat.le_of_ble_eq_true rfl)) d_M_exportByte_100 ⟨Nat.le_refl _, Nat.le_refl _⟩) hS (fun q _ h => xA_up hS.1 q h) (fun q h => xA_up hS.1 q h) (fun u100 t H1 locs1 ht hvm q100 hB hz1 hk1 hS => ?_)
                  obtain ⟨hP1, hK1, hD1⟩ := hB
                  rw [ht] at hP1
                  have hD : va_D (xA 9 am s.heap.size) (mw_ am cm (nI 0) mw mwr mfl mact on cut (nI rn) mlog mlive had mser mcur mrd mwt worn pg (u100.2.1 0) ix (u100.2.1 1)) := hD1.weaken (fun _ q _ h => xA_up hSz _ h)
                  have hP : va_P (dC, dI) vwCl (mw_ am cm (nI 0) mw mwr mfl mact on cut (nI rn) mlog mlive had mser mcur mrd mwt worn pg (u100.2.1 0) ix (u100.2.1 1)) H1 := hP1
                  generalize H1 = H at hP hS ⊢
                  generalize locs1 = locs at hS ⊢
                  have hk100 := q100
                  refine lv_aload_n hx hb d_M_exportByte_103 rfl (lv_at hl 1 rfl) ?_
                  refine lv_aload_n hx hb d_M_exportByte_104 rfl (lv_at hl 1 rfl) ?_
                  refine lv_iload hx hb d_M_exportByte_105 (lv_at hl 0 rfl) ?_
                  refine vp_callSi (va_runV (C := R_M) (As := [.int (nI p67)]) (rest := [.ref (am 0)]) ⟨hx, hb, hml, hown, hts⟩ (c_M_net l dC dI am cm (nI 0) mw mwr mfl mact on cut (nI rn) mlog mlive had mser mcur mrd mwt worn pg (u100.2.1 0) ix (u100.2.1 1) p67 (by first | omega | rfl | assumption | decide)) (cwV 1 hts (g_V t_907 t_909 s_45 t_6 t_910) rfl rfl rfl (by decide +kernel) ⟨by decide, by decide⟩) (xR_v hP hK hN 0 rfl rfl) rfl rfl hl.1 rfl (lv_room (Nat.le_of_ble_eq_true rfl)) d_M_exportByte_107 ⟨Nat.le_refl _, Nat.le_refl _⟩).run (fun r107 q107 => ?_)
                  have hk107 := q107
                  refine lv_i2l (v := r107.toInt64) hx hb d_M_exportByte_110 rfl ?_
                  have hSz := hS.1
                  refine va_callv (va_runV (C := R_M) (As := [.long r107.toInt64]) (rest := []) ⟨hx, hb, hml, hown, hts⟩ (c_M_sayNumber l dC dI am cm H.size (nI 0) mw mwr mfl mact on cut (nI rn) mlog mlive had mser mcur mrd mwt worn pg (u100.2.1 0) ix (u100.2.1 1) r107 ) (cwV 1 hts (g_V t_939 t_941 s_49 t_6 t_942) rfl rfl rfl (by decide +kernel) ⟨by decide, by decide⟩) (xP_v hP hK hD hN 0 rfl rfl) rfl rfl hl.1 rfl (lv_room (Nat.le_of_ble_eq_true rfl)) d_M_exportByte_111 ⟨Nat.le_refl _, Nat.le_refl _⟩) hS (fun q _ h => xA_up hS.1 q h) (fun q h => xA_up hS.1 q h) (fun u111 t H1 locs1 ht hvm q111 hB hz1 hk1 hS => ?_)
                  obtain ⟨hP1, hK1, hD1⟩ := hB
                  rw [ht] at hP1
                  have hD : va_D (xA 9 am s.heap.size) (mw_ am cm (nI 0) mw mwr mfl mact on cut (nI rn) mlog mlive had mser mcur mrd mwt worn pg (u111.2.1 0) ix (u111.2.1 1)) := hD1.weaken (fun _ q _ h => xA_up hSz _ h)
                  have hP : va_P (dC, dI) vwCl (mw_ am cm (nI 0) mw mwr mfl mact on cut (nI rn) mlog mlive had mser mcur mrd mwt worn pg (u111.2.1 0) ix (u111.2.1 1)) H1 := hP1
                  generalize H1 = H at hP hS ⊢
                  generalize locs1 = locs at hS ⊢
                  refine lv_aload_n hx hb d_M_exportByte_114 rfl (lv_at hl 1 rfl) ?_
                  refine lv_bipush (v := nI 32) hx hb d_M_exportByte_115 (by decide) ?_
                  have hSz := hS.1
                  refine va_callv (va_runV (C := R_M) (As := [.int (nI 32)]) (rest := []) ⟨hx, hb, hml, hown, hts⟩ (c_M_say l dC dI am cm H.size (nI 0) mw mwr mfl mact on cut (nI rn) mlog mlive had mser mcur mrd mwt worn pg (u111.2.1 0) ix (u111.2.1 1) (nI 32) ) (cwV 1 hts (g_V t_943 t_945 s_50 t_6 t_946) rfl rfl rfl (by decide +kernel) ⟨by decide, by decide⟩) (xP_v hP hK hD hN 0 rfl rfl) rfl rfl hl.1 rfl (lv_room (Nat.le_of_ble_eq_true rfl)) d_M_exportByte_117 ⟨Nat.le_refl _, Nat.le_refl _⟩) hS (fun q _ h => xA_up hS.1 q h) (fun q h => xA_up hS.1 q h) (fun u117 t H1 locs1 ht hvm q117 hB hz1 hk1 hS => ?_)
                  obtain ⟨hP1, hK1, hD1⟩ := hB
                  rw [ht] at hP1
                  have hD : va_D (xA 9 am s.heap.size) (mw_ am cm (nI 0) mw mwr mfl mact on cut (nI rn) mlog mlive had mser mcur mrd mwt worn pg (u117.2.1 0) ix (u117.2.1 1)) := hD1.weaken (fun _ q _ h => xA_up hSz _ h)
                  have hP : va_P (dC, dI) vwCl (mw_ am cm (nI 0) mw mwr mfl mact on cut (nI rn) mlog mlive had mser mcur mrd mwt worn pg (u117.2.1 0) ix (u117.2.1 1)) H1 := hP1
                  generalize H1 = H at hP hS ⊢
                  generalize locs1 = locs at hS ⊢
                  have hk117 := q117
                  refine lv_aload_n hx hb d_M_exportByte_120 rfl (lv_at hl 1 rfl) ?_
                  refine lv_aload_n hx hb d_M_exportByte_121 rfl (lv_at hl 1 rfl) ?_
                  refine lv_iload hx hb d_M_exportByte_122 (lv_at hl 0 rfl) ?_
                  refine lv_iconst (v := nI 2) hx hb d_M_exportByte_124 (by decide) ?_
                  refine vp_callSi (va_runV (C := R_M) (As := [.int (nI p67), .int (nI 2)]) (rest := [.ref (am 0)]) ⟨hx, hb, hml, hown, hts⟩ (c_M_at l dC dI am cm (nI 0) mw mwr mfl mact on cut (nI rn) mlog mlive had mser mcur mrd mwt worn pg (u117.2.1 0) ix (u117.2.1 1) p67 2 (by first | omega | rfl | assumption | decide)) (cwV 2 hts (g_V t_873 t_875 s_41 t_6 t_876) rfl rfl rfl (by decide +kernel) ⟨by decide, by decide⟩) (xR_v hP hK hN 0 rfl rfl) rfl rfl hl.1 rfl (lv_room (Nat.le_of_ble_eq_true rfl)) d_M_exportByte_125 ⟨Nat.le_refl _, Nat.le_refl _⟩).run (fun r125 q125 => ?_)
                  have q125 := q125.symm
                  subst q125
                  refine lv_bipush (v := nI 26) hx hb d_M_exportByte_128 (by decide) ?_
                  refine lv_iushr hx hb d_M_exportByte_130 rfl ?_
                  refine lv_i2l (v := (((mlog (4 * p67 + 2)).toUInt32 >>> (Int32.toUInt32 (nI 26) &&& Int32.toUInt32 31)).toInt32).toInt64) hx hb d_M_exportByte_131 rfl ?_
                  have hSz := hS.1
                  refine va_callv (va_runV (C := R_M) (As := [.long ((((mlog (4 * p67 + 2)).toUInt32 >>> (Int32.toUInt32 (nI 26) &&& Int32.toUInt32 31)).toInt32).toInt64)]) (rest := []) ⟨hx, hb, hml, hown, hts⟩ (c_M_sayNumber l dC dI am cm H.size (nI 0) mw mwr mfl mact on cut (nI rn) mlog mlive had mser mcur mrd mwt worn pg (u117.2.1 0) ix (u117.2.1 1) (((mlog (4 * p67 + 2)).toUInt32 >>> (Int32.toUInt32 (nI 26) &&& Int32.toUInt32 31)).toInt32) ) (cwV 1 hts (g_V t_939 t_941 s_49 t_6 t_942) rfl rfl rfl (by decide +kernel) ⟨by decide, by decide⟩) (xP_v hP hK hD hN 0 rfl rfl) rfl rfl hl.1 rfl (lv_room (Nat.le_of_ble_eq_true rfl)) d_M_exportByte_132 ⟨Nat.le_refl _, Nat.le_refl _⟩) hS (fun q _ h => xA_up hS.1 q h) (fun q h => xA_up hS.1 q h) (fun u132 t H1 locs1 ht hvm q132 hB hz1 hk1 hS => ?_)
                  obtain ⟨hP1, hK1, hD1⟩ := hB
                  rw [ht] at hP1
                  have hD : va_D (xA 9 am s.heap.size) (mw_ am cm (nI 0) mw mwr mfl mact on cut (nI rn) mlog mlive had mser mcur mrd mwt worn pg (u132.2.1 0) ix (u132.2.1 1)) := hD1.weaken (fun _ q _ h => xA_up hSz _ h)
                  have hP : va_P (dC, dI) vwCl (mw_ am cm (nI 0) mw mwr mfl mact on cut (nI rn) mlog mlive had mser mcur mrd mwt worn pg (u132.2.1 0) ix (u132.2.1 1)) H1 := hP1
                  generalize H1 = H at hP hS ⊢
                  generalize locs1 = locs at hS ⊢
                  refine lv_aload_n hx hb d_M_exportByte_135 rfl (lv_at hl 1 rfl) ?_
                  refine lv_iload hx hb d_M_exportByte_136 (lv_at hl 4 rfl) ?_
                  refine vp_callSi (va_runV (C := R_M) (As := [.int (nI tq)]) (rest := []) ⟨hx, hb, hml, hown, hts⟩ (c_M_voided l dC dI am cm (nI 0) mw mwr mfl mact on cut (nI rn) mlog mlive had mser mcur mrd mwt worn pg (u132.2.1 0) ix (u132.2.1 1) rn (nI tq) (by first | omega | rfl | assumption | decide)) (cwV 1 hts (g_V t_885 t_887 s_43 t_6 t_888) rfl rfl rfl (by decide +kernel) ⟨by decide, by decide⟩) (xR_v hP hK hN 0 rfl rfl) rfl rfl hl.1 rfl (lv_room (Nat.le_of_ble_eq_true rfl)) d_M_exportByte_138 ⟨Nat.le_refl _, Nat.le_refl _⟩).run (fun r138 q138 => ?_)
                  have hk138 := q138
                  refine lv_if_le (tgt := 156) hx hb d_M_exportByte_141 (by decide) (fun c141 => ?_) (fun c141 => ?_)
                  ·
                    refine lv_aload_n hx hb d_M_exportByte_156 rfl (lv_at hl 1 rfl) ?_
                    refine lv_bipush (v := nI 10) hx hb d_M_exportByte_157 (by decide) ?_
                    have hSz := hS.1
                    refine va_callv (va_runV (C := R_M) (As := [.int (nI 10)]) (rest := []) ⟨hx, hb, hml, hown, hts⟩ (c_M_say l dC dI am cm H.size (nI 0) mw mwr mfl mact on cut (nI rn) mlog mlive had mser mcur mrd mwt worn pg (u132.2.1 0) ix (u132.2.1 1) (nI 10) ) (cwV 1 hts (g_V t_943 t_945 s_50 t_6 t_946) rfl rfl rfl (by decide +kernel) ⟨by decide, by decide⟩) (xP_v hP hK hD hN 0 rfl rfl) rfl rfl hl.1 rfl (lv_room (Nat.le_of_ble_eq_true rfl)) d_M_exportByte_159 ⟨Nat.le_refl _, Nat.le_refl _⟩) hS (fun q _ h => xA_up hS.1 q h) (fun q h => xA_up hS.1 q h) (fun u159 t H1 locs1 ht hvm q159 hB hz1 hk1 hS => ?_)
                    obtain ⟨hP1, hK1, hD1⟩ := hB
                    rw [ht] at hP1
                    have hD : va_D (xA 9 am s.heap.size) (mw_ am cm (nI 0) mw mwr mfl mact on cut (nI rn) mlog mlive had mser mcur mrd mwt worn pg (u159.2.1 0) ix (u159.2.1 1)) := hD1.weaken (fun _ q _ h => xA_up hSz _ h)
                    have hP : va_P (dC, dI) vwCl (mw_ am cm (nI 0) mw mwr mfl mact on cut (nI rn) mlog mlive had mser mcur mrd mwt worn pg (u159.2.1 0) ix (u159.2.1 1)) H1 := hP1
                    generalize H1 = H at hP hS ⊢
                    generalize locs1 = locs at hS ⊢
                    have hk159 := q159
                    refine lv_iinc (k := 4) (v := nI (tq + 1)) hx hb d_M_exportByte_162 hl rfl (nI_1 _) (by decide) rfl (fun ls hl => ?_)
                    have hl : lv_has ls 6 [(4, .int (nI (tq + 1))), (5, .int (nI p67)), (0, .ref (am 0)), (1, .int fr), (2, .int to)] := hl
                    refine lv_goto (tgt := 40) hx hb d_M_exportByte_165 (by decide) ?_
                    exact ih40 (tq + 1) (u159.2.1 0) (u159.2.1 1) H locs ls (by omega) (by omega) (by omega) (lv_sub hl [2, 3, 4, 0] rfl) hP hD hS
                  ·
                    refine lv_aload_n hx hb d_M_exportByte_144 rfl (lv_at hl 1 rfl) ?_
                    refine lv_bipush (v := nI 32) hx hb d_M_exportByte_145 (by decide) ?_
                    have hSz := hS.1
                    refine va_callv (va_runV (C := R_M) (As := [.int (nI 32)]) (rest := []) ⟨hx, hb, hml, hown, hts⟩ (c_M_say l dC dI am cm H.size (nI 0) mw mwr mfl mact on cut (nI rn) mlog mlive had mser mcur mrd mwt worn pg (u132.2.1 0) ix (u132.2.1 1) (nI 32) ) (cwV 1 hts (g_V t_943 t_945 s_50 t_6 t_946) rfl rfl rfl (by decide +kernel) ⟨by decide, by decide⟩) (xP_v hP hK hD hN 0 rfl rfl) rfl rfl hl.1 rfl (lv_room (Nat.le_of_ble_eq_true rfl)) d_M_exportByte_147 ⟨Nat.le_refl _, Nat.le_refl _⟩) hS (fun q _ h => xA_up hS.1 q h) (fun q h => xA_up hS.1 q h) (fun u147 t H1 locs1 ht hvm q147 hB hz1 hk1 hS => ?_)
                    obtain ⟨hP1, hK1, hD1⟩ := hB
                    rw [ht] at hP1
                    have hD : va_D (xA 9 am s.heap.size) (mw_ am cm (nI 0) mw mwr mfl mact on cut (nI rn) mlog mlive had mser mcur mrd mwt worn pg (u147.2.1 0) ix (u147.2.1 1)) := hD1.weaken (fun _ q _ h => xA_up hSz _ h)
                    have hP : va_P (dC, dI) vwCl (mw_ am cm (nI 0) mw mwr mfl mact on cut (nI rn) mlog mlive had mser mcur mrd mwt worn pg (u147.2.1 0) ix (u147.2.1 1)) H1 := hP1
                    generalize H1 = H at hP hS ⊢
                    generalize locs1 = locs at hS ⊢
                    have hk147 := q147
                    refine lv_aload_n hx hb d_M_exportByte_150 rfl (lv_at hl 1 rfl) ?_
                    refine lv_bipush (v := nI 86) hx hb d_M_exportByte_151 (by decide) ?_
                    have hSz := hS.1
                    refine va_callv (va_runV (C := R_M) (As := [.int (nI 86)]) (rest := []) ⟨hx, hb, hml, hown, hts⟩ (c_M_say l dC dI am cm H.size (nI 0) mw mwr mfl mact on cut (nI rn) mlog mlive had mser mcur mrd mwt worn pg (u147.2.1 0) ix (u147.2.1 1) (nI 86) ) (cwV 1 hts (g_V t_943 t_945 s_50 t_6 t_946) rfl rfl rfl (by decide +kernel) ⟨by decide, by decide⟩) (xP_v hP hK hD hN 0 rfl rfl) rfl rfl hl.1 rfl (lv_room (Nat.le_of_ble_eq_true rfl)) d_M_exportByte_153 ⟨Nat.le_refl _, Nat.le_refl _⟩) hS (fun q _ h => xA_up hS.1 q h) (fun q h => xA_up hS.1 q h) (fun u153 t H1 locs1 ht hvm q153 hB hz1 hk1 hS => ?_)
                    obtain ⟨hP1, hK1, hD1⟩ := hB
                    rw [ht] at hP1
                    have hD : va_D (xA 9 am s.heap.size) (mw_ am cm (nI 0) mw mwr mfl mact on cut (nI rn) mlog mlive had mser mcur mrd mwt worn pg (u153.2.1 0) ix (u153.2.1 1)) := hD1.weaken (fun _ q _ h => xA_up hSz _ h)
                    have hP : va_P (dC, dI) vwCl (mw_ am cm (nI 0) mw mwr mfl mact on cut (nI rn) mlog mlive had mser mcur mrd mwt worn pg (u153.2.1 0) ix (u153.2.1 1)) H1 := hP1
                    generalize H1 = H at hP hS ⊢
                    generalize locs1 = locs at hS ⊢
                    have hk153 := q153
                    refine lv_aload_n hx hb d_M_exportByte_156 rfl (lv_at hl 1 rfl) ?_
                    refine lv_bipush (v := nI 10) hx hb d_M_exportByte_157 (by decide) ?_
                    have hSz := hS.1
                    refine va_callv (va_runV (C := R_M) (As := [.int (nI 10)]) (rest := []) ⟨hx, hb, hml, hown, hts⟩ (c_M_say l dC dI am cm H.size (nI 0) mw mwr mfl mact on cut (nI rn) mlog mlive had mser mcur mrd mwt worn pg (u153.2.1 0) ix (u153.2.1 1) (nI 10) ) (cwV 1 hts (g_V t_943 t_945 s_50 t_6 t_946) rfl rfl rfl (by decide +kernel) ⟨by decide, by decide⟩) (xP_v hP hK hD hN 0 rfl rfl) rfl rfl hl.1 rfl (lv_room (Nat.le_of_ble_eq_true rfl)) d_M_exportByte_159 ⟨Nat.le_refl _, Nat.le_refl _⟩) hS (fun q _ h => xA_up hS.1 q h) (fun q h => xA_up hS.1 q h) (fun u159 t H1 locs1 ht hvm q159 hB hz1 hk1 hS => ?_)
                    obtain ⟨hP1, hK1, hD1⟩ := hB
                    rw [ht] at hP1
                    have hD : va_D (xA 9 am s.heap.size) (mw_ am cm (nI 0) mw mwr mfl mact on cut (nI rn) mlog mlive had mser mcur mrd mwt worn pg (u159.2.1 0) ix (u159.2.1 1)) := hD1.weaken (fun _ q _ h => xA_up hSz _ h)
                    have hP : va_P (dC, dI) vwCl (mw_ am cm (nI 0) mw mwr mfl mact on cut (nI rn) mlog mlive had mser mcur mrd mwt worn pg (u159.2.1 0) ix (u159.2.1 1)) H1 := hP1
                    generalize H1 = H at hP hS ⊢
                    generalize locs1 = locs at hS ⊢
                    have hk159 := q159
                    refine lv_iinc (k := 4) (v := nI (tq + 1)) hx hb d_M_exportByte_162 hl rfl (nI_1 _) (by decide) rfl (fun ls hl => ?_)
                    have hl : lv_has ls 6 [(4, .int (nI (tq + 1))), (5, .int (nI p67)), (0, .ref (am 0)), (1, .int fr), (2, .int to)] := hl
                    refine lv_goto (tgt := 40) hx hb d_M_exportByte_165 (by decide) ?_
                    exact ih40 (tq + 1) (u159.2.1 0) (u159.2.1 1) H locs ls (by omega) (by omega) (by omega) (lv_sub hl [2, 3, 4, 0] rfl) hP hD hS
                ·
                  exact absurd rfl (hno67 tq (by omega) (by omega))
              ·
                refine lv_goto (tgt := 162) hx hb d_M_exportByte_61 (by decide) ?_
                refine lv_iinc (k := 3) (v := nI (tq + 1)) hx hb d_M_exportByte_162 hl rfl (nI_1 _) (by decide) rfl (fun ls hl => ?_)
                have hl : lv_has ls 6 [(4, .int (nI (tq + 1))), (0, .ref (am 0)), (1, .int fr), (2, .int to)] := hl
                refine lv_goto (tgt := 40) hx hb d_M_exportByte_165 (by decide) ?_
                exact ih40 (tq + 1) pv fv H locs ls (by omega) (by omega) (by omega) (lv_sub hl [1, 2, 3, 0] rfl) hP hD hS
      exact lp40 _ 1 (nI 0) (-1) H locs ls (Nat.lt_succ_self _) (by omega) (by omega) (lv_sub hl [1, 2, 3, 0] rfl) hP hD hS
    ·
      exact absurd c17 (by decide)
  ·
    refine lv_iconst (v := nI 1) hx hb d_M_exportByte_9 (by decide) ?_
    refine lv_goto (tgt := 14) hx hb d_M_exportByte_10 (by decide) ?_
    have hSz := hS.1
    refine va_calli (va_runV (C := R_M) (As := [.int (nI 1), .int (nI 1)]) (rest := []) ⟨hx, hb, hml, hown, hts⟩ (c_M_fails_1 l dC dI am cm s.heap.size th mw mwr mfl mact on cut (nI rn) mlog mlive had mser mcur mrd mwt worn pg pla sou fou (nI 1) ) (cwV 2 hts (g_V t_784 t_786 s_22 t_6 t_787) rfl rfl rfl (by decide +kernel) ⟨by decide, by decide⟩) (xP_v hP hK hD hN 0 rfl rfl) rfl rfl hl.1 rfl (lv_room (Nat.le_of_ble_eq_true rfl)) d_M_exportByte_14 ⟨Nat.le_refl _, Nat.le_refl _⟩) hS (fun q _ h => xA_up hS.1 q h) (fun q h => xA_up hS.1 q h) (fun r14 u14 t H1 locs1 ht hvm q14 hB hz1 hk1 hS => ?_)
    obtain ⟨hP1, hK1, hD1⟩ := hB
    rw [ht] at hP1
    have hD : va_D (xA 9 am s.heap.size) (mw_ am cm (nI 1) mw mwr mfl mact on cut (nI rn) mlog mlive had mser mcur mrd mwt worn pg pla sou fou) := hD1.weaken (fun _ q _ h => xA_up hSz _ h)
    have hP : va_P (dC, dI) vwCl (mw_ am cm (nI 1) mw mwr mfl mact on cut (nI rn) mlog mlive had mser mcur mrd mwt worn pg pla sou fou) H1 := hP1
    generalize H1 = H at hP hS ⊢
    generalize locs1 = locs at hS ⊢
    have q14 := q14.symm
    subst q14
    refine lv_if_eq (tgt := 22) hx hb d_M_exportByte_17 (by decide) (fun c17 => ?_) (fun c17 => ?_)
    ·
      exact absurd c17 (by decide)
    ·
      refine lv_iconst (v := nI 0) hx hb d_M_exportByte_20 (by decide) ?_
      exact W.iret (v := nI 0) hx hb hr (fun t ht hW => ⟨⟨nI 0, (fun i => [].getD i (fun _ => 0), fun i => [nI 1, pla, sou, fou].getD i 0, fun i => [].getD i 0), rfl, by first | rfl | trivial | omega, ⟨by rw [ht]; exact hP, va_K.moved hW.alike hK, hD⟩⟩, hS.F ht⟩) hS.2.2 d_M_exportByte_21
