set_option maxHeartbeats 4000000 in
set_option maxRecDepth 100000 in
theorem c_M_erase (l : Launch) (dC : Nat → ClassId) (dI : Nat → Nat → Nat) (am cm : Nat → Nat) (sz : Nat) (th : Int32) (mw mwr mfl mact : Nat → Int32) (on cut mrec : Int32) (mlog mlive had : Nat → Int32) (mser mcur mrd mwt worn : Int32) (pg : Nat → Int32) (pla sou fou : Int32) (rn : Nat) (b : Nat) (hp : b < 8) : Met l y_M_erase w_M_erase ({ frames := 3, cells := 0, slots := 0, locals := 61 }) (xP (dC, dI) vwCl (mt cm) (mw_ am cm th mw mwr mfl mact on cut (nI rn) mlog mlive had mser mcur mrd mwt worn pg pla sou fou) sz [.ref (am 0), .int (nI b)]) (va_Qi (fun r (u : (Nat → Nat → Int32) × (Nat → Int32) × (Nat → Nat)) => (r = nI 1 ∧ (u.2.2 0) = rn ∧ (u.1 0) = mlive ∧ (u.2.1 1) = mcur ∧ (∀ i, (i < 64 * b ∨ 64 * b + 64 ≤ i) → (u.1 1) i = mw i) ∧ ∀ i, 64 * b ≤ i → i < 64 * b + 64 → (u.1 1) i = -1) ∨ (r = nI 0 ∧ MI (u.2.2 0) (u.1 0) (u.2.1 1))) (fun (u : (Nat → Nat → Int32) × (Nat → Int32) × (Nat → Nat)) (t : State) => xB (dC, dI) vwCl (mt cm) (xA 9 am sz) (mw_ am cm th (u.1 1) (u.1 2) mfl mact (u.2.1 6) (u.2.1 5) (nI (u.2.2 0)) mlog (u.1 0) had (u.2.1 0) (u.2.1 1) (u.2.1 2) (u.2.1 3) (u.2.1 4) pg pla sou fou) t) (xA 9 am sz)) 0 0 (xA 9 am sz) := by
  refine Met.ofW (cc := b_M_erase) (maxL := 3) (ret := (some (.boolean))) (by decide) rfl ?_
  intro P e s m args below meth c0 s₁ B hml hv
  obtain ⟨rfl, hsz, hP, hK, hD0, hN⟩ := hv
  have hx := B.exec
  have hb := B.bytes
  have hr := B.returns
  have hts := atoms_spec (ws := w_M_erase) B.pre
  have hown : s.vm.findClass R_M = some m.cls := findClass_of_methodNamed B.named
  have hlocks := B.notSynchronized
  subst hsz
  have hD := mw_D (sz := s.heap.size) hD0
  have hS : va_S (xA 9 am s.heap.size) s.heap s.heap [] := va_S.rf
  have hA : ∀ q : Nat, s.heap.size ≤ q → (xA 9 am s.heap.size) q := fun q h => Or.inr h
  have hl := lv_entry ([.ref (am 0), .int (nI b)]) (n := 3) (Nat.le_of_ble_eq_true rfl)
  rw [lg_entry_eq]
  generalize (lg_sl ([.ref (am 0), .int (nI b)]) ++ List.replicate (3 - (lg_sl ([.ref (am 0), .int (nI b)])).length) Slot.unset).toArray = ls at hl ⊢
  have hl : lv_has ls 3 [(0, .ref (am 0)), (1, .int (nI b))] := hl
  refine lv_aload_n hx hb d_M_erase_0 rfl (lv_at hl 0 rfl) ?_
  have hSz := hS.1
  refine va_calli (va_runV (C := R_M) (As := []) (rest := []) ⟨hx, hb, hml, hown, hts⟩ (c_M_step l dC dI am cm s.heap.size th mw mwr mfl mact on cut (nI rn) mlog mlive had mser mcur mrd mwt worn pg pla sou fou rn ) (cwV 0 hts (g_V t_849 t_851 s_35 t_6 t_852) rfl rfl rfl (by decide +kernel) ⟨by decide, by decide⟩) (xP_v hP hK hD hN 0 rfl rfl) rfl rfl hl.1 rfl (lv_room (Nat.le_of_ble_eq_true rfl)) d_M_erase_1 ⟨Nat.le_refl _, Nat.le_refl _⟩) hS (fun q _ h => xA_up hS.1 q h) (fun q h => xA_up hS.1 q h) (fun r1 u1 t H1 locs1 ht hvm q1 hB hz1 hk1 hS => ?_)
  obtain ⟨hP1, hK1, hD1⟩ := hB
  rw [ht] at hP1
  have hD : va_D (xA 9 am s.heap.size) (mw_ am cm th mw mwr mfl mact (u1.2.1 6) (u1.2.1 5) (nI (u1.2.2 0)) mlog (u1.1 0) had (u1.2.1 0) (u1.2.1 1) (u1.2.1 2) (u1.2.1 3) (u1.2.1 4) pg pla sou fou) := hD1.weaken (fun _ q _ h => xA_up hSz _ h)
  have hP : va_P (dC, dI) vwCl (mw_ am cm th mw mwr mfl mact (u1.2.1 6) (u1.2.1 5) (nI (u1.2.2 0)) mlog (u1.1 0) had (u1.2.1 0) (u1.2.1 1) (u1.2.1 2) (u1.2.1 3) (u1.2.1 4) pg pla sou fou) H1 := hP1
  generalize H1 = H at hP hS ⊢
  generalize locs1 = locs at hS ⊢
  rcases q1 with ⟨rfl, er1, el1, ec1⟩ | ⟨rfl, hmi⟩
  ·
    refine lv_if_ne (tgt := 9) hx hb d_M_erase_4 (by decide) (fun c4 => ?_) (fun c4 => ?_)
    ·
      refine lv_iconst (v := nI 0) hx hb d_M_erase_9 (by decide) ?_
      refine lv_istore_n hx hb d_M_erase_10 rfl hl (by decide) rfl (fun ls hl => ?_)
      have hl : lv_has ls 3 [(2, .int (nI 0)), (0, .ref (am 0)), (1, .int (nI b))] := hl
      have lp11 : ∀ (n : Nat) (k : Nat) (wv : Nat → Int32) (H : Heap) (locs : List Loc) (ls : Array Slot), (64 - k) < n → (k ≤ 64) → (∀ i, (i < 64 * b ∨ 64 * b + 64 ≤ i) → wv i = mw i) → (∀ i, 64 * b ≤ i → i < 64 * b + k → wv i = -1) → lv_has ls 3 [(0, .ref (am 0)), (1, .int (nI b)), (2, .int (nI k))] → va_P (dC, dI) vwCl (mw_ am cm th wv mwr mfl mact (u1.2.1 6) (u1.2.1 5) (nI (u1.2.2 0)) mlog (u1.1 0) had (u1.2.1 0) (u1.2.1 1) (u1.2.1 2) (u1.2.1 3) (u1.2.1 4) pg pla sou fou) H → va_D (xA 9 am s.heap.size) (mw_ am cm th wv mwr mfl mact (u1.2.1 6) (u1.2.1 5) (nI (u1.2.2 0)) mlog (u1.1 0) had (u1.2.1 0) (u1.2.1 1) (u1.2.1 2) (u1.2.1 3) (u1.2.1 4) pg pla sou fou) → va_S (xA 9 am s.heap.size) s.heap H locs → W P l e (headSpec w_M_erase ({ frames := 3, cells := 0, slots := 0, locals := 61 })).room s m (([.ref (am 0), .int (nI b)] : List Value).toArray) below meth c0 H locs 0 0 (MQ below (va_Qi (fun r (u : (Nat → Nat → Int32) × (Nat → Int32) × (Nat → Nat)) => (r = nI 1 ∧ (u.2.2 0) = rn ∧ (u.1 0) = mlive ∧ (u.2.1 1) = mcur ∧ (∀ i, (i < 64 * b ∨ 64 * b + 64 ≤ i) → (u.1 1) i = mw i) ∧ ∀ i, 64 * b ≤ i → i < 64 * b + 64 → (u.1 1) i = -1) ∨ (r = nI 0 ∧ MI (u.2.2 0) (u.1 0) (u.2.1 1))) (fun (u : (Nat → Nat → Int32) × (Nat → Int32) × (Nat → Nat)) (t : State) => xB (dC, dI) vwCl (mt cm) (xA 9 am s.heap.size) (mw_ am cm th (u.1 1) (u.1 2) mfl mact (u.2.1 6) (u.2.1 5) (nI (u.2.2 0)) mlog (u.1 0) had (u.2.1 0) (u.2.1 1) (u.2.1 2) (u.2.1 3) (u.2.1 4) pg pla sou fou) t) (xA 9 am s.heap.size)) (([.ref (am 0), .int (nI b)] : List Value).toArray) s 0 0 (xA 9 am s.heap.size)) (F0 m 11 ls []) := by
        intro n
        induction n with
        | zero => intro k wv H locs ls hm; intros; omega
        | succ n ih11 =>
          intro k wv H locs ls hm hk ho hi hl hP hD hS
          refine lv_iload_n hx hb d_M_erase_11 rfl (lv_at hl 2 rfl) ?_
          refine lv_bipush (v := nI 64) hx hb d_M_erase_12 (by decide) ?_
          refine lv_icmp_ge (tgt := 35) hx hb d_M_erase_14 (by decide) (fun c14 => ?_) (fun c14 => ?_)
          ·
            have c14 := cd_ge_t (by omega) (by omega) c14
            refine lv_aload_n hx hb d_M_erase_35 rfl (lv_at hl 0 rfl) ?_
            refine va_get (D := (dC, dI)) (ci := 5) (v := .ref (am 2)) (C := R_M) (T := F_M) (N := 20) hx hb hts (fun w h => List.mem_cons_of_mem _ (in_M w h)) hown hK hP 0 rfl rfl 2 (by decide) (hts (.fieldLink R_M 13 R_M "wear" "[I") (List.mem_cons_of_mem _ t_714)) (fun _ h9 => h9) rfl d_M_erase_36 ?_
            refine lv_iload_n hx hb d_M_erase_39 rfl (lv_at hl 1 rfl) ?_
            refine lv_dup2_11 hx hb d_M_erase_40 rfl rfl ?_
            refine va_iald hx hb hK hP 2 1 rfl rfl (vp_in_nI (by omega) (by decide)) d_M_erase_41 ?_
            refine tp_i (y := mwr b) (by rw [nI_clamp (by omega)]) ?_
            refine lv_iconst (v := nI 1) hx hb d_M_erase_42 (by decide) ?_
            refine lv_iadd hx hb d_M_erase_43 ?_
            refine va_iast hx hb hK hP hD hS 2 1 rfl rfl (vp_in_nI (by omega) (by decide)) d_M_erase_44 (fun H locs hP hD hS => ?_)
            rw [nI_clamp (by omega)] at hP hD
            have hP : va_P (dC, dI) vwCl (mw_ am cm th wv (upd mwr b ((mwr b) + (nI 1))) mfl mact (u1.2.1 6) (u1.2.1 5) (nI (u1.2.2 0)) mlog (u1.1 0) had (u1.2.1 0) (u1.2.1 1) (u1.2.1 2) (u1.2.1 3) (u1.2.1 4) pg pla sou fou) H := hP
            have hD : va_D (xA 9 am s.heap.size) (mw_ am cm th wv (upd mwr b ((mwr b) + (nI 1))) mfl mact (u1.2.1 6) (u1.2.1 5) (nI (u1.2.2 0)) mlog (u1.1 0) had (u1.2.1 0) (u1.2.1 1) (u1.2.1 2) (u1.2.1 3) (u1.2.1 4) pg pla sou fou) := hD
            refine lv_iconst (v := nI 1) hx hb d_M_erase_45 (by decide) ?_
            exact W.zret (v := nI 1) hx hb hr (by first | rfl | decide | assumption) (fun t ht hW => ⟨⟨nI 1, (fun i => [u1.1 0, wv, upd mwr b ((mwr b) + (nI 1))].getD i (fun _ => 0), fun i => [u1.2.1 0, u1.2.1 1, u1.2.1 2, u1.2.1 3, u1.2.1 4, u1.2.1 5, u1.2.1 6].getD i 0, fun i => [u1.2.2 0].getD i 0), rfl, Or.inl ⟨rfl, er1, el1, ec1, ho, fun i h1 h2 => hi i h1 (by omega)⟩, ⟨by rw [ht]; exact hP, va_K.moved hW.alike hK, hD⟩⟩, hS.F ht⟩) hS.2.2 d_M_erase_46
          ·
            have c14 := cd_ge_f (by omega) (by omega) c14
            refine lv_aload_n hx hb d_M_erase_17 rfl (lv_at hl 0 rfl) ?_
            refine va_get (D := (dC, dI)) (ci := 5) (v := .ref (am 1)) (C := R_M) (T := F_M) (N := 20) hx hb hts (fun w h => List.mem_cons_of_mem _ (in_M w h)) hown hK hP 0 rfl rfl 1 (by decide) (hts (.fieldLink R_M 7 R_M "chip" "[I") (List.mem_cons_of_mem _ t_713)) (fun _ h9 => h9) rfl d_M_erase_18 ?_
            refine lv_bipush (v := nI 64) hx hb d_M_erase_21 (by decide) ?_
            refine lv_iload_n hx hb d_M_erase_23 rfl (lv_at hl 1 rfl) ?_
            refine lv_imul hx hb d_M_erase_24 ?_
            refine tp_i (y := nI (64 * b)) (pk_mul _ _) ?_
            refine lv_iload_n hx hb d_M_erase_25 rfl (lv_at hl 2 rfl) ?_
            refine lv_iadd hx hb d_M_erase_26 ?_
            refine tp_i (y := nI ((64 * b) + k)) (nI_add _ _) ?_
            refine lv_iconst (v := (-1)) hx hb d_M_erase_27 (by decide) ?_
            refine va_iast hx hb hK hP hD hS 1 0 rfl rfl (vp_in_nI (by omega) (by decide)) d_M_erase_28 (fun H locs hP hD hS => ?_)
            rw [nI_clamp (by omega)] at hP hD
            have hP : va_P (dC, dI) vwCl (mw_ am cm th (upd wv ((64 * b) + k) (-1)) mwr mfl mact (u1.2.1 6) (u1.2.1 5) (nI (u1.2.2 0)) mlog (u1.1 0) had (u1.2.1 0) (u1.2.1 1) (u1.2.1 2) (u1.2.1 3) (u1.2.1 4) pg pla sou fou) H := hP
            have hD : va_D (xA 9 am s.heap.size) (mw_ am cm th (upd wv ((64 * b) + k) (-1)) mwr mfl mact (u1.2.1 6) (u1.2.1 5) (nI (u1.2.2 0)) mlog (u1.1 0) had (u1.2.1 0) (u1.2.1 1) (u1.2.1 2) (u1.2.1 3) (u1.2.1 4) pg pla sou fou) := hD
            refine lv_iinc (k := 2) (v := nI (k + 1)) hx hb d_M_erase_29 hl rfl (nI_1 _) (by decide) rfl (fun ls hl => ?_)
            have hl : lv_has ls 3 [(2, .int (nI (k + 1))), (0, .ref (am 0)), (1, .int (nI b))] := hl
            refine lv_goto (tgt := 11) hx hb d_M_erase_32 (by decide) ?_
            exact ih11 (k + 1) (upd wv ((64 * b) + k) (-1)) H locs ls (by omega) (by omega) (upd_out ho (by omega)) (upd_in hi) (lv_sub hl [1, 2, 0] rfl) hP hD hS
      exact lp11 _ 0 mw H locs ls (Nat.lt_succ_self _) (by omega) (fun _ _ => rfl) (fun i h1 h2 => absurd h2 (by omega)) (lv_sub hl [1, 2, 0] rfl) hP hD hS
    ·
      exact absurd c4 (by decide)
  ·
    refine lv_if_ne (tgt := 9) hx hb d_M_erase_4 (by decide) (fun c4 => ?_) (fun c4 => ?_)
    ·
      exact absurd c4 (by decide)
    ·
      refine lv_iconst (v := nI 0) hx hb d_M_erase_7 (by decide) ?_
      exact W.zret (v := nI 0) hx hb hr (by first | rfl | decide | assumption) (fun t ht hW => ⟨⟨nI 0, (fun i => [u1.1 0, mw, mwr].getD i (fun _ => 0), fun i => [u1.2.1 0, u1.2.1 1, u1.2.1 2, u1.2.1 3, u1.2.1 4, u1.2.1 5, u1.2.1 6].getD i 0, fun i => [u1.2.2 0].getD i 0), rfl, Or.inr ⟨rfl, hmi⟩, ⟨by rw [ht]; exact hP, va_K.moved hW.alike hK, hD⟩⟩, hS.F ht⟩) hS.2.2 d_M_erase_8
set_option maxHeartbeats 4000000 in
set_option maxRecDepth 100000 in
theorem c_M_write (l : Launch) (dC : Nat → ClassId) (dI : Nat → Nat → Nat) (am cm : Nat → Nat) (sz : Nat) (th : Int32) (mw mwr mfl mact : Nat → Int32) (on cut mrec : Int32) (mlog mlive had : Nat → Int32) (mser mcur mrd mwt worn : Int32) (pg : Nat → Int32) (pla sou fou : Int32) (rn : Nat) (pa : Nat) (lf : Nat) (hp : pa < 32) (hlf : lf < 16) : Met l y_M_write w_M_write ({ frames := 3, cells := 0, slots := 0, locals := 61 }) (xP (dC, dI) vwCl (mt cm) (mw_ am cm th mw mwr mfl mact on cut (nI rn) mlog mlive had mser mcur mrd mwt worn pg pla sou fou) sz [.ref (am 0), .int (nI pa), .int (nI lf)]) (va_Qi (fun r (u : (Nat → Nat → Int32) × (Nat → Int32) × (Nat → Nat)) => (r = nI 1 ∧ (u.2.2 0) = rn ∧ (u.1 0) = (upd mlive lf (nI pa)) ∧ (u.2.1 1) = mcur ∧ ∀ i, (i < 16 * pa ∨ 16 * pa + 16 ≤ i) → (u.1 1) i = mw i) ∨ (r = nI 0 ∧ MI (u.2.2 0) (u.1 0) (u.2.1 1))) (fun (u : (Nat → Nat → Int32) × (Nat → Int32) × (Nat → Nat)) (t : State) => xB (dC, dI) vwCl (mt cm) (xA 9 am sz) (mw_ am cm th (u.1 1) mwr mfl mact (u.2.1 6) (u.2.1 5) (nI (u.2.2 0)) mlog (u.1 0) had (u.2.1 0) (u.2.1 1) (u.2.1 2) (u.2.1 3) (u.2.1 4) (u.1 2) pla sou fou) t) (xA 9 am sz)) 0 0 (xA 9 am sz) := by
  refine Met.ofW (cc := b_M_write) (maxL := 4) (ret := (some (.boolean))) (by decide) rfl ?_
  intro P e s m args below meth c0 s₁ B hml hv
  obtain ⟨rfl, hsz, hP, hK, hD0, hN⟩ := hv
  have hx := B.exec
  have hb := B.bytes
  have hr := B.returns
  have hts := atoms_spec (ws := w_M_write) B.pre
  have hown : s.vm.findClass R_M = some m.cls := findClass_of_methodNamed B.named
  have hlocks := B.notSynchronized
  subst hsz
  have hD := mw_D (sz := s.heap.size) hD0
  have hS : va_S (xA 9 am s.heap.size) s.heap s.heap [] := va_S.rf
  have hA : ∀ q : Nat, s.heap.size ≤ q → (xA 9 am s.heap.size) q := fun q h => Or.inr h
  have hl := lv_entry ([.ref (am 0), .int (nI pa), .int (nI lf)]) (n := 4) (Nat.le_of_ble_eq_true rfl)
  rw [lg_entry_eq]
  generalize (lg_sl ([.ref (am 0), .int (nI pa), .int (nI lf)]) ++ List.replicate (4 - (lg_sl ([.ref (am 0), .int (nI pa), .int (nI lf)])).length) Slot.unset).toArray = ls at hl ⊢
  have hl : lv_has ls 4 [(0, .ref (am 0)), (1, .int (nI pa)), (2, .int (nI lf))] := hl
  refine lv_aload_n hx hb d_M_write_0 rfl (lv_at hl 0 rfl) ?_
  refine lv_dup hx hb d_M_write_1 rfl ?_
  refine va_get (D := (dC, dI)) (ci := 5) (v := .int mser) (C := R_M) (T := F_M) (N := 20) hx hb hts (fun w h => List.mem_cons_of_mem _ (in_M w h)) hown hK hP 0 rfl rfl 11 (by decide) (hts (.fieldLink R_M 55 R_M "serial" "I") (List.mem_cons_of_mem _ t_723)) (fun _ h9 => h9) rfl d_M_write_2 ?_
  refine lv_iconst (v := nI 1) hx hb d_M_write_5 (by decide) ?_
  refine lv_iadd hx hb d_M_write_6 ?_
  refine va_put (D := (dC, dI)) (ci := 5) (v := .int (mser + (nI 1))) (ty := .int) (C := R_M) (T := F_M) (N := 20) hx hb hts (fun w h => List.mem_cons_of_mem _ (in_M w h)) t_M ok_M nm_M hown hK hP hD hS 0 rfl rfl 11 (by decide) (hts (.fieldLink R_M 55 R_M "serial" "I") (List.mem_cons_of_mem _ t_723)) (fun _ h9 => h9) rfl (by decide +kernel) rfl rfl (Nat.le_of_ble_eq_true rfl) d_M_write_7 (fun H locs hP hD hS => ?_)
  have hP : va_P (dC, dI) vwCl (mw_ am cm th mw mwr mfl mact on cut (nI rn) mlog mlive had (mser + (nI 1)) mcur mrd mwt worn pg pla sou fou) H := hP
  have hD : va_D (xA 9 am s.heap.size) (mw_ am cm th mw mwr mfl mact on cut (nI rn) mlog mlive had (mser + (nI 1)) mcur mrd mwt worn pg pla sou fou) := hD
  refine lv_aload_n hx hb d_M_write_10 rfl (lv_at hl 0 rfl) ?_
  refine va_get (D := (dC, dI)) (ci := 5) (v := .ref (am 8)) (C := R_M) (T := F_M) (N := 20) hx hb hts (fun w h => List.mem_cons_of_mem _ (in_M w h)) hown hK hP 0 rfl rfl 16 (by decide) (hts (.fieldLink R_M 43 R_M "page" "[I") (List.mem_cons_of_mem _ t_728)) (fun _ h9 => h9) rfl d_M_write_11 ?_
  refine lv_iconst (v := nI 1) hx hb d_M_write_14 (by decide) ?_
  refine lv_aload_n hx hb d_M_write_15 rfl (lv_at hl 0 rfl) ?_
  refine va_get (D := (dC, dI)) (ci := 5) (v := .int (mser + (nI 1))) (C := R_M) (T := F_M) (N := 20) hx hb hts (fun w h => List.mem_cons_of_mem _ (in_M w h)) hown hK hP 0 rfl rfl 11 (by decide) (hts (.fieldLink R_M 55 R_M "serial" "I") (List.mem_cons_of_mem _ t_723)) (fun _ h9 => h9) rfl d_M_write_16 ?_
  refine va_iast hx hb hK hP hD hS 8 7 rfl rfl (vp_in_nI (by omega) (by decide)) d_M_write_19 (fun H locs hP hD hS => ?_)
  rw [nI_clamp (by omega)] at hP hD
  have hP : va_P (dC, dI) vwCl (mw_ am cm th mw mwr mfl mact on cut (nI rn) mlog mlive had (mser + (nI 1)) mcur mrd mwt worn (upd pg 1 (mser + (nI 1))) pla sou fou) H := hP
  have hD : va_D (xA 9 am s.heap.size) (mw_ am cm th mw mwr mfl mact on cut (nI rn) mlog mlive had (mser + (nI 1)) mcur mrd mwt worn (upd pg 1 (mser + (nI 1))) pla sou fou) := hD
  refine lv_aload_n hx hb d_M_write_20 rfl (lv_at hl 0 rfl) ?_
  refine va_get (D := (dC, dI)) (ci := 5) (v := .ref (am 8)) (C := R_M) (T := F_M) (N := 20) hx hb hts (fun w h => List.mem_cons_of_mem _ (in_M w h)) hown hK hP 0 rfl rfl 16 (by decide) (hts (.fieldLink R_M 43 R_M "page" "[I") (List.mem_cons_of_mem _ t_728)) (fun _ h9 => h9) rfl d_M_write_21 ?_
  refine lv_bipush (v := nI 14) hx hb d_M_write_24 (by decide) ?_
  refine lv_aload_n hx hb d_M_write_26 rfl (lv_at hl 0 rfl) ?_
  refine lv_aload_n hx hb d_M_write_27 rfl (lv_at hl 0 rfl) ?_
  refine va_get (D := (dC, dI)) (ci := 5) (v := .ref (am 8)) (C := R_M) (T := F_M) (N := 20) hx hb hts (fun w h => List.mem_cons_of_mem _ (in_M w h)) hown hK hP 0 rfl rfl 16 (by decide) (hts (.fieldLink R_M 43 R_M "page" "[I") (List.mem_cons_of_mem _ t_728)) (fun _ h9 => h9) rfl d_M_write_28 ?_
  refine lv_iconst (v := nI 0) hx hb d_M_write_31 (by decide) ?_
  refine lv_bipush (v := nI 14) hx hb d_M_write_32 (by decide) ?_
  refine vp_callSi (va_runV (C := R_M) (As := [.ref (am 8), .int (nI 0), .int (nI 14)]) (rest := [.int (nI 14), .ref (am 8)]) ⟨hx, hb, hml, hown, hts⟩ (c_M_sumOf_p l dC dI am cm th mw mwr mfl mact on cut (nI rn) mlog mlive had (mser + (nI 1)) mcur mrd mwt worn (upd pg 1 (mser + (nI 1))) pla sou fou 0 14 (by first | omega | rfl | assumption | decide)) (cwV 3 hts (g_V t_800 t_802 s_24 t_6 t_803) rfl rfl rfl (by decide +kernel) ⟨by decide, by decide⟩) (xR_v hP hK hN 0 rfl rfl) rfl rfl hl.1 rfl (lv_room (Nat.le_of_ble_eq_true rfl)) d_M_write_34 ⟨Nat.le_refl _, Nat.le_refl _⟩).run (fun r34 q34 => ?_)
  refine va_iast hx hb hK hP hD hS 8 7 rfl rfl (vp_in_nI (by omega) (by decide)) d_M_write_37 (fun H locs hP hD hS => ?_)
  rw [nI_clamp (by omega)] at hP hD
  have hP : va_P (dC, dI) vwCl (mw_ am cm th mw mwr mfl mact on cut (nI rn) mlog mlive had (mser + (nI 1)) mcur mrd mwt worn (upd (upd pg 1 (mser + (nI 1))) 14 r34) pla sou fou) H := hP
  have hD : va_D (xA 9 am s.heap.size) (mw_ am cm th mw mwr mfl mact on cut (nI rn) mlog mlive had (mser + (nI 1)) mcur mrd mwt worn (upd (upd pg 1 (mser + (nI 1))) 14 r34) pla sou fou) := hD
  refine lv_aload_n hx hb d_M_write_38 rfl (lv_at hl 0 rfl) ?_
  refine va_get (D := (dC, dI)) (ci := 5) (v := .ref (am 8)) (C := R_M) (T := F_M) (N := 20) hx hb hts (fun w h => List.mem_cons_of_mem _ (in_M w h)) hown hK hP 0 rfl rfl 16 (by decide) (hts (.fieldLink R_M 43 R_M "page" "[I") (List.mem_cons_of_mem _ t_728)) (fun _ h9 => h9) rfl d_M_write_39 ?_
  refine lv_bipush (v := nI 15) hx hb d_M_write_42 (by decide) ?_
  refine lv_ldc (v := nI 1515870810) hx hb hown (hts (.constant R_M 75 1515870810) (List.mem_cons_of_mem _ t_848)) d_M_write_44 ?_
  refine va_iast hx hb hK hP hD hS 8 7 rfl rfl (vp_in_nI (by omega) (by decide)) d_M_write_46 (fun H locs hP hD hS => ?_)
  rw [nI_clamp (by omega)] at hP hD
  have hP : va_P (dC, dI) vwCl (mw_ am cm th mw mwr mfl mact on cut (nI rn) mlog mlive had (mser + (nI 1)) mcur mrd mwt worn (upd (upd (upd pg 1 (mser + (nI 1))) 14 r34) 15 (nI 1515870810)) pla sou fou) H := hP
  have hD : va_D (xA 9 am s.heap.size) (mw_ am cm th mw mwr mfl mact on cut (nI rn) mlog mlive had (mser + (nI 1)) mcur mrd mwt worn (upd (upd (upd pg 1 (mser + (nI 1))) 14 r34) 15 (nI 1515870810)) pla sou fou) := hD
  refine lv_iconst (v := nI 0) hx hb d_M_write_47 (by decide) ?_
  refine lv_istore_n hx hb d_M_write_48 rfl hl (by decide) rfl (fun ls hl => ?_)
  have hl : lv_has ls 4 [(3, .int (nI 0)), (0, .ref (am 0)), (1, .int (nI pa)), (2, .int (nI lf))] := hl
  have lp49 : ∀ (n : Nat) (k : Nat) (wv : Nat → Int32) (rv : Nat) (lv : Nat → Int32) (sv : Int32) (cv : Int32) (dv : Int32) (tv : Int32) (ov : Int32) (uv : Int32) (nv_ : Int32) (H : Heap) (locs : List Loc) (ls : Array Slot), (16 - k) < n → (k ≤ 16) → (rv = rn) → (lv = mlive) → (cv = mcur) → (∀ i, (i < 16 * pa ∨ 16 * pa + 16 ≤ i) → wv i = mw i) → lv_has ls 4 [(0, .ref (am 0)), (1, .int (nI pa)), (2, .int (nI lf)), (3, .int (nI k))] → va_P (dC, dI) vwCl (mw_ am cm th wv mwr mfl mact nv_ uv (nI rv) mlog lv had sv cv dv tv ov (upd (upd (upd pg 1 (mser + (nI 1))) 14 r34) 15 (nI 1515870810)) pla sou fou) H → va_D (xA 9 am s.heap.size) (mw_ am cm th wv mwr mfl mact nv_ uv (nI rv) mlog lv had sv cv dv tv ov (upd (upd (upd pg 1 (mser + (nI 1))) 14 r34) 15 (nI 1515870810)) pla sou fou) → va_S (xA 9 am s.heap.size) s.heap H locs → W P l e (headSpec w_M_write ({ frames := 3, cells := 0, slots := 0, locals := 61 })).room s m (([.ref (am 0), .int (nI pa), .int (nI lf)] : List Value).toArray) below meth c0 H locs 0 0 (MQ below (va_Qi (fun r (u : (Nat → Nat → Int32) × (Nat → Int32) × (Nat → Nat)) => (r = nI 1 ∧ (u.2.2 0) = rn ∧ (u.1 0) = (upd mlive lf (nI pa)) ∧ (u.2.1 1) = mcur ∧ ∀ i, (i < 16 * pa ∨ 16 * pa + 16 ≤ i) → (u.1 1) i = mw i) ∨ (r = nI 0 ∧ MI (u.2.2 0) (u.1 0) (u.2.1 1))) (fun (u : (Nat → Nat → Int32) × (Nat → Int32) × (Nat → Nat)) (t : State) => xB (dC, dI) vwCl (mt cm) (xA 9 am s.heap.size) (mw_ am cm th (u.1 1) mwr mfl mact (u.2.1 6) (u.2.1 5) (nI (u.2.2 0)) mlog (u.1 0) had (u.2.1 0) (u.2.1 1) (u.2.1 2) (u.2.1 3) (u.2.1 4) (u.1 2) pla sou fou) t) (xA 9 am s.heap.size)) (([.ref (am 0), .int (nI pa), .int (nI lf)] : List Value).toArray) s 0 0 (xA 9 am s.heap.size)) (F0 m 49 ls []) := by
    intro n
    induction n with
    | zero => intro k wv rv lv sv cv dv tv ov uv nv_ H locs ls hm; intros; omega
    | succ n ih49 =>
      intro k wv rv lv sv cv dv tv ov uv nv_ H locs ls hm hk her hel hec ho hl hP hD hS
      refine lv_iload_n hx hb d_M_write_49 rfl (lv_at hl 3 rfl) ?_
      refine lv_bipush (v := nI 16) hx hb d_M_write_50 (by decide) ?_
      refine lv_icmp_ge (tgt := 87) hx hb d_M_write_52 (by decide) (fun c52 => ?_) (fun c52 => ?_)
      ·
        have c52 := cd_ge_t (by omega) (by omega) c52
        refine lv_aload_n hx hb d_M_write_87 rfl (lv_at hl 0 rfl) ?_
        refine va_get (D := (dC, dI)) (ci := 5) (v := .ref (am 6)) (C := R_M) (T := F_M) (N := 20) hx hb hts (fun w h => List.mem_cons_of_mem _ (in_M w h)) hown hK hP 0 rfl rfl 9 (by decide) (hts (.fieldLink R_M 34 R_M "live" "[I") (List.mem_cons_of_mem _ t_721)) (fun _ h9 => h9) rfl d_M_write_88 ?_
        refine lv_iload_n hx hb d_M_write_91 rfl (lv_at hl 2 rfl) ?_
        refine lv_iload_n hx hb d_M_write_92 rfl (lv_at hl 1 rfl) ?_
        refine va_iast hx hb hK hP hD hS 6 5 rfl rfl (vp_in_nI (by omega) (by decide)) d_M_write_93 (fun H locs hP hD hS => ?_)
        rw [nI_clamp (by omega)] at hP hD
        have hP : va_P (dC, dI) vwCl (mw_ am cm th wv mwr mfl mact nv_ uv (nI rv) mlog (upd lv lf (nI pa)) had sv cv dv tv ov (upd (upd (upd pg 1 (mser + (nI 1))) 14 r34) 15 (nI 1515870810)) pla sou fou) H := hP
        have hD : va_D (xA 9 am s.heap.size) (mw_ am cm th wv mwr mfl mact nv_ uv (nI rv) mlog (upd lv lf (nI pa)) had sv cv dv tv ov (upd (upd (upd pg 1 (mser + (nI 1))) 14 r34) 15 (nI 1515870810)) pla sou fou) := hD
        refine lv_iconst (v := nI 1) hx hb d_M_write_94 (by decide) ?_
        exact W.zret (v := nI 1) hx hb hr (by first | rfl | decide | assumption) (fun t ht hW => ⟨⟨nI 1, (fun i => [upd lv lf (nI pa), wv, upd (upd (upd pg 1 (mser + (nI 1))) 14 r34) 15 (nI 1515870810)].getD i (fun _ => 0), fun i => [sv, cv, dv, tv, ov, uv, nv_].getD i 0, fun i => [rv].getD i 0), rfl, Or.inl ⟨rfl, her, congrArg (fun z => upd z lf (nI pa)) hel, hec, ho⟩, ⟨by rw [ht]; exact hP, va_K.moved hW.alike hK, hD⟩⟩, hS.F ht⟩) hS.2.2 d_M_write_95
      ·
        have c52 := cd_ge_f (by omega) (by omega) c52
        refine lv_aload_n hx hb d_M_write_55 rfl (lv_at hl 0 rfl) ?_
        have hSz := hS.1
        refine va_calli (va_runV (C := R_M) (As := []) (rest := []) ⟨hx, hb, hml, hown, hts⟩ (c_M_step l dC dI am cm H.size th wv mwr mfl mact nv_ uv (nI rv) mlog lv had sv cv dv tv ov (upd (upd (upd pg 1 (mser + (nI 1))) 14 r34) 15 (nI 1515870810)) pla sou fou rv ) (cwV 0 hts (g_V t_849 t_851 s_35 t_6 t_852) rfl rfl rfl (by decide +kernel) ⟨by decide, by decide⟩) (xP_v hP hK hD hN 0 rfl rfl) rfl rfl hl.1 rfl (lv_room (Nat.le_of_ble_eq_true rfl)) d_M_write_56 ⟨Nat.le_refl _, Nat.le_refl _⟩) hS (fun q _ h => xA_up hS.1 q h) (fun q h => xA_up hS.1 q h) (fun r56 u56 t H1 locs1 ht hvm q56 hB hz1 hk1 hS => ?_)
        obtain ⟨hP1, hK1, hD1⟩ := hB
        rw [ht] at hP1
        have hD : va_D (xA 9 am s.heap.size) (mw_ am cm th wv mwr mfl mact (u56.2.1 6) (u56.2.1 5) (nI (u56.2.2 0)) mlog (u56.1 0) had (u56.2.1 0) (u56.2.1 1) (u56.2.1 2) (u56.2.1 3) (u56.2.1 4) (upd (upd (upd pg 1 (mser + (nI 1))) 14 r34) 15 (nI 1515870810)) pla sou fou) := hD1.weaken (fun _ q _ h => xA_up hSz _ h)
        have hP : va_P (dC, dI) vwCl (mw_ am cm th wv mwr mfl mact (u56.2.1 6) (u56.2.1 5) (nI (u56.2.2 0)) mlog (u56.1 0) had (u56.2.1 0) (u56.2.1 1) (u56.2.1 2) (u56.2.1 3) (u56.2.1 4) (upd (upd (upd pg 1 (mser + (nI 1))) 14 r34) 15 (nI 1515870810)) pla sou fou) H1 := hP1
        generalize H1 = H at hP hS ⊢
        generalize locs1 = locs at hS ⊢
        rcases q56 with ⟨rfl, er56, el56, ec56⟩ | ⟨rfl, hmi⟩
        ·
          refine lv_if_ne (tgt := 64) hx hb d_M_write_59 (by decide) (fun c59 => ?_) (fun c59 => ?_)
          ·
            refine lv_aload_n hx hb d_M_write_64 rfl (lv_at hl 0 rfl) ?_
            refine va_get (D := (dC, dI)) (ci := 5) (v := .ref (am 1)) (C := R_M) (T := F_M) (N := 20) hx hb hts (fun w h => List.mem_cons_of_mem _ (in_M w h)) hown hK hP 0 rfl rfl 1 (by decide) (hts (.fieldLink R_M 7 R_M "chip" "[I") (List.mem_cons_of_mem _ t_713)) (fun _ h9 => h9) rfl d_M_write_65 ?_
            refine lv_bipush (v := nI 16) hx hb d_M_write_68 (by decide) ?_
            refine lv_iload_n hx hb d_M_write_70 rfl (lv_at hl 1 rfl) ?_
            refine lv_imul hx hb d_M_write_71 ?_
            refine tp_i (y := nI (16 * pa)) (pk_mul _ _) ?_
            refine lv_iload_n hx hb d_M_write_72 rfl (lv_at hl 3 rfl) ?_
            refine lv_iadd hx hb d_M_write_73 ?_
            refine tp_i (y := nI ((16 * pa) + k)) (nI_add _ _) ?_
            refine lv_aload_n hx hb d_M_write_74 rfl (lv_at hl 0 rfl) ?_
            refine va_get (D := (dC, dI)) (ci := 5) (v := .ref (am 8)) (C := R_M) (T := F_M) (N := 20) hx hb hts (fun w h => List.mem_cons_of_mem _ (in_M w h)) hown hK hP 0 rfl rfl 16 (by decide) (hts (.fieldLink R_M 43 R_M "page" "[I") (List.mem_cons_of_mem _ t_728)) (fun _ h9 => h9) rfl d_M_write_75 ?_
            refine lv_iload_n hx hb d_M_write_78 rfl (lv_at hl 3 rfl) ?_
            refine va_iald hx hb hK hP 8 7 rfl rfl (vp_in_nI (by omega) (by decide)) d_M_write_79 ?_
            refine tp_i (y := (upd (upd (upd pg 1 (mser + (nI 1))) 14 r34) 15 (nI 1515870810)) k) (by rw [nI_clamp (by omega)]) ?_
            refine va_iast hx hb hK hP hD hS 1 0 rfl rfl (vp_in_nI (by omega) (by decide)) d_M_write_80 (fun H locs hP hD hS => ?_)
            rw [nI_clamp (by omega)] at hP hD
            have hP : va_P (dC, dI) vwCl (mw_ am cm th (upd wv ((16 * pa) + k) ((upd (upd (upd pg 1 (mser + (nI 1))) 14 r34) 15 (nI 1515870810)) k)) mwr mfl mact (u56.2.1 6) (u56.2.1 5) (nI (u56.2.2 0)) mlog (u56.1 0) had (u56.2.1 0) (u56.2.1 1) (u56.2.1 2) (u56.2.1 3) (u56.2.1 4) (upd (upd (upd pg 1 (mser + (nI 1))) 14 r34) 15 (nI 1515870810)) pla sou fou) H := hP
            have hD : va_D (xA 9 am s.heap.size) (mw_ am cm th (upd wv ((16 * pa) + k) ((upd (upd (upd pg 1 (mser + (nI 1))) 14 r34) 15 (nI 1515870810)) k)) mwr mfl mact (u56.2.1 6) (u56.2.1 5) (nI (u56.2.2 0)) mlog (u56.1 0) had (u56.2.1 0) (u56.2.1 1) (u56.2.1 2) (u56.2.1 3) (u56.2.1 4) (upd (upd (upd pg 1 (mser + (nI 1))) 14 r34) 15 (nI 1515870810)) pla sou fou) := hD
            refine lv_iinc (k := 3) (v := nI (k + 1)) hx hb d_M_write_81 hl rfl (nI_1 _) (by decide) rfl (fun ls hl => ?_)
            have hl : lv_has ls 4 [(3, .int (nI (k + 1))), (0, .ref (am 0)), (1, .int (nI pa)), (2, .int (nI lf))] := hl
            refine lv_goto (tgt := 49) hx hb d_M_write_84 (by decide) ?_
            exact ih49 (k + 1) (upd wv ((16 * pa) + k) ((upd (upd (upd pg 1 (mser + (nI 1))) 14 r34) 15 (nI 1515870810)) k)) (u56.2.2 0) (u56.1 0) (u56.2.1 0) (u56.2.1 1) (u56.2.1 2) (u56.2.1 3) (u56.2.1 4) (u56.2.1 5) (u56.2.1 6) H locs ls (by omega) (by omega) (er56.trans her) (el56.trans hel) (ec56.trans hec) (upd_out ho (by omega)) (lv_sub hl [1, 2, 3, 0] rfl) hP hD hS
          ·
            exact absurd c59 (by decide)
        ·
          refine lv_if_ne (tgt := 64) hx hb d_M_write_59 (by decide) (fun c59 => ?_) (fun c59 => ?_)
          ·
            exact absurd c59 (by decide)
          ·
            refine lv_iconst (v := nI 0) hx hb d_M_write_62 (by decide) ?_
            exact W.zret (v := nI 0) hx hb hr (by first | rfl | decide | assumption) (fun t ht hW => ⟨⟨nI 0, (fun i => [u56.1 0, wv, upd (upd (upd pg 1 (mser + (nI 1))) 14 r34) 15 (nI 1515870810)].getD i (fun _ => 0), fun i => [u56.2.1 0, u56.2.1 1, u56.2.1 2, u56.2.1 3, u56.2.1 4, u56.2.1 5, u56.2.1 6].getD i 0, fun i => [u56.2.2 0].getD i 0), rfl, Or.inr ⟨rfl, hmi⟩, ⟨by rw [ht]; exact hP, va_K.moved hW.alike hK, hD⟩⟩, hS.F ht⟩) hS.2.2 d_M_write_63
  exact lp49 _ 0 mw rn mlive (mser + (nI 1)) mcur mrd mwt worn cut on H locs ls (Nat.lt_succ_self _) (by omega) rfl rfl rfl (fun _ _ => rfl) (lv_sub hl [1, 2, 3, 0] rfl) hP hD hS
set_option maxHeartbeats 4000000 in
set_option maxRecDepth 100000 in
theorem c_M_victim (l : Launch) (dC : Nat → ClassId) (dI : Nat → Nat → Nat) (am cm : Nat → Nat) (th : Int32) (mw mwr mfl mact : Nat → Int32) (on cut mrec : Int32) (mlog mlive had : Nat → Int32) (mser mcur mrd mwt worn : Int32) (pg : Nat → Int32) (pla sou fou : Int32)  : Met l y_M_victim w_M_victim ({ frames := 2, cells := 0, slots := 0, locals := 46 }) (xR (dC, dI) vwCl (mt cm) (mw_ am cm th mw mwr mfl mact on cut mrec mlog mlive had mser mcur mrd mwt worn pg pla sou fou) [.ref (am 0)]) (vp_Si (fun r => SV mw mlive r)) 0 0 (fun _ => False) := by
  refine Met.ofW (cc := b_M_victim) (maxL := 3) (ret := (some (.int))) (by decide) rfl ?_
  intro P e s m args below meth c0 s₁ B hml hv
  obtain ⟨rfl, hP, hK, hN⟩ := hv
  have hx := B.exec
  have hb := B.bytes
  have hr := B.returns
  have hts := atoms_spec (ws := w_M_victim) B.pre
  have hown : s.vm.findClass R_M = some m.cls := findClass_of_methodNamed B.named
  have hlocks := B.notSynchronized
  have hl := lv_entry ([.ref (am 0)]) (n := 3) (Nat.le_of_ble_eq_true rfl)
  rw [lg_entry_eq]
  generalize (lg_sl ([.ref (am 0)]) ++ List.replicate (3 - (lg_sl ([.ref (am 0)])).length) Slot.unset).toArray = ls at hl ⊢
  have hl : lv_has ls 3 [(0, .ref (am 0))] := hl
  refine lv_iconst (v := (-1)) hx hb d_M_victim_0 (by decide) ?_
  refine lv_istore_n hx hb d_M_victim_1 rfl hl (by decide) rfl (fun ls hl => ?_)
  have hl : lv_has ls 3 [(1, .int (-1)), (0, .ref (am 0))] := hl
  refine lv_iconst (v := nI 0) hx hb d_M_victim_2 (by decide) ?_
  refine lv_istore_n hx hb d_M_victim_3 rfl hl (by decide) rfl (fun ls hl => ?_)
  have hl : lv_has ls 3 [(2, .int (nI 0)), (1, .int (-1)), (0, .ref (am 0))] := hl
  have lp4 : ∀ (n : Nat) (k : Nat) (bv : Int32) (ls : Array Slot), (8 - k) < n → (k ≤ 8) → (SV mw mlive bv) → lv_has ls 3 [(0, .ref (am 0)), (1, .int bv), (2, .int (nI k))] → W P l e (headSpec w_M_victim ({ frames := 2, cells := 0, slots := 0, locals := 46 })).room s m (([.ref (am 0)] : List Value).toArray) below meth c0 s.heap [] 0 0 (MQ below (vp_Si (fun r => SV mw mlive r)) (([.ref (am 0)] : List Value).toArray) s 0 0 (fun _ => False)) (F0 m 4 ls []) := by
    intro n
    induction n with
    | zero => intro k bv ls hm; intros; omega
    | succ n ih4 =>
      intro k bv ls hm hk hbv hl
      refine lv_iload_n hx hb d_M_victim_4 rfl (lv_at hl 2 rfl) ?_
      refine lv_bipush (v := nI 8) hx hb d_M_victim_5 (by decide) ?_
      refine lv_icmp_ge (tgt := 52) hx hb d_M_victim_7 (by decide) (fun c7 => ?_) (fun c7 => ?_)
      ·
        have c7 := cd_ge_t (by omega) (by omega) c7
        refine lv_iload_n hx hb d_M_victim_52 rfl (lv_at hl 1 rfl) ?_
        exact W.iret (v := bv) hx hb hr (fun t ht hW => ⟨bv, rfl, hbv, ht⟩) (fun q hq => by cases hq) d_M_victim_53
      ·
        have c7 := cd_ge_f (by omega) (by omega) c7
        refine lv_aload_n hx hb d_M_victim_10 rfl (lv_at hl 0 rfl) ?_
        refine va_get (D := (dC, dI)) (ci := 5) (v := .ref (am 3)) (C := R_M) (T := F_M) (N := 20) hx hb hts (fun w h => List.mem_cons_of_mem _ (in_M w h)) hown hK hP 0 rfl rfl 3 (by decide) (hts (.fieldLink R_M 16 R_M "failed" "[Z") (List.mem_cons_of_mem _ t_715)) (fun _ h9 => h9) rfl d_M_victim_11 ?_
        refine lv_iload_n hx hb d_M_victim_14 rfl (lv_at hl 2 rfl) ?_
        refine va_zald hx hb hK hP 3 2 rfl rfl (vp_in_nI (by omega) (by decide)) d_M_victim_15 ?_
        refine tp_i (y := mfl k) (by rw [nI_clamp (by omega)]) ?_
        refine lv_if_ne (tgt := 46) hx hb d_M_victim_16 (by decide) (fun c16 => ?_) (fun c16 => ?_)
        ·
          refine lv_iinc (k := 2) (v := nI (k + 1)) hx hb d_M_victim_46 hl rfl (nI_1 _) (by decide) rfl (fun ls hl => ?_)
          have hl : lv_has ls 3 [(2, .int (nI (k + 1))), (0, .ref (am 0)), (1, .int bv)] := hl
          refine lv_goto (tgt := 4) hx hb d_M_victim_49 (by decide) ?_
          exact ih4 (k + 1) bv ls (by omega) (by omega) (by first | exact hbv | exact Or.inl rfl | exact Or.inr ⟨d1, hd1, rfl, hst⟩) (lv_sub hl [1, 2, 0] rfl)
        ·
          refine lv_aload_n hx hb d_M_victim_19 rfl (lv_at hl 0 rfl) ?_
          refine lv_iload_n hx hb d_M_victim_20 rfl (lv_at hl 2 rfl) ?_
          refine vp_callSi (va_runV (C := R_M) (As := [.int (nI k)]) (rest := []) ⟨hx, hb, hml, hown, hts⟩ (c_M_staleOf l dC dI am cm th mw mwr mfl mact on cut mrec mlog mlive had mser mcur mrd mwt worn pg pla sou fou k (by first | omega | rfl | assumption | decide)) (cwV 1 hts (g_V t_832 t_834 s_31 t_6 t_835) rfl rfl rfl (by decide +kernel) ⟨by decide, by decide⟩) (xR_v hP hK hN 0 rfl rfl) rfl rfl hl.1 rfl (lv_room (Nat.le_of_ble_eq_true rfl)) d_M_victim_21 ⟨Nat.le_refl _, Nat.le_refl _⟩).run (fun r21 q21 => ?_)
          obtain ⟨mm21, hm21, hs21, rfl⟩ := q21
          refine lv_if_le (tgt := 46) hx hb d_M_victim_24 (by decide) (fun c24 => ?_) (fun c24 => ?_)
          ·
            have c24 := cz_le_t (by omega) c24
            refine lv_iinc (k := 2) (v := nI (k + 1)) hx hb d_M_victim_46 hl rfl (nI_1 _) (by decide) rfl (fun ls hl => ?_)
            have hl : lv_has ls 3 [(2, .int (nI (k + 1))), (0, .ref (am 0)), (1, .int bv)] := hl
            refine lv_goto (tgt := 4) hx hb d_M_victim_49 (by decide) ?_
            exact ih4 (k + 1) bv ls (by omega) (by omega) (by first | exact hbv | exact Or.inl rfl | exact Or.inr ⟨d1, hd1, rfl, hst⟩) (lv_sub hl [1, 2, 0] rfl)
          ·
            have c24 := cz_le_f (by omega) c24
            rcases hbv with rfl | ⟨d1, hd1, rfl, hst⟩
            ·
              refine lv_iload_n hx hb d_M_victim_27 rfl (lv_at hl 1 rfl) ?_
              refine lv_if_lt (tgt := 44) hx hb d_M_victim_28 (by decide) (fun c28 => ?_) (fun c28 => ?_)
              ·
                refine lv_iload_n hx hb d_M_victim_44 rfl (lv_at hl 2 rfl) ?_
                refine lv_istore_n hx hb d_M_victim_45 rfl hl (by decide) rfl (fun ls hl => ?_)
                have hl : lv_has ls 3 [(1, .int (nI k)), (0, .ref (am 0)), (2, .int (nI k))] := hl
                refine lv_iinc (k := 2) (v := nI (k + 1)) hx hb d_M_victim_46 hl rfl (nI_1 _) (by decide) rfl (fun ls hl => ?_)
                have hl : lv_has ls 3 [(2, .int (nI (k + 1))), (1, .int (nI k)), (0, .ref (am 0))] := hl
                refine lv_goto (tgt := 4) hx hb d_M_victim_49 (by decide) ?_
                exact ih4 (k + 1) (nI k) ls (by omega) (by omega) (Or.inr ⟨k, by omega, rfl, hs21.resolve_left (by omega)⟩) (lv_sub hl [2, 1, 0] rfl)
              ·
                exact absurd c28 (by decide)
            ·
              refine lv_iload_n hx hb d_M_victim_27 rfl (lv_at hl 1 rfl) ?_
              refine lv_if_lt (tgt := 44) hx hb d_M_victim_28 (by decide) (fun c28 => ?_) (fun c28 => ?_)
              ·
                exact (cz_lt_t (by omega) c28).elim
              ·
                have c28 := cz_lt_f (by omega) c28
                refine lv_aload_n hx hb d_M_victim_31 rfl (lv_at hl 0 rfl) ?_
                refine lv_iload_n hx hb d_M_victim_32 rfl (lv_at hl 2 rfl) ?_
                refine vp_callSi (va_runV (C := R_M) (As := [.int (nI k)]) (rest := []) ⟨hx, hb, hml, hown, hts⟩ (c_M_staleOf l dC dI am cm th mw mwr mfl mact on cut mrec mlog mlive had mser mcur mrd mwt worn pg pla sou fou k (by first | omega | rfl | assumption | decide)) (cwV 1 hts (g_V t_832 t_834 s_31 t_6 t_835) rfl rfl rfl (by decide +kernel) ⟨by decide, by decide⟩) (xR_v hP hK hN 0 rfl rfl) rfl rfl hl.1 rfl (lv_room (Nat.le_of_ble_eq_true rfl)) d_M_victim_33 ⟨Nat.le_refl _, Nat.le_refl _⟩).run (fun r33 q33 => ?_)
                obtain ⟨mm33, hm33, hs33, rfl⟩ := q33
                refine lv_aload_n hx hb d_M_victim_36 rfl (lv_at hl 0 rfl) ?_
                refine lv_iload_n hx hb d_M_victim_37 rfl (lv_at hl 1 rfl) ?_
                refine vp_callSi (va_runV (C := R_M) (As := [.int (nI d1)]) (rest := [.int (nI mm33)]) ⟨hx, hb, hml, hown, hts⟩ (c_M_staleOf l dC dI am cm th mw mwr mfl mact on cut mrec mlog mlive had mser mcur mrd mwt worn pg pla sou fou d1 (by first | omega | rfl | assumption | decide)) (cwV 1 hts (g_V t_832 t_834 s_31 t_6 t_835) rfl rfl rfl (by decide +kernel) ⟨by decide, by decide⟩) (xR_v hP hK hN 0 rfl rfl) rfl rfl hl.1 rfl (lv_room (Nat.le_of_ble_eq_true rfl)) d_M_victim_38 ⟨Nat.le_refl _, Nat.le_refl _⟩).run (fun r38 q38 => ?_)
                obtain ⟨mm38, hm38, hs38, rfl⟩ := q38
                refine lv_icmp_le (tgt := 46) hx hb d_M_victim_41 (by decide) (fun c41 => ?_) (fun c41 => ?_)
                ·
                  have c41 := cd_le_t (by omega) (by omega) c41
                  refine lv_iinc (k := 2) (v := nI (k + 1)) hx hb d_M_victim_46 hl rfl (nI_1 _) (by decide) rfl (fun ls hl => ?_)
                  have hl : lv_has ls 3 [(2, .int (nI (k + 1))), (0, .ref (am 0)), (1, .int (nI d1))] := hl
                  refine lv_goto (tgt := 4) hx hb d_M_victim_49 (by decide) ?_
                  exact ih4 (k + 1) (nI d1) ls (by omega) (by omega) (by first | exact hbv | exact Or.inl rfl | exact Or.inr ⟨d1, hd1, rfl, hst⟩) (lv_sub hl [1, 2, 0] rfl)
                ·
                  have c41 := cd_le_f (by omega) (by omega) c41
                  refine lv_iload_n hx hb d_M_victim_44 rfl (lv_at hl 2 rfl) ?_
                  refine lv_istore_n hx hb d_M_victim_45 rfl hl (by decide) rfl (fun ls hl => ?_)
                  have hl : lv_has ls 3 [(1, .int (nI k)), (0, .ref (am 0)), (2, .int (nI k))] := hl
                  refine lv_iinc (k := 2) (v := nI (k + 1)) hx hb d_M_victim_46 hl rfl (nI_1 _) (by decide) rfl (fun ls hl => ?_)
                  have hl : lv_has ls 3 [(2, .int (nI (k + 1))), (1, .int (nI k)), (0, .ref (am 0))] := hl
                  refine lv_goto (tgt := 4) hx hb d_M_victim_49 (by decide) ?_
                  exact ih4 (k + 1) (nI k) ls (by omega) (by omega) (Or.inr ⟨k, by omega, rfl, hs21.resolve_left (by omega)⟩) (lv_sub hl [2, 1, 0] rfl)
  exact lp4 _ 0 (-1) ls (Nat.lt_succ_self _) (by omega) (Or.inl rfl) (lv_sub hl [2, 1, 0] rfl)
