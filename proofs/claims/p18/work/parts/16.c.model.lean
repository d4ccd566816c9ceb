set_option maxHeartbeats 4000000 in
set_option maxRecDepth 100000 in
theorem c_M_move (l : Launch) (dC : Nat → ClassId) (dI : Nat → Nat → Nat) (am cm : Nat → Nat) (sz : Nat) (th : Int32) (mw mwr mfl mact : Nat → Int32) (on cut mrec : Int32) (mlog mlive had : Nat → Int32) (mser mcur mrd mwt worn : Int32) (pg : Nat → Int32) (pla sou fou : Int32) (rn : Nat) (cn : Nat) (b : Nat) (hb8 : b < 8) (hc8 : cn < 8) (hst : ST mw mlive b) (hcl : ∀ j, j < 4 → fp mw (4 * cn + j)) (hmi : MI rn mlive (nI cn)) : Met l y_M_move w_M_move ({ frames := 4, cells := 0, slots := 0, locals := 84 }) (xP (dC, dI) vwCl (mt cm) (mw_ am cm th mw mwr mfl mact on cut (nI rn) mlog mlive had mser (nI cn) mrd mwt worn pg pla sou fou) sz [.ref (am 0), .int (nI b)]) (va_Qi (fun r (u : (Nat → Nat → Int32) × (Nat → Int32) × (Nat → Nat)) => (r = nI 1 ∧ (u.2.2 0) = rn ∧ (u.2.1 1) = nI cn ∧ (∃ j, j < 4 ∧ fp (u.1 1) (4 * cn + j)) ∧ MI (u.2.2 0) (u.1 0) (u.2.1 1)) ∨ (r = nI 0 ∧ MI (u.2.2 0) (u.1 0) (u.2.1 1))) (fun (u : (Nat → Nat → Int32) × (Nat → Int32) × (Nat → Nat)) (t : State) => xB (dC, dI) vwCl (mt cm) (xA 9 am sz) (mw_ am cm th (u.1 1) (u.1 2) mfl mact (u.2.1 6) (u.2.1 5) (nI (u.2.2 0)) mlog (u.1 0) had (u.2.1 0) (u.2.1 1) (u.2.1 2) (u.2.1 3) (u.2.1 4) (u.1 3) pla sou fou) t) (xA 9 am sz)) 0 0 (xA 9 am sz) := by
  refine Met.ofW (cc := b_M_move) (maxL := 5) (ret := (some (.boolean))) (by decide) rfl ?_
  intro P e s m args below meth c0 s₁ B hml hv
  obtain ⟨rfl, hsz, hP, hK, hD0, hN⟩ := hv
  have hx := B.exec
  have hb := B.bytes
  have hr := B.returns
  have hts := atoms_spec (ws := w_M_move) B.pre
  have hown : s.vm.findClass R_M = some m.cls := findClass_of_methodNamed B.named
  have hlocks := B.notSynchronized
  subst hsz
  have hD := mw_D (sz := s.heap.size) hD0
  have hS : va_S (xA 9 am s.heap.size) s.heap s.heap [] := va_S.rf
  have hA : ∀ q : Nat, s.heap.size ≤ q → (xA 9 am s.heap.size) q := fun q h => Or.inr h
  have hl := lv_entry ([.ref (am 0), .int (nI b)]) (n := 5) (Nat.le_of_ble_eq_true rfl)
  rw [lg_entry_eq]
  generalize (lg_sl ([.ref (am 0), .int (nI b)]) ++ List.replicate (5 - (lg_sl ([.ref (am 0), .int (nI b)])).length) Slot.unset).toArray = ls at hl ⊢
  have hl : lv_has ls 5 [(0, .ref (am 0)), (1, .int (nI b))] := hl
  obtain ⟨q0, hq4, hqf, hql⟩ := hst
  have hcb : cn ≠ b := fun e => hqf (e ▸ hcl q0 hq4)
  refine lv_iconst (v := nI 4) hx hb d_M_move_0 (by decide) ?_
  refine lv_iload_n hx hb d_M_move_1 rfl (lv_at hl 1 rfl) ?_
  refine lv_imul hx hb d_M_move_2 ?_
  refine tp_i (y := nI (4 * b)) (pk_mul _ _) ?_
  refine lv_istore_n hx hb d_M_move_3 rfl hl (by decide) rfl (fun ls hl => ?_)
  have hl : lv_has ls 5 [(2, .int (nI (4 * b))), (0, .ref (am 0)), (1, .int (nI b))] := hl
  have lp4 : ∀ (n : Nat) (k : Nat) (j : Nat) (wv : Nat → Int32) (gv : Nat → Int32) (rv : Nat) (lv : Nat → Int32) (sv : Int32) (cv : Int32) (dv : Int32) (tv : Int32) (ov : Int32) (uv : Int32) (nv_ : Int32) (H : Heap) (locs : List Loc) (ls : Array Slot), (4 - k) < n → (k ≤ 4) → (j ≤ k) → (q0 < k → j + 1 ≤ k) → (rv = rn) → (cv = nI cn) → (MI rv lv cv) → (∀ i, j ≤ i → i < 4 → fp wv (4 * cn + i)) → (∀ i, i < 16 → lv i ≠ nI (4 * b + q0)) → lv_has ls 5 [(0, .ref (am 0)), (1, .int (nI b)), (2, .int (nI (4 * b + k)))] → va_P (dC, dI) vwCl (mw_ am cm th wv mwr mfl mact nv_ uv (nI rv) mlog lv had sv cv dv tv ov gv pla sou fou) H → va_D (xA 9 am s.heap.size) (mw_ am cm th wv mwr mfl mact nv_ uv (nI rv) mlog lv had sv cv dv tv ov gv pla sou fou) → va_S (xA 9 am s.heap.size) s.heap H locs → W P l e (headSpec w_M_move ({ frames := 4, cells := 0, slots := 0, locals := 84 })).room s m (([.ref (am 0), .int (nI b)] : List Value).toArray) below meth c0 H locs 0 0 (MQ below (va_Qi (fun r (u : (Nat → Nat → Int32) × (Nat → Int32) × (Nat → Nat)) => (r = nI 1 ∧ (u.2.2 0) = rn ∧ (u.2.1 1) = nI cn ∧ (∃ j, j < 4 ∧ fp (u.1 1) (4 * cn + j)) ∧ MI (u.2.2 0) (u.1 0) (u.2.1 1)) ∨ (r = nI 0 ∧ MI (u.2.2 0) (u.1 0) (u.2.1 1))) (fun (u : (Nat → Nat → Int32) × (Nat → Int32) × (Nat → Nat)) (t : State) => xB (dC, dI) vwCl (mt cm) (xA 9 am s.heap.size) (mw_ am cm th (u.1 1) (u.1 2) mfl mact (u.2.1 6) (u.2.1 5) (nI (u.2.2 0)) mlog (u.1 0) had (u.2.1 0) (u.2.1 1) (u.2.1 2) (u.2.1 3) (u.2.1 4) (u.1 3) pla sou fou) t) (xA 9 am s.heap.size)) (([.ref (am 0), .int (nI b)] : List Value).toArray) s 0 0 (xA 9 am s.heap.size)) (F0 m 4 ls []) := by
    intro n
    induction n with
    | zero => intro k j wv gv rv lv sv cv dv tv ov uv nv_ H locs ls hm; intros; omega
    | succ n ih4 =>
      intro k j wv gv rv lv sv cv dv tv ov uv nv_ H locs ls hm hk hj hjq her hec hmi hfr hnl hl hP hD hS
      refine lv_iload_n hx hb d_M_move_4 rfl (lv_at hl 2 rfl) ?_
      refine lv_iconst (v := nI 4) hx hb d_M_move_5 (by decide) ?_
      refine lv_iload_n hx hb d_M_move_6 rfl (lv_at hl 1 rfl) ?_
      refine lv_imul hx hb d_M_move_7 ?_
      refine tp_i (y := nI (4 * b)) (pk_mul _ _) ?_
      refine lv_iconst (v := nI 4) hx hb d_M_move_8 (by decide) ?_
      refine lv_iadd hx hb d_M_move_9 ?_
      refine tp_i (y := nI ((4 * b) + 4)) (nI_add _ _) ?_
      refine lv_icmp_ge (tgt := 101) hx hb d_M_move_10 (by decide) (fun c10 => ?_) (fun c10 => ?_)
      ·
        have c10 := cd_ge_t (by omega) (by omega) c10
        refine lv_aload_n hx hb d_M_move_101 rfl (lv_at hl 0 rfl) ?_
        refine lv_iload_n hx hb d_M_move_102 rfl (lv_at hl 1 rfl) ?_
        have hSz := hS.1
        refine va_calli (va_runV (C := R_M) (As := [.int (nI b)]) (rest := []) ⟨hx, hb, hml, hown, hts⟩ (c_M_erase l dC dI am cm H.size th wv mwr mfl mact nv_ uv (nI rv) mlog lv had sv cv dv tv ov gv pla sou fou rv b (by first | omega | rfl | assumption | decide)) (cwV 1 hts (g_V t_857 t_859 s_37 t_6 t_860) rfl rfl rfl (by decide +kernel) ⟨by decide, by decide⟩) (xP_v hP hK hD hN 0 rfl rfl) rfl rfl hl.1 rfl (lv_room (Nat.le_of_ble_eq_true rfl)) d_M_move_103 ⟨Nat.le_refl _, Nat.le_refl _⟩) hS (fun q _ h => xA_up hS.1 q h) (fun q h => xA_up hS.1 q h) (fun r103 u103 t H1 locs1 ht hvm q103 hB hz1 hk1 hS => ?_)
        obtain ⟨hP1, hK1, hD1⟩ := hB
        rw [ht] at hP1
        have hD : va_D (xA 9 am s.heap.size) (mw_ am cm th (u103.1 1) (u103.1 2) mfl mact (u103.2.1 6) (u103.2.1 5) (nI (u103.2.2 0)) mlog (u103.1 0) had (u103.2.1 0) (u103.2.1 1) (u103.2.1 2) (u103.2.1 3) (u103.2.1 4) gv pla sou fou) := hD1.weaken (fun _ q _ h => xA_up hSz _ h)
        have hP : va_P (dC, dI) vwCl (mw_ am cm th (u103.1 1) (u103.1 2) mfl mact (u103.2.1 6) (u103.2.1 5) (nI (u103.2.2 0)) mlog (u103.1 0) had (u103.2.1 0) (u103.2.1 1) (u103.2.1 2) (u103.2.1 3) (u103.2.1 4) gv pla sou fou) H1 := hP1
        generalize H1 = H at hP hS ⊢
        generalize locs1 = locs at hS ⊢
        rcases q103 with ⟨rfl, er103, el103, ec103, ho103, hi103⟩ | ⟨rfl, hmi⟩
        ·
          exact W.zret (v := nI 1) hx hb hr (by first | rfl | decide | assumption) (fun t ht hW => ⟨⟨nI 1, (fun i => [u103.1 0, u103.1 1, u103.1 2, gv].getD i (fun _ => 0), fun i => [u103.2.1 0, u103.2.1 1, u103.2.1 2, u103.2.1 3, u103.2.1 4, u103.2.1 5, u103.2.1 6].getD i 0, fun i => [u103.2.2 0].getD i 0), rfl, Or.inl ⟨rfl, er103.trans her, ec103.trans hec, ⟨3, by decide, fp_keepB ho103 (by omega) (hfr 3 (by have := hjq (by omega); omega) (by decide))⟩, MI.eq hmi er103 el103 ec103⟩, ⟨by rw [ht]; exact hP, va_K.moved hW.alike hK, hD⟩⟩, hS.F ht⟩) hS.2.2 d_M_move_106
        ·
          exact W.zret (v := nI 0) hx hb hr (by first | rfl | decide | assumption) (fun t ht hW => ⟨⟨nI 0, (fun i => [u103.1 0, u103.1 1, u103.1 2, gv].getD i (fun _ => 0), fun i => [u103.2.1 0, u103.2.1 1, u103.2.1 2, u103.2.1 3, u103.2.1 4, u103.2.1 5, u103.2.1 6].getD i 0, fun i => [u103.2.2 0].getD i 0), rfl, Or.inr ⟨rfl, hmi⟩, ⟨by rw [ht]; exact hP, va_K.moved hW.alike hK, hD⟩⟩, hS.F ht⟩) hS.2.2 d_M_move_106
      ·
        have c10 := cd_ge_f (by omega) (by omega) c10
        refine lv_aload_n hx hb d_M_move_13 rfl (lv_at hl 0 rfl) ?_
        refine lv_iload_n hx hb d_M_move_14 rfl (lv_at hl 2 rfl) ?_
        refine vp_callSi (va_runV (C := R_M) (As := [.int (nI (4 * b + k))]) (rest := []) ⟨hx, hb, hml, hown, hts⟩ (c_M_isLive l dC dI am cm th wv mwr mfl mact nv_ uv (nI rv) mlog lv had sv cv dv tv ov gv pla sou fou (4 * b + k) (by first | omega | rfl | assumption | decide)) (cwV 1 hts (g_V t_836 t_838 s_32 t_6 t_839) rfl rfl rfl (by decide +kernel) ⟨by decide, by decide⟩) (xR_v hP hK hN 0 rfl rfl) rfl rfl hl.1 rfl (lv_room (Nat.le_of_ble_eq_true rfl)) d_M_move_15 ⟨Nat.le_refl _, Nat.le_refl _⟩).run (fun r15 q15 => ?_)
        rcases q15 with ⟨rfl, hli15⟩ | ⟨rfl, hli15⟩
        ·
          refine lv_if_ne (tgt := 24) hx hb d_M_move_18 (by decide) (fun c18 => ?_) (fun c18 => ?_)
          ·
            obtain ⟨i0, hi0, ei0⟩ := hli15
            have hqk : q0 ≠ k := fun e => hnl i0 hi0 (by rw [e]; exact ei0)
            refine lv_iconst (v := nI 0) hx hb d_M_move_24 (by decide) ?_
            refine lv_istore_n hx hb d_M_move_25 rfl hl (by decide) rfl (fun ls hl => ?_)
            have hl : lv_has ls 5 [(3, .int (nI 0)), (0, .ref (am 0)), (1, .int (nI b)), (2, .int (nI (4 * b + k)))] := hl
            have lp26 : ∀ (n : Nat) (z : Nat) (ls : Array Slot), (i0 - z) < n → (z ≤ i0) → lv_has ls 5 [(0, .ref (am 0)), (1, .int (nI b)), (2, .int (nI (4 * b + k))), (3, .int (nI z))] → W P l e (headSpec w_M_move ({ frames := 4, cells := 0, slots := 0, locals := 84 })).room s m (([.ref (am 0), .int (nI b)] : List Value).toArray) below meth c0 H locs 0 0 (MQ below (va_Qi (fun r (u : (Nat → Nat → Int32) × (Nat → Int32) × (Nat → Nat)) => (r = nI 1 ∧ (u.2.2 0) = rn ∧ (u.2.1 1) = nI cn ∧ (∃ j, j < 4 ∧ fp (u.1 1) (4 * cn + j)) ∧ MI (u.2.2 0) (u.1 0) (u.2.1 1)) ∨ (r = nI 0 ∧ MI (u.2.2 0) (u.1 0) (u.2.1 1))) (fun (u : (Nat → Nat → Int32) × (Nat → Int32) × (Nat → Nat)) (t : State) => xB (dC, dI) vwCl (mt cm) (xA 9 am s.heap.size) (mw_ am cm th (u.1 1) (u.1 2) mfl mact (u.2.1 6) (u.2.1 5) (nI (u.2.2 0)) mlog (u.1 0) had (u.2.1 0) (u.2.1 1) (u.2.1 2) (u.2.1 3) (u.2.1 4) (u.1 3) pla sou fou) t) (xA 9 am s.heap.size)) (([.ref (am 0), .int (nI b)] : List Value).toArray) s 0 0 (xA 9 am s.heap.size)) (F0 m 26 ls []) := by
              intro n
              induction n with
              | zero => intro z ls hm; intros; omega
              | succ n ih26 =>
                intro z ls hm hz hl
                refine lv_aload_n hx hb d_M_move_26 rfl (lv_at hl 0 rfl) ?_
                refine va_get (D := (dC, dI)) (ci := 5) (v := .ref (am 6)) (C := R_M) (T := F_M) (N := 20) hx hb hts (fun w h => List.mem_cons_of_mem _ (in_M w h)) hown hK hP 0 rfl rfl 9 (by decide) (hts (.fieldLink R_M 34 R_M "live" "[I") (List.mem_cons_of_mem _ t_721)) (fun _ h9 => h9) rfl d_M_move_27 ?_
                refine lv_iload_n hx hb d_M_move_30 rfl (lv_at hl 3 rfl) ?_
                refine va_iald hx hb hK hP 6 5 rfl rfl (vp_in_nI (by omega) (by decide)) d_M_move_31 ?_
                refine tp_i (y := lv z) (by rw [nI_clamp (by omega)]) ?_
                refine lv_iload_n hx hb d_M_move_32 rfl (lv_at hl 2 rfl) ?_
                refine lv_icmp_eq (tgt := 42) hx hb d_M_move_33 (by decide) (fun c33 => ?_) (fun c33 => ?_)
                ·
                  refine lv_iconst (v := nI 0) hx hb d_M_move_42 (by decide) ?_
                  refine lv_istore hx hb d_M_move_43 hl (by decide) rfl (fun ls hl => ?_)
                  have hl : lv_has ls 5 [(4, .int (nI 0)), (0, .ref (am 0)), (1, .int (nI b)), (2, .int (nI (4 * b + k))), (3, .int (nI z))] := hl
                  have lp45 : ∀ (n : Nat) (tq : Nat) (gv2 : Nat → Int32) (H : Heap) (locs : List Loc) (ls : Array Slot), (14 - tq) < n → (tq ≤ 14) → lv_has ls 5 [(0, .ref (am 0)), (1, .int (nI b)), (2, .int (nI (4 * b + k))), (3, .int (nI z)), (4, .int (nI tq))] → va_P (dC, dI) vwCl (mw_ am cm th wv mwr mfl mact nv_ uv (nI rv) mlog lv had sv cv dv tv ov gv2 pla sou fou) H → va_D (xA 9 am s.heap.size) (mw_ am cm th wv mwr mfl mact nv_ uv (nI rv) mlog lv had sv cv dv tv ov gv2 pla sou fou) → va_S (xA 9 am s.heap.size) s.heap H locs → W P l e (headSpec w_M_move ({ frames := 4, cells := 0, slots := 0, locals := 84 })).room s m (([.ref (am 0), .int (nI b)] : List Value).toArray) below meth c0 H locs 0 0 (MQ below (va_Qi (fun r (u : (Nat → Nat → Int32) × (Nat → Int32) × (Nat → Nat)) => (r = nI 1 ∧ (u.2.2 0) = rn ∧ (u.2.1 1) = nI cn ∧ (∃ j, j < 4 ∧ fp (u.1 1) (4 * cn + j)) ∧ MI (u.2.2 0) (u.1 0) (u.2.1 1)) ∨ (r = nI 0 ∧ MI (u.2.2 0) (u.1 0) (u.2.1 1))) (fun (u : (Nat → Nat → Int32) × (Nat → Int32) × (Nat → Nat)) (t : State) => xB (dC, dI) vwCl (mt cm) (xA 9 am s.heap.size) (mw_ am cm th (u.1 1) (u.1 2) mfl mact (u.2.1 6) (u.2.1 5) (nI (u.2.2 0)) mlog (u.1 0) had (u.2.1 0) (u.2.1 1) (u.2.1 2) (u.2.1 3) (u.2.1 4) (u.1 3) pla sou fou) t) (xA 9 am s.heap.size)) (([.ref (am 0), .int (nI b)] : List Value).toArray) s 0 0 (xA 9 am s.heap.size)) (F0 m 45 ls []) := by
                    intro n
                    induction n with
                    | zero => intro tq gv2 H locs ls hm; intros; omega
                    | succ n ih45 =>
                      intro tq gv2 H locs ls hm ht14 hl hP hD hS
                      refine lv_iload hx hb d_M_move_45 (lv_at hl 4 rfl) ?_
                      refine lv_bipush (v := nI 14) hx hb d_M_move_47 (by decide) ?_
                      refine lv_icmp_ge (tgt := 77) hx hb d_M_move_49 (by decide) (fun c49 => ?_) (fun c49 => ?_)
                      ·
                        have c49 := cd_ge_t (by omega) (by omega) c49
                        refine lv_aload_n hx hb d_M_move_77 rfl (lv_at hl 0 rfl) ?_
                        refine lv_aload_n hx hb d_M_move_78 rfl (lv_at hl 0 rfl) ?_
                        refine lv_aload_n hx hb d_M_move_79 rfl (lv_at hl 0 rfl) ?_
                        refine va_get (D := (dC, dI)) (ci := 5) (v := .int cv) (C := R_M) (T := F_M) (N := 20) hx hb hts (fun w h => List.mem_cons_of_mem _ (in_M w h)) hown hK hP 0 rfl rfl 12 (by decide) (hts (.fieldLink R_M 40 R_M "cursor" "I") (List.mem_cons_of_mem _ t_724)) (fun _ h9 => h9) rfl d_M_move_80 ?_
                        refine tp_i (y := nI cn) (hec) ?_
                        refine vp_callSi (va_runV (C := R_M) (As := [.int (nI cn)]) (rest := [.ref (am 0)]) ⟨hx, hb, hml, hown, hts⟩ (c_M_firstFree l dC dI am cm th wv mwr mfl mact nv_ uv (nI rv) mlog lv had sv cv dv tv ov gv2 pla sou fou cn (by first | omega | rfl | assumption | decide)) (cwV 1 hts (g_V t_816 t_818 s_27 t_6 t_819) rfl rfl rfl (by decide +kernel) ⟨by decide, by decide⟩) (xR_v hP hK hN 0 rfl rfl) rfl rfl hl.1 rfl (lv_room (Nat.le_of_ble_eq_true rfl)) d_M_move_83 ⟨Nat.le_refl _, Nat.le_refl _⟩).run (fun r83 q83 => ?_)
                        rcases q83 with ⟨j83, hj83, rfl, hf83, hb83⟩ | ⟨rfl, hn83⟩
                        ·
                          have hj1j : j83 ≤ j := Nat.le_of_not_lt (fun h => hb83 j h (hfr j (Nat.le_refl _) (by omega)))
                          refine lv_iload_n hx hb d_M_move_86 rfl (lv_at hl 3 rfl) ?_
                          have hSz := hS.1
                          refine va_calli (va_runV (C := R_M) (As := [.int (nI (4 * cn + j83)), .int (nI z)]) (rest := []) ⟨hx, hb, hml, hown, hts⟩ (c_M_write l dC dI am cm H.size th wv mwr mfl mact nv_ uv (nI rv) mlog lv had sv cv dv tv ov gv2 pla sou fou rv (4 * cn + j83) z (by first | omega | rfl | assumption | decide) (by first | omega | rfl | assumption | decide)) (cwV 2 hts (g_V t_844 t_846 s_34 t_6 t_847) rfl rfl rfl (by decide +kernel) ⟨by decide, by decide⟩) (xP_v hP hK hD hN 0 rfl rfl) rfl rfl hl.1 rfl (lv_room (Nat.le_of_ble_eq_true rfl)) d_M_move_87 ⟨Nat.le_refl _, Nat.le_refl _⟩) hS (fun q _ h => xA_up hS.1 q h) (fun q h => xA_up hS.1 q h) (fun r87 u87 t H1 locs1 ht hvm q87 hB hz1 hk1 hS => ?_)
                          obtain ⟨hP1, hK1, hD1⟩ := hB
                          rw [ht] at hP1
                          have hD : va_D (xA 9 am s.heap.size) (mw_ am cm th (u87.1 1) mwr mfl mact (u87.2.1 6) (u87.2.1 5) (nI (u87.2.2 0)) mlog (u87.1 0) had (u87.2.1 0) (u87.2.1 1) (u87.2.1 2) (u87.2.1 3) (u87.2.1 4) (u87.1 2) pla sou fou) := hD1.weaken (fun _ q _ h => xA_up hSz _ h)
                          have hP : va_P (dC, dI) vwCl (mw_ am cm th (u87.1 1) mwr mfl mact (u87.2.1 6) (u87.2.1 5) (nI (u87.2.2 0)) mlog (u87.1 0) had (u87.2.1 0) (u87.2.1 1) (u87.2.1 2) (u87.2.1 3) (u87.2.1 4) (u87.1 2) pla sou fou) H1 := hP1
                          generalize H1 = H at hP hS ⊢
                          generalize locs1 = locs at hS ⊢
                          rcases q87 with ⟨rfl, er87, el87, ec87, ho87⟩ | ⟨rfl, hmi⟩
                          ·
                            refine lv_if_ne (tgt := 95) hx hb d_M_move_90 (by decide) (fun c90 => ?_) (fun c90 => ?_)
                            ·
                              refine lv_iinc (k := 2) (v := nI ((4 * b + k) + 1)) hx hb d_M_move_95 hl rfl (nI_1 _) (by decide) rfl (fun ls hl => ?_)
                              have hl : lv_has ls 5 [(2, .int (nI ((4 * b + k) + 1))), (0, .ref (am 0)), (1, .int (nI b)), (3, .int (nI z)), (4, .int (nI tq))] := hl
                              refine lv_goto (tgt := 4) hx hb d_M_move_98 (by decide) ?_
                              exact ih4 (k + 1) (j + 1) (u87.1 1) (u87.1 2) (u87.2.2 0) (u87.1 0) (u87.2.1 0) (u87.2.1 1) (u87.2.1 2) (u87.2.1 3) (u87.2.1 4) (u87.2.1 5) (u87.2.1 6) H locs ls (by omega) (by omega) (by omega) (fun h => by have := hjq (by omega); omega) (er87.trans her) (ec87.trans hec) (MI.putE hmi (by omega) er87 el87 ec87) (fun i h1 h2 => fp_keep ho87 (by omega) (hfr i (by omega) h2)) (fun i hi => by rw [el87]; exact upd_nl hnl (by omega) (by omega) (by omega) i hi) (lv_sub hl [1, 2, 0] rfl) hP hD hS
                            ·
                              exact absurd c90 (by decide)
                          ·
                            refine lv_if_ne (tgt := 95) hx hb d_M_move_90 (by decide) (fun c90 => ?_) (fun c90 => ?_)
                            ·
                              exact absurd c90 (by decide)
                            ·
                              refine lv_iconst (v := nI 0) hx hb d_M_move_93 (by decide) ?_
                              exact W.zret (v := nI 0) hx hb hr (by first | rfl | decide | assumption) (fun t ht hW => ⟨⟨nI 0, (fun i => [u87.1 0, u87.1 1, mwr, u87.1 2].getD i (fun _ => 0), fun i => [u87.2.1 0, u87.2.1 1, u87.2.1 2, u87.2.1 3, u87.2.1 4, u87.2.1 5, u87.2.1 6].getD i 0, fun i => [u87.2.2 0].getD i 0), rfl, Or.inr ⟨rfl, hmi⟩, ⟨by rw [ht]; exact hP, va_K.moved hW.alike hK, hD⟩⟩, hS.F ht⟩) hS.2.2 d_M_move_94
                        ·
                          exact absurd (hfr j (Nat.le_refl _) (by omega)) (hn83 j (by omega))
                      ·
                        have c49 := cd_ge_f (by omega) (by omega) c49
                        refine lv_aload_n hx hb d_M_move_52 rfl (lv_at hl 0 rfl) ?_
                        refine va_get (D := (dC, dI)) (ci := 5) (v := .ref (am 8)) (C := R_M) (T := F_M) (N := 20) hx hb hts (fun w h => List.mem_cons_of_mem _ (in_M w h)) hown hK hP 0 rfl rfl 16 (by decide) (hts (.fieldLink R_M 43 R_M "page" "[I") (List.mem_cons_of_mem _ t_728)) (fun _ h9 => h9) rfl d_M_move_53 ?_
                        refine lv_iload hx hb d_M_move_56 (lv_at hl 4 rfl) ?_
                        refine lv_aload_n hx hb d_M_move_58 rfl (lv_at hl 0 rfl) ?_
                        refine va_get (D := (dC, dI)) (ci := 5) (v := .ref (am 1)) (C := R_M) (T := F_M) (N := 20) hx hb hts (fun w h => List.mem_cons_of_mem _ (in_M w h)) hown hK hP 0 rfl rfl 1 (by decide) (hts (.fieldLink R_M 7 R_M "chip" "[I") (List.mem_cons_of_mem _ t_713)) (fun _ h9 => h9) rfl d_M_move_59 ?_
                        refine lv_bipush (v := nI 16) hx hb d_M_move_62 (by decide) ?_
                        refine lv_iload_n hx hb d_M_move_64 rfl (lv_at hl 2 rfl) ?_
                        refine lv_imul hx hb d_M_move_65 ?_
                        refine tp_i (y := nI (16 * (4 * b + k))) (pk_mul _ _) ?_
                        refine lv_iload hx hb d_M_move_66 (lv_at hl 4 rfl) ?_
                        refine lv_iadd hx hb d_M_move_68 ?_
                        refine tp_i (y := nI ((16 * (4 * b + k)) + tq)) (nI_add _ _) ?_
                        refine va_iald hx hb hK hP 1 0 rfl rfl (vp_in_nI (by omega) (by decide)) d_M_move_69 ?_
                        refine tp_i (y := wv ((16 * (4 * b + k)) + tq)) (by rw [nI_clamp (by omega)]) ?_
                        refine va_iast hx hb hK hP hD hS 8 7 rfl rfl (vp_in_nI (by omega) (by decide)) d_M_move_70 (fun H locs hP hD hS => ?_)
                        rw [nI_clamp (by omega)] at hP hD
                        have hP : va_P (dC, dI) vwCl (mw_ am cm th wv mwr mfl mact nv_ uv (nI rv) mlog lv had sv cv dv tv ov (upd gv2 tq (wv ((16 * (4 * b + k)) + tq))) pla sou fou) H := hP
                        have hD : va_D (xA 9 am s.heap.size) (mw_ am cm th wv mwr mfl mact nv_ uv (nI rv) mlog lv had sv cv dv tv ov (upd gv2 tq (wv ((16 * (4 * b + k)) + tq))) pla sou fou) := hD
                        refine lv_iinc (k := 4) (v := nI (tq + 1)) hx hb d_M_move_71 hl rfl (nI_1 _) (by decide) rfl (fun ls hl => ?_)
                        have hl : lv_has ls 5 [(4, .int (nI (tq + 1))), (0, .ref (am 0)), (1, .int (nI b)), (2, .int (nI (4 * b + k))), (3, .int (nI z))] := hl
                        refine lv_goto (tgt := 45) hx hb d_M_move_74 (by decide) ?_
                        exact ih45 (tq + 1) (upd gv2 tq (wv ((16 * (4 * b + k)) + tq))) H locs ls (by omega) (by omega) (lv_sub hl [1, 2, 3, 4, 0] rfl) hP hD hS
                  exact lp45 _ 0 gv H locs ls (Nat.lt_succ_self _) (by omega) (lv_sub hl [1, 2, 3, 4, 0] rfl) hP hD hS
                ·
                  have hzi : z < i0 := Nat.lt_of_le_of_ne hz (fun e => c33 (by rw [e]; exact ei0))
                  refine lv_iinc (k := 3) (v := nI (z + 1)) hx hb d_M_move_36 hl rfl (nI_1 _) (by decide) rfl (fun ls hl => ?_)
                  have hl : lv_has ls 5 [(3, .int (nI (z + 1))), (0, .ref (am 0)), (1, .int (nI b)), (2, .int (nI (4 * b + k)))] := hl
                  refine lv_goto (tgt := 26) hx hb d_M_move_39 (by decide) ?_
                  exact ih26 (z + 1) ls (by omega) (by omega) (lv_sub hl [1, 2, 3, 0] rfl)
            exact lp26 _ 0 ls (Nat.lt_succ_self _) (by omega) (lv_sub hl [1, 2, 3, 0] rfl)
          ·
            exact absurd c18 (by decide)
        ·
          refine lv_if_ne (tgt := 24) hx hb d_M_move_18 (by decide) (fun c18 => ?_) (fun c18 => ?_)
          ·
            exact absurd c18 (by decide)
          ·
            refine lv_goto (tgt := 95) hx hb d_M_move_21 (by decide) ?_
            refine lv_iinc (k := 2) (v := nI ((4 * b + k) + 1)) hx hb d_M_move_95 hl rfl (nI_1 _) (by decide) rfl (fun ls hl => ?_)
            have hl : lv_has ls 5 [(2, .int (nI ((4 * b + k) + 1))), (0, .ref (am 0)), (1, .int (nI b))] := hl
            refine lv_goto (tgt := 4) hx hb d_M_move_98 (by decide) ?_
            exact ih4 (k + 1) j wv gv rv lv sv cv dv tv ov uv nv_ H locs ls (by omega) (by omega) (by omega) (fun h => by omega) her hec hmi hfr hnl (lv_sub hl [1, 2, 0] rfl) hP hD hS
  exact lp4 _ 0 0 mw pg rn mlive mser (nI cn) mrd mwt worn cut on s.heap [] ls (Nat.lt_succ_self _) (by omega) (by omega) (fun h => absurd h (Nat.not_lt_zero _)) rfl rfl hmi (fun i _ hi => hcl i hi) hql (lv_sub hl [1, 2, 0] rfl) hP hD hS
set_option maxHeartbeats 4000000 in
set_option maxRecDepth 100000 in
theorem c_M_makeRoom (l : Launch) (dC : Nat → ClassId) (dI : Nat → Nat → Nat) (am cm : Nat → Nat) (sz : Nat) (th : Int32) (mw mwr mfl mact : Nat → Int32) (on cut mrec : Int32) (mlog mlive had : Nat → Int32) (mser mcur mrd mwt worn : Int32) (pg : Nat → Int32) (pla sou fou : Int32) (rn : Nat) (hmi : MI rn mlive mcur) : Met l y_M_makeRoom w_M_makeRoom ({ frames := 5, cells := 0, slots := 0, locals := 108 }) (xP (dC, dI) vwCl (mt cm) (mw_ am cm th mw mwr mfl mact on cut (nI rn) mlog mlive had mser mcur mrd mwt worn pg pla sou fou) sz [.ref (am 0)]) (va_Qi (fun r (u : (Nat → Nat → Int32) × (Nat → Int32) × (Nat → Nat)) => ((r = nI 0 ∧ (u.2.2 0) = rn ∧ ∃ c, c < 8 ∧ (u.2.1 1) = nI c ∧ ∃ j, j < 4 ∧ fp (u.1 1) (4 * c + j)) ∨ (r = -1 ∨ r = -2)) ∧ MI (u.2.2 0) (u.1 0) (u.2.1 1)) (fun (u : (Nat → Nat → Int32) × (Nat → Int32) × (Nat → Nat)) (t : State) => xB (dC, dI) vwCl (mt cm) (xA 9 am sz) (mw_ am cm th (u.1 1) (u.1 2) mfl mact (u.2.1 6) (u.2.1 5) (nI (u.2.2 0)) mlog (u.1 0) had (u.2.1 0) (u.2.1 1) (u.2.1 2) (u.2.1 3) (u.2.1 4) (u.1 3) pla sou fou) t) (xA 9 am sz)) 0 0 (xA 9 am sz) := by
  refine Met.ofW (cc := b_M_makeRoom) (maxL := 4) (ret := (some (.int))) (by decide) rfl ?_
  intro P e s m args below meth c0 s₁ B hml hv
  obtain ⟨rfl, hsz, hP, hK, hD0, hN⟩ := hv
  have hx := B.exec
  have hb := B.bytes
  have hr := B.returns
  have hts := atoms_spec (ws := w_M_makeRoom) B.pre
  have hown : s.vm.findClass R_M = some m.cls := findClass_of_methodNamed B.named
  have hlocks := B.notSynchronized
  subst hsz
  have hD := mw_D (sz := s.heap.size) hD0
  have hS : va_S (xA 9 am s.heap.size) s.heap s.heap [] := va_S.rf
  have hA : ∀ q : Nat, s.heap.size ≤ q → (xA 9 am s.heap.size) q := fun q h => Or.inr h
  have hl := lv_entry ([.ref (am 0)]) (n := 4) (Nat.le_of_ble_eq_true rfl)
  rw [lg_entry_eq]
  generalize (lg_sl ([.ref (am 0)]) ++ List.replicate (4 - (lg_sl ([.ref (am 0)])).length) Slot.unset).toArray = ls at hl ⊢
  have hl : lv_has ls 4 [(0, .ref (am 0))] := hl
  rcases hmi.2.2.1 with rfl | ⟨c, hhc, rfl⟩
  ·
    refine lv_aload_n hx hb d_M_makeRoom_0 rfl (lv_at hl 0 rfl) ?_
    refine va_get (D := (dC, dI)) (ci := 5) (v := .int (-1)) (C := R_M) (T := F_M) (N := 20) hx hb hts (fun w h => List.mem_cons_of_mem _ (in_M w h)) hown hK hP 0 rfl rfl 12 (by decide) (hts (.fieldLink R_M 40 R_M "cursor" "I") (List.mem_cons_of_mem _ t_724)) (fun _ h9 => h9) rfl d_M_makeRoom_1 ?_
    refine lv_if_lt (tgt := 32) hx hb d_M_makeRoom_4 (by decide) (fun c4 => ?_) (fun c4 => ?_)
    ·
      refine lv_iconst (v := nI 0) hx hb d_M_makeRoom_32 (by decide) ?_
      refine lv_istore_n hx hb d_M_makeRoom_33 rfl hl (by decide) rfl (fun ls hl => ?_)
      have hl : lv_has ls 4 [(1, .int (nI 0)), (0, .ref (am 0))] := hl
      refine lv_iconst (v := (-1)) hx hb d_M_makeRoom_34 (by decide) ?_
      refine lv_istore_n hx hb d_M_makeRoom_35 rfl hl (by decide) rfl (fun ls hl => ?_)
      have hl : lv_has ls 4 [(2, .int (-1)), (1, .int (nI 0)), (0, .ref (am 0))] := hl
      refine lv_iconst (v := nI 0) hx hb d_M_makeRoom_36 (by decide) ?_
      refine lv_istore_n hx hb d_M_makeRoom_37 rfl hl (by decide) rfl (fun ls hl => ?_)
      have hl : lv_has ls 4 [(3, .int (nI 0)), (2, .int (-1)), (1, .int (nI 0)), (0, .ref (am 0))] := hl
      have lp38 : ∀ (n : Nat) (k : Nat) (mm : Nat) (bv : Int32) (ls : Array Slot), (8 - k) < n → (k ≤ 8) → (mm ≤ k) → (CB mw bv) → (0 < mm → bv ≠ -1) → lv_has ls 4 [(0, .ref (am 0)), (1, .int (nI mm)), (2, .int bv), (3, .int (nI k))] → W P l e (headSpec w_M_makeRoom ({ frames := 5, cells := 0, slots := 0, locals := 108 })).room s m (([.ref (am 0)] : List Value).toArray) below meth c0 s.heap [] 0 0 (MQ below (va_Qi (fun r (u : (Nat → Nat → Int32) × (Nat → Int32) × (Nat → Nat)) => ((r = nI 0 ∧ (u.2.2 0) = rn ∧ ∃ c, c < 8 ∧ (u.2.1 1) = nI c ∧ ∃ j, j < 4 ∧ fp (u.1 1) (4 * c + j)) ∨ (r = -1 ∨ r = -2)) ∧ MI (u.2.2 0) (u.1 0) (u.2.1 1)) (fun (u : (Nat → Nat → Int32) × (Nat → Int32) × (Nat → Nat)) (t : State) => xB (dC, dI) vwCl (mt cm) (xA 9 am s.heap.size) (mw_ am cm th (u.1 1) (u.1 2) mfl mact (u.2.1 6) (u.2.1 5) (nI (u.2.2 0)) mlog (u.1 0) had (u.2.1 0) (u.2.1 1) (u.2.1 2) (u.2.1 3) (u.2.1 4) (u.1 3) pla sou fou) t) (xA 9 am s.heap.size)) (([.ref (am 0)] : List Value).toArray) s 0 0 (xA 9 am s.heap.size)) (F0 m 38 ls []) := by
        intro n
        induction n with
        | zero => intro k mm bv ls hm; intros; omega
        | succ n ih38 =>
          intro k mm bv ls hm hk hmk hbv hmb hl
          refine lv_iload_n hx hb d_M_makeRoom_38 rfl (lv_at hl 3 rfl) ?_
          refine lv_bipush (v := nI 8) hx hb d_M_makeRoom_39 (by decide) ?_
          refine lv_icmp_ge (tgt := 85) hx hb d_M_makeRoom_41 (by decide) (fun c41 => ?_) (fun c41 => ?_)
          ·
            have c41 := cd_ge_t (by omega) (by omega) c41
            refine lv_aload_n hx hb d_M_makeRoom_85 rfl (lv_at hl 0 rfl) ?_
            refine vp_callSi (va_runV (C := R_M) (As := []) (rest := []) ⟨hx, hb, hml, hown, hts⟩ (c_M_victim l dC dI am cm th mw mwr mfl mact on cut (nI rn) mlog mlive had mser (-1) mrd mwt worn pg pla sou fou  ) (cwV 0 hts (g_V t_828 t_830 s_30 t_6 t_831) rfl rfl rfl (by decide +kernel) ⟨by decide, by decide⟩) (xR_v hP hK hN 0 rfl rfl) rfl rfl hl.1 rfl (lv_room (Nat.le_of_ble_eq_true rfl)) d_M_makeRoom_86 ⟨Nat.le_refl _, Nat.le_refl _⟩).run (fun r86 q86 => ?_)
            rcases q86 with rfl | ⟨v86, hv86, rfl, hst86⟩
            ·
              refine lv_istore_n hx hb d_M_makeRoom_89 rfl hl (by decide) rfl (fun ls hl => ?_)
              have hl : lv_has ls 4 [(3, .int (-1)), (0, .ref (am 0)), (1, .int (nI mm)), (2, .int bv)] := hl
              refine lv_iload_n hx hb d_M_makeRoom_90 rfl (lv_at hl 2 rfl) ?_
              refine lv_if_le (tgt := 123) hx hb d_M_makeRoom_91 (by decide) (fun c91 => ?_) (fun c91 => ?_)
              ·
                have c91 := cz_le_t (by omega) c91
                refine lv_iload_n hx hb d_M_makeRoom_123 rfl (lv_at hl 0 rfl) ?_
                refine lv_if_lt (tgt := 135) hx hb d_M_makeRoom_124 (by decide) (fun c124 => ?_) (fun c124 => ?_)
                ·
                  refine lv_iconst (v := (-1)) hx hb d_M_makeRoom_135 (by decide) ?_
                  exact W.iret (v := (-1)) hx hb hr (fun t ht hW => ⟨⟨(-1), (fun i => [mlive, mw, mwr, pg].getD i (fun _ => 0), fun i => [mser, (-1), mrd, mwt, worn, cut, on].getD i 0, fun i => [rn].getD i 0), rfl, by first | exact ⟨Or.inr (Or.inl rfl), hmi⟩ | exact ⟨Or.inr (Or.inr rfl), hmi⟩ | exact ⟨Or.inl ⟨rfl, rfl, c, hhc, rfl, j24, hj24, hf24⟩, hmi⟩ | exact ⟨Or.inl ⟨rfl, er110, d, hd, ec110, jj110, hjj110, hfp110⟩, hmi⟩ | exact ⟨Or.inl ⟨rfl, rfl, d, hd, rfl, 0, by decide, hcd 0 (by decide)⟩, hmi.cur (PG.of hd)⟩ | exact ⟨Or.inl ⟨rfl, er139, v86, hv86, rfl, 0, by decide, fp_er hi139 (by decide)⟩, (MI.eq hmi er139 el139 ec139).cur (PG.of hv86)⟩, ⟨by rw [ht]; exact hP, va_K.moved hW.alike hK, hD⟩⟩, hS.F ht⟩) hS.2.2 d_M_makeRoom_136
                ·
                  exact absurd c124 (by decide)
              ·
                have c91 := cz_le_f (by omega) c91
                obtain ⟨d, hd, rfl, hcd⟩ := hbv.resolve_left (hmb c91)
                refine lv_aload_n hx hb d_M_makeRoom_94 rfl (lv_at hl 1 rfl) ?_
                refine lv_iload_n hx hb d_M_makeRoom_95 rfl (lv_at hl 3 rfl) ?_
                refine va_put (D := (dC, dI)) (ci := 5) (v := .int (nI d)) (ty := .int) (C := R_M) (T := F_M) (N := 20) hx hb hts (fun w h => List.mem_cons_of_mem _ (in_M w h)) t_M ok_M nm_M hown hK hP hD hS 0 rfl rfl 12 (by decide) (hts (.fieldLink R_M 40 R_M "cursor" "I") (List.mem_cons_of_mem _ t_724)) (fun _ h9 => h9) rfl (by decide +kernel) rfl rfl (Nat.le_of_ble_eq_true rfl) d_M_makeRoom_96 (fun H locs hP hD hS => ?_)
                have hP : va_P (dC, dI) vwCl (mw_ am cm th mw mwr mfl mact on cut (nI rn) mlog mlive had mser (nI d) mrd mwt worn pg pla sou fou) H := hP
                have hD : va_D (xA 9 am s.heap.size) (mw_ am cm th mw mwr mfl mact on cut (nI rn) mlog mlive had mser (nI d) mrd mwt worn pg pla sou fou) := hD
                refine lv_iload_n hx hb d_M_makeRoom_99 rfl (lv_at hl 2 rfl) ?_
                refine lv_iconst (v := nI 1) hx hb d_M_makeRoom_100 (by decide) ?_
                refine lv_icmp_gt (tgt := 116) hx hb d_M_makeRoom_101 (by decide) (fun c101 => ?_) (fun c101 => ?_)
                ·
                  have c101 := cd_gt_t (by omega) (by omega) c101
                  refine lv_iconst (v := nI 0) hx hb d_M_makeRoom_116 (by decide) ?_
                  refine lv_goto (tgt := 122) hx hb d_M_makeRoom_117 (by decide) ?_
                  exact W.iret (v := nI 0) hx hb hr (fun t ht hW => ⟨⟨nI 0, (fun i => [mlive, mw, mwr, pg].getD i (fun _ => 0), fun i => [mser, nI d, mrd, mwt, worn, cut, on].getD i 0, fun i => [rn].getD i 0), rfl, by first | exact ⟨Or.inr (Or.inl rfl), hmi⟩ | exact ⟨Or.inr (Or.inr rfl), hmi⟩ | exact ⟨Or.inl ⟨rfl, rfl, c, hhc, rfl, j24, hj24, hf24⟩, hmi⟩ | exact ⟨Or.inl ⟨rfl, er110, d, hd, ec110, jj110, hjj110, hfp110⟩, hmi⟩ | exact ⟨Or.inl ⟨rfl, rfl, d, hd, rfl, 0, by decide, hcd 0 (by decide)⟩, hmi.cur (PG.of hd)⟩ | exact ⟨Or.inl ⟨rfl, er139, v86, hv86, rfl, 0, by decide, fp_er hi139 (by decide)⟩, (MI.eq hmi er139 el139 ec139).cur (PG.of hv86)⟩, ⟨by rw [ht]; exact hP, va_K.moved hW.alike hK, hD⟩⟩, hS.F ht⟩) hS.2.2 d_M_makeRoom_122
                ·
                  have c101 := cd_gt_f (by omega) (by omega) c101
                  refine lv_iload_n hx hb d_M_makeRoom_104 rfl (lv_at hl 0 rfl) ?_
                  refine lv_if_lt (tgt := 116) hx hb d_M_makeRoom_105 (by decide) (fun c105 => ?_) (fun c105 => ?_)
                  ·
                    refine lv_iconst (v := nI 0) hx hb d_M_makeRoom_116 (by decide) ?_
                    refine lv_goto (tgt := 122) hx hb d_M_makeRoom_117 (by decide) ?_
                    exact W.iret (v := nI 0) hx hb hr (fun t ht hW => ⟨⟨nI 0, (fun i => [mlive, mw, mwr, pg].getD i (fun _ => 0), fun i => [mser, nI d, mrd, mwt, worn, cut, on].getD i 0, fun i => [rn].getD i 0), rfl, by first | exact ⟨Or.inr (Or.inl rfl), hmi⟩ | exact ⟨Or.inr (Or.inr rfl), hmi⟩ | exact ⟨Or.inl ⟨rfl, rfl, c, hhc, rfl, j24, hj24, hf24⟩, hmi⟩ | exact ⟨Or.inl ⟨rfl, er110, d, hd, ec110, jj110, hjj110, hfp110⟩, hmi⟩ | exact ⟨Or.inl ⟨rfl, rfl, d, hd, rfl, 0, by decide, hcd 0 (by decide)⟩, hmi.cur (PG.of hd)⟩ | exact ⟨Or.inl ⟨rfl, er139, v86, hv86, rfl, 0, by decide, fp_er hi139 (by decide)⟩, (MI.eq hmi er139 el139 ec139).cur (PG.of hv86)⟩, ⟨by rw [ht]; exact hP, va_K.moved hW.alike hK, hD⟩⟩, hS.F ht⟩) hS.2.2 d_M_makeRoom_122
                  ·
                    exact absurd c105 (by decide)
            ·
              refine lv_istore_n hx hb d_M_makeRoom_89 rfl hl (by decide) rfl (fun ls hl => ?_)
              have hl : lv_has ls 4 [(3, .int (nI v86)), (0, .ref (am 0)), (1, .int (nI mm)), (2, .int bv)] := hl
              refine lv_iload_n hx hb d_M_makeRoom_90 rfl (lv_at hl 2 rfl) ?_
              refine lv_if_le (tgt := 123) hx hb d_M_makeRoom_91 (by decide) (fun c91 => ?_) (fun c91 => ?_)
              ·
                have c91 := cz_le_t (by omega) c91
                refine lv_iload_n hx hb d_M_makeRoom_123 rfl (lv_at hl 0 rfl) ?_
                refine lv_if_lt (tgt := 135) hx hb d_M_makeRoom_124 (by decide) (fun c124 => ?_) (fun c124 => ?_)
                ·
                  exact (cz_lt_t (by omega) c124).elim
                ·
                  have c124 := cz_lt_f (by omega) c124
                  refine lv_aload_n hx hb d_M_makeRoom_127 rfl (lv_at hl 1 rfl) ?_
                  refine lv_iload_n hx hb d_M_makeRoom_128 rfl (lv_at hl 0 rfl) ?_
                  refine vp_callSi (va_runV (C := R_M) (As := [.int (nI v86)]) (rest := []) ⟨hx, hb, hml, hown, hts⟩ (c_M_livesOf l dC dI am cm th mw mwr mfl mact on cut (nI rn) mlog mlive had mser (-1) mrd mwt worn pg pla sou fou v86 (by first | omega | rfl | assumption | decide)) (cwV 1 hts (g_V t_861 t_863 s_38 t_6 t_864) rfl rfl rfl (by decide +kernel) ⟨by decide, by decide⟩) (xR_v hP hK hN 0 rfl rfl) rfl rfl hl.1 rfl (lv_room (Nat.le_of_ble_eq_true rfl)) d_M_makeRoom_129 ⟨Nat.le_refl _, Nat.le_refl _⟩).run (fun r129 q129 => ?_)
                  have hk129 := q129
                  refine lv_if_le (tgt := 137) hx hb d_M_makeRoom_132 (by decide) (fun c132 => ?_) (fun c132 => ?_)
                  ·
                    refine lv_aload_n hx hb d_M_makeRoom_137 rfl (lv_at hl 1 rfl) ?_
                    refine lv_iload_n hx hb d_M_makeRoom_138 rfl (lv_at hl 0 rfl) ?_
                    have hSz := hS.1
                    refine va_calli (va_runV (C := R_M) (As := [.int (nI v86)]) (rest := []) ⟨hx, hb, hml, hown, hts⟩ (c_M_erase l dC dI am cm s.heap.size th mw mwr mfl mact on cut (nI rn) mlog mlive had mser (-1) mrd mwt worn pg pla sou fou rn v86 (by first | omega | rfl | assumption | decide)) (cwV 1 hts (g_V t_857 t_859 s_37 t_6 t_860) rfl rfl rfl (by decide +kernel) ⟨by decide, by decide⟩) (xP_v hP hK hD hN 0 rfl rfl) rfl rfl hl.1 rfl (lv_room (Nat.le_of_ble_eq_true rfl)) d_M_makeRoom_139 ⟨Nat.le_refl _, Nat.le_refl _⟩) hS (fun q _ h => xA_up hS.1 q h) (fun q h => xA_up hS.1 q h) (fun r139 u139 t H1 locs1 ht hvm q139 hB hz1 hk1 hS => ?_)
                    obtain ⟨hP1, hK1, hD1⟩ := hB
                    rw [ht] at hP1
                    have hD : va_D (xA 9 am s.heap.size) (mw_ am cm th (u139.1 1) (u139.1 2) mfl mact (u139.2.1 6) (u139.2.1 5) (nI (u139.2.2 0)) mlog (u139.1 0) had (u139.2.1 0) (u139.2.1 1) (u139.2.1 2) (u139.2.1 3) (u139.2.1 4) pg pla sou fou) := hD1.weaken (fun _ q _ h => xA_up hSz _ h)
                    have hP : va_P (dC, dI) vwCl (mw_ am cm th (u139.1 1) (u139.1 2) mfl mact (u139.2.1 6) (u139.2.1 5) (nI (u139.2.2 0)) mlog (u139.1 0) had (u139.2.1 0) (u139.2.1 1) (u139.2.1 2) (u139.2.1 3) (u139.2.1 4) pg pla sou fou) H1 := hP1
                    generalize H1 = H at hP hS ⊢
                    generalize locs1 = locs at hS ⊢
                    rcases q139 with ⟨rfl, er139, el139, ec139, ho139, hi139⟩ | ⟨rfl, hmi⟩
                    ·
                      refine lv_if_ne (tgt := 148) hx hb d_M_makeRoom_142 (by decide) (fun c142 => ?_) (fun c142 => ?_)
                      ·
                        refine lv_aload_n hx hb d_M_makeRoom_148 rfl (lv_at hl 1 rfl) ?_
                        refine lv_iload_n hx hb d_M_makeRoom_149 rfl (lv_at hl 0 rfl) ?_
                        refine va_put (D := (dC, dI)) (ci := 5) (v := .int (nI v86)) (ty := .int) (C := R_M) (T := F_M) (N := 20) hx hb hts (fun w h => List.mem_cons_of_mem _ (in_M w h)) t_M ok_M nm_M hown hK hP hD hS 0 rfl rfl 12 (by decide) (hts (.fieldLink R_M 40 R_M "cursor" "I") (List.mem_cons_of_mem _ t_724)) (fun _ h9 => h9) rfl (by decide +kernel) rfl rfl (Nat.le_of_ble_eq_true rfl) d_M_makeRoom_150 (fun H locs hP hD hS => ?_)
                        have hP : va_P (dC, dI) vwCl (mw_ am cm th (u139.1 1) (u139.1 2) mfl mact (u139.2.1 6) (u139.2.1 5) (nI (u139.2.2 0)) mlog (u139.1 0) had (u139.2.1 0) (nI v86) (u139.2.1 2) (u139.2.1 3) (u139.2.1 4) pg pla sou fou) H := hP
                        have hD : va_D (xA 9 am s.heap.size) (mw_ am cm th (u139.1 1) (u139.1 2) mfl mact (u139.2.1 6) (u139.2.1 5) (nI (u139.2.2 0)) mlog (u139.1 0) had (u139.2.1 0) (nI v86) (u139.2.1 2) (u139.2.1 3) (u139.2.1 4) pg pla sou fou) := hD
                        refine lv_iconst (v := nI 0) hx hb d_M_makeRoom_153 (by decide) ?_
                        exact W.iret (v := nI 0) hx hb hr (fun t ht hW => ⟨⟨nI 0, (fun i => [u139.1 0, u139.1 1, u139.1 2, pg].getD i (fun _ => 0), fun i => [u139.2.1 0, nI v86, u139.2.1 2, u139.2.1 3, u139.2.1 4, u139.2.1 5, u139.2.1 6].getD i 0, fun i => [u139.2.2 0].getD i 0), rfl, by first | exact ⟨Or.inr (Or.inl rfl), hmi⟩ | exact ⟨Or.inr (Or.inr rfl), hmi⟩ | exact ⟨Or.inl ⟨rfl, rfl, c, hhc, rfl, j24, hj24, hf24⟩, hmi⟩ | exact ⟨Or.inl ⟨rfl, er110, d, hd, ec110, jj110, hjj110, hfp110⟩, hmi⟩ | exact ⟨Or.inl ⟨rfl, rfl, d, hd, rfl, 0, by decide, hcd 0 (by decide)⟩, hmi.cur (PG.of hd)⟩ | exact ⟨Or.inl ⟨rfl, er139, v86, hv86, rfl, 0, by decide, fp_er hi139 (by decide)⟩, (MI.eq hmi er139 el139 ec139).cur (PG.of hv86)⟩, ⟨by rw [ht]; exact hP, va_K.moved hW.alike hK, hD⟩⟩, hS.F ht⟩) hS.2.2 d_M_makeRoom_154
                      ·
                        exact absurd c142 (by decide)
                    ·
                      refine lv_if_ne (tgt := 148) hx hb d_M_makeRoom_142 (by decide) (fun c142 => ?_) (fun c142 => ?_)
                      ·
                        exact absurd c142 (by decide)
                      ·
                        refine lv_bipush (v := (-2)) hx hb d_M_makeRoom_145 (by decide) ?_
                        exact W.iret (v := (-2)) hx hb hr (fun t ht hW => ⟨⟨(-2), (fun i => [u139.1 0, u139.1 1, u139.1 2, pg].getD i (fun _ => 0), fun i => [u139.2.1 0, u139.2.1 1, u139.2.1 2, u139.2.1 3, u139.2.1 4, u139.2.1 5, u139.2.1 6].getD i 0, fun i => [u139.2.2 0].getD i 0), rfl, by first | exact ⟨Or.inr (Or.inl rfl), hmi⟩ | exact ⟨Or.inr (Or.inr rfl), hmi⟩ | exact ⟨Or.inl ⟨rfl, rfl, c, hhc, rfl, j24, hj24, hf24⟩, hmi⟩ | exact ⟨Or.inl ⟨rfl, er110, d, hd, ec110, jj110, hjj110, hfp110⟩, hmi⟩ | exact ⟨Or.inl ⟨rfl, rfl, d, hd, rfl, 0, by decide, hcd 0 (by decide)⟩, hmi.cur (PG.of hd)⟩ | exact ⟨Or.inl ⟨rfl, er139, v86, hv86, rfl, 0, by decide, fp_er hi139 (by decide)⟩, (MI.eq hmi er139 el139 ec139).cur (PG.of hv86)⟩, ⟨by rw [ht]; exact hP, va_K.moved hW.alike hK, hD⟩⟩, hS.F ht⟩) hS.2.2 d_M_makeRoom_147
                  ·
                    refine lv_iconst (v := (-1)) hx hb d_M_makeRoom_135 (by decide) ?_
                    exact W.iret (v := (-1)) hx hb hr (fun t ht hW => ⟨⟨(-1), (fun i => [mlive, mw, mwr, pg].getD i (fun _ => 0), fun i => [mser, (-1), mrd, mwt, worn, cut, on].getD i 0, fun i => [rn].getD i 0), rfl, by first | exact ⟨Or.inr (Or.inl rfl), hmi⟩ | exact ⟨Or.inr (Or.inr rfl), hmi⟩ | exact ⟨Or.inl ⟨rfl, rfl, c, hhc, rfl, j24, hj24, hf24⟩, hmi⟩ | exact ⟨Or.inl ⟨rfl, er110, d, hd, ec110, jj110, hjj110, hfp110⟩, hmi⟩ | exact ⟨Or.inl ⟨rfl, rfl, d, hd, rfl, 0, by decide, hcd 0 (by decide)⟩, hmi.cur (PG.of hd)⟩ | exact ⟨Or.inl ⟨rfl, er139, v86, hv86, rfl, 0, by decide, fp_er hi139 (by decide)⟩, (MI.eq hmi er139 el139 ec139).cur (PG.of hv86)⟩, ⟨by rw [ht]; exact hP, va_K.moved hW.alike hK, hD⟩⟩, hS.F ht⟩) hS.2.2 d_M_makeRoom_136
              ·
                have c91 := cz_le_f (by omega) c91
                obtain ⟨d, hd, rfl, hcd⟩ := hbv.resolve_left (hmb c91)
                refine lv_aload_n hx hb d_M_makeRoom_94 rfl (lv_at hl 1 rfl) ?_
                refine lv_iload_n hx hb d_M_makeRoom_95 rfl (lv_at hl 3 rfl) ?_
                refine va_put (D := (dC, dI)) (ci := 5) (v := .int (nI d)) (ty := .int) (C := R_M) (T := F_M) (N := 20) hx hb hts (fun w h => List.mem_cons_of_mem _ (in_M w h)) t_M ok_M nm_M hown hK hP hD hS 0 rfl rfl 12 (by decide) (hts (.fieldLink R_M 40 R_M "cursor" "I") (List.mem_cons_of_mem _ t_724)) (fun _ h9 => h9) rfl (by decide +kernel) rfl rfl (Nat.le_of_ble_eq_true rfl) d_M_makeRoom_96 (fun H locs hP hD hS => ?_)
                have hP : va_P (dC, dI) vwCl (mw_ am cm th mw mwr mfl mact on cut (nI rn) mlog mlive had mser (nI d) mrd mwt worn pg pla sou fou) H := hP
                have hD : va_D (xA 9 am s.heap.size) (mw_ am cm th mw mwr mfl mact on cut (nI rn) mlog mlive had mser (nI d) mrd mwt worn pg pla sou fou) := hD
                refine lv_iload_n hx hb d_M_makeRoom_99 rfl (lv_at hl 2 rfl) ?_
                refine lv_iconst (v := nI 1) hx hb d_M_makeRoom_100 (by decide) ?_
                refine lv_icmp_gt (tgt := 116) hx hb d_M_makeRoom_101 (by decide) (fun c101 => ?_) (fun c101 => ?_)
                ·
                  have c101 := cd_gt_t (by omega) (by omega) c101
                  refine lv_iconst (v := nI 0) hx hb d_M_makeRoom_116 (by decide) ?_
                  refine lv_goto (tgt := 122) hx hb d_M_makeRoom_117 (by decide) ?_
                  exact W.iret (v := nI 0) hx hb hr (fun t ht hW => ⟨⟨nI 0, (fun i => [mlive, mw, mwr, pg].getD i (fun _ => 0), fun i => [mser, nI d, mrd, mwt, worn, cut, on].getD i 0, fun i => [rn].getD i 0), rfl, by first | exact ⟨Or.inr (Or.inl rfl), hmi⟩ | exact ⟨Or.inr (Or.inr rfl), hmi⟩ | exact ⟨Or.inl ⟨rfl, rfl, c, hhc, rfl, j24, hj24, hf24⟩, hmi⟩ | exact ⟨Or.inl ⟨rfl, er110, d, hd, ec110, jj110, hjj110, hfp110⟩, hmi⟩ | exact ⟨Or.inl ⟨rfl, rfl, d, hd, rfl, 0, by decide, hcd 0 (by decide)⟩, hmi.cur (PG.of hd)⟩ | exact ⟨Or.inl ⟨rfl, er139, v86, hv86, rfl, 0, by decide, fp_er hi139 (by decide)⟩, (MI.eq hmi er139 el139 ec139).cur (PG.of hv86)⟩, ⟨by rw [ht]; exact hP, va_K.moved hW.alike hK, hD⟩⟩, hS.F ht⟩) hS.2.2 d_M_makeRoom_122
                ·
                  have c101 := cd_gt_f (by omega) (by omega) c101
                  refine lv_iload_n hx hb d_M_makeRoom_104 rfl (lv_at hl 0 rfl) ?_
                  refine lv_if_lt (tgt := 116) hx hb d_M_makeRoom_105 (by decide) (fun c105 => ?_) (fun c105 => ?_)
                  ·
                    exact (cz_lt_t (by omega) c105).elim
                  ·
                    have c105 := cz_lt_f (by omega) c105
                    refine lv_aload_n hx hb d_M_makeRoom_108 rfl (lv_at hl 1 rfl) ?_
                    refine lv_iload_n hx hb d_M_makeRoom_109 rfl (lv_at hl 0 rfl) ?_
                    have hSz := hS.1
                    refine va_calli (va_runV (C := R_M) (As := [.int (nI v86)]) (rest := []) ⟨hx, hb, hml, hown, hts⟩ (c_M_move l dC dI am cm H.size th mw mwr mfl mact on cut (nI rn) mlog mlive had mser (nI d) mrd mwt worn pg pla sou fou rn d v86 (by first | omega | rfl | assumption | decide) (by first | omega | rfl | assumption | decide) (by first | omega | rfl | assumption | decide) (by first | omega | rfl | assumption | decide) (hmi.cur (PG.of hd))) (cwV 1 hts (g_V t_840 t_842 s_33 t_6 t_843) rfl rfl rfl (by decide +kernel) ⟨by decide, by decide⟩) (xP_v hP hK hD hN 0 rfl rfl) rfl rfl hl.1 rfl (lv_room (Nat.le_of_ble_eq_true rfl)) d_M_makeRoom_110 ⟨Nat.le_refl _, Nat.le_refl _⟩) hS (fun q _ h => xA_up hS.1 q h) (fun q h => xA_up hS.1 q h) (fun r110 u110 t H1 locs1 ht hvm q110 hB hz1 hk1 hS => ?_)
                    obtain ⟨hP1, hK1, hD1⟩ := hB
                    rw [ht] at hP1
                    have hD : va_D (xA 9 am s.heap.size) (mw_ am cm th (u110.1 1) (u110.1 2) mfl mact (u110.2.1 6) (u110.2.1 5) (nI (u110.2.2 0)) mlog (u110.1 0) had (u110.2.1 0) (u110.2.1 1) (u110.2.1 2) (u110.2.1 3) (u110.2.1 4) (u110.1 3) pla sou fou) := hD1.weaken (fun _ q _ h => xA_up hSz _ h)
                    have hP : va_P (dC, dI) vwCl (mw_ am cm th (u110.1 1) (u110.1 2) mfl mact (u110.2.1 6) (u110.2.1 5) (nI (u110.2.2 0)) mlog (u110.1 0) had (u110.2.1 0) (u110.2.1 1) (u110.2.1 2) (u110.2.1 3) (u110.2.1 4) (u110.1 3) pla sou fou) H1 := hP1
                    generalize H1 = H at hP hS ⊢
                    generalize locs1 = locs at hS ⊢
                    rcases q110 with ⟨rfl, er110, ec110, ⟨jj110, hjj110, hfp110⟩, hmi⟩ | ⟨rfl, hmi⟩
                    ·
                      refine lv_if_eq (tgt := 120) hx hb d_M_makeRoom_113 (by decide) (fun c113 => ?_) (fun c113 => ?_)
                      ·
                        exact absurd c113 (by decide)
                      ·
                        refine lv_iconst (v := nI 0) hx hb d_M_makeRoom_116 (by decide) ?_
                        refine lv_goto (tgt := 122) hx hb d_M_makeRoom_117 (by decide) ?_
                        exact W.iret (v := nI 0) hx hb hr (fun t ht hW => ⟨⟨nI 0, (fun i => [u110.1 0, u110.1 1, u110.1 2, u110.1 3].getD i (fun _ => 0), fun i => [u110.2.1 0, u110.2.1 1, u110.2.1 2, u110.2.1 3, u110.2.1 4, u110.2.1 5, u110.2.1 6].getD i 0, fun i => [u110.2.2 0].getD i 0), rfl, by first | exact ⟨Or.inr (Or.inl rfl), hmi⟩ | exact ⟨Or.inr (Or.inr rfl), hmi⟩ | exact ⟨Or.inl ⟨rfl, rfl, c, hhc, rfl, j24, hj24, hf24⟩, hmi⟩ | exact ⟨Or.inl ⟨rfl, er110, d, hd, ec110, jj110, hjj110, hfp110⟩, hmi⟩ | exact ⟨Or.inl ⟨rfl, rfl, d, hd, rfl, 0, by decide, hcd 0 (by decide)⟩, hmi.cur (PG.of hd)⟩ | exact ⟨Or.inl ⟨rfl, er139, v86, hv86, rfl, 0, by decide, fp_er hi139 (by decide)⟩, (MI.eq hmi er139 el139 ec139).cur (PG.of hv86)⟩, ⟨by rw [ht]; exact hP, va_K.moved hW.alike hK, hD⟩⟩, hS.F ht⟩) hS.2.2 d_M_makeRoom_122
                    ·
                      refine lv_if_eq (tgt := 120) hx hb d_M_makeRoom_113 (by decide) (fun c113 => ?_) (fun c113 => ?_)
                      ·
                        refine lv_bipush (v := (-2)) hx hb d_M_makeRoom_120 (by decide) ?_
                        exact W.iret (v := (-2)) hx hb hr (fun t ht hW => ⟨⟨(-2), (fun i => [u110.1 0, u110.1 1, u110.1 2, u110.1 3].getD i (fun _ => 0), fun i => [u110.2.1 0, u110.2.1 1, u110.2.1 2, u110.2.1 3, u110.2.1 4, u110.2.1 5, u110.2.1 6].getD i 0, fun i => [u110.2.2 0].getD i 0), rfl, by first | exact ⟨Or.inr (Or.inl rfl), hmi⟩ | exact ⟨Or.inr (Or.inr rfl), hmi⟩ | exact ⟨Or.inl ⟨rfl, rfl, c, hhc, rfl, j24, hj24, hf24⟩, hmi⟩ | exact ⟨Or.inl ⟨rfl, er110, d, hd, ec110, jj110, hjj110, hfp110⟩, hmi⟩ | exact ⟨Or.inl ⟨rfl, rfl, d, hd, rfl, 0, by decide, hcd 0 (by decide)⟩, hmi.cur (PG.of hd)⟩ | exact ⟨Or.inl ⟨rfl, er139, v86, hv86, rfl, 0, by decide, fp_er hi139 (by decide)⟩, (MI.eq hmi er139 el139 ec139).cur (PG.of hv86)⟩, ⟨by rw [ht]; exact hP, va_K.moved hW.alike hK, hD⟩⟩, hS.F ht⟩) hS.2.2 d_M_makeRoom_122
                      ·
                        exact absurd c113 (by decide)
          ·
            have c41 := cd_ge_f (by omega) (by omega) c41
            refine lv_aload_n hx hb d_M_makeRoom_44 rfl (lv_at hl 0 rfl) ?_
            refine lv_iload_n hx hb d_M_makeRoom_45 rfl (lv_at hl 3 rfl) ?_
            refine vp_callSi (va_runV (C := R_M) (As := [.int (nI k)]) (rest := []) ⟨hx, hb, hml, hown, hts⟩ (c_M_isClean l dC dI am cm th mw mwr mfl mact on cut (nI rn) mlog mlive had mser (-1) mrd mwt worn pg pla sou fou k (by first | omega | rfl | assumption | decide)) (cwV 1 hts (g_V t_824 t_826 s_29 t_6 t_827) rfl rfl rfl (by decide +kernel) ⟨by decide, by decide⟩) (xR_v hP hK hN 0 rfl rfl) rfl rfl hl.1 rfl (lv_room (Nat.le_of_ble_eq_true rfl)) d_M_makeRoom_46 ⟨Nat.le_refl _, Nat.le_refl _⟩).run (fun r46 q46 => ?_)
            rcases q46 with ⟨rfl, hcl46⟩ | rfl
            ·
              refine lv_if_ne (tgt := 55) hx hb d_M_makeRoom_49 (by decide) (fun c49 => ?_) (fun c49 => ?_)
              ·
                refine lv_iinc (k := 1) (v := nI (mm + 1)) hx hb d_M_makeRoom_55 hl rfl (nI_1 _) (by decide) rfl (fun ls hl => ?_)
                have hl : lv_has ls 4 [(1, .int (nI (mm + 1))), (0, .ref (am 0)), (2, .int bv), (3, .int (nI k))] := hl
                rcases hbv with rfl | ⟨d1, hd1, rfl, hcc⟩
                ·
                  refine lv_iload_n hx hb d_M_makeRoom_58 rfl (lv_at hl 2 rfl) ?_
                  refine lv_if_lt (tgt := 77) hx hb d_M_makeRoom_59 (by decide) (fun c59 => ?_) (fun c59 => ?_)
                  ·
                    refine lv_iload_n hx hb d_M_makeRoom_77 rfl (lv_at hl 3 rfl) ?_
                    refine lv_istore_n hx hb d_M_makeRoom_78 rfl hl (by decide) rfl (fun ls hl => ?_)
                    have hl : lv_has ls 4 [(2, .int (nI k)), (1, .int (nI (mm + 1))), (0, .ref (am 0)), (3, .int (nI k))] := hl
                    refine lv_iinc (k := 3) (v := nI (k + 1)) hx hb d_M_makeRoom_79 hl rfl (nI_1 _) (by decide) rfl (fun ls hl => ?_)
                    have hl : lv_has ls 4 [(3, .int (nI (k + 1))), (2, .int (nI k)), (1, .int (nI (mm + 1))), (0, .ref (am 0))] := hl
                    refine lv_goto (tgt := 38) hx hb d_M_makeRoom_82 (by decide) ?_
                    exact ih38 (k + 1) (mm + 1) (nI k) ls (by omega) (by omega) (by omega) (Or.inr ⟨k, by omega, rfl, hcl46⟩) (fun _ => nm_ne (by omega) (by decide)) (lv_sub hl [3, 2, 1, 0] rfl)
                  ·
                    exact absurd c59 (by decide)
                ·
                  refine lv_iload_n hx hb d_M_makeRoom_58 rfl (lv_at hl 2 rfl) ?_
                  refine lv_if_lt (tgt := 77) hx hb d_M_makeRoom_59 (by decide) (fun c59 => ?_) (fun c59 => ?_)
                  ·
                    exact (cz_lt_t (by omega) c59).elim
                  ·
                    have c59 := cz_lt_f (by omega) c59
                    refine lv_aload_n hx hb d_M_makeRoom_62 rfl (lv_at hl 1 rfl) ?_
                    refine va_get (D := (dC, dI)) (ci := 5) (v := .ref (am 2)) (C := R_M) (T := F_M) (N := 20) hx hb hts (fun w h => List.mem_cons_of_mem _ (in_M w h)) hown hK hP 0 rfl rfl 2 (by decide) (hts (.fieldLink R_M 13 R_M "wear" "[I") (List.mem_cons_of_mem _ t_714)) (fun _ h9 => h9) rfl d_M_makeRoom_63 ?_
                    refine lv_iload_n hx hb d_M_makeRoom_66 rfl (lv_at hl 3 rfl) ?_
                    refine va_iald hx hb hK hP 2 1 rfl rfl (vp_in_nI (by omega) (by decide)) d_M_makeRoom_67 ?_
                    refine tp_i (y := mwr k) (by rw [nI_clamp (by omega)]) ?_
                    refine lv_aload_n hx hb d_M_makeRoom_68 rfl (lv_at hl 1 rfl) ?_
                    refine va_get (D := (dC, dI)) (ci := 5) (v := .ref (am 2)) (C := R_M) (T := F_M) (N := 20) hx hb hts (fun w h => List.mem_cons_of_mem _ (in_M w h)) hown hK hP 0 rfl rfl 2 (by decide) (hts (.fieldLink R_M 13 R_M "wear" "[I") (List.mem_cons_of_mem _ t_714)) (fun _ h9 => h9) rfl d_M_makeRoom_69 ?_
                    refine lv_iload_n hx hb d_M_makeRoom_72 rfl (lv_at hl 2 rfl) ?_
                    refine va_iald hx hb hK hP 2 1 rfl rfl (vp_in_nI (by omega) (by decide)) d_M_makeRoom_73 ?_
                    refine tp_i (y := mwr d1) (by rw [nI_clamp (by omega)]) ?_
                    refine lv_icmp_ge (tgt := 79) hx hb d_M_makeRoom_74 (by decide) (fun c74 => ?_) (fun c74 => ?_)
                    ·
                      refine lv_iinc (k := 3) (v := nI (k + 1)) hx hb d_M_makeRoom_79 hl rfl (nI_1 _) (by decide) rfl (fun ls hl => ?_)
                      have hl : lv_has ls 4 [(3, .int (nI (k + 1))), (1, .int (nI (mm + 1))), (0, .ref (am 0)), (2, .int (nI d1))] := hl
                      refine lv_goto (tgt := 38) hx hb d_M_makeRoom_82 (by decide) ?_
                      exact ih38 (k + 1) (mm + 1) (nI d1) ls (by omega) (by omega) (by omega) (Or.inr ⟨d1, hd1, rfl, hcc⟩) (fun _ => nm_ne (by omega) (by decide)) (lv_sub hl [2, 1, 3, 0] rfl)
                    ·
                      refine lv_iload_n hx hb d_M_makeRoom_77 rfl (lv_at hl 3 rfl) ?_
                      refine lv_istore_n hx hb d_M_makeRoom_78 rfl hl (by decide) rfl (fun ls hl => ?_)
                      have hl : lv_has ls 4 [(2, .int (nI k)), (1, .int (nI (mm + 1))), (0, .ref (am 0)), (3, .int (nI k))] := hl
                      refine lv_iinc (k := 3) (v := nI (k + 1)) hx hb d_M_makeRoom_79 hl rfl (nI_1 _) (by decide) rfl (fun ls hl => ?_)
                      have hl : lv_has ls 4 [(3, .int (nI (k + 1))), (2, .int (nI k)), (1, .int (nI (mm + 1))), (0, .ref (am 0))] := hl
                      refine lv_goto (tgt := 38) hx hb d_M_makeRoom_82 (by decide) ?_
                      exact ih38 (k + 1) (mm + 1) (nI k) ls (by omega) (by omega) (by omega) (Or.inr ⟨k, by omega, rfl, hcl46⟩) (fun _ => nm_ne (by omega) (by decide)) (lv_sub hl [3, 2, 1, 0] rfl)
              ·
                exact absurd c49 (by decide)
            ·
              refine lv_if_ne (tgt := 55) hx hb d_M_makeRoom_49 (by decide) (fun c49 => ?_) (fun c49 => ?_)
              ·
                exact absurd c49 (by decide)
              ·
                refine lv_goto (tgt := 79) hx hb d_M_makeRoom_52 (by decide) ?_
                refine lv_iinc (k := 3) (v := nI (k + 1)) hx hb d_M_makeRoom_79 hl rfl (nI_1 _) (by decide) rfl (fun ls hl => ?_)
                have hl : lv_has ls 4 [(3, .int (nI (k + 1))), (0, .ref (am 0)), (1, .int (nI mm)), (2, .int bv)] := hl
                refine lv_goto (tgt := 38) hx hb d_M_makeRoom_82 (by decide) ?_
                exact ih38 (k + 1) mm bv ls (by omega) (by omega) (by omega) hbv hmb (lv_sub hl [1, 2, 3, 0] rfl)
      exact lp38 _ 0 0 (-1) ls (Nat.lt_succ_self _) (by omega) (by omega) (Or.inl rfl) (fun h => absurd h (by omega)) (lv_sub hl [3, 2, 1, 0] rfl)
    ·
      exact absurd c4 (by decide)
  ·
    refine lv_aload_n hx hb d_M_makeRoom_0 rfl (lv_at hl 0 rfl) ?_
    refine va_get (D := (dC, dI)) (ci := 5) (v := .int (nI c)) (C := R_M) (T := F_M) (N := 20) hx hb hts (fun w h => List.mem_cons_of_mem _ (in_M w h)) hown hK hP 0 rfl rfl 12 (by decide) (hts (.fieldLink R_M 40 R_M "cursor" "I") (List.mem_cons_of_mem _ t_724)) (fun _ h9 => h9) rfl d_M_makeRoom_1 ?_
    refine lv_if_lt (tgt := 32) hx hb d_M_makeRoom_4 (by decide) (fun c4 => ?_) (fun c4 => ?_)
    ·
      exact (cz_lt_t (by omega) c4).elim
    ·
      have c4 := cz_lt_f (by omega) c4
      refine lv_aload_n hx hb d_M_makeRoom_7 rfl (lv_at hl 0 rfl) ?_
      refine va_get (D := (dC, dI)) (ci := 5) (v := .ref (am 3)) (C := R_M) (T := F_M) (N := 20) hx hb hts (fun w h => List.mem_cons_of_mem _ (in_M w h)) hown hK hP 0 rfl rfl 3 (by decide) (hts (.fieldLink R_M 16 R_M "failed" "[Z") (List.mem_cons_of_mem _ t_715)) (fun _ h9 => h9) rfl d_M_makeRoom_8 ?_
      refine lv_aload_n hx hb d_M_makeRoom_11 rfl (lv_at hl 0 rfl) ?_
      refine va_get (D := (dC, dI)) (ci := 5) (v := .int (nI c)) (C := R_M) (T := F_M) (N := 20) hx hb hts (fun w h => List.mem_cons_of_mem _ (in_M w h)) hown hK hP 0 rfl rfl 12 (by decide) (hts (.fieldLink R_M 40 R_M "cursor" "I") (List.mem_cons_of_mem _ t_724)) (fun _ h9 => h9) rfl d_M_makeRoom_12 ?_
      refine va_zald hx hb hK hP 3 2 rfl rfl (vp_in_nI (by omega) (by decide)) d_M_makeRoom_15 ?_
      refine tp_i (y := mfl c) (by rw [nI_clamp (by omega)]) ?_
      refine lv_if_ne (tgt := 32) hx hb d_M_makeRoom_16 (by decide) (fun c16 => ?_) (fun c16 => ?_)
      ·
        refine lv_iconst (v := nI 0) hx hb d_M_makeRoom_32 (by decide) ?_
        refine lv_istore_n hx hb d_M_makeRoom_33 rfl hl (by decide) rfl (fun ls hl => ?_)
        have hl : lv_has ls 4 [(1, .int (nI 0)), (0, .ref (am 0))] := hl
        refine lv_iconst (v := (-1)) hx hb d_M_makeRoom_34 (by decide) ?_
        refine lv_istore_n hx hb d_M_makeRoom_35 rfl hl (by decide) rfl (fun ls hl => ?_)
        have hl : lv_has ls 4 [(2, .int (-1)), (1, .int (nI 0)), (0, .ref (am 0))] := hl
        refine lv_iconst (v := nI 0) hx hb d_M_makeRoom_36 (by decide) ?_
        refine lv_istore_n hx hb d_M_makeRoom_37 rfl hl (by decide) rfl (fun ls hl => ?_)
        have hl : lv_has ls 4 [(3, .int (nI 0)), (2, .int (-1)), (1, .int (nI 0)), (0, .ref (am 0))] := hl
        have lp38 : ∀ (n : Nat) (k : Nat) (mm : Nat) (bv : Int32) (ls : Array Slot), (8 - k) < n → (k ≤ 8) → (mm ≤ k) → (CB mw bv) → (0 < mm → bv ≠ -1) → lv_has ls 4 [(0, .ref (am 0)), (1, .int (nI mm)), (2, .int bv), (3, .int (nI k))] → W P l e (headSpec w_M_makeRoom ({ frames := 5, cells := 0, slots := 0, locals := 108 })).room s m (([.ref (am 0)] : List Value).toArray) below meth c0 s.heap [] 0 0 (MQ below (va_Qi (fun r (u : (Nat → Nat → Int32) × (Nat → Int32) × (Nat → Nat)) => ((r = nI 0 ∧ (u.2.2 0) = rn ∧ ∃ c, c < 8 ∧ (u.2.1 1) = nI c ∧ ∃ j, j < 4 ∧ fp (u.1 1) (4 * c + j)) ∨ (r = -1 ∨ r = -2)) ∧ MI (u.2.2 0) (u.1 0) (u.2.1 1)) (fun (u : (Nat → Nat → Int32) × (Nat → Int32) × (Nat → Nat)) (t : State) => xB (dC, dI) vwCl (mt cm) (xA 9 am s.heap.size) (mw_ am cm th (u.1 1) (u.1 2) mfl mact (u.2.1 6) (u.2.1 5) (nI (u.2.2 0)) mlog (u.1 0) had (u.2.1 0) (u.2.1 1) (u.2.1 2) (u.2.1 3) (u.2.1 4) (u.1 3) pla sou fou) t) (xA 9 am s.heap.size)) (([.ref (am 0)] : List Value).toArray) s 0 0 (xA 9 am s.heap.size)) (F0 m 38 ls []) := by
          intro n
          induction n with
          | zero => intro k mm bv ls hm; intros; omega
          | succ n ih38 =>
            intro k mm bv ls hm hk hmk hbv hmb hl
            refine lv_iload_n hx hb d_M_makeRoom_38 rfl (lv_at hl 3 rfl) ?_
            refine lv_bipush (v := nI 8) hx hb d_M_makeRoom_39 (by decide) ?_
            refine lv_icmp_ge (tgt := 85) hx hb d_M_makeRoom_41 (by decide) (fun c41 => ?_) (fun c41 => ?_)
            ·
              have c41 := cd_ge_t (by omega) (by omega) c41
              refine lv_aload_n hx hb d_M_makeRoom_85 rfl (lv_at hl 0 rfl) ?_
              refine vp_callSi (va_runV (C := R_M) (As := []) (rest := []) ⟨hx, hb, hml, hown, hts⟩ (c_M_victim l dC dI am cm th mw mwr mfl mact on cut (nI rn) mlog mlive had mser (nI c) mrd mwt worn pg pla sou fou  ) (cwV 0 hts (g_V t_828 t_830 s_30 t_6 t_831) rfl rfl rfl (by decide +kernel) ⟨by decide, by decide⟩) (xR_v hP hK hN 0 rfl rfl) rfl rfl hl.1 rfl (lv_room (Nat.le_of_ble_eq_true rfl)) d_M_makeRoom_86 ⟨Nat.le_refl _, Nat.le_refl _⟩).run (fun r86 q86 => ?_)
              rcases q86 with rfl | ⟨v86, hv86, rfl, hst86⟩
              ·
                refine lv_istore_n hx hb d_M_makeRoom_89 rfl hl (by decide) rfl (fun ls hl => ?_)
                have hl : lv_has ls 4 [(3, .int (-1)), (0, .ref (am 0)), (1, .int (nI mm)), (2, .int bv)] := hl
                refine lv_iload_n hx hb d_M_makeRoom_90 rfl (lv_at hl 2 rfl) ?_
                refine lv_if_le (tgt := 123) hx hb d_M_makeRoom_91 (by decide) (fun c91 => ?_) (fun c91 => ?_)
                ·
                  have c91 := cz_le_t (by omega) c91
                  refine lv_iload_n hx hb d_M_makeRoom_123 rfl (lv_at hl 0 rfl) ?_
                  refine lv_if_lt (tgt := 135) hx hb d_M_makeRoom_124 (by decide) (fun c124 => ?_) (fun c124 => ?_)
                  ·
                    refine lv_iconst (v := (-1)) hx hb d_M_makeRoom_135 (by decide) ?_
                    exact W.iret (v := (-1)) hx hb hr (fun t ht hW => ⟨⟨(-1), (fun i => [mlive, mw, mwr, pg].getD i (fun _ => 0), fun i => [mser, nI c, mrd, mwt, worn, cut, on].getD i 0, fun i => [rn].getD i 0), rfl, by first | exact ⟨Or.inr (Or.inl rfl), hmi⟩ | exact ⟨Or.inr (Or.inr rfl), hmi⟩ | exact ⟨Or.inl ⟨rfl, rfl, c, hhc, rfl, j24, hj24, hf24⟩, hmi⟩ | exact ⟨Or.inl ⟨rfl, er110, d, hd, ec110, jj110, hjj110, hfp110⟩, hmi⟩ | exact ⟨Or.inl ⟨rfl, rfl, d, hd, rfl, 0, by decide, hcd 0 (by decide)⟩, hmi.cur (PG.of hd)⟩ | exact ⟨Or.inl ⟨rfl, er139, v86, hv86, rfl, 0, by decide, fp_er hi139 (by decide)⟩, (MI.eq hmi er139 el139 ec139).cur (PG.of hv86)⟩, ⟨by rw [ht]; exact hP, va_K.moved hW.alike hK, hD⟩⟩, hS.F ht⟩) hS.2.2 d_M_makeRoom_136
                  ·
                    exact absurd c124 (by decide)
                ·
                  have c91 := cz_le_f (by omega) c91
                  obtain ⟨d, hd, rfl, hcd⟩ := hbv.resolve_left (hmb c91)
                  refine lv_aload_n hx hb d_M_makeRoom_94 rfl (lv_at hl 1 rfl) ?_
                  refine lv_iload_n hx hb d_M_makeRoom_95 rfl (lv_at hl 3 rfl) ?_
                  refine va_put (D := (dC, dI)) (ci := 5) (v := .int (nI d)) (ty := .int) (C := R_M) (T := F_M) (N := 20) hx hb hts (fun w h => List.mem_cons_of_mem _ (in_M w h)) t_M ok_M nm_M hown hK hP hD hS 0 rfl rfl 12 (by decide) (hts (.fieldLink R_M 40 R_M "cursor" "I") (List.mem_cons_of_mem _ t_724)) (fun _ h9 => h9) rfl (by decide +kernel) rfl rfl (Nat.le_of_ble_eq_true rfl) d_M_makeRoom_96 (fun H locs hP hD hS => ?_)
                  have hP : va_P (dC, dI) vwCl (mw_ am cm th mw mwr mfl mact on cut (nI rn) mlog mlive had mser (nI d) mrd mwt worn pg pla sou fou) H := hP
                  have hD : va_D (xA 9 am s.heap.size) (mw_ am cm th mw mwr mfl mact on cut (nI rn) mlog mlive had mser (nI d) mrd mwt worn pg pla sou fou) := hD
                  refine lv_iload_n hx hb d_M_makeRoom_99 rfl (lv_at hl 2 rfl) ?_
                  refine lv_iconst (v := nI 1) hx hb d_M_makeRoom_100 (by decide) ?_
                  refine lv_icmp_gt (tgt := 116) hx hb d_M_makeRoom_101 (by decide) (fun c101 => ?_) (fun c101 => ?_)
                  ·
                    have c101 := cd_gt_t (by omega) (by omega) c101
                    refine lv_iconst (v := nI 0) hx hb d_M_makeRoom_116 (by decide) ?_
                    refine lv_goto (tgt := 122) hx hb d_M_makeRoom_117 (by decide) ?_
                    exact W.iret (v := nI 0) hx hb hr (fun t ht hW => ⟨⟨nI 0, (fun i => [mlive, mw, mwr, pg].getD i (fun _ => 0), fun i => [mser, nI d, mrd, mwt, worn, cut, on].getD i 0, fun i => [rn].getD i 0), rfl, by first | exact ⟨Or.inr (Or.inl rfl), hmi⟩ | exact ⟨Or.inr (Or.inr rfl), hmi⟩ | exact ⟨Or.inl ⟨rfl, rfl, c, hhc, rfl, j24, hj24, hf24⟩, hmi⟩ | exact ⟨Or.inl ⟨rfl, er110, d, hd, ec110, jj110, hjj110, hfp110⟩, hmi⟩ | exact ⟨Or.inl ⟨rfl, rfl, d, hd, rfl, 0, by decide, hcd 0 (by decide)⟩, hmi.cur (PG.of hd)⟩ | exact ⟨Or.inl ⟨rfl, er139, v86, hv86, rfl, 0, by decide, fp_er hi139 (by decide)⟩, (MI.eq hmi er139 el139 ec139).cur (PG.of hv86)⟩, ⟨by rw [ht]; exact hP, va_K.moved hW.alike hK, hD⟩⟩, hS.F ht⟩) hS.2.2 d_M_makeRoom_122
                  ·
                    have c101 := cd_gt_f (by omega) (by omega) c101
                    refine lv_iload_n hx hb d_M_makeRoom_104 rfl (lv_at hl 0 rfl) ?_
                    refine lv_if_lt (tgt := 116) hx hb d_M_makeRoom_105 (by decide) (fun c105 => ?_) (fun c105 => ?_)
                    ·
                      refine lv_iconst (v := nI 0) hx hb d_M_makeRoom_116 (by decide) ?_
                      refine lv_goto (tgt := 122) hx hb d_M_makeRoom_117 (by decide) ?_
                      exact W.iret (v := nI 0) hx hb hr (fun t ht hW => ⟨⟨nI 0, (fun i => [mlive, mw, mwr, pg].getD i (fun _ => 0), fun i => [mser, nI d, mrd, mwt, worn, cut, on].getD i 0, fun i => [rn].getD i 0), rfl, by first | exact ⟨Or.inr (Or.inl rfl), hmi⟩ | exact ⟨Or.inr (Or.inr rfl), hmi⟩ | exact ⟨Or.inl ⟨rfl, rfl, c, hhc, rfl, j24, hj24, hf24⟩, hmi⟩ | exact ⟨Or.inl ⟨rfl, er110, d, hd, ec110, jj110, hjj110, hfp110⟩, hmi⟩ | exact ⟨Or.inl ⟨rfl, rfl, d, hd, rfl, 0, by decide, hcd 0 (by decide)⟩, hmi.cur (PG.of hd)⟩ | exact ⟨Or.inl ⟨rfl, er139, v86, hv86, rfl, 0, by decide, fp_er hi139 (by decide)⟩, (MI.eq hmi er139 el139 ec139).cur (PG.of hv86)⟩, ⟨by rw [ht]; exact hP, va_K.moved hW.alike hK, hD⟩⟩, hS.F ht⟩) hS.2.2 d_M_makeRoom_122
                    ·
                      exact absurd c105 (by decide)
              ·
                refine lv_istore_n hx hb d_M_makeRoom_89 rfl hl (by decide) rfl (fun ls hl => ?_)
                have hl : lv_has ls 4 [(3, .int (nI v86)), (0, .ref (am 0)), (1, .int (nI mm)), (2, .int bv)] := hl
                refine lv_iload_n hx hb d_M_makeRoom_90 rfl (lv_at hl 2 rfl) ?_
                refine lv_if_le (tgt := 123) hx hb d_M_makeRoom_91 (by decide) (fun c91 => ?_) (fun c91 => ?_)
                ·
                  have c91 := cz_le_t (by omega) c91
                  refine lv_iload_n hx hb d_M_makeRoom_123 rfl (lv_at hl 0 rfl) ?_
                  refine lv_if_lt (tgt := 135) hx hb d_M_makeRoom_124 (by decide) (fun c124 => ?_) (fun c124 => ?_)
                  ·
                    exact (cz_lt_t (by omega) c124).elim
                  ·
                    have c124 := cz_lt_f (by omega) c124
                    refine lv_aload_n hx hb d_M_makeRoom_127 rfl (lv_at hl 1 rfl) ?_
                    refine lv_iload_n hx hb d_M_makeRoom_128 rfl (lv_at hl 0 rfl) ?_
                    refine vp_callSi (va_runV (C := R_M) (As := [.int (nI v86)]) (rest := []) ⟨hx, hb, hml, hown, hts⟩ (c_M_livesOf l dC dI am cm th mw mwr mfl mact on cut (nI rn) mlog mlive had mser (nI c) mrd mwt worn pg pla sou fou v86 (by first | omega | rfl | assumption | decide)) (cwV 1 hts (g_V t_861 t_863 s_38 t_6 t_864) rfl rfl rfl (by decide +kernel) ⟨by decide, by decide⟩) (xR_v hP hK hN 0 rfl rfl) rfl rfl hl.1 rfl (lv_room (Nat.le_of_ble_eq_true rfl)) d_M_makeRoom_129 ⟨Nat.le_refl _, Nat.le_refl _⟩).run (fun r129 q129 => ?_)
                    have hk129 := q129
                    refine lv_if_le (tgt := 137) hx hb d_M_makeRoom_132 (by decide) (fun c132 => ?_) (fun c132 => ?_)
                    ·
                      refine lv_aload_n hx hb d_M_makeRoom_137 rfl (lv_at hl 1 rfl) ?_
                      refine lv_iload_n hx hb d_M_makeRoom_138 rfl (lv_at hl 0 rfl) ?_
                      have hSz := hS.1
                      refine va_calli (va_runV (C := R_M) (As := [.int (nI v86)]) (rest := []) ⟨hx, hb, hml, hown, hts⟩ (c_M_erase l dC dI am cm s.heap.size th mw mwr mfl mact on cut (nI rn) mlog mlive had mser (nI c) mrd mwt worn pg pla sou fou rn v86 (by first | omega | rfl | assumption | decide)) (cwV 1 hts (g_V t_857 t_859 s_37 t_6 t_860) rfl rfl rfl (by decide +kernel) ⟨by decide, by decide⟩) (xP_v hP hK hD hN 0 rfl rfl) rfl rfl hl.1 rfl (lv_room (Nat.le_of_ble_eq_true rfl)) d_M_makeRoom_139 ⟨Nat.le_refl _, Nat.le_refl _⟩) hS (fun q _ h => xA_up hS.1 q h) (fun q h => xA_up hS.1 q h) (fun r139 u139 t H1 locs1 ht hvm q139 hB hz1 hk1 hS => ?_)
                      obtain ⟨hP1, hK1, hD1⟩ := hB
                      rw [ht] at hP1
                      have hD : va_D (xA 9 am s.heap.size) (mw_ am cm th (u139.1 1) (u139.1 2) mfl mact (u139.2.1 6) (u139.2.1 5) (nI (u139.2.2 0)) mlog (u139.1 0) had (u139.2.1 0) (u139.2.1 1) (u139.2.1 2) (u139.2.1 3) (u139.2.1 4) pg pla sou fou) := hD1.weaken (fun _ q _ h => xA_up hSz _ h)
                      have hP : va_P (dC, dI) vwCl (mw_ am cm th (u139.1 1) (u139.1 2) mfl mact (u139.2.1 6) (u139.2.1 5) (nI (u139.2.2 0)) mlog (u139.1 0) had (u139.2.1 0) (u139.2.1 1) (u139.2.1 2) (u139.2.1 3) (u139.2.1 4) pg pla sou fou) H1 := hP1
                      generalize H1 = H at hP hS ⊢
                      generalize locs1 = locs at hS ⊢
                      rcases q139 with ⟨rfl, er139, el139, ec139, ho139, hi139⟩ | ⟨rfl, hmi⟩
                      ·
                        refine lv_if_ne (tgt := 148) hx hb d_M_makeRoom_142 (by decide) (fun c142 => ?_) (fun c142 => ?_)
                        ·
                          refine lv_aload_n hx hb d_M_makeRoom_148 rfl (lv_at hl 1 rfl) ?_
                          refine lv_iload_n hx hb d_M_makeRoom_149 rfl (lv_at hl 0 rfl) ?_
                          refine va_put (D := (dC, dI)) (ci := 5) (v := .int (nI v86)) (ty := .int) (C := R_M) (T := F_M) (N := 20) hx hb hts (fun w h => List.mem_cons_of_mem _ (in_M w h)) t_M ok_M nm_M hown hK hP hD hS 0 rfl rfl 12 (by decide) (hts (.fieldLink R_M 40 R_M "cursor" "I") (List.mem_cons_of_mem _ t_724)) (fun _ h9 => h9) rfl (by decide +kernel) rfl rfl (Nat.le_of_ble_eq_true rfl) d_M_makeRoom_150 (fun H locs hP hD hS => ?_)
                          have hP : va_P (dC, dI) vwCl (mw_ am cm th (u139.1 1) (u139.1 2) mfl mact (u139.2.1 6) (u139.2.1 5) (nI (u139.2.2 0)) mlog (u139.1 0) had (u139.2.1 0) (nI v86) (u139.2.1 2) (u139.2.1 3) (u139.2.1 4) pg pla sou fou) H := hP
                          have hD : va_D (xA 9 am s.heap.size) (mw_ am cm th (u139.1 1) (u139.1 2) mfl mact (u139.2.1 6) (u139.2.1 5) (nI (u139.2.2 0)) mlog (u139.1 0) had (u139.2.1 0) (nI v86) (u139.2.1 2) (u139.2.1 3) (u139.2.1 4) pg pla sou fou) := hD
                          refine lv_iconst (v := nI 0) hx hb d_M_makeRoom_153 (by decide) ?_
                          exact W.iret (v := nI 0) hx hb hr (fun t ht hW => ⟨⟨nI 0, (fun i => [u139.1 0, u139.1 1, u139.1 2, pg].getD i (fun _ => 0), fun i => [u139.2.1 0, nI v86, u139.2.1 2, u139.2.1 3, u139.2.1 4, u139.2.1 5, u139.2.1 6].getD i 0, fun i => [u139.2.2 0].getD i 0), rfl, by first | exact ⟨Or.inr (Or.inl rfl), hmi⟩ | exact ⟨Or.inr (Or.inr rfl), hmi⟩ | exact ⟨Or.inl ⟨rfl, rfl, c, hhc, rfl, j24, hj24, hf24⟩, hmi⟩ | exact ⟨Or.inl ⟨rfl, er110, d, hd, ec110, jj110, hjj110, hfp110⟩, hmi⟩ | exact ⟨Or.inl ⟨rfl, rfl, d, hd, rfl, 0, by decide, hcd 0 (by decide)⟩, hmi.cur (PG.of hd)⟩ | exact ⟨Or.inl ⟨rfl, er139, v86, hv86, rfl, 0, by decide, fp_er hi139 (by decide)⟩, (MI.eq hmi er139 el139 ec139).cur (PG.of hv86)⟩, ⟨by rw [ht]; exact hP, va_K.moved hW.alike hK, hD⟩⟩, hS.F ht⟩) hS.2.2 d_M_makeRoom_154
                        ·
                          exact absurd c142 (by decide)
                      ·
                        refine lv_if_ne (tgt := 148) hx hb d_M_makeRoom_142 (by decide) (fun c142 => ?_) (fun c142 => ?_)
                        ·
                          exact absurd c142 (by decide)
                        ·
                          refine lv_bipush (v := (-2)) hx hb d_M_makeRoom_145 (by decide) ?_
                          exact W.iret (v := (-2)) hx hb hr (fun t ht hW => ⟨⟨(-2), (fun i => [u139.1 0, u139.1 1, u139.1 2, pg].getD i (fun _ => 0), fun i => [u139.2.1 0, u139.2.1 1, u139.2.1 2, u139.2.1 3, u139.2.1 4, u139.2.1 5, u139.2.1 6].getD i 0, fun i => [u139.2.2 0].getD i 0), rfl, by first | exact ⟨Or.inr (Or.inl rfl), hmi⟩ | exact ⟨Or.inr (Or.inr rfl), hmi⟩ | exact ⟨Or.inl ⟨rfl, rfl, c, hhc, rfl, j24, hj24, hf24⟩, hmi⟩ | exact ⟨Or.inl ⟨rfl, er110, d, hd, ec110, jj110, hjj110, hfp110⟩, hmi⟩ | exact ⟨Or.inl ⟨rfl, rfl, d, hd, rfl, 0, by decide, hcd 0 (by decide)⟩, hmi.cur (PG.of hd)⟩ | exact ⟨Or.inl ⟨rfl, er139, v86, hv86, rfl, 0, by decide, fp_er hi139 (by decide)⟩, (MI.eq hmi er139 el139 ec139).cur (PG.of hv86)⟩, ⟨by rw [ht]; exact hP, va_K.moved hW.alike hK, hD⟩⟩, hS.F ht⟩) hS.2.2 d_M_makeRoom_147
                    ·
                      refine lv_iconst (v := (-1)) hx hb d_M_makeRoom_135 (by decide) ?_
                      exact W.iret (v := (-1)) hx hb hr (fun t ht hW => ⟨⟨(-1), (fun i => [mlive, mw, mwr, pg].getD i (fun _ => 0), fun i => [mser, nI c, mrd, mwt, worn, cut, on].getD i 0, fun i => [rn].getD i 0), rfl, by first | exact ⟨Or.inr (Or.inl rfl), hmi⟩ | exact ⟨Or.inr (Or.inr rfl), hmi⟩ | exact ⟨Or.inl ⟨rfl, rfl, c, hhc, rfl, j24, hj24, hf24⟩, hmi⟩ | exact ⟨Or.inl ⟨rfl, er110, d, hd, ec110, jj110, hjj110, hfp110⟩, hmi⟩ | exact ⟨Or.inl ⟨rfl, rfl, d, hd, rfl, 0, by decide, hcd 0 (by decide)⟩, hmi.cur (PG.of hd)⟩ | exact ⟨Or.inl ⟨rfl, er139, v86, hv86, rfl, 0, by decide, fp_er hi139 (by decide)⟩, (MI.eq hmi er139 el139 ec139).cur (PG.of hv86)⟩, ⟨by rw [ht]; exact hP, va_K.moved hW.alike hK, hD⟩⟩, hS.F ht⟩) hS.2.2 d_M_makeRoom_136
                ·
                  have c91 := cz_le_f (by omega) c91
                  obtain ⟨d, hd, rfl, hcd⟩ := hbv.resolve_left (hmb c91)
                  refine lv_aload_n hx hb d_M_makeRoom_94 rfl (lv_at hl 1 rfl) ?_
                  refine lv_iload_n hx hb d_M_makeRoom_95 rfl (lv_at hl 3 rfl) ?_
                  refine va_put (D := (dC, dI)) (ci := 5) (v := .int (nI d)) (ty := .int) (C := R_M) (T := F_M) (N := 20) hx hb hts (fun w h => List.mem_cons_of_mem _ (in_M w h)) t_M ok_M nm_M hown hK hP hD hS 0 rfl rfl 12 (by decide) (hts (.fieldLink R_M 40 R_M "cursor" "I") (List.mem_cons_of_mem _ t_724)) (fun _ h9 => h9) rfl (by decide +kernel) rfl rfl (Nat.le_of_ble_eq_true rfl) d_M_makeRoom_96 (fun H locs hP hD hS => ?_)
                  have hP : va_P (dC, dI) vwCl (mw_ am cm th mw mwr mfl mact on cut (nI rn) mlog mlive had mser (nI d) mrd mwt worn pg pla sou fou) H := hP
                  have hD : va_D (xA 9 am s.heap.size) (mw_ am cm th mw mwr mfl mact on cut (nI rn) mlog mlive had mser (nI d) mrd mwt worn pg pla sou fou) := hD
                  refine lv_iload_n hx hb d_M_makeRoom_99 rfl (lv_at hl 2 rfl) ?_
                  refine lv_iconst (v := nI 1) hx hb d_M_makeRoom_100 (by decide) ?_
                  refine lv_icmp_gt (tgt := 116) hx hb d_M_makeRoom_101 (by decide) (fun c101 => ?_) (fun c101 => ?_)
                  ·
                    have c101 := cd_gt_t (by omega) (by omega) c101
                    refine lv_iconst (v := nI 0) hx hb d_M_makeRoom_116 (by decide) ?_
                    refine lv_goto (tgt := 122) hx hb d_M_makeRoom_117 (by decide) ?_
                    exact W.iret (v := nI 0) hx hb hr (fun t ht hW => ⟨⟨nI 0, (fun i => [mlive, mw, mwr, pg].getD i (fun _ => 0), fun i => [mser, nI d, mrd, mwt, worn, cut, on].getD i 0, fun i => [rn].getD i 0), rfl, by first | exact ⟨Or.inr (Or.inl rfl), hmi⟩ | exact ⟨Or.inr (Or.inr rfl), hmi⟩ | exact ⟨Or.inl ⟨rfl, rfl, c, hhc, rfl, j24, hj24, hf24⟩, hmi⟩ | exact ⟨Or.inl ⟨rfl, er110, d, hd, ec110, jj110, hjj110, hfp110⟩, hmi⟩ | exact ⟨Or.inl ⟨rfl, rfl, d, hd, rfl, 0, by decide, hcd 0 (by decide)⟩, hmi.cur (PG.of hd)⟩ | exact ⟨Or.inl ⟨rfl, er139, v86, hv86, rfl, 0, by decide, fp_er hi139 (by decide)⟩, (MI.eq hmi er139 el139 ec139).cur (PG.of hv86)⟩, ⟨by rw [ht]; exact hP, va_K.moved hW.alike hK, hD⟩⟩, hS.F ht⟩) hS.2.2 d_M_makeRoom_122
                  ·
                    have c101 := cd_gt_f (by omega) (by omega) c101
                    refine lv_iload_n hx hb d_M_makeRoom_104 rfl (lv_at hl 0 rfl) ?_
                    refine lv_if_lt (tgt := 116) hx hb d_M_makeRoom_105 (by decide) (fun c105 => ?_) (fun c105 => ?_)
                    ·
                      exact (cz_lt_t (by omega) c105).elim
                    ·
                      have c105 := cz_lt_f (by omega) c105
                      refine lv_aload_n hx hb d_M_makeRoom_108 rfl (lv_at hl 1 rfl) ?_
                      refine lv_iload_n hx hb d_M_makeRoom_109 rfl (lv_at hl 0 rfl) ?_
                      have hSz := hS.1
                      refine va_calli (va_runV (C := R_M) (As := [.int (nI v86)]) (rest := []) ⟨hx, hb, hml, hown, hts⟩ (c_M_move l dC dI am cm H.size th mw mwr mfl mact on cut (nI rn) mlog mlive had mser (nI d) mrd mwt worn pg pla sou fou rn d v86 (by first | omega | rfl | assumption | decide) (by first | omega | rfl | assumption | decide) (by first | omega | rfl | assumption | decide) (by first | omega | rfl | assumption | decide) (hmi.cur (PG.of hd))) (cwV 1 hts (g_V t_840 t_842 s_33 t_6 t_843) rfl rfl rfl (by decide +kernel) ⟨by decide, by decide⟩) (xP_v hP hK hD hN 0 rfl rfl) rfl rfl hl.1 rfl (lv_room (Nat.le_of_ble_eq_true rfl)) d_M_makeRoom_110 ⟨Nat.le_refl _, Nat.le_refl _⟩) hS (fun q _ h => xA_up hS.1 q h) (fun q h => xA_up hS.1 q h) (fun r110 u110 t H1 locs1 ht hvm q110 hB hz1 hk1 hS => ?_)
                      obtain ⟨hP1, hK1, hD1⟩ := hB
                      rw [ht] at hP1
                      have hD : va_D (xA 9 am s.heap.size) (mw_ am cm th (u110.1 1) (u110.1 2) mfl mact (u110.2.1 6) (u110.2.1 5) (nI (u110.2.2 0)) mlog (u110.1 0) had (u110.2.1 0) (u110.2.1 1) (u110.2.1 2) (u110.2.1 3) (u110.2.1 4) (u110.1 3) pla sou fou) := hD1.weaken (fun _ q _ h => xA_up hSz _ h)
                      have hP : va_P (dC, dI) vwCl (mw_ am cm th (u110.1 1) (u110.1 2) mfl mact (u110.2.1 6) (u110.2.1 5) (nI (u110.2.2 0)) mlog (u110.1 0) had (u110.2.1 0) (u110.2.1 1) (u110.2.1 2) (u110.2.1 3) (u110.2.1 4) (u110.1 3) pla sou fou) H1 := hP1
                      generalize H1 = H at hP hS ⊢
                      generalize locs1 = locs at hS ⊢
                      rcases q110 with ⟨rfl, er110, ec110, ⟨jj110, hjj110, hfp110⟩, hmi⟩ | ⟨rfl, hmi⟩
                      ·
                        refine lv_if_eq (tgt := 120) hx hb d_M_makeRoom_113 (by decide) (fun c113 => ?_) (fun c113 => ?_)
                        ·
                          exact absurd c113 (by decide)
                        ·
                          refine lv_iconst (v := nI 0) hx hb d_M_makeRoom_116 (by decide) ?_
                          refine lv_goto (tgt := 122) hx hb d_M_makeRoom_117 (by decide) ?_
                          exact W.iret (v := nI 0) hx hb hr (fun t ht hW => ⟨⟨nI 0, (fun i => [u110.1 0, u110.1 1, u110.1 2, u110.1 3].getD i (fun _ => 0), fun i => [u110.2.1 0, u110.2.1 1, u110.2.1 2, u110.2.1 3, u110.2.1 4, u110.2.1 5, u110.2.1 6].getD i 0, fun i => [u110.2.2 0].getD i 0), rfl, by first | exact ⟨Or.inr (Or.inl rfl), hmi⟩ | exact ⟨Or.inr (Or.inr rfl), hmi⟩ | exact ⟨Or.inl ⟨rfl, rfl, c, hhc, rfl, j24, hj24, hf24⟩, hmi⟩ | exact ⟨Or.inl ⟨rfl, er110, d, hd, ec110, jj110, hjj110, hfp110⟩, hmi⟩ | exact ⟨Or.inl ⟨rfl, rfl, d, hd, rfl, 0, by decide, hcd 0 (by decide)⟩, hmi.cur (PG.of hd)⟩ | exact ⟨Or.inl ⟨rfl, er139, v86, hv86, rfl, 0, by decide, fp_er hi139 (by decide)⟩, (MI.eq hmi er139 el139 ec139).cur (PG.of hv86)⟩, ⟨by rw [ht]; exact hP, va_K.moved hW.alike hK, hD⟩⟩, hS.F ht⟩) hS.2.2 d_M_makeRoom_122
                      ·
                        refine lv_if_eq (tgt := 120) hx hb d_M_makeRoom_113 (by decide) (fun c113 => ?_) (fun c113 => ?_)
                        ·
                          refine lv_bipush (v := (-2)) hx hb d_M_makeRoom_120 (by decide) ?_
                          exact W.iret (v := (-2)) hx hb hr (fun t ht hW => ⟨⟨(-2), (fun i => [u110.1 0, u110.1 1, u110.1 2, u110.1 3].getD i (fun _ => 0), fun i => [u110.2.1 0, u110.2.1 1, u110.2.1 2, u110.2.1 3, u110.2.1 4, u110.2.1 5, u110.2.1 6].getD i 0, fun i => [u110.2.2 0].getD i 0), rfl, by first | exact ⟨Or.inr (Or.inl rfl), hmi⟩ | exact ⟨Or.inr (Or.inr rfl), hmi⟩ | exact ⟨Or.inl ⟨rfl, rfl, c, hhc, rfl, j24, hj24, hf24⟩, hmi⟩ | exact ⟨Or.inl ⟨rfl, er110, d, hd, ec110, jj110, hjj110, hfp110⟩, hmi⟩ | exact ⟨Or.inl ⟨rfl, rfl, d, hd, rfl, 0, by decide, hcd 0 (by decide)⟩, hmi.cur (PG.of hd)⟩ | exact ⟨Or.inl ⟨rfl, er139, v86, hv86, rfl, 0, by decide, fp_er hi139 (by decide)⟩, (MI.eq hmi er139 el139 ec139).cur (PG.of hv86)⟩, ⟨by rw [ht]; exact hP, va_K.moved hW.alike hK, hD⟩⟩, hS.F ht⟩) hS.2.2 d_M_makeRoom_122
                        ·
                          exact absurd c113 (by decide)
            ·
              have c41 := cd_ge_f (by omega) (by omega) c41
              refine lv_aload_n hx hb d_M_makeRoom_44 rfl (lv_at hl 0 rfl) ?_
              refine lv_iload_n hx hb d_M_makeRoom_45 rfl (lv_at hl 3 rfl) ?_
              refine vp_callSi (va_runV (C := R_M) (As := [.int (nI k)]) (rest := []) ⟨hx, hb, hml, hown, hts⟩ (c_M_isClean l dC dI am cm th mw mwr mfl mact on cut (nI rn) mlog mlive had mser (nI c) mrd mwt worn pg pla sou fou k (by first | omega | rfl | assumption | decide)) (cwV 1 hts (g_V t_824 t_826 s_29 t_6 t_827) rfl rfl rfl (by decide +kernel) ⟨by decide, by decide⟩) (xR_v hP hK hN 0 rfl rfl) rfl rfl hl.1 rfl (lv_room (Nat.le_of_ble_eq_true rfl)) d_M_makeRoom_46 ⟨Nat.le_refl _, Nat.le_refl _⟩).run (fun r46 q46 => ?_)
              rcases q46 with ⟨rfl, hcl46⟩ | rfl
              ·
                refine lv_if_ne (tgt := 55) hx hb d_M_makeRoom_49 (by decide) (fun c49 => ?_) (fun c49 => ?_)
                ·
                  refine lv_iinc (k := 1) (v := nI (mm + 1)) hx hb d_M_makeRoom_55 hl rfl (nI_1 _) (by decide) rfl (fun ls hl => ?_)
                  have hl : lv_has ls 4 [(1, .int (nI (mm + 1))), (0, .ref (am 0)), (2, .int bv), (3, .int (nI k))] := hl
                  rcases hbv with rfl | ⟨d1, hd1, rfl, hcc⟩
                  ·
                    refine lv_iload_n hx hb d_M_makeRoom_58 rfl (lv_at hl 2 rfl) ?_
                    refine lv_if_lt (tgt := 77) hx hb d_M_makeRoom_59 (by decide) (fun c59 => ?_) (fun c59 => ?_)
                    ·
                      refine lv_iload_n hx hb d_M_makeRoom_77 rfl (lv_at hl 3 rfl) ?_
                      refine lv_istore_n hx hb d_M_makeRoom_78 rfl hl (by decide) rfl (fun ls hl => ?_)
                      have hl : lv_has ls 4 [(2, .int (nI k)), (1, .int (nI (mm + 1))), (0, .ref (am 0)), (3, .int (nI k))] := hl
                      refine lv_iinc (k := 3) (v := nI (k + 1)) hx hb d_M_makeRoom_79 hl rfl (nI_1 _) (by decide) rfl (fun ls hl => ?_)
                      have hl : lv_has ls 4 [(3, .int (nI (k + 1))), (2, .int (nI k)), (1, .int (nI (mm + 1))), (0, .ref (am 0))] := hl
                      refine lv_goto (tgt := 38) hx hb d_M_makeRoom_82 (by decide) ?_
                      exact ih38 (k + 1) (mm + 1) (nI k) ls (by omega) (by omega) (by omega) (Or.inr ⟨k, by omega, rfl, hcl46⟩) (fun _ => nm_ne (by omega) (by decide)) (lv_sub hl [3, 2, 1, 0] rfl)
                    ·
                      exact absurd c59 (by decide)
                  ·
                    refine lv_iload_n hx hb d_M_makeRoom_58 rfl (lv_at hl 2 rfl) ?_
                    refine lv_if_lt (tgt := 77) hx hb d_M_makeRoom_59 (by decide) (fun c59 => ?_) (fun c59 => ?_)
                    ·
                      exact (cz_lt_t (by omega) c59).elim
                    ·
                      have c59 := cz_lt_f (by omega) c59
                      refine lv_aload_n hx hb d_M_makeRoom_62 rfl (lv_at hl 1 rfl) ?_
                      refine va_get (D := (dC, dI)) (ci := 5) (v := .ref (am 2)) (C := R_M) (T := F_M) (N := 20) hx hb hts (fun w h => List.mem_cons_of_mem _ (in_M w h)) hown hK hP 0 rfl rfl 2 (by decide) (hts (.fieldLink R_M 13 R_M "wear" "[I") (List.mem_cons_of_mem _ t_714)) (fun _ h9 => h9) rfl d_M_makeRoom_63 ?_
                      refine lv_iload_n hx hb d_M_makeRoom_66 rfl (lv_at hl 3 rfl) ?_
                      refine va_iald hx hb hK hP 2 1 rfl rfl (vp_in_nI (by omega) (by decide)) d_M_makeRoom_67 ?_
                      refine tp_i (y := mwr k) (by rw [nI_clamp (by omega)]) ?_
                      refine lv_aload_n hx hb d_M_makeRoom_68 rfl (lv_at hl 1 rfl) ?_
                      refine va_get (D := (dC, dI)) (ci := 5) (v := .ref (am 2)) (C := R_M) (T := F_M) (N := 20) hx hb hts (fun w h => List.mem_cons_of_mem _ (in_M w h)) hown hK hP 0 rfl rfl 2 (by decide) (hts (.fieldLink R_M 13 R_M "wear" "[I") (List.mem_cons_of_mem _ t_714)) (fun _ h9 => h9) rfl d_M_makeRoom_69 ?_
                      refine lv_iload_n hx hb d_M_makeRoom_72 rfl (lv_at hl 2 rfl) ?_
                      refine va_iald hx hb hK hP 2 1 rfl rfl (vp_in_nI (by omega) (by decide)) d_M_makeRoom_73 ?_
                      refine tp_i (y := mwr d1) (by rw [nI_clamp (by omega)]) ?_
                      refine lv_icmp_ge (tgt := 79) hx hb d_M_makeRoom_74 (by decide) (fun c74 => ?_) (fun c74 => ?_)
                      ·
                        refine lv_iinc (k := 3) (v := nI (k + 1)) hx hb d_M_makeRoom_79 hl rfl (nI_1 _) (by decide) rfl (fun ls hl => ?_)
                        have hl : lv_has ls 4 [(3, .int (nI (k + 1))), (1, .int (nI (mm + 1))), (0, .ref (am 0)), (2, .int (nI d1))] := hl
                        refine lv_goto (tgt := 38) hx hb d_M_makeRoom_82 (by decide) ?_
                        exact ih38 (k + 1) (mm + 1) (nI d1) ls (by omega) (by omega) (by omega) (Or.inr ⟨d1, hd1, rfl, hcc⟩) (fun _ => nm_ne (by omega) (by decide)) (lv_sub hl [2, 1, 3, 0] rfl)
                      ·
                        refine lv_iload_n hx hb d_M_makeRoom_77 rfl (lv_at hl 3 rfl) ?_
                        refine lv_istore_n hx hb d_M_makeRoom_78 rfl hl (by decide) rfl (fun ls hl => ?_)
                        have hl : lv_has ls 4 [(2, .int (nI k)), (1, .int (nI (mm + 1))), (0, .ref (am 0)), (3, .int (nI k))] := hl
                        refine lv_iinc (k := 3) (v := nI (k + 1)) hx hb d_M_makeRoom_79 hl rfl (nI_1 _) (by decide) rfl (fun ls hl => ?_)
                        have hl : lv_has ls 4 [(3, .int (nI (k + 1))), (2, .int (nI k)), (1, .int (nI (mm + 1))), (0, .ref (am 0))] := hl
                        refine lv_goto (tgt := 38) hx hb d_M_makeRoom_82 (by decide) ?_
                        exact ih38 (k + 1) (mm + 1) (nI k) ls (by omega) (by omega) (by omega) (Or.inr ⟨k, by omega, rfl, hcl46⟩) (fun _ => nm_ne (by omega) (by decide)) (lv_sub hl [3, 2, 1, 0] rfl)
                ·
                  exact absurd c49 (by decide)
              ·
                refine lv_if_ne (tgt := 55) hx hb d_M_makeRoom_49 (by decide) (fun c49 => ?_) (fun c49 => ?_)
                ·
                  exact absurd c49 (by decide)
                ·
                  refine lv_goto (tgt := 79) hx hb d_M_makeRoom_52 (by decide) ?_
                  refine lv_iinc (k := 3) (v := nI (k + 1)) hx hb d_M_makeRoom_79 hl rfl (nI_1 _) (by decide) rfl (fun ls hl => ?_)
                  have hl : lv_has ls 4 [(3, .int (nI (k + 1))), (0, .ref (am 0)), (1, .int (nI mm)), (2, .int bv)] := hl
                  refine lv_goto (tgt := 38) hx hb d_M_makeRoom_82 (by decide) ?_
                  exact ih38 (k + 1) mm bv ls (by omega) (by omega) (by omega) hbv hmb (lv_sub hl [1, 2, 3, 0] rfl)
        exact lp38 _ 0 0 (-1) ls (Nat.lt_succ_self _) (by omega) (by omega) (Or.inl rfl) (fun h => absurd h (by omega)) (lv_sub hl [3, 2, 1, 0] rfl)
      ·
        refine lv_aload_n hx hb d_M_makeRoom_19 rfl (lv_at hl 0 rfl) ?_
        refine lv_aload_n hx hb d_M_makeRoom_20 rfl (lv_at hl 0 rfl) ?_
        refine va_get (D := (dC, dI)) (ci := 5) (v := .int (nI c)) (C := R_M) (T := F_M) (N := 20) hx hb hts (fun w h => List.mem_cons_of_mem _ (in_M w h)) hown hK hP 0 rfl rfl 12 (by decide) (hts (.fieldLink R_M 40 R_M "cursor" "I") (List.mem_cons_of_mem _ t_724)) (fun _ h9 => h9) rfl d_M_makeRoom_21 ?_
        refine vp_callSi (va_runV (C := R_M) (As := [.int (nI c)]) (rest := []) ⟨hx, hb, hml, hown, hts⟩ (c_M_firstFree l dC dI am cm th mw mwr mfl mact on cut (nI rn) mlog mlive had mser (nI c) mrd mwt worn pg pla sou fou c (by first | omega | rfl | assumption | decide)) (cwV 1 hts (g_V t_816 t_818 s_27 t_6 t_819) rfl rfl rfl (by decide +kernel) ⟨by decide, by decide⟩) (xR_v hP hK hN 0 rfl rfl) rfl rfl hl.1 rfl (lv_room (Nat.le_of_ble_eq_true rfl)) d_M_makeRoom_24 ⟨Nat.le_refl _, Nat.le_refl _⟩).run (fun r24 q24 => ?_)
        rcases q24 with ⟨j24, hj24, rfl, hf24, hb24⟩ | ⟨rfl, hn24⟩
        ·
          refine lv_if_lt (tgt := 32) hx hb d_M_makeRoom_27 (by decide) (fun c27 => ?_) (fun c27 => ?_)
          ·
            exact (cz_lt_t (by omega) c27).elim
          ·
            have c27 := cz_lt_f (by omega) c27
            refine lv_iconst (v := nI 0) hx hb d_M_makeRoom_30 (by decide) ?_
            exact W.iret (v := nI 0) hx hb hr (fun t ht hW => ⟨⟨nI 0, (fun i => [mlive, mw, mwr, pg].getD i (fun _ => 0), fun i => [mser, nI c, mrd, mwt, worn, cut, on].getD i 0, fun i => [rn].getD i 0), rfl, by first | exact ⟨Or.inr (Or.inl rfl), hmi⟩ | exact ⟨Or.inr (Or.inr rfl), hmi⟩ | exact ⟨Or.inl ⟨rfl, rfl, c, hhc, rfl, j24, hj24, hf24⟩, hmi⟩ | exact ⟨Or.inl ⟨rfl, er110, d, hd, ec110, jj110, hjj110, hfp110⟩, hmi⟩ | exact ⟨Or.inl ⟨rfl, rfl, d, hd, rfl, 0, by decide, hcd 0 (by decide)⟩, hmi.cur (PG.of hd)⟩ | exact ⟨Or.inl ⟨rfl, er139, v86, hv86, rfl, 0, by decide, fp_er hi139 (by decide)⟩, (MI.eq hmi er139 el139 ec139).cur (PG.of hv86)⟩, ⟨by rw [ht]; exact hP, va_K.moved hW.alike hK, hD⟩⟩, hS.F ht⟩) hS.2.2 d_M_makeRoom_31
        ·
          refine lv_if_lt (tgt := 32) hx hb d_M_makeRoom_27 (by decide) (fun c27 => ?_) (fun c27 => ?_)
          ·
            refine lv_iconst (v := nI 0) hx hb d_M_makeRoom_32 (by decide) ?_
            refine lv_istore_n hx hb d_M_makeRoom_33 rfl hl (by decide) rfl (fun ls hl => ?_)
            have hl : lv_has ls 4 [(1, .int (nI 0)), (0, .ref (am 0))] := hl
            refine lv_iconst (v := (-1)) hx hb d_M_makeRoom_34 (by decide) ?_
            refine lv_istore_n hx hb d_M_makeRoom_35 rfl hl (by decide) rfl (fun ls hl => ?_)
            have hl : lv_has ls 4 [(2, .int (-1)), (1, .int (nI 0)), (0, .ref (am 0))] := hl
            refine lv_iconst (v := nI 0) hx hb d_M_makeRoom_36 (by decide) ?_
            refine lv_istore_n hx hb d_M_makeRoom_37 rfl hl (by decide) rfl (fun ls hl => ?_)
            have hl : lv_has ls 4 [(3, .int (nI 0)), (2, .int (-1)), (1, .int (nI 0)), (0, .ref (am 0))] := hl
            have lp38 : ∀ (n : Nat) (k : Nat) (mm : Nat) (bv : Int32) (ls : Array Slot), (8 - k) < n → (k ≤ 8) → (mm ≤ k) → (CB mw bv) → (0 < mm → bv ≠ -1) → lv_has ls 4 [(0, .ref (am 0)), (1, .int (nI mm)), (2, .int bv), (3, .int (nI k))] → W P l e (headSpec w_M_makeRoom ({ frames := 5, cells := 0, slots := 0, locals := 108 })).room s m (([.ref (am 0)] : List Value).toArray) below meth c0 s.heap [] 0 0 (MQ below (va_Qi (fun r (u : (Nat → Nat → Int32) × (Nat → Int32) × (Nat → Nat)) => ((r = nI 0 ∧ (u.2.2 0) = rn ∧ ∃ c, c < 8 ∧ (u.2.1 1) = nI c ∧ ∃ j, j < 4 ∧ fp (u.1 1) (4 * c + j)) ∨ (r = -1 ∨ r = -2)) ∧ MI (u.2.2 0) (u.1 0) (u.2.1 1)) (fun (u : (Nat → Nat → Int32) × (Nat → Int32) × (Nat → Nat)) (t : State) => xB (dC, dI) vwCl (mt cm) (xA 9 am s.heap.size) (mw_ am cm th (u.1 1) (u.1 2) mfl mact (u.2.1 6) (u.2.1 5) (nI (u.2.2 0)) mlog (u.1 0) had (u.2.1 0) (u.2.1 1) (u.2.1 2) (u.2.1 3) (u.2.1 4) (u.1 3) pla sou fou) t) (xA 9 am s.heap.size)) (([.ref (am 0)] : List Value).toArray) s 0 0 (xA 9 am s.heap.size)) (F0 m 38 ls []) := by
              intro n
              induction n with
              | zero => intro k mm bv ls hm; intros; omega
              | succ n ih38 =>
                intro k mm bv ls hm hk hmk hbv hmb hl
                refine lv_iload_n hx hb d_M_makeRoom_38 rfl (lv_at hl 3 rfl) ?_
                refine lv_bipush (v := nI 8) hx hb d_M_makeRoom_39 (by decide) ?_
                refine lv_icmp_ge (tgt := 85) hx hb d_M_makeRoom_41 (by decide) (fun c41 => ?_) (fun c41 => ?_)
                ·
                  have c41 := cd_ge_t (by omega) (by omega) c41
                  refine lv_aload_n hx hb d_M_makeRoom_85 rfl (lv_at hl 0 rfl) ?_
                  refine vp_callSi (va_runV (C := R_M) (As := []) (rest := []) ⟨hx, hb, hml, hown, hts⟩ (c_M_victim l dC dI am cm th mw mwr mfl mact on cut (nI rn) mlog mlive had mser (nI c) mrd mwt worn pg pla sou fou  ) (cwV 0 hts (g_V t_828 t_830 s_30 t_6 t_831) rfl rfl rfl (by decide +kernel) ⟨by decide, by decide⟩) (xR_v hP hK hN 0 rfl rfl) rfl rfl hl.1 rfl (lv_room (Nat.le_of_ble_eq_true rfl)) d_M_makeRoom_86 ⟨Nat.le_refl _, Nat.le_refl _⟩).run (fun r86 q86 => ?_)
                  rcases q86 with rfl | ⟨v86, hv86, rfl, hst86⟩
                  ·
                    refine lv_istore_n hx hb d_M_makeRoom_89 rfl hl (by decide) rfl (fun ls hl => ?_)
                    have hl : lv_has ls 4 [(3, .int (-1)), (0, .ref (am 0)), (1, .int (nI mm)), (2, .int bv)] := hl
                    refine lv_iload_n hx hb d_M_makeRoom_90 rfl (lv_at hl 2 rfl) ?_
                    refine lv_if_le (tgt := 123) hx hb d_M_makeRoom_91 (by decide) (fun c91 => ?_) (fun c91 => ?_)
                    ·
                      have c91 := cz_le_t (by omega) c91
                      refine lv_iload_n hx hb d_M_makeRoom_123 rfl (lv_at hl 0 rfl) ?_
                      refine lv_if_lt (tgt := 135) hx hb d_M_makeRoom_124 (by decide) (fun c124 => ?_) (fun c124 => ?_)
                      ·
                        refine lv_iconst (v := (-1)) hx hb d_M_makeRoom_135 (by decide) ?_
                        exact W.iret (v := (-1)) hx hb hr (fun t ht hW => ⟨⟨(-1), (fun i => [mlive, mw, mwr, pg].getD i (fun _ => 0), fun i => [mser, nI c, mrd, mwt, worn, cut, on].getD i 0, fun i => [rn].getD i 0), rfl, by first | exact ⟨Or.inr (Or.inl rfl), hmi⟩ | exact ⟨Or.inr (Or.inr rfl), hmi⟩ | exact ⟨Or.inl ⟨rfl, rfl, c, hhc, rfl, j24, hj24, hf24⟩, hmi⟩ | exact ⟨Or.inl ⟨rfl, er110, d, hd, ec110, jj110, hjj110, hfp110⟩, hmi⟩ | exact ⟨Or.inl ⟨rfl, rfl, d, hd, rfl, 0, by decide, hcd 0 (by decide)⟩, hmi.cur (PG.of hd)⟩ | exact ⟨Or.inl ⟨rfl, er139, v86, hv86, rfl, 0, by decide, fp_er hi139 (by decide)⟩, (MI.eq hmi er139 el139 ec139).cur (PG.of hv86)⟩, ⟨by rw [ht]; exact hP, va_K.moved hW.alike hK, hD⟩⟩, hS.F ht⟩) hS.2.2 d_M_makeRoom_136
                      ·
                        exact absurd c124 (by decide)
                    ·
                      have c91 := cz_le_f (by omega) c91
                      obtain ⟨d, hd, rfl, hcd⟩ := hbv.resolve_left (hmb c91)
                      refine lv_aload_n hx hb d_M_makeRoom_94 rfl (lv_at hl 1 rfl) ?_
                      refine lv_iload_n hx hb d_M_makeRoom_95 rfl (lv_at hl 3 rfl) ?_
                      refine va_put (D := (dC, dI)) (ci := 5) (v := .int (nI d)) (ty := .int) (C := R_M) (T := F_M) (N := 20) hx hb hts (fun w h => List.mem_cons_of_mem _ (in_M w h)) t_M ok_M nm_M hown hK hP hD hS 0 rfl rfl 12 (by decide) (hts (.fieldLink R_M 40 R_M "cursor" "I") (List.mem_cons_of_mem _ t_724)) (fun _ h9 => h9) rfl (by decide +kernel) rfl rfl (Nat.le_of_ble_eq_true rfl) d_M_makeRoom_96 (fun H locs hP hD hS => ?_)
                      have hP : va_P (dC, dI) vwCl (mw_ am cm th mw mwr mfl mact on cut (nI rn) mlog mlive had mser (nI d) mrd mwt worn pg pla sou fou) H := hP
                      have hD : va_D (xA 9 am s.heap.size) (mw_ am cm th mw mwr mfl mact on cut (nI rn) mlog mlive had mser (nI d) mrd mwt worn pg pla sou fou) := hD
                      refine lv_iload_n hx hb d_M_makeRoom_99 rfl (lv_at hl 2 rfl) ?_
                      refine lv_iconst (v := nI 1) hx hb d_M_makeRoom_100 (by decide) ?_
                      refine lv_icmp_gt (tgt := 116) hx hb d_M_makeRoom_101 (by decide) (fun c101 => ?_) (fun c101 => ?_)
                      ·
                        have c101 := cd_gt_t (by omega) (by omega) c101
                        refine lv_iconst (v := nI 0) hx hb d_M_makeRoom_116 (by decide) ?_
                        refine lv_goto (tgt := 122) hx hb d_M_makeRoom_117 (by decide) ?_
                        exact W.iret (v := nI 0) hx hb hr (fun t ht hW => ⟨⟨nI 0, (fun i => [mlive, mw, mwr, pg].getD i (fun _ => 0), fun i => [mser, nI d, mrd, mwt, worn, cut, on].getD i 0, fun i => [rn].getD i 0), rfl, by first | exact ⟨Or.inr (Or.inl rfl), hmi⟩ | exact ⟨Or.inr (Or.inr rfl), hmi⟩ | exact ⟨Or.inl ⟨rfl, rfl, c, hhc, rfl, j24, hj24, hf24⟩, hmi⟩ | exact ⟨Or.inl ⟨rfl, er110, d, hd, ec110, jj110, hjj110, hfp110⟩, hmi⟩ | exact ⟨Or.inl ⟨rfl, rfl, d, hd, rfl, 0, by decide, hcd 0 (by decide)⟩, hmi.cur (PG.of hd)⟩ | exact ⟨Or.inl ⟨rfl, er139, v86, hv86, rfl, 0, by decide, fp_er hi139 (by decide)⟩, (MI.eq hmi er139 el139 ec139).cur (PG.of hv86)⟩, ⟨by rw [ht]; exact hP, va_K.moved hW.alike hK, hD⟩⟩, hS.F ht⟩) hS.2.2 d_M_makeRoom_122
                      ·
                        have c101 := cd_gt_f (by omega) (by omega) c101
                        refine lv_iload_n hx hb d_M_makeRoom_104 rfl (lv_at hl 0 rfl) ?_
                        refine lv_if_lt (tgt := 116) hx hb d_M_makeRoom_105 (by decide) (fun c105 => ?_) (fun c105 => ?_)
                        ·
                          refine lv_iconst (v := nI 0) hx hb d_M_makeRoom_116 (by decide) ?_
                          refine lv_goto (tgt := 122) hx hb d_M_makeRoom_117 (by decide) ?_
                          exact W.iret (v := nI 0) hx hb hr (fun t ht hW => ⟨⟨nI 0, (fun i => [mlive, mw, mwr, pg].getD i (fun _ => 0), fun i => [mser, nI d, mrd, mwt, worn, cut, on].getD i 0, fun i => [rn].getD i 0), rfl, by first | exact ⟨Or.inr (Or.inl rfl), hmi⟩ | exact ⟨Or.inr (Or.inr rfl), hmi⟩ | exact ⟨Or.inl ⟨rfl, rfl, c, hhc, rfl, j24, hj24, hf24⟩, hmi⟩ | exact ⟨Or.inl ⟨rfl, er110, d, hd, ec110, jj110, hjj110, hfp110⟩, hmi⟩ | exact ⟨Or.inl ⟨rfl, rfl, d, hd, rfl, 0, by decide, hcd 0 (by decide)⟩, hmi.cur (PG.of hd)⟩ | exact ⟨Or.inl ⟨rfl, er139, v86, hv86, rfl, 0, by decide, fp_er hi139 (by decide)⟩, (MI.eq hmi er139 el139 ec139).cur (PG.of hv86)⟩, ⟨by rw [ht]; exact hP, va_K.moved hW.alike hK, hD⟩⟩, hS.F ht⟩) hS.2.2 d_M_makeRoom_122
                        ·
                          exact absurd c105 (by decide)
                  ·
                    refine lv_istore_n hx hb d_M_makeRoom_89 rfl hl (by decide) rfl (fun ls hl => ?_)
                    have hl : lv_has ls 4 [(3, .int (nI v86)), (0, .ref (am 0)), (1, .int (nI mm)), (2, .int bv)] := hl
                    refine lv_iload_n hx hb d_M_makeRoom_90 rfl (lv_at hl 2 rfl) ?_
                    refine lv_if_le (tgt := 123) hx hb d_M_makeRoom_91 (by decide) (fun c91 => ?_) (fun c91 => ?_)
                    ·
                      have c91 := cz_le_t (by omega) c91
                      refine lv_iload_n hx hb d_M_makeRoom_123 rfl (lv_at hl 0 rfl) ?_
                      refine lv_if_lt (tgt := 135) hx hb d_M_makeRoom_124 (by decide) (fun c124 => ?_) (fun c124 => ?_)
                      ·
                        exact (cz_lt_t (by omega) c124).elim
                      ·
                        have c124 := cz_lt_f (by omega) c124
                        refine lv_aload_n hx hb d_M_makeRoom_127 rfl (lv_at hl 1 rfl) ?_
                        refine lv_iload_n hx hb d_M_makeRoom_128 rfl (lv_at hl 0 rfl) ?_
                        refine vp_callSi (va_runV (C := R_M) (As := [.int (nI v86)]) (rest := []) ⟨hx, hb, hml, hown, hts⟩ (c_M_livesOf l dC dI am cm th mw mwr mfl mact on cut (nI rn) mlog mlive had mser (nI c) mrd mwt worn pg pla sou fou v86 (by first | omega | rfl | assumption | decide)) (cwV 1 hts (g_V t_861 t_863 s_38 t_6 t_864) rfl rfl rfl (by decide +kernel) ⟨by decide, by decide⟩) (xR_v hP hK hN 0 rfl rfl) rfl rfl hl.1 rfl (lv_room (Nat.le_of_ble_eq_true rfl)) d_M_makeRoom_129 ⟨Nat.le_refl _, Nat.le_refl _⟩).run (fun r129 q129 => ?_)
                        have hk129 := q129
                        refine lv_if_le (tgt := 137) hx hb d_M_makeRoom_132 (by decide) (fun c132 => ?_) (fun c132 => ?_)
                        ·
                          refine lv_aload_n hx hb d_M_makeRoom_137 rfl (lv_at hl 1 rfl) ?_
                          refine lv_iload_n hx hb d_M_makeRoom_138 rfl (lv_at hl 0 rfl) ?_
                          have hSz := hS.1
                          refine va_calli (va_runV (C := R_M) (As := [.int (nI v86)]) (rest := []) ⟨hx, hb, hml, hown, hts⟩ (c_M_erase l dC dI am cm s.heap.size th mw mwr mfl mact on cut (nI rn) mlog mlive had mser (nI c) mrd mwt worn pg pla sou fou rn v86 (by first | omega | rfl | assumption | decide)) (cwV 1 hts (g_V t_857 t_859 s_37 t_6 t_860) rfl rfl rfl (by decide +kernel) ⟨by decide, by decide⟩) (xP_v hP hK hD hN 0 rfl rfl) rfl rfl hl.1 rfl (lv_room (Nat.le_of_ble_eq_true rfl)) d_M_makeRoom_139 ⟨Nat.le_refl _, Nat.le_refl _⟩) hS (fun q _ h => xA_up hS.1 q h) (fun q h => xA_up hS.1 q h) (fun r139 u139 t H1 locs1 ht hvm q139 hB hz1 hk1 hS => ?_)
                          obtain ⟨hP1, hK1, hD1⟩ := hB
                          rw [ht] at hP1
                          have hD : va_D (xA 9 am s.heap.size) (mw_ am cm th (u139.1 1) (u139.1 2) mfl mact (u139.2.1 6) (u139.2.1 5) (nI (u139.2.2 0)) mlog (u139.1 0) had (u139.2.1 0) (u139.2.1 1) (u139.2.1 2) (u139.2.1 3) (u139.2.1 4) pg pla sou fou) := hD1.weaken (fun _ q _ h => xA_up hSz _ h)
                          have hP : va_P (dC, dI) vwCl (mw_ am cm th (u139.1 1) (u139.1 2) mfl mact (u139.2.1 6) (u139.2.1 5) (nI (u139.2.2 0)) mlog (u139.1 0) had (u139.2.1 0) (u139.2.1 1) (u139.2.1 2) (u139.2.1 3) (u139.2.1 4) pg pla sou fou) H1 := hP1
                          generalize H1 = H at hP hS ⊢
                          generalize locs1 = locs at hS ⊢
                          rcases q139 with ⟨rfl, er139, el139, ec139, ho139, hi139⟩ | ⟨rfl, hmi⟩
                          ·
                            refine lv_if_ne (tgt := 148) hx hb d_M_makeRoom_142 (by decide) (fun c142 => ?_) (fun c142 => ?_)
                            ·
                              refine lv_aload_n hx hb d_M_makeRoom_148 rfl (lv_at hl 1 rfl) ?_
                              refine lv_iload_n hx hb d_M_makeRoom_149 rfl (lv_at hl 0 rfl) ?_
                              refine va_put (D := (dC, dI)) (ci := 5) (v := .int (nI v86)) (ty := .int) (C := R_M) (T := F_M) (N := 20) hx hb hts (fun w h => List.mem_cons_of_mem _ (in_M w h)) t_M ok_M nm_M hown hK hP hD hS 0 rfl rfl 12 (by decide) (hts (.fieldLink R_M 40 R_M "cursor" "I") (List.mem_cons_of_mem _ t_724)) (fun _ h9 => h9) rfl (by decide +kernel) rfl rfl (Nat.le_of_ble_eq_true rfl) d_M_makeRoom_150 (fun H locs hP hD hS => ?_)
                              have hP : va_P (dC, dI) vwCl (mw_ am cm th (u139.1 1) (u139.1 2) mfl mact (u139.2.1 6) (u139.2.1 5) (nI (u139.2.2 0)) mlog (u139.1 0) had (u139.2.1 0) (nI v86) (u139.2.1 2) (u139.2.1 3) (u139.2.1 4) pg pla sou fou) H := hP
                              have hD : va_D (xA 9 am s.heap.size) (mw_ am cm th (u139.1 1) (u139.1 2) mfl mact (u139.2.1 6) (u139.2.1 5) (nI (u139.2.2 0)) mlog (u139.1 0) had (u139.2.1 0) (nI v86) (u139.2.1 2) (u139.2.1 3) (u139.2.1 4) pg pla sou fou) := hD
                              refine lv_iconst (v := nI 0) hx hb d_M_makeRoom_153 (by decide) ?_
                              exact W.iret (v := nI 0) hx hb hr (fun t ht hW => ⟨⟨nI 0, (fun i => [u139.1 0, u139.1 1, u139.1 2, pg].getD i (fun _ => 0), fun i => [u139.2.1 0, nI v86, u139.2.1 2, u139.2.1 3, u139.2.1 4, u139.2.1 5, u139.2.1 6].getD i 0, fun i => [u139.2.2 0].getD i 0), rfl, by first | exact ⟨Or.inr (Or.inl rfl), hmi⟩ | exact ⟨Or.inr (Or.inr rfl), hmi⟩ | exact ⟨Or.inl ⟨rfl, rfl, c, hhc, rfl, j24, hj24, hf24⟩, hmi⟩ | exact ⟨Or.inl ⟨rfl, er110, d, hd, ec110, jj110, hjj110, hfp110⟩, hmi⟩ | exact ⟨Or.inl ⟨rfl, rfl, d, hd, rfl, 0, by decide, hcd 0 (by decide)⟩, hmi.cur (PG.of hd)⟩ | exact ⟨Or.inl ⟨rfl, er139, v86, hv86, rfl, 0, by decide, fp_er hi139 (by decide)⟩, (MI.eq hmi er139 el139 ec139).cur (PG.of hv86)⟩, ⟨by rw [ht]; exact hP, va_K.moved hW.alike hK, hD⟩⟩, hS.F ht⟩) hS.2.2 d_M_makeRoom_154
                            ·
                              exact absurd c142 (by decide)
                          ·
                            refine lv_if_ne (tgt := 148) hx hb d_M_makeRoom_142 (by decide) (fun c142 => ?_) (fun c142 => ?_)
                            ·
                              exact absurd c142 (by decide)
                            ·
                              refine lv_bipush (v := (-2)) hx hb d_M_makeRoom_145 (by decide) ?_
                              exact W.iret (v := (-2)) hx hb hr (fun t ht hW => ⟨⟨(-2), (fun i => [u139.1 0, u139.1 1, u139.1 2, pg].getD i (fun _ => 0), fun i => [u139.2.1 0, u139.2.1 1, u139.2.1 2, u139.2.1 3, u139.2.1 4, u139.2.1 5, u139.2.1 6].getD i 0, fun i => [u139.2.2 0].getD i 0), rfl, by first | exact ⟨Or.inr (Or.inl rfl), hmi⟩ | exact ⟨Or.inr (Or.inr rfl), hmi⟩ | exact ⟨Or.inl ⟨rfl, rfl, c, hhc, rfl, j24, hj24, hf24⟩, hmi⟩ | exact ⟨Or.inl ⟨rfl, er110, d, hd, ec110, jj110, hjj110, hfp110⟩, hmi⟩ | exact ⟨Or.inl ⟨rfl, rfl, d, hd, rfl, 0, by decide, hcd 0 (by decide)⟩, hmi.cur (PG.of hd)⟩ | exact ⟨Or.inl ⟨rfl, er139, v86, hv86, rfl, 0, by decide, fp_er hi139 (by decide)⟩, (MI.eq hmi er139 el139 ec139).cur (PG.of hv86)⟩, ⟨by rw [ht]; exact hP, va_K.moved hW.alike hK, hD⟩⟩, hS.F ht⟩) hS.2.2 d_M_makeRoom_147
                        ·
                          refine lv_iconst (v := (-1)) hx hb d_M_makeRoom_135 (by decide) ?_
                          exact W.iret (v := (-1)) hx hb hr (fun t ht hW => ⟨⟨(-1), (fun i => [mlive, mw, mwr, pg].getD i (fun _ => 0), fun i => [mser, nI c, mrd, mwt, worn, cut, on].getD i 0, fun i => [rn].getD i 0), rfl, by first | exact ⟨Or.inr (Or.inl rfl), hmi⟩ | exact ⟨Or.inr (Or.inr rfl), hmi⟩ | exact ⟨Or.inl ⟨rfl, rfl, c, hhc, rfl, j24, hj24, hf24⟩, hmi⟩ | exact ⟨Or.inl ⟨rfl, er110, d, hd, ec110, jj110, hjj110, hfp110⟩, hmi⟩ | exact ⟨Or.inl ⟨rfl, rfl, d, hd, rfl, 0, by decide, hcd 0 (by decide)⟩, hmi.cur (PG.of hd)⟩ | exact ⟨Or.inl ⟨rfl, er139, v86, hv86, rfl, 0, by decide, fp_er hi139 (by decide)⟩, (MI.eq hmi er139 el139 ec139).cur (PG.of hv86)⟩, ⟨by rw [ht]; exact hP, va_K.moved hW.alike hK, hD⟩⟩, hS.F ht⟩) hS.2.2 d_M_makeRoom_136
                    ·
                      have c91 := cz_le_f (by omega) c91
                      obtain ⟨d, hd, rfl, hcd⟩ := hbv.resolve_left (hmb c91)
                      refine lv_aload_n hx hb d_M_makeRoom_94 rfl (lv_at hl 1 rfl) ?_
                      refine lv_iload_n hx hb d_M_makeRoom_95 rfl (lv_at hl 3 rfl) ?_
                      refine va_put (D := (dC, dI)) (ci := 5) (v := .int (nI d)) (ty := .int) (C := R_M) (T := F_M) (N := 20) hx hb hts (fun w h => List.mem_cons_of_mem _ (in_M w h)) t_M ok_M nm_M hown hK hP hD hS 0 rfl rfl 12 (by decide) (hts (.fieldLink R_M 40 R_M "cursor" "I") (List.mem_cons_of_mem _ t_724)) (fun _ h9 => h9) rfl (by decide +kernel) rfl rfl (Nat.le_of_ble_eq_true rfl) d_M_makeRoom_96 (fun H locs hP hD hS => ?_)
                      have hP : va_P (dC, dI) vwCl (mw_ am cm th mw mwr mfl mact on cut (nI rn) mlog mlive had mser (nI d) mrd mwt worn pg pla sou fou) H := hP
                      have hD : va_D (xA 9 am s.heap.size) (mw_ am cm th mw mwr mfl mact on cut (nI rn) mlog mlive had mser (nI d) mrd mwt worn pg pla sou fou) := hD
                      refine lv_iload_n hx hb d_M_makeRoom_99 rfl (lv_at hl 2 rfl) ?_
                      refine lv_iconst (v := nI 1) hx hb d_M_makeRoom_100 (by decide) ?_
                      refine lv_icmp_gt (tgt := 116) hx hb d_M_makeRoom_101 (by decide) (fun c101 => ?_) (fun c101 => ?_)
                      ·
                        have c101 := cd_gt_t (by omega) (by omega) c101
                        refine lv_iconst (v := nI 0) hx hb d_M_makeRoom_116 (by decide) ?_
                        refine lv_goto (tgt := 122) hx hb d_M_makeRoom_117 (by decide) ?_
                        exact W.iret (v := nI 0) hx hb hr (fun t ht hW => ⟨⟨nI 0, (fun i => [mlive, mw, mwr, pg].getD i (fun _ => 0), fun i => [mser, nI d, mrd, mwt, worn, cut, on].getD i 0, fun i => [rn].getD i 0), rfl, by first | exact ⟨Or.inr (Or.inl rfl), hmi⟩ | exact ⟨Or.inr (Or.inr rfl), hmi⟩ | exact ⟨Or.inl ⟨rfl, rfl, c, hhc, rfl, j24, hj24, hf24⟩, hmi⟩ | exact ⟨Or.inl ⟨rfl, er110, d, hd, ec110, jj110, hjj110, hfp110⟩, hmi⟩ | exact ⟨Or.inl ⟨rfl, rfl, d, hd, rfl, 0, by decide, hcd 0 (by decide)⟩, hmi.cur (PG.of hd)⟩ | exact ⟨Or.inl ⟨rfl, er139, v86, hv86, rfl, 0, by decide, fp_er hi139 (by decide)⟩, (MI.eq hmi er139 el139 ec139).cur (PG.of hv86)⟩, ⟨by rw [ht]; exact hP, va_K.moved hW.alike hK, hD⟩⟩, hS.F ht⟩) hS.2.2 d_M_makeRoom_122
                      ·
                        have c101 := cd_gt_f (by omega) (by omega) c101
                        refine lv_iload_n hx hb d_M_makeRoom_104 rfl (lv_at hl 0 rfl) ?_
                        refine lv_if_lt (tgt := 116) hx hb d_M_makeRoom_105 (by decide) (fun c105 => ?_) (fun c105 => ?_)
                        ·
                          exact (cz_lt_t (by omega) c105).elim
                        ·
                          have c105 := cz_lt_f (by omega) c105
                          refine lv_aload_n hx hb d_M_makeRoom_108 rfl (lv_at hl 1 rfl) ?_
                          refine lv_iload_n hx hb d_M_makeRoom_109 rfl (lv_at hl 0 rfl) ?_
                          have hSz := hS.1
                          refine va_calli (va_runV (C := R_M) (As := [.int (nI v86)]) (rest := []) ⟨hx, hb, hml, hown, hts⟩ (c_M_move l dC dI am cm H.size th mw mwr mfl mact on cut (nI rn) mlog mlive had mser (nI d) mrd mwt worn pg pla sou fou rn d v86 (by first | omega | rfl | assumption | decide) (by first | omega | rfl | assumption | decide) (by first | omega | rfl | assumption | decide) (by first | omega | rfl | assumption | decide) (hmi.cur (PG.of hd))) (cwV 1 hts (g_V t_840 t_842 s_33 t_6 t_843) rfl rfl rfl (by decide +kernel) ⟨by decide, by decide⟩) (xP_v hP hK hD hN 0 rfl rfl) rfl rfl hl.1 rfl (lv_room (Nat.le_of_ble_eq_true rfl)) d_M_makeRoom_110 ⟨Nat.le_refl _, Nat.le_refl _⟩) hS (fun q _ h => xA_up hS.1 q h) (fun q h => xA_up hS.1 q h) (fun r110 u110 t H1 locs1 ht hvm q110 hB hz1 hk1 hS => ?_)
                          obtain ⟨hP1, hK1, hD1⟩ := hB
                          rw [ht] at hP1
                          have hD : va_D (xA 9 am s.heap.size) (mw_ am cm th (u110.1 1) (u110.1 2) mfl mact (u110.2.1 6) (u110.2.1 5) (nI (u110.2.2 0)) mlog (u110.1 0) had (u110.2.1 0) (u110.2.1 1) (u110.2.1 2) (u110.2.1 3) (u110.2.1 4) (u110.1 3) pla sou fou) := hD1.weaken (fun _ q _ h => xA_up hSz _ h)
                          have hP : va_P (dC, dI) vwCl (mw_ am cm th (u110.1 1) (u110.1 2) mfl mact (u110.2.1 6) (u110.2.1 5) (nI (u110.2.2 0)) mlog (u110.1 0) had (u110.2.1 0) (u110.2.1 1) (u110.2.1 2) (u110.2.1 3) (u110.2.1 4) (u110.1 3) pla sou fou) H1 := hP1
                          generalize H1 = H at hP hS ⊢
                          generalize locs1 = locs at hS ⊢
                          rcases q110 with ⟨rfl, er110, ec110, ⟨jj110, hjj110, hfp110⟩, hmi⟩ | ⟨rfl, hmi⟩
                          ·
                            refine lv_if_eq (tgt := 120) hx hb d_M_makeRoom_113 (by decide) (fun c113 => ?_) (fun c113 => ?_)
                            ·
                              exact absurd c113 (by decide)
                            ·
                              refine lv_iconst (v := nI 0) hx hb d_M_makeRoom_116 (by decide) ?_
                              refine lv_goto (tgt := 122) hx hb d_M_makeRoom_117 (by decide) ?_
                              exact W.iret (v := nI 0) hx hb hr (fun t ht hW => ⟨⟨nI 0, (fun i => [u110.1 0, u110.1 1, u110.1 2, u110.1 3].getD i (fun _ => 0), fun i => [u110.2.1 0, u110.2.1 1, u110.2.1 2, u110.2.1 3, u110.2.1 4, u110.2.1 5, u110.2.1 6].getD i 0, fun i => [u110.2.2 0].getD i 0), rfl, by first | exact ⟨Or.inr (Or.inl rfl), hmi⟩ | exact ⟨Or.inr (Or.inr rfl), hmi⟩ | exact ⟨Or.inl ⟨rfl, rfl, c, hhc, rfl, j24, hj24, hf24⟩, hmi⟩ | exact ⟨Or.inl ⟨rfl, er110, d, hd, ec110, jj110, hjj110, hfp110⟩, hmi⟩ | exact ⟨Or.inl ⟨rfl, rfl, d, hd, rfl, 0, by decide, hcd 0 (by decide)⟩, hmi.cur (PG.of hd)⟩ | exact ⟨Or.inl ⟨rfl, er139, v86, hv86, rfl, 0, by decide, fp_er hi139 (by decide)⟩, (MI.eq hmi er139 el139 ec139).cur (PG.of hv86)⟩, ⟨by rw [ht]; exact hP, va_K.moved hW.alike hK, hD⟩⟩, hS.F ht⟩) hS.2.2 d_M_makeRoom_122
                          ·
                            refine lv_if_eq (tgt := 120) hx hb d_M_makeRoom_113 (by decide) (fun c113 => ?_) (fun c113 => ?_)
                            ·
                              refine lv_bipush (v := (-2)) hx hb d_M_makeRoom_120 (by decide) ?_
                              exact W.iret (v := (-2)) hx hb hr (fun t ht hW => ⟨⟨(-2), (fun i => [u110.1 0, u110.1 1, u110.1 2, u110.1 3].getD i (fun _ => 0), fun i => [u110.2.1 0, u110.2.1 1, u110.2.1 2, u110.2.1 3, u110.2.1 4, u110.2.1 5, u110.2.1 6].getD i 0, fun i => [u110.2.2 0].getD i 0), rfl, by first | exact ⟨Or.inr (Or.inl rfl), hmi⟩ | exact ⟨Or.inr (Or.inr rfl), hmi⟩ | exact ⟨Or.inl ⟨rfl, rfl, c, hhc, rfl, j24, hj24, hf24⟩, hmi⟩ | exact ⟨Or.inl ⟨rfl, er110, d, hd, ec110, jj110, hjj110, hfp110⟩, hmi⟩ | exact ⟨Or.inl ⟨rfl, rfl, d, hd, rfl, 0, by decide, hcd 0 (by decide)⟩, hmi.cur (PG.of hd)⟩ | exact ⟨Or.inl ⟨rfl, er139, v86, hv86, rfl, 0, by decide, fp_er hi139 (by decide)⟩, (MI.eq hmi er139 el139 ec139).cur (PG.of hv86)⟩, ⟨by rw [ht]; exact hP, va_K.moved hW.alike hK, hD⟩⟩, hS.F ht⟩) hS.2.2 d_M_makeRoom_122
                            ·
                              exact absurd c113 (by decide)
                ·
                  have c41 := cd_ge_f (by omega) (by omega) c41
                  refine lv_aload_n hx hb d_M_makeRoom_44 rfl (lv_at hl 0 rfl) ?_
                  refine lv_iload_n hx hb d_M_makeRoom_45 rfl (lv_at hl 3 rfl) ?_
                  refine vp_callSi (va_runV (C := R_M) (As := [.int (nI k)]) (rest := []) ⟨hx, hb, hml, hown, hts⟩ (c_M_isClean l dC dI am cm th mw mwr mfl mact on cut (nI rn) mlog mlive had mser (nI c) mrd mwt worn pg pla sou fou k (by first | omega | rfl | assumption | decide)) (cwV 1 hts (g_V t_824 t_826 s_29 t_6 t_827) rfl rfl rfl (by decide +kernel) ⟨by decide, by decide⟩) (xR_v hP hK hN 0 rfl rfl) rfl rfl hl.1 rfl (lv_room (Nat.le_of_ble_eq_true rfl)) d_M_makeRoom_46 ⟨Nat.le_refl _, Nat.le_refl _⟩).run (fun r46 q46 => ?_)
                  rcases q46 with ⟨rfl, hcl46⟩ | rfl
                  ·
                    refine lv_if_ne (tgt := 55) hx hb d_M_makeRoom_49 (by decide) (fun c49 => ?_) (fun c49 => ?_)
                    ·
                      refine lv_iinc (k := 1) (v := nI (mm + 1)) hx hb d_M_makeRoom_55 hl rfl (nI_1 _) (by decide) rfl (fun ls hl => ?_)
                      have hl : lv_has ls 4 [(1, .int (nI (mm + 1))), (0, .ref (am 0)), (2, .int bv), (3, .int (nI k))] := hl
                      rcases hbv with rfl | ⟨d1, hd1, rfl, hcc⟩
                      ·
                        refine lv_iload_n hx hb d_M_makeRoom_58 rfl (lv_at hl 2 rfl) ?_
                        refine lv_if_lt (tgt := 77) hx hb d_M_makeRoom_59 (by decide) (fun c59 => ?_) (fun c59 => ?_)
                        ·
                          refine lv_iload_n hx hb d_M_makeRoom_77 rfl (lv_at hl 3 rfl) ?_
                          refine lv_istore_n hx hb d_M_makeRoom_78 rfl hl (by decide) rfl (fun ls hl => ?_)
                          have hl : lv_has ls 4 [(2, .int (nI k)), (1, .int (nI (mm + 1))), (0, .ref (am 0)), (3, .int (nI k))] := hl
                          refine lv_iinc (k := 3) (v := nI (k + 1)) hx hb d_M_makeRoom_79 hl rfl (nI_1 _) (by decide) rfl (fun ls hl => ?_)
                          have hl : lv_has ls 4 [(3, .int (nI (k + 1))), (2, .int (nI k)), (1, .int (nI (mm + 1))), (0, .ref (am 0))] := hl
                          refine lv_goto (tgt := 38) hx hb d_M_makeRoom_82 (by decide) ?_
                          exact ih38 (k + 1) (mm + 1) (nI k) ls (by omega) (by omega) (by omega) (Or.inr ⟨k, by omega, rfl, hcl46⟩) (fun _ => nm_ne (by omega) (by decide)) (lv_sub hl [3, 2, 1, 0] rfl)
                        ·
                          exact absurd c59 (by decide)
                      ·
                        refine lv_iload_n hx hb d_M_makeRoom_58 rfl (lv_at hl 2 rfl) ?_
                        refine lv_if_lt (tgt := 77) hx hb d_M_makeRoom_59 (by decide) (fun c59 => ?_) (fun c59 => ?_)
                        ·
                          exact (cz_lt_t (by omega) c59).elim
                        ·
                          have c59 := cz_lt_f (by omega) c59
                          refine lv_aload_n hx hb d_M_makeRoom_62 rfl (lv_at hl 1 rfl) ?_
                          refine va_get (D := (dC, dI)) (ci := 5) (v := .ref (am 2)) (C := R_M) (T := F_M) (N := 20) hx hb hts (fun w h => List.mem_cons_of_mem _ (in_M w h)) hown hK hP 0 rfl rfl 2 (by decide) (hts (.fieldLink R_M 13 R_M "wear" "[I") (List.mem_cons_of_mem _ t_714)) (fun _ h9 => h9) rfl d_M_makeRoom_63 ?_
                          refine lv_iload_n hx hb d_M_makeRoom_66 rfl (lv_at hl 3 rfl) ?_
                          refine va_iald hx hb hK hP 2 1 rfl rfl (vp_in_nI (by omega) (by decide)) d_M_makeRoom_67 ?_
                          refine tp_i (y := mwr k) (by rw [nI_clamp (by omega)]) ?_
                          refine lv_aload_n hx hb d_M_makeRoom_68 rfl (lv_at hl 1 rfl) ?_
                          refine va_get (D := (dC, dI)) (ci := 5) (v := .ref (am 2)) (C := R_M) (T := F_M) (N := 20) hx hb hts (fun w h => List.mem_cons_of_mem _ (in_M w h)) hown hK hP 0 rfl rfl 2 (by decide) (hts (.fieldLink R_M 13 R_M "wear" "[I") (List.mem_cons_of_mem _ t_714)) (fun _ h9 => h9) rfl d_M_makeRoom_69 ?_
                          refine lv_iload_n hx hb d_M_makeRoom_72 rfl (lv_at hl 2 rfl) ?_
                          refine va_iald hx hb hK hP 2 1 rfl rfl (vp_in_nI (by omega) (by decide)) d_M_makeRoom_73 ?_
                          refine tp_i (y := mwr d1) (by rw [nI_clamp (by omega)]) ?_
                          refine lv_icmp_ge (tgt := 79) hx hb d_M_makeRoom_74 (by decide) (fun c74 => ?_) (fun c74 => ?_)
                          ·
                            refine lv_iinc (k := 3) (v := nI (k + 1)) hx hb d_M_makeRoom_79 hl rfl (nI_1 _) (by decide) rfl (fun ls hl => ?_)
                            have hl : lv_has ls 4 [(3, .int (nI (k + 1))), (1, .int (nI (mm + 1))), (0, .ref (am 0)), (2, .int (nI d1))] := hl
                            refine lv_goto (tgt := 38) hx hb d_M_makeRoom_82 (by decide) ?_
                            exact ih38 (k + 1) (mm + 1) (nI d1) ls (by omega) (by omega) (by omega) (Or.inr ⟨d1, hd1, rfl, hcc⟩) (fun _ => nm_ne (by omega) (by decide)) (lv_sub hl [2, 1, 3, 0] rfl)
                          ·
                            refine lv_iload_n hx hb d_M_makeRoom_77 rfl (lv_at hl 3 rfl) ?_
                            refine lv_istore_n hx hb d_M_makeRoom_78 rfl hl (by decide) rfl (fun ls hl => ?_)
                            have hl : lv_has ls 4 [(2, .int (nI k)), (1, .int (nI (mm + 1))), (0, .ref (am 0)), (3, .int (nI k))] := hl
                            refine lv_iinc (k := 3) (v := nI (k + 1)) hx hb d_M_makeRoom_79 hl rfl (nI_1 _) (by decide) rfl (fun ls hl => ?_)
                            have hl : lv_has ls 4 [(3, .int (nI (k + 1))), (2, .int (nI k)), (1, .int (nI (mm + 1))), (0, .ref (am 0))] := hl
                            refine lv_goto (tgt := 38) hx hb d_M_makeRoom_82 (by decide) ?_
                            exact ih38 (k + 1) (mm + 1) (nI k) ls (by omega) (by omega) (by omega) (Or.inr ⟨k, by omega, rfl, hcl46⟩) (fun _ => nm_ne (by omega) (by decide)) (lv_sub hl [3, 2, 1, 0] rfl)
                    ·
                      exact absurd c49 (by decide)
                  ·
                    refine lv_if_ne (tgt := 55) hx hb d_M_makeRoom_49 (by decide) (fun c49 => ?_) (fun c49 => ?_)
                    ·
                      exact absurd c49 (by decide)
                    ·
                      refine lv_goto (tgt := 79) hx hb d_M_makeRoom_52 (by decide) ?_
                      refine lv_iinc (k := 3) (v := nI (k + 1)) hx hb d_M_makeRoom_79 hl rfl (nI_1 _) (by decide) rfl (fun ls hl => ?_)
                      have hl : lv_has ls 4 [(3, .int (nI (k + 1))), (0, .ref (am 0)), (1, .int (nI mm)), (2, .int bv)] := hl
                      refine lv_goto (tgt := 38) hx hb d_M_makeRoom_82 (by decide) ?_
                      exact ih38 (k + 1) mm bv ls (by omega) (by omega) (by omega) hbv hmb (lv_sub hl [1, 2, 3, 0] rfl)
            exact lp38 _ 0 0 (-1) ls (Nat.lt_succ_self _) (by omega) (by omega) (Or.inl rfl) (fun h => absurd h (by omega)) (lv_sub hl [3, 2, 1, 0] rfl)
          ·
            exact absurd c27 (by decide)
